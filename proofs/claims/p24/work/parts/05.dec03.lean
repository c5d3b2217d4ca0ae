theorem dX12_copy_68 : decode cX12_copy 68 = .ok (.ifCond .lt 43, 3) := dX12_copy_57_a.2.2.2.2.2.2.1
theorem dX12_copy_71 : decode cX12_copy 71 = .ok (.iload 5, 2) := dX12_copy_57_a.2.2.2.2.2.2.2.1
theorem dX12_copy_73 : decode cX12_copy 73 = .ok (.ifCond .lt 38, 3) := dX12_copy_57_a.2.2.2.2.2.2.2.2.1
theorem dX12_copy_76 : decode cX12_copy 76 = .ok (.iload_n 2, 1) := dX12_copy_57_a.2.2.2.2.2.2.2.2.2.1
theorem dX12_copy_77 : decode cX12_copy 77 = .ok (.i2l, 1) := dX12_copy_57_a.2.2.2.2.2.2.2.2.2.2.1
theorem dX12_copy_78 : decode cX12_copy 78 = .ok (.iload 5, 2) := dX12_copy_57_a.2.2.2.2.2.2.2.2.2.2.2.1
theorem dX12_copy_80 : decode cX12_copy 80 = .ok (.i2l, 1) := dX12_copy_57_a.2.2.2.2.2.2.2.2.2.2.2.2.1
theorem dX12_copy_81 : decode cX12_copy 81 = .ok (.ladd, 1) := dX12_copy_57_a.2.2.2.2.2.2.2.2.2.2.2.2.2.1
theorem dX12_copy_82 : decode cX12_copy 82 = .ok (.aload_n 0, 1) := dX12_copy_57_a.2.2.2.2.2.2.2.2.2.2.2.2.2.2.1
theorem dX12_copy_83 : decode cX12_copy 83 = .ok (.getfield 13, 3) := dX12_copy_57_a.2.2.2.2.2.2.2.2.2.2.2.2.2.2.2
theorem dX12_copy_86_a : (decode cX12_copy 86 = .ok (.iload_n 1, 1)) ∧ (decode cX12_copy 87 = .ok (.iaload, 1)) ∧ (decode cX12_copy 88 = .ok (.i2l, 1)) ∧ (decode cX12_copy 89 = .ok (.lcmp, 1)) ∧ (decode cX12_copy 90 = .ok (.ifCond .gt 21, 3)) ∧ (decode cX12_copy 93 = .ok (.iload 4, 2)) ∧ (decode cX12_copy 95 = .ok (.i2l, 1)) ∧ (decode cX12_copy 96 = .ok (.iload 5, 2)) ∧ (decode cX12_copy 98 = .ok (.i2l, 1)) ∧ (decode cX12_copy 99 = .ok (.ladd, 1)) ∧ (decode cX12_copy 100 = .ok (.aload_n 0, 1)) ∧ (decode cX12_copy 101 = .ok (.getfield 13, 3)) ∧ (decode cX12_copy 104 = .ok (.iload_n 3, 1)) ∧ (decode cX12_copy 105 = .ok (.iaload, 1)) ∧ (decode cX12_copy 106 = .ok (.i2l, 1)) ∧ (decode cX12_copy 107 = .ok (.lcmp, 1)) := by decide +kernel
theorem dX12_copy_86 : decode cX12_copy 86 = .ok (.iload_n 1, 1) := dX12_copy_86_a.1
theorem dX12_copy_87 : decode cX12_copy 87 = .ok (.iaload, 1) := dX12_copy_86_a.2.1
theorem dX12_copy_88 : decode cX12_copy 88 = .ok (.i2l, 1) := dX12_copy_86_a.2.2.1
theorem dX12_copy_89 : decode cX12_copy 89 = .ok (.lcmp, 1) := dX12_copy_86_a.2.2.2.1
theorem dX12_copy_90 : decode cX12_copy 90 = .ok (.ifCond .gt 21, 3) := dX12_copy_86_a.2.2.2.2.1
theorem dX12_copy_93 : decode cX12_copy 93 = .ok (.iload 4, 2) := dX12_copy_86_a.2.2.2.2.2.1
theorem dX12_copy_95 : decode cX12_copy 95 = .ok (.i2l, 1) := dX12_copy_86_a.2.2.2.2.2.2.1
theorem dX12_copy_96 : decode cX12_copy 96 = .ok (.iload 5, 2) := dX12_copy_86_a.2.2.2.2.2.2.2.1
theorem dX12_copy_98 : decode cX12_copy 98 = .ok (.i2l, 1) := dX12_copy_86_a.2.2.2.2.2.2.2.2.1
theorem dX12_copy_99 : decode cX12_copy 99 = .ok (.ladd, 1) := dX12_copy_86_a.2.2.2.2.2.2.2.2.2.1
theorem dX12_copy_100 : decode cX12_copy 100 = .ok (.aload_n 0, 1) := dX12_copy_86_a.2.2.2.2.2.2.2.2.2.2.1
theorem dX12_copy_101 : decode cX12_copy 101 = .ok (.getfield 13, 3) := dX12_copy_86_a.2.2.2.2.2.2.2.2.2.2.2.1
theorem dX12_copy_104 : decode cX12_copy 104 = .ok (.iload_n 3, 1) := dX12_copy_86_a.2.2.2.2.2.2.2.2.2.2.2.2.1
theorem dX12_copy_105 : decode cX12_copy 105 = .ok (.iaload, 1) := dX12_copy_86_a.2.2.2.2.2.2.2.2.2.2.2.2.2.1
theorem dX12_copy_106 : decode cX12_copy 106 = .ok (.i2l, 1) := dX12_copy_86_a.2.2.2.2.2.2.2.2.2.2.2.2.2.2.1
theorem dX12_copy_107 : decode cX12_copy 107 = .ok (.lcmp, 1) := dX12_copy_86_a.2.2.2.2.2.2.2.2.2.2.2.2.2.2.2
theorem dX12_copy_108_a : (decode cX12_copy 108 = .ok (.ifCond .le 9, 3)) ∧ (decode cX12_copy 111 = .ok (.aload_n 0, 1)) ∧ (decode cX12_copy 112 = .ok (.iconst 2, 1)) ∧ (decode cX12_copy 113 = .ok (.invokevirtual 80, 3)) ∧ (decode cX12_copy 116 = .ok (.ireturn, 1)) ∧ (decode cX12_copy 117 = .ok (.iconst 0, 1)) ∧ (decode cX12_copy 118 = .ok (.istore 6, 2)) ∧ (decode cX12_copy 120 = .ok (.iload 6, 2)) ∧ (decode cX12_copy 122 = .ok (.iload 5, 2)) ∧ (decode cX12_copy 124 = .ok (.if_icmp .ge 30, 3)) ∧ (decode cX12_copy 127 = .ok (.aload_n 0, 1)) ∧ (decode cX12_copy 128 = .ok (.getfield 19, 3)) ∧ (decode cX12_copy 131 = .ok (.iload 6, 2)) ∧ (decode cX12_copy 133 = .ok (.aload_n 0, 1)) ∧ (decode cX12_copy 134 = .ok (.getfield 16, 3)) ∧ (decode cX12_copy 137 = .ok (.bipush 60, 2)) := by decide +kernel
theorem dX12_copy_108 : decode cX12_copy 108 = .ok (.ifCond .le 9, 3) := dX12_copy_108_a.1
theorem dX12_copy_111 : decode cX12_copy 111 = .ok (.aload_n 0, 1) := dX12_copy_108_a.2.1
theorem dX12_copy_112 : decode cX12_copy 112 = .ok (.iconst 2, 1) := dX12_copy_108_a.2.2.1
theorem dX12_copy_113 : decode cX12_copy 113 = .ok (.invokevirtual 80, 3) := dX12_copy_108_a.2.2.2.1
theorem dX12_copy_116 : decode cX12_copy 116 = .ok (.ireturn, 1) := dX12_copy_108_a.2.2.2.2.1
theorem dX12_copy_117 : decode cX12_copy 117 = .ok (.iconst 0, 1) := dX12_copy_108_a.2.2.2.2.2.1
theorem dX12_copy_118 : decode cX12_copy 118 = .ok (.istore 6, 2) := dX12_copy_108_a.2.2.2.2.2.2.1
theorem dX12_copy_120 : decode cX12_copy 120 = .ok (.iload 6, 2) := dX12_copy_108_a.2.2.2.2.2.2.2.1
theorem dX12_copy_122 : decode cX12_copy 122 = .ok (.iload 5, 2) := dX12_copy_108_a.2.2.2.2.2.2.2.2.1
theorem dX12_copy_124 : decode cX12_copy 124 = .ok (.if_icmp .ge 30, 3) := dX12_copy_108_a.2.2.2.2.2.2.2.2.2.1
theorem dX12_copy_127 : decode cX12_copy 127 = .ok (.aload_n 0, 1) := dX12_copy_108_a.2.2.2.2.2.2.2.2.2.2.1
theorem dX12_copy_128 : decode cX12_copy 128 = .ok (.getfield 19, 3) := dX12_copy_108_a.2.2.2.2.2.2.2.2.2.2.2.1
theorem dX12_copy_131 : decode cX12_copy 131 = .ok (.iload 6, 2) := dX12_copy_108_a.2.2.2.2.2.2.2.2.2.2.2.2.1
theorem dX12_copy_133 : decode cX12_copy 133 = .ok (.aload_n 0, 1) := dX12_copy_108_a.2.2.2.2.2.2.2.2.2.2.2.2.2.1
theorem dX12_copy_134 : decode cX12_copy 134 = .ok (.getfield 16, 3) := dX12_copy_108_a.2.2.2.2.2.2.2.2.2.2.2.2.2.2.1
theorem dX12_copy_137 : decode cX12_copy 137 = .ok (.bipush 60, 2) := dX12_copy_108_a.2.2.2.2.2.2.2.2.2.2.2.2.2.2.2
theorem dX12_copy_139_a : (decode cX12_copy 139 = .ok (.iload_n 1, 1)) ∧ (decode cX12_copy 140 = .ok (.imul, 1)) ∧ (decode cX12_copy 141 = .ok (.iload_n 2, 1)) ∧ (decode cX12_copy 142 = .ok (.iadd, 1)) ∧ (decode cX12_copy 143 = .ok (.iload 6, 2)) ∧ (decode cX12_copy 145 = .ok (.iadd, 1)) ∧ (decode cX12_copy 146 = .ok (.iaload, 1)) ∧ (decode cX12_copy 147 = .ok (.iastore, 1)) ∧ (decode cX12_copy 148 = .ok (.iinc 6 1, 3)) ∧ (decode cX12_copy 151 = .ok (.goto (-31), 3)) ∧ (decode cX12_copy 154 = .ok (.iconst 0, 1)) ∧ (decode cX12_copy 155 = .ok (.istore 6, 2)) ∧ (decode cX12_copy 157 = .ok (.iload 6, 2)) ∧ (decode cX12_copy 159 = .ok (.iload 5, 2)) ∧ (decode cX12_copy 161 = .ok (.if_icmp .ge 31, 3)) ∧ (decode cX12_copy 164 = .ok (.aload_n 0, 1)) := by decide +kernel
theorem dX12_copy_139 : decode cX12_copy 139 = .ok (.iload_n 1, 1) := dX12_copy_139_a.1
theorem dX12_copy_140 : decode cX12_copy 140 = .ok (.imul, 1) := dX12_copy_139_a.2.1
theorem dX12_copy_141 : decode cX12_copy 141 = .ok (.iload_n 2, 1) := dX12_copy_139_a.2.2.1
theorem dX12_copy_142 : decode cX12_copy 142 = .ok (.iadd, 1) := dX12_copy_139_a.2.2.2.1
theorem dX12_copy_143 : decode cX12_copy 143 = .ok (.iload 6, 2) := dX12_copy_139_a.2.2.2.2.1
theorem dX12_copy_145 : decode cX12_copy 145 = .ok (.iadd, 1) := dX12_copy_139_a.2.2.2.2.2.1
theorem dX12_copy_146 : decode cX12_copy 146 = .ok (.iaload, 1) := dX12_copy_139_a.2.2.2.2.2.2.1
theorem dX12_copy_147 : decode cX12_copy 147 = .ok (.iastore, 1) := dX12_copy_139_a.2.2.2.2.2.2.2.1
theorem dX12_copy_148 : decode cX12_copy 148 = .ok (.iinc 6 1, 3) := dX12_copy_139_a.2.2.2.2.2.2.2.2.1
theorem dX12_copy_151 : decode cX12_copy 151 = .ok (.goto (-31), 3) := dX12_copy_139_a.2.2.2.2.2.2.2.2.2.1
theorem dX12_copy_154 : decode cX12_copy 154 = .ok (.iconst 0, 1) := dX12_copy_139_a.2.2.2.2.2.2.2.2.2.2.1
theorem dX12_copy_155 : decode cX12_copy 155 = .ok (.istore 6, 2) := dX12_copy_139_a.2.2.2.2.2.2.2.2.2.2.2.1
theorem dX12_copy_157 : decode cX12_copy 157 = .ok (.iload 6, 2) := dX12_copy_139_a.2.2.2.2.2.2.2.2.2.2.2.2.1
theorem dX12_copy_159 : decode cX12_copy 159 = .ok (.iload 5, 2) := dX12_copy_139_a.2.2.2.2.2.2.2.2.2.2.2.2.2.1
theorem dX12_copy_161 : decode cX12_copy 161 = .ok (.if_icmp .ge 31, 3) := dX12_copy_139_a.2.2.2.2.2.2.2.2.2.2.2.2.2.2.1
theorem dX12_copy_164 : decode cX12_copy 164 = .ok (.aload_n 0, 1) := dX12_copy_139_a.2.2.2.2.2.2.2.2.2.2.2.2.2.2.2
theorem dX12_copy_165_a : (decode cX12_copy 165 = .ok (.getfield 16, 3)) ∧ (decode cX12_copy 168 = .ok (.bipush 60, 2)) ∧ (decode cX12_copy 170 = .ok (.iload_n 3, 1)) ∧ (decode cX12_copy 171 = .ok (.imul, 1)) ∧ (decode cX12_copy 172 = .ok (.iload 4, 2)) ∧ (decode cX12_copy 174 = .ok (.iadd, 1)) ∧ (decode cX12_copy 175 = .ok (.iload 6, 2)) ∧ (decode cX12_copy 177 = .ok (.iadd, 1)) ∧ (decode cX12_copy 178 = .ok (.aload_n 0, 1)) ∧ (decode cX12_copy 179 = .ok (.getfield 19, 3)) ∧ (decode cX12_copy 182 = .ok (.iload 6, 2)) ∧ (decode cX12_copy 184 = .ok (.iaload, 1)) ∧ (decode cX12_copy 185 = .ok (.iastore, 1)) ∧ (decode cX12_copy 186 = .ok (.iinc 6 1, 3)) ∧ (decode cX12_copy 189 = .ok (.goto (-32), 3)) ∧ (decode cX12_copy 192 = .ok (.iconst 1, 1)) := by decide +kernel
theorem dX12_copy_165 : decode cX12_copy 165 = .ok (.getfield 16, 3) := dX12_copy_165_a.1
theorem dX12_copy_168 : decode cX12_copy 168 = .ok (.bipush 60, 2) := dX12_copy_165_a.2.1
theorem dX12_copy_170 : decode cX12_copy 170 = .ok (.iload_n 3, 1) := dX12_copy_165_a.2.2.1
theorem dX12_copy_171 : decode cX12_copy 171 = .ok (.imul, 1) := dX12_copy_165_a.2.2.2.1
theorem dX12_copy_172 : decode cX12_copy 172 = .ok (.iload 4, 2) := dX12_copy_165_a.2.2.2.2.1
theorem dX12_copy_174 : decode cX12_copy 174 = .ok (.iadd, 1) := dX12_copy_165_a.2.2.2.2.2.1
theorem dX12_copy_175 : decode cX12_copy 175 = .ok (.iload 6, 2) := dX12_copy_165_a.2.2.2.2.2.2.1
theorem dX12_copy_177 : decode cX12_copy 177 = .ok (.iadd, 1) := dX12_copy_165_a.2.2.2.2.2.2.2.1
theorem dX12_copy_178 : decode cX12_copy 178 = .ok (.aload_n 0, 1) := dX12_copy_165_a.2.2.2.2.2.2.2.2.1
theorem dX12_copy_179 : decode cX12_copy 179 = .ok (.getfield 19, 3) := dX12_copy_165_a.2.2.2.2.2.2.2.2.2.1
theorem dX12_copy_182 : decode cX12_copy 182 = .ok (.iload 6, 2) := dX12_copy_165_a.2.2.2.2.2.2.2.2.2.2.1
theorem dX12_copy_184 : decode cX12_copy 184 = .ok (.iaload, 1) := dX12_copy_165_a.2.2.2.2.2.2.2.2.2.2.2.1
theorem dX12_copy_185 : decode cX12_copy 185 = .ok (.iastore, 1) := dX12_copy_165_a.2.2.2.2.2.2.2.2.2.2.2.2.1
theorem dX12_copy_186 : decode cX12_copy 186 = .ok (.iinc 6 1, 3) := dX12_copy_165_a.2.2.2.2.2.2.2.2.2.2.2.2.2.1
theorem dX12_copy_189 : decode cX12_copy 189 = .ok (.goto (-32), 3) := dX12_copy_165_a.2.2.2.2.2.2.2.2.2.2.2.2.2.2.1
theorem dX12_copy_192 : decode cX12_copy 192 = .ok (.iconst 1, 1) := dX12_copy_165_a.2.2.2.2.2.2.2.2.2.2.2.2.2.2.2
theorem dX12_copy_193 : decode cX12_copy 193 = .ok (.ireturn, 1) := by decide +kernel
theorem dX12_isText_0_a : (decode cX12_isText 0 = .ok (.iload_n 0, 1)) ∧ (decode cX12_isText 1 = .ok (.i2l, 1)) ∧ (decode cX12_isText 2 = .ok (.lconst 0, 1)) ∧ (decode cX12_isText 3 = .ok (.ldc2_w 78, 3)) ∧ (decode cX12_isText 6 = .ok (.invokestatic 65, 3)) ∧ (decode cX12_isText 9 = .ok (.ireturn, 1)) := by decide +kernel
theorem dX12_isText_0 : decode cX12_isText 0 = .ok (.iload_n 0, 1) := dX12_isText_0_a.1
theorem dX12_isText_1 : decode cX12_isText 1 = .ok (.i2l, 1) := dX12_isText_0_a.2.1
theorem dX12_isText_2 : decode cX12_isText 2 = .ok (.lconst 0, 1) := dX12_isText_0_a.2.2.1
theorem dX12_isText_3 : decode cX12_isText 3 = .ok (.ldc2_w 78, 3) := dX12_isText_0_a.2.2.2.1
theorem dX12_isText_6 : decode cX12_isText 6 = .ok (.invokestatic 65, 3) := dX12_isText_0_a.2.2.2.2.1
theorem dX12_isText_9 : decode cX12_isText 9 = .ok (.ireturn, 1) := dX12_isText_0_a.2.2.2.2.2
theorem dX12_type_0_a : (decode cX12_type 0 = .ok (.iload_n 1, 1)) ∧ (decode cX12_type 1 = .ok (.invokestatic 93, 3)) ∧ (decode cX12_type 4 = .ok (.ifCond .eq 15, 3)) ∧ (decode cX12_type 7 = .ok (.iload_n 2, 1)) ∧ (decode cX12_type 8 = .ok (.i2l, 1)) ∧ (decode cX12_type 9 = .ok (.lconst 0, 1)) ∧ (decode cX12_type 10 = .ok (.ldc2_w 96, 3)) ∧ (decode cX12_type 13 = .ok (.invokestatic 65, 3)) ∧ (decode cX12_type 16 = .ok (.ifCond .ne 6, 3)) ∧ (decode cX12_type 19 = .ok (.bipush (-2), 2)) ∧ (decode cX12_type 21 = .ok (.ireturn, 1)) ∧ (decode cX12_type 22 = .ok (.aload_n 0, 1)) ∧ (decode cX12_type 23 = .ok (.getfield 25, 3)) ∧ (decode cX12_type 26 = .ok (.iload_n 1, 1)) ∧ (decode cX12_type 27 = .ok (.iaload, 1)) ∧ (decode cX12_type 28 = .ok (.iload_n 1, 1)) := by decide +kernel
theorem dX12_type_0 : decode cX12_type 0 = .ok (.iload_n 1, 1) := dX12_type_0_a.1
theorem dX12_type_1 : decode cX12_type 1 = .ok (.invokestatic 93, 3) := dX12_type_0_a.2.1
theorem dX12_type_4 : decode cX12_type 4 = .ok (.ifCond .eq 15, 3) := dX12_type_0_a.2.2.1
theorem dX12_type_7 : decode cX12_type 7 = .ok (.iload_n 2, 1) := dX12_type_0_a.2.2.2.1
theorem dX12_type_8 : decode cX12_type 8 = .ok (.i2l, 1) := dX12_type_0_a.2.2.2.2.1
theorem dX12_type_9 : decode cX12_type 9 = .ok (.lconst 0, 1) := dX12_type_0_a.2.2.2.2.2.1
theorem dX12_type_10 : decode cX12_type 10 = .ok (.ldc2_w 96, 3) := dX12_type_0_a.2.2.2.2.2.2.1
theorem dX12_type_13 : decode cX12_type 13 = .ok (.invokestatic 65, 3) := dX12_type_0_a.2.2.2.2.2.2.2.1
theorem dX12_type_16 : decode cX12_type 16 = .ok (.ifCond .ne 6, 3) := dX12_type_0_a.2.2.2.2.2.2.2.2.1
theorem dX12_type_19 : decode cX12_type 19 = .ok (.bipush (-2), 2) := dX12_type_0_a.2.2.2.2.2.2.2.2.2.1
theorem dX12_type_21 : decode cX12_type 21 = .ok (.ireturn, 1) := dX12_type_0_a.2.2.2.2.2.2.2.2.2.2.1
theorem dX12_type_22 : decode cX12_type 22 = .ok (.aload_n 0, 1) := dX12_type_0_a.2.2.2.2.2.2.2.2.2.2.2.1
theorem dX12_type_23 : decode cX12_type 23 = .ok (.getfield 25, 3) := dX12_type_0_a.2.2.2.2.2.2.2.2.2.2.2.2.1
theorem dX12_type_26 : decode cX12_type 26 = .ok (.iload_n 1, 1) := dX12_type_0_a.2.2.2.2.2.2.2.2.2.2.2.2.2.1
theorem dX12_type_27 : decode cX12_type 27 = .ok (.iaload, 1) := dX12_type_0_a.2.2.2.2.2.2.2.2.2.2.2.2.2.2.1
theorem dX12_type_28 : decode cX12_type 28 = .ok (.iload_n 1, 1) := dX12_type_0_a.2.2.2.2.2.2.2.2.2.2.2.2.2.2.2
theorem dX12_type_29_a : (decode cX12_type 29 = .ok (.ifCond .ne 8, 3)) ∧ (decode cX12_type 32 = .ok (.bipush 24, 2)) ∧ (decode cX12_type 34 = .ok (.goto 15, 3)) ∧ (decode cX12_type 37 = .ok (.iload_n 1, 1)) ∧ (decode cX12_type 38 = .ok (.iconst 1, 1)) ∧ (decode cX12_type 39 = .ok (.if_icmp .ne 8, 3)) ∧ (decode cX12_type 42 = .ok (.bipush 39, 2)) ∧ (decode cX12_type 44 = .ok (.goto 5, 3)) ∧ (decode cX12_type 47 = .ok (.bipush 23, 2)) ∧ (decode cX12_type 49 = .ok (.if_icmp .ne 6, 3)) ∧ (decode cX12_type 52 = .ok (.bipush (-4), 2)) ∧ (decode cX12_type 54 = .ok (.ireturn, 1)) ∧ (decode cX12_type 55 = .ok (.aload_n 0, 1)) ∧ (decode cX12_type 56 = .ok (.getfield 22, 3)) ∧ (decode cX12_type 59 = .ok (.bipush 40, 2)) ∧ (decode cX12_type 61 = .ok (.iload_n 1, 1)) := by decide +kernel
theorem dX12_type_29 : decode cX12_type 29 = .ok (.ifCond .ne 8, 3) := dX12_type_29_a.1
theorem dX12_type_32 : decode cX12_type 32 = .ok (.bipush 24, 2) := dX12_type_29_a.2.1
theorem dX12_type_34 : decode cX12_type 34 = .ok (.goto 15, 3) := dX12_type_29_a.2.2.1
theorem dX12_type_37 : decode cX12_type 37 = .ok (.iload_n 1, 1) := dX12_type_29_a.2.2.2.1
theorem dX12_type_38 : decode cX12_type 38 = .ok (.iconst 1, 1) := dX12_type_29_a.2.2.2.2.1
theorem dX12_type_39 : decode cX12_type 39 = .ok (.if_icmp .ne 8, 3) := dX12_type_29_a.2.2.2.2.2.1
theorem dX12_type_42 : decode cX12_type 42 = .ok (.bipush 39, 2) := dX12_type_29_a.2.2.2.2.2.2.1
theorem dX12_type_44 : decode cX12_type 44 = .ok (.goto 5, 3) := dX12_type_29_a.2.2.2.2.2.2.2.1
theorem dX12_type_47 : decode cX12_type 47 = .ok (.bipush 23, 2) := dX12_type_29_a.2.2.2.2.2.2.2.2.1
theorem dX12_type_49 : decode cX12_type 49 = .ok (.if_icmp .ne 6, 3) := dX12_type_29_a.2.2.2.2.2.2.2.2.2.1
theorem dX12_type_52 : decode cX12_type 52 = .ok (.bipush (-4), 2) := dX12_type_29_a.2.2.2.2.2.2.2.2.2.2.1
theorem dX12_type_54 : decode cX12_type 54 = .ok (.ireturn, 1) := dX12_type_29_a.2.2.2.2.2.2.2.2.2.2.2.1
theorem dX12_type_55 : decode cX12_type 55 = .ok (.aload_n 0, 1) := dX12_type_29_a.2.2.2.2.2.2.2.2.2.2.2.2.1
theorem dX12_type_56 : decode cX12_type 56 = .ok (.getfield 22, 3) := dX12_type_29_a.2.2.2.2.2.2.2.2.2.2.2.2.2.1
theorem dX12_type_59 : decode cX12_type 59 = .ok (.bipush 40, 2) := dX12_type_29_a.2.2.2.2.2.2.2.2.2.2.2.2.2.2.1
theorem dX12_type_61 : decode cX12_type 61 = .ok (.iload_n 1, 1) := dX12_type_29_a.2.2.2.2.2.2.2.2.2.2.2.2.2.2.2
theorem dX12_type_62_a : (decode cX12_type 62 = .ok (.imul, 1)) ∧ (decode cX12_type 63 = .ok (.aload_n 0, 1)) ∧ (decode cX12_type 64 = .ok (.getfield 25, 3)) ∧ (decode cX12_type 67 = .ok (.iload_n 1, 1)) ∧ (decode cX12_type 68 = .ok (.iaload, 1)) ∧ (decode cX12_type 69 = .ok (.iadd, 1)) ∧ (decode cX12_type 70 = .ok (.iload_n 2, 1)) ∧ (decode cX12_type 71 = .ok (.iastore, 1)) ∧ (decode cX12_type 72 = .ok (.aload_n 0, 1)) ∧ (decode cX12_type 73 = .ok (.getfield 25, 3)) ∧ (decode cX12_type 76 = .ok (.iload_n 1, 1)) ∧ (decode cX12_type 77 = .ok (.dup2, 1)) ∧ (decode cX12_type 78 = .ok (.iaload, 1)) ∧ (decode cX12_type 79 = .ok (.iconst 1, 1)) ∧ (decode cX12_type 80 = .ok (.iadd, 1)) ∧ (decode cX12_type 81 = .ok (.iastore, 1)) := by decide +kernel
theorem dX12_type_62 : decode cX12_type 62 = .ok (.imul, 1) := dX12_type_62_a.1
theorem dX12_type_63 : decode cX12_type 63 = .ok (.aload_n 0, 1) := dX12_type_62_a.2.1
theorem dX12_type_64 : decode cX12_type 64 = .ok (.getfield 25, 3) := dX12_type_62_a.2.2.1
theorem dX12_type_67 : decode cX12_type 67 = .ok (.iload_n 1, 1) := dX12_type_62_a.2.2.2.1
theorem dX12_type_68 : decode cX12_type 68 = .ok (.iaload, 1) := dX12_type_62_a.2.2.2.2.1
theorem dX12_type_69 : decode cX12_type 69 = .ok (.iadd, 1) := dX12_type_62_a.2.2.2.2.2.1
theorem dX12_type_70 : decode cX12_type 70 = .ok (.iload_n 2, 1) := dX12_type_62_a.2.2.2.2.2.2.1
theorem dX12_type_71 : decode cX12_type 71 = .ok (.iastore, 1) := dX12_type_62_a.2.2.2.2.2.2.2.1
theorem dX12_type_72 : decode cX12_type 72 = .ok (.aload_n 0, 1) := dX12_type_62_a.2.2.2.2.2.2.2.2.1
theorem dX12_type_73 : decode cX12_type 73 = .ok (.getfield 25, 3) := dX12_type_62_a.2.2.2.2.2.2.2.2.2.1
theorem dX12_type_76 : decode cX12_type 76 = .ok (.iload_n 1, 1) := dX12_type_62_a.2.2.2.2.2.2.2.2.2.2.1
theorem dX12_type_77 : decode cX12_type 77 = .ok (.dup2, 1) := dX12_type_62_a.2.2.2.2.2.2.2.2.2.2.2.1
theorem dX12_type_78 : decode cX12_type 78 = .ok (.iaload, 1) := dX12_type_62_a.2.2.2.2.2.2.2.2.2.2.2.2.1
theorem dX12_type_79 : decode cX12_type 79 = .ok (.iconst 1, 1) := dX12_type_62_a.2.2.2.2.2.2.2.2.2.2.2.2.2.1
theorem dX12_type_80 : decode cX12_type 80 = .ok (.iadd, 1) := dX12_type_62_a.2.2.2.2.2.2.2.2.2.2.2.2.2.2.1
theorem dX12_type_81 : decode cX12_type 81 = .ok (.iastore, 1) := dX12_type_62_a.2.2.2.2.2.2.2.2.2.2.2.2.2.2.2
theorem dX12_type_82_a : (decode cX12_type 82 = .ok (.aload_n 0, 1)) ∧ (decode cX12_type 83 = .ok (.getfield 25, 3)) ∧ (decode cX12_type 86 = .ok (.iload_n 1, 1)) ∧ (decode cX12_type 87 = .ok (.iaload, 1)) ∧ (decode cX12_type 88 = .ok (.ireturn, 1)) := by decide +kernel
theorem dX12_type_82 : decode cX12_type 82 = .ok (.aload_n 0, 1) := dX12_type_82_a.1
theorem dX12_type_83 : decode cX12_type 83 = .ok (.getfield 25, 3) := dX12_type_82_a.2.1
theorem dX12_type_86 : decode cX12_type 86 = .ok (.iload_n 1, 1) := dX12_type_82_a.2.2.1
theorem dX12_type_87 : decode cX12_type 87 = .ok (.iaload, 1) := dX12_type_82_a.2.2.2.1
theorem dX12_type_88 : decode cX12_type 88 = .ok (.ireturn, 1) := dX12_type_82_a.2.2.2.2
theorem dX12_wipe_0_a : (decode cX12_wipe 0 = .ok (.iload_n 1, 1)) ∧ (decode cX12_wipe 1 = .ok (.invokestatic 93, 3)) ∧ (decode cX12_wipe 4 = .ok (.ifCond .ne 6, 3)) ∧ (decode cX12_wipe 7 = .ok (.bipush (-2), 2)) ∧ (decode cX12_wipe 9 = .ok (.ireturn, 1)) ∧ (decode cX12_wipe 10 = .ok (.aload_n 0, 1)) ∧ (decode cX12_wipe 11 = .ok (.getfield 25, 3)) ∧ (decode cX12_wipe 14 = .ok (.iload_n 1, 1)) ∧ (decode cX12_wipe 15 = .ok (.iaload, 1)) ∧ (decode cX12_wipe 16 = .ok (.istore_n 2, 1)) ∧ (decode cX12_wipe 17 = .ok (.aload_n 0, 1)) ∧ (decode cX12_wipe 18 = .ok (.getfield 25, 3)) ∧ (decode cX12_wipe 21 = .ok (.iload_n 1, 1)) ∧ (decode cX12_wipe 22 = .ok (.iconst 0, 1)) ∧ (decode cX12_wipe 23 = .ok (.iastore, 1)) ∧ (decode cX12_wipe 24 = .ok (.iload_n 2, 1)) := by decide +kernel
theorem dX12_wipe_0 : decode cX12_wipe 0 = .ok (.iload_n 1, 1) := dX12_wipe_0_a.1
theorem dX12_wipe_1 : decode cX12_wipe 1 = .ok (.invokestatic 93, 3) := dX12_wipe_0_a.2.1
theorem dX12_wipe_4 : decode cX12_wipe 4 = .ok (.ifCond .ne 6, 3) := dX12_wipe_0_a.2.2.1
theorem dX12_wipe_7 : decode cX12_wipe 7 = .ok (.bipush (-2), 2) := dX12_wipe_0_a.2.2.2.1
theorem dX12_wipe_9 : decode cX12_wipe 9 = .ok (.ireturn, 1) := dX12_wipe_0_a.2.2.2.2.1
theorem dX12_wipe_10 : decode cX12_wipe 10 = .ok (.aload_n 0, 1) := dX12_wipe_0_a.2.2.2.2.2.1
theorem dX12_wipe_11 : decode cX12_wipe 11 = .ok (.getfield 25, 3) := dX12_wipe_0_a.2.2.2.2.2.2.1
theorem dX12_wipe_14 : decode cX12_wipe 14 = .ok (.iload_n 1, 1) := dX12_wipe_0_a.2.2.2.2.2.2.2.1
theorem dX12_wipe_15 : decode cX12_wipe 15 = .ok (.iaload, 1) := dX12_wipe_0_a.2.2.2.2.2.2.2.2.1
theorem dX12_wipe_16 : decode cX12_wipe 16 = .ok (.istore_n 2, 1) := dX12_wipe_0_a.2.2.2.2.2.2.2.2.2.1
theorem dX12_wipe_17 : decode cX12_wipe 17 = .ok (.aload_n 0, 1) := dX12_wipe_0_a.2.2.2.2.2.2.2.2.2.2.1
theorem dX12_wipe_18 : decode cX12_wipe 18 = .ok (.getfield 25, 3) := dX12_wipe_0_a.2.2.2.2.2.2.2.2.2.2.2.1
theorem dX12_wipe_21 : decode cX12_wipe 21 = .ok (.iload_n 1, 1) := dX12_wipe_0_a.2.2.2.2.2.2.2.2.2.2.2.2.1
theorem dX12_wipe_22 : decode cX12_wipe 22 = .ok (.iconst 0, 1) := dX12_wipe_0_a.2.2.2.2.2.2.2.2.2.2.2.2.2.1
theorem dX12_wipe_23 : decode cX12_wipe 23 = .ok (.iastore, 1) := dX12_wipe_0_a.2.2.2.2.2.2.2.2.2.2.2.2.2.2.1
theorem dX12_wipe_24 : decode cX12_wipe 24 = .ok (.iload_n 2, 1) := dX12_wipe_0_a.2.2.2.2.2.2.2.2.2.2.2.2.2.2.2
theorem dX12_wipe_25 : decode cX12_wipe 25 = .ok (.ireturn, 1) := by decide +kernel
theorem dX12_undo_0_a : (decode cX12_undo 0 = .ok (.iload_n 1, 1)) ∧ (decode cX12_undo 1 = .ok (.invokestatic 93, 3)) ∧ (decode cX12_undo 4 = .ok (.ifCond .ne 6, 3)) ∧ (decode cX12_undo 7 = .ok (.bipush (-2), 2)) ∧ (decode cX12_undo 9 = .ok (.ireturn, 1)) ∧ (decode cX12_undo 10 = .ok (.aload_n 0, 1)) ∧ (decode cX12_undo 11 = .ok (.getfield 25, 3)) ∧ (decode cX12_undo 14 = .ok (.iload_n 1, 1)) ∧ (decode cX12_undo 15 = .ok (.iaload, 1)) ∧ (decode cX12_undo 16 = .ok (.ifCond .ne 6, 3)) ∧ (decode cX12_undo 19 = .ok (.bipush (-3), 2)) ∧ (decode cX12_undo 21 = .ok (.ireturn, 1)) ∧ (decode cX12_undo 22 = .ok (.aload_n 0, 1)) ∧ (decode cX12_undo 23 = .ok (.getfield 25, 3)) ∧ (decode cX12_undo 26 = .ok (.iload_n 1, 1)) ∧ (decode cX12_undo 27 = .ok (.dup2, 1)) := by decide +kernel
theorem dX12_undo_0 : decode cX12_undo 0 = .ok (.iload_n 1, 1) := dX12_undo_0_a.1
theorem dX12_undo_1 : decode cX12_undo 1 = .ok (.invokestatic 93, 3) := dX12_undo_0_a.2.1
theorem dX12_undo_4 : decode cX12_undo 4 = .ok (.ifCond .ne 6, 3) := dX12_undo_0_a.2.2.1
theorem dX12_undo_7 : decode cX12_undo 7 = .ok (.bipush (-2), 2) := dX12_undo_0_a.2.2.2.1
theorem dX12_undo_9 : decode cX12_undo 9 = .ok (.ireturn, 1) := dX12_undo_0_a.2.2.2.2.1
theorem dX12_undo_10 : decode cX12_undo 10 = .ok (.aload_n 0, 1) := dX12_undo_0_a.2.2.2.2.2.1
theorem dX12_undo_11 : decode cX12_undo 11 = .ok (.getfield 25, 3) := dX12_undo_0_a.2.2.2.2.2.2.1
theorem dX12_undo_14 : decode cX12_undo 14 = .ok (.iload_n 1, 1) := dX12_undo_0_a.2.2.2.2.2.2.2.1
theorem dX12_undo_15 : decode cX12_undo 15 = .ok (.iaload, 1) := dX12_undo_0_a.2.2.2.2.2.2.2.2.1
theorem dX12_undo_16 : decode cX12_undo 16 = .ok (.ifCond .ne 6, 3) := dX12_undo_0_a.2.2.2.2.2.2.2.2.2.1
theorem dX12_undo_19 : decode cX12_undo 19 = .ok (.bipush (-3), 2) := dX12_undo_0_a.2.2.2.2.2.2.2.2.2.2.1
theorem dX12_undo_21 : decode cX12_undo 21 = .ok (.ireturn, 1) := dX12_undo_0_a.2.2.2.2.2.2.2.2.2.2.2.1
theorem dX12_undo_22 : decode cX12_undo 22 = .ok (.aload_n 0, 1) := dX12_undo_0_a.2.2.2.2.2.2.2.2.2.2.2.2.1
theorem dX12_undo_23 : decode cX12_undo 23 = .ok (.getfield 25, 3) := dX12_undo_0_a.2.2.2.2.2.2.2.2.2.2.2.2.2.1
theorem dX12_undo_26 : decode cX12_undo 26 = .ok (.iload_n 1, 1) := dX12_undo_0_a.2.2.2.2.2.2.2.2.2.2.2.2.2.2.1
theorem dX12_undo_27 : decode cX12_undo 27 = .ok (.dup2, 1) := dX12_undo_0_a.2.2.2.2.2.2.2.2.2.2.2.2.2.2.2
theorem dX12_undo_28_a : (decode cX12_undo 28 = .ok (.iaload, 1)) ∧ (decode cX12_undo 29 = .ok (.iconst 1, 1)) ∧ (decode cX12_undo 30 = .ok (.isub, 1)) ∧ (decode cX12_undo 31 = .ok (.iastore, 1)) ∧ (decode cX12_undo 32 = .ok (.aload_n 0, 1)) ∧ (decode cX12_undo 33 = .ok (.getfield 25, 3)) ∧ (decode cX12_undo 36 = .ok (.iload_n 1, 1)) ∧ (decode cX12_undo 37 = .ok (.iaload, 1)) ∧ (decode cX12_undo 38 = .ok (.ireturn, 1)) := by decide +kernel
theorem dX12_undo_28 : decode cX12_undo 28 = .ok (.iaload, 1) := dX12_undo_28_a.1
theorem dX12_undo_29 : decode cX12_undo 29 = .ok (.iconst 1, 1) := dX12_undo_28_a.2.1
theorem dX12_undo_30 : decode cX12_undo 30 = .ok (.isub, 1) := dX12_undo_28_a.2.2.1
theorem dX12_undo_31 : decode cX12_undo 31 = .ok (.iastore, 1) := dX12_undo_28_a.2.2.2.1
theorem dX12_undo_32 : decode cX12_undo 32 = .ok (.aload_n 0, 1) := dX12_undo_28_a.2.2.2.2.1
theorem dX12_undo_33 : decode cX12_undo 33 = .ok (.getfield 25, 3) := dX12_undo_28_a.2.2.2.2.2.1
theorem dX12_undo_36 : decode cX12_undo 36 = .ok (.iload_n 1, 1) := dX12_undo_28_a.2.2.2.2.2.2.1
theorem dX12_undo_37 : decode cX12_undo 37 = .ok (.iaload, 1) := dX12_undo_28_a.2.2.2.2.2.2.2.1
theorem dX12_undo_38 : decode cX12_undo 38 = .ok (.ireturn, 1) := dX12_undo_28_a.2.2.2.2.2.2.2.2
theorem dX12_callOf_0_a : (decode cX12_callOf 0 = .ok (.iload_n 0, 1)) ∧ (decode cX12_callOf 1 = .ok (.i2l, 1)) ∧ (decode cX12_callOf 2 = .ok (.ldc2_w 98, 3)) ∧ (decode cX12_callOf 5 = .ok (.ldc2_w 100, 3)) ∧ (decode cX12_callOf 8 = .ok (.invokestatic 65, 3)) ∧ (decode cX12_callOf 11 = .ok (.ifCond .eq 10, 3)) ∧ (decode cX12_callOf 14 = .ok (.iload_n 0, 1)) ∧ (decode cX12_callOf 15 = .ok (.bipush 97, 2)) ∧ (decode cX12_callOf 17 = .ok (.isub, 1)) ∧ (decode cX12_callOf 18 = .ok (.goto 5, 3)) ∧ (decode cX12_callOf 21 = .ok (.bipush (-9), 2)) ∧ (decode cX12_callOf 23 = .ok (.ireturn, 1)) := by decide +kernel
theorem dX12_callOf_0 : decode cX12_callOf 0 = .ok (.iload_n 0, 1) := dX12_callOf_0_a.1
theorem dX12_callOf_1 : decode cX12_callOf 1 = .ok (.i2l, 1) := dX12_callOf_0_a.2.1
theorem dX12_callOf_2 : decode cX12_callOf 2 = .ok (.ldc2_w 98, 3) := dX12_callOf_0_a.2.2.1
theorem dX12_callOf_5 : decode cX12_callOf 5 = .ok (.ldc2_w 100, 3) := dX12_callOf_0_a.2.2.2.1
theorem dX12_callOf_8 : decode cX12_callOf 8 = .ok (.invokestatic 65, 3) := dX12_callOf_0_a.2.2.2.2.1
theorem dX12_callOf_11 : decode cX12_callOf 11 = .ok (.ifCond .eq 10, 3) := dX12_callOf_0_a.2.2.2.2.2.1
theorem dX12_callOf_14 : decode cX12_callOf 14 = .ok (.iload_n 0, 1) := dX12_callOf_0_a.2.2.2.2.2.2.1
theorem dX12_callOf_15 : decode cX12_callOf 15 = .ok (.bipush 97, 2) := dX12_callOf_0_a.2.2.2.2.2.2.2.1
theorem dX12_callOf_17 : decode cX12_callOf 17 = .ok (.isub, 1) := dX12_callOf_0_a.2.2.2.2.2.2.2.2.1
theorem dX12_callOf_18 : decode cX12_callOf 18 = .ok (.goto 5, 3) := dX12_callOf_0_a.2.2.2.2.2.2.2.2.2.1
theorem dX12_callOf_21 : decode cX12_callOf 21 = .ok (.bipush (-9), 2) := dX12_callOf_0_a.2.2.2.2.2.2.2.2.2.2.1
theorem dX12_callOf_23 : decode cX12_callOf 23 = .ok (.ireturn, 1) := dX12_callOf_0_a.2.2.2.2.2.2.2.2.2.2.2
theorem dX12_figureOf_0_a : (decode cX12_figureOf 0 = .ok (.iload_n 0, 1)) ∧ (decode cX12_figureOf 1 = .ok (.i2l, 1)) ∧ (decode cX12_figureOf 2 = .ok (.bipush 48, 2)) ∧ (decode cX12_figureOf 4 = .ok (.iload_n 1, 1)) ∧ (decode cX12_figureOf 5 = .ok (.iadd, 1)) ∧ (decode cX12_figureOf 6 = .ok (.i2l, 1)) ∧ (decode cX12_figureOf 7 = .ok (.ldc2_w 102, 3)) ∧ (decode cX12_figureOf 10 = .ok (.invokestatic 65, 3)) ∧ (decode cX12_figureOf 13 = .ok (.ifCond .eq 10, 3)) ∧ (decode cX12_figureOf 16 = .ok (.iload_n 0, 1)) ∧ (decode cX12_figureOf 17 = .ok (.bipush 48, 2)) ∧ (decode cX12_figureOf 19 = .ok (.isub, 1)) ∧ (decode cX12_figureOf 20 = .ok (.goto 5, 3)) ∧ (decode cX12_figureOf 23 = .ok (.bipush (-9), 2)) ∧ (decode cX12_figureOf 25 = .ok (.ireturn, 1)) := by decide +kernel
theorem dX12_figureOf_0 : decode cX12_figureOf 0 = .ok (.iload_n 0, 1) := dX12_figureOf_0_a.1
theorem dX12_figureOf_1 : decode cX12_figureOf 1 = .ok (.i2l, 1) := dX12_figureOf_0_a.2.1
theorem dX12_figureOf_2 : decode cX12_figureOf 2 = .ok (.bipush 48, 2) := dX12_figureOf_0_a.2.2.1
theorem dX12_figureOf_4 : decode cX12_figureOf 4 = .ok (.iload_n 1, 1) := dX12_figureOf_0_a.2.2.2.1
theorem dX12_figureOf_5 : decode cX12_figureOf 5 = .ok (.iadd, 1) := dX12_figureOf_0_a.2.2.2.2.1
theorem dX12_figureOf_6 : decode cX12_figureOf 6 = .ok (.i2l, 1) := dX12_figureOf_0_a.2.2.2.2.2.1
theorem dX12_figureOf_7 : decode cX12_figureOf 7 = .ok (.ldc2_w 102, 3) := dX12_figureOf_0_a.2.2.2.2.2.2.1
theorem dX12_figureOf_10 : decode cX12_figureOf 10 = .ok (.invokestatic 65, 3) := dX12_figureOf_0_a.2.2.2.2.2.2.2.1
theorem dX12_figureOf_13 : decode cX12_figureOf 13 = .ok (.ifCond .eq 10, 3) := dX12_figureOf_0_a.2.2.2.2.2.2.2.2.1
theorem dX12_figureOf_16 : decode cX12_figureOf 16 = .ok (.iload_n 0, 1) := dX12_figureOf_0_a.2.2.2.2.2.2.2.2.2.1
theorem dX12_figureOf_17 : decode cX12_figureOf 17 = .ok (.bipush 48, 2) := dX12_figureOf_0_a.2.2.2.2.2.2.2.2.2.2.1
theorem dX12_figureOf_19 : decode cX12_figureOf 19 = .ok (.isub, 1) := dX12_figureOf_0_a.2.2.2.2.2.2.2.2.2.2.2.1
theorem dX12_figureOf_20 : decode cX12_figureOf 20 = .ok (.goto 5, 3) := dX12_figureOf_0_a.2.2.2.2.2.2.2.2.2.2.2.2.1
theorem dX12_figureOf_23 : decode cX12_figureOf 23 = .ok (.bipush (-9), 2) := dX12_figureOf_0_a.2.2.2.2.2.2.2.2.2.2.2.2.2.1
theorem dX12_figureOf_25 : decode cX12_figureOf 25 = .ok (.ireturn, 1) := dX12_figureOf_0_a.2.2.2.2.2.2.2.2.2.2.2.2.2.2
theorem dX12_mileOf_0_a : (decode cX12_mileOf 0 = .ok (.iload_n 0, 1)) ∧ (decode cX12_mileOf 1 = .ok (.bipush 111, 2)) ∧ (decode cX12_mileOf 3 = .ok (.if_icmp .ne 8, 3)) ∧ (decode cX12_mileOf 6 = .ok (.bipush 6, 2)) ∧ (decode cX12_mileOf 8 = .ok (.goto 29, 3)) ∧ (decode cX12_mileOf 11 = .ok (.iload_n 0, 1)) ∧ (decode cX12_mileOf 12 = .ok (.bipush 105, 2)) ∧ (decode cX12_mileOf 14 = .ok (.if_icmp .ne 8, 3)) ∧ (decode cX12_mileOf 17 = .ok (.bipush 7, 2)) ∧ (decode cX12_mileOf 19 = .ok (.goto 18, 3)) ∧ (decode cX12_mileOf 22 = .ok (.iload_n 0, 1)) ∧ (decode cX12_mileOf 23 = .ok (.bipush 119, 2)) ∧ (decode cX12_mileOf 25 = .ok (.if_icmp .ne 8, 3)) ∧ (decode cX12_mileOf 28 = .ok (.bipush 8, 2)) ∧ (decode cX12_mileOf 30 = .ok (.goto 7, 3)) ∧ (decode cX12_mileOf 33 = .ok (.iload_n 0, 1)) := by decide +kernel
theorem dX12_mileOf_0 : decode cX12_mileOf 0 = .ok (.iload_n 0, 1) := dX12_mileOf_0_a.1
theorem dX12_mileOf_1 : decode cX12_mileOf 1 = .ok (.bipush 111, 2) := dX12_mileOf_0_a.2.1
theorem dX12_mileOf_3 : decode cX12_mileOf 3 = .ok (.if_icmp .ne 8, 3) := dX12_mileOf_0_a.2.2.1
theorem dX12_mileOf_6 : decode cX12_mileOf 6 = .ok (.bipush 6, 2) := dX12_mileOf_0_a.2.2.2.1
theorem dX12_mileOf_8 : decode cX12_mileOf 8 = .ok (.goto 29, 3) := dX12_mileOf_0_a.2.2.2.2.1
theorem dX12_mileOf_11 : decode cX12_mileOf 11 = .ok (.iload_n 0, 1) := dX12_mileOf_0_a.2.2.2.2.2.1
theorem dX12_mileOf_12 : decode cX12_mileOf 12 = .ok (.bipush 105, 2) := dX12_mileOf_0_a.2.2.2.2.2.2.1
theorem dX12_mileOf_14 : decode cX12_mileOf 14 = .ok (.if_icmp .ne 8, 3) := dX12_mileOf_0_a.2.2.2.2.2.2.2.1
theorem dX12_mileOf_17 : decode cX12_mileOf 17 = .ok (.bipush 7, 2) := dX12_mileOf_0_a.2.2.2.2.2.2.2.2.1
theorem dX12_mileOf_19 : decode cX12_mileOf 19 = .ok (.goto 18, 3) := dX12_mileOf_0_a.2.2.2.2.2.2.2.2.2.1
theorem dX12_mileOf_22 : decode cX12_mileOf 22 = .ok (.iload_n 0, 1) := dX12_mileOf_0_a.2.2.2.2.2.2.2.2.2.2.1
theorem dX12_mileOf_23 : decode cX12_mileOf 23 = .ok (.bipush 119, 2) := dX12_mileOf_0_a.2.2.2.2.2.2.2.2.2.2.2.1
theorem dX12_mileOf_25 : decode cX12_mileOf 25 = .ok (.if_icmp .ne 8, 3) := dX12_mileOf_0_a.2.2.2.2.2.2.2.2.2.2.2.2.1
theorem dX12_mileOf_28 : decode cX12_mileOf 28 = .ok (.bipush 8, 2) := dX12_mileOf_0_a.2.2.2.2.2.2.2.2.2.2.2.2.2.1
theorem dX12_mileOf_30 : decode cX12_mileOf 30 = .ok (.goto 7, 3) := dX12_mileOf_0_a.2.2.2.2.2.2.2.2.2.2.2.2.2.2.1
theorem dX12_mileOf_33 : decode cX12_mileOf 33 = .ok (.iload_n 0, 1) := dX12_mileOf_0_a.2.2.2.2.2.2.2.2.2.2.2.2.2.2.2
theorem dX12_mileOf_34_a : (decode cX12_mileOf 34 = .ok (.invokestatic 104, 3)) ∧ (decode cX12_mileOf 37 = .ok (.ireturn, 1)) := by decide +kernel
theorem dX12_mileOf_34 : decode cX12_mileOf 34 = .ok (.invokestatic 104, 3) := dX12_mileOf_34_a.1
theorem dX12_mileOf_37 : decode cX12_mileOf 37 = .ok (.ireturn, 1) := dX12_mileOf_34_a.2
theorem dX12_readsLand_0_a : (decode cX12_readsLand 0 = .ok (.aload_n 0, 1)) ∧ (decode cX12_readsLand 1 = .ok (.iconst 0, 1)) ∧ (decode cX12_readsLand 2 = .ok (.putfield 107, 3)) ∧ (decode cX12_readsLand 5 = .ok (.iconst 0, 1)) ∧ (decode cX12_readsLand 6 = .ok (.istore_n 1, 1)) ∧ (decode cX12_readsLand 7 = .ok (.iload_n 1, 1)) ∧ (decode cX12_readsLand 8 = .ok (.aload_n 0, 1)) ∧ (decode cX12_readsLand 9 = .ok (.getfield 25, 3)) ∧ (decode cX12_readsLand 12 = .ok (.iconst 0, 1)) ∧ (decode cX12_readsLand 13 = .ok (.iaload, 1)) ∧ (decode cX12_readsLand 14 = .ok (.if_icmp .ge 49, 3)) ∧ (decode cX12_readsLand 17 = .ok (.aload_n 0, 1)) ∧ (decode cX12_readsLand 18 = .ok (.getfield 22, 3)) ∧ (decode cX12_readsLand 21 = .ok (.iload_n 1, 1)) ∧ (decode cX12_readsLand 22 = .ok (.iaload, 1)) ∧ (decode cX12_readsLand 23 = .ok (.invokestatic 110, 3)) := by decide +kernel
theorem dX12_readsLand_0 : decode cX12_readsLand 0 = .ok (.aload_n 0, 1) := dX12_readsLand_0_a.1
theorem dX12_readsLand_1 : decode cX12_readsLand 1 = .ok (.iconst 0, 1) := dX12_readsLand_0_a.2.1
theorem dX12_readsLand_2 : decode cX12_readsLand 2 = .ok (.putfield 107, 3) := dX12_readsLand_0_a.2.2.1
theorem dX12_readsLand_5 : decode cX12_readsLand 5 = .ok (.iconst 0, 1) := dX12_readsLand_0_a.2.2.2.1
theorem dX12_readsLand_6 : decode cX12_readsLand 6 = .ok (.istore_n 1, 1) := dX12_readsLand_0_a.2.2.2.2.1
theorem dX12_readsLand_7 : decode cX12_readsLand 7 = .ok (.iload_n 1, 1) := dX12_readsLand_0_a.2.2.2.2.2.1
theorem dX12_readsLand_8 : decode cX12_readsLand 8 = .ok (.aload_n 0, 1) := dX12_readsLand_0_a.2.2.2.2.2.2.1
theorem dX12_readsLand_9 : decode cX12_readsLand 9 = .ok (.getfield 25, 3) := dX12_readsLand_0_a.2.2.2.2.2.2.2.1
theorem dX12_readsLand_12 : decode cX12_readsLand 12 = .ok (.iconst 0, 1) := dX12_readsLand_0_a.2.2.2.2.2.2.2.2.1
theorem dX12_readsLand_13 : decode cX12_readsLand 13 = .ok (.iaload, 1) := dX12_readsLand_0_a.2.2.2.2.2.2.2.2.2.1
theorem dX12_readsLand_14 : decode cX12_readsLand 14 = .ok (.if_icmp .ge 49, 3) := dX12_readsLand_0_a.2.2.2.2.2.2.2.2.2.2.1
theorem dX12_readsLand_17 : decode cX12_readsLand 17 = .ok (.aload_n 0, 1) := dX12_readsLand_0_a.2.2.2.2.2.2.2.2.2.2.2.1
theorem dX12_readsLand_18 : decode cX12_readsLand 18 = .ok (.getfield 22, 3) := dX12_readsLand_0_a.2.2.2.2.2.2.2.2.2.2.2.2.1
theorem dX12_readsLand_21 : decode cX12_readsLand 21 = .ok (.iload_n 1, 1) := dX12_readsLand_0_a.2.2.2.2.2.2.2.2.2.2.2.2.2.1
theorem dX12_readsLand_22 : decode cX12_readsLand 22 = .ok (.iaload, 1) := dX12_readsLand_0_a.2.2.2.2.2.2.2.2.2.2.2.2.2.2.1
theorem dX12_readsLand_23 : decode cX12_readsLand 23 = .ok (.invokestatic 110, 3) := dX12_readsLand_0_a.2.2.2.2.2.2.2.2.2.2.2.2.2.2.2
theorem dX12_readsLand_26_a : (decode cX12_readsLand 26 = .ok (.istore_n 2, 1)) ∧ (decode cX12_readsLand 27 = .ok (.iload_n 2, 1)) ∧ (decode cX12_readsLand 28 = .ok (.bipush (-9), 2)) ∧ (decode cX12_readsLand 30 = .ok (.if_icmp .ne 10, 3)) ∧ (decode cX12_readsLand 33 = .ok (.aload_n 0, 1)) ∧ (decode cX12_readsLand 34 = .ok (.iconst 0, 1)) ∧ (decode cX12_readsLand 35 = .ok (.putfield 107, 3)) ∧ (decode cX12_readsLand 38 = .ok (.iload_n 1, 1)) ∧ (decode cX12_readsLand 39 = .ok (.ireturn, 1)) ∧ (decode cX12_readsLand 40 = .ok (.aload_n 0, 1)) ∧ (decode cX12_readsLand 41 = .ok (.getfield 28, 3)) ∧ (decode cX12_readsLand 44 = .ok (.iload_n 1, 1)) ∧ (decode cX12_readsLand 45 = .ok (.iload_n 2, 1)) ∧ (decode cX12_readsLand 46 = .ok (.iastore, 1)) ∧ (decode cX12_readsLand 47 = .ok (.aload_n 0, 1)) ∧ (decode cX12_readsLand 48 = .ok (.dup, 1)) := by decide +kernel
theorem dX12_readsLand_26 : decode cX12_readsLand 26 = .ok (.istore_n 2, 1) := dX12_readsLand_26_a.1
theorem dX12_readsLand_27 : decode cX12_readsLand 27 = .ok (.iload_n 2, 1) := dX12_readsLand_26_a.2.1
theorem dX12_readsLand_28 : decode cX12_readsLand 28 = .ok (.bipush (-9), 2) := dX12_readsLand_26_a.2.2.1
theorem dX12_readsLand_30 : decode cX12_readsLand 30 = .ok (.if_icmp .ne 10, 3) := dX12_readsLand_26_a.2.2.2.1
theorem dX12_readsLand_33 : decode cX12_readsLand 33 = .ok (.aload_n 0, 1) := dX12_readsLand_26_a.2.2.2.2.1
theorem dX12_readsLand_34 : decode cX12_readsLand 34 = .ok (.iconst 0, 1) := dX12_readsLand_26_a.2.2.2.2.2.1
theorem dX12_readsLand_35 : decode cX12_readsLand 35 = .ok (.putfield 107, 3) := dX12_readsLand_26_a.2.2.2.2.2.2.1
theorem dX12_readsLand_38 : decode cX12_readsLand 38 = .ok (.iload_n 1, 1) := dX12_readsLand_26_a.2.2.2.2.2.2.2.1
theorem dX12_readsLand_39 : decode cX12_readsLand 39 = .ok (.ireturn, 1) := dX12_readsLand_26_a.2.2.2.2.2.2.2.2.1
theorem dX12_readsLand_40 : decode cX12_readsLand 40 = .ok (.aload_n 0, 1) := dX12_readsLand_26_a.2.2.2.2.2.2.2.2.2.1
theorem dX12_readsLand_41 : decode cX12_readsLand 41 = .ok (.getfield 28, 3) := dX12_readsLand_26_a.2.2.2.2.2.2.2.2.2.2.1
theorem dX12_readsLand_44 : decode cX12_readsLand 44 = .ok (.iload_n 1, 1) := dX12_readsLand_26_a.2.2.2.2.2.2.2.2.2.2.2.1
theorem dX12_readsLand_45 : decode cX12_readsLand 45 = .ok (.iload_n 2, 1) := dX12_readsLand_26_a.2.2.2.2.2.2.2.2.2.2.2.2.1
theorem dX12_readsLand_46 : decode cX12_readsLand 46 = .ok (.iastore, 1) := dX12_readsLand_26_a.2.2.2.2.2.2.2.2.2.2.2.2.2.1
theorem dX12_readsLand_47 : decode cX12_readsLand 47 = .ok (.aload_n 0, 1) := dX12_readsLand_26_a.2.2.2.2.2.2.2.2.2.2.2.2.2.2.1
theorem dX12_readsLand_48 : decode cX12_readsLand 48 = .ok (.dup, 1) := dX12_readsLand_26_a.2.2.2.2.2.2.2.2.2.2.2.2.2.2.2
theorem dX12_readsLand_49_a : (decode cX12_readsLand 49 = .ok (.getfield 107, 3)) ∧ (decode cX12_readsLand 52 = .ok (.iconst 1, 1)) ∧ (decode cX12_readsLand 53 = .ok (.iadd, 1)) ∧ (decode cX12_readsLand 54 = .ok (.putfield 107, 3)) ∧ (decode cX12_readsLand 57 = .ok (.iinc 1 1, 3)) ∧ (decode cX12_readsLand 60 = .ok (.goto (-53), 3)) ∧ (decode cX12_readsLand 63 = .ok (.iconst (-1), 1)) ∧ (decode cX12_readsLand 64 = .ok (.ireturn, 1)) := by decide +kernel
theorem dX12_readsLand_49 : decode cX12_readsLand 49 = .ok (.getfield 107, 3) := dX12_readsLand_49_a.1
theorem dX12_readsLand_52 : decode cX12_readsLand 52 = .ok (.iconst 1, 1) := dX12_readsLand_49_a.2.1
theorem dX12_readsLand_53 : decode cX12_readsLand 53 = .ok (.iadd, 1) := dX12_readsLand_49_a.2.2.1
theorem dX12_readsLand_54 : decode cX12_readsLand 54 = .ok (.putfield 107, 3) := dX12_readsLand_49_a.2.2.2.1
theorem dX12_readsLand_57 : decode cX12_readsLand 57 = .ok (.iinc 1 1, 3) := dX12_readsLand_49_a.2.2.2.2.1
theorem dX12_readsLand_60 : decode cX12_readsLand 60 = .ok (.goto (-53), 3) := dX12_readsLand_49_a.2.2.2.2.2.1
theorem dX12_readsLand_63 : decode cX12_readsLand 63 = .ok (.iconst (-1), 1) := dX12_readsLand_49_a.2.2.2.2.2.2.1
theorem dX12_readsLand_64 : decode cX12_readsLand 64 = .ok (.ireturn, 1) := dX12_readsLand_49_a.2.2.2.2.2.2.2
theorem dX12_passengerOf_0_a : (decode cX12_passengerOf 0 = .ok (.iload_n 0, 1)) ∧ (decode cX12_passengerOf 1 = .ok (.tableswitch 96 0 4 #[35, 78, 96, 96, 83], 35)) ∧ (decode cX12_passengerOf 36 = .ok (.iload_n 1, 1)) ∧ (decode cX12_passengerOf 37 = .ok (.bipush 116, 2)) ∧ (decode cX12_passengerOf 39 = .ok (.if_icmp .ne 7, 3)) ∧ (decode cX12_passengerOf 42 = .ok (.iconst 0, 1)) ∧ (decode cX12_passengerOf 43 = .ok (.goto 35, 3)) ∧ (decode cX12_passengerOf 46 = .ok (.iload_n 1, 1)) ∧ (decode cX12_passengerOf 47 = .ok (.bipush 100, 2)) ∧ (decode cX12_passengerOf 49 = .ok (.if_icmp .ne 7, 3)) ∧ (decode cX12_passengerOf 52 = .ok (.iconst 1, 1)) ∧ (decode cX12_passengerOf 53 = .ok (.goto 25, 3)) ∧ (decode cX12_passengerOf 56 = .ok (.iload_n 1, 1)) ∧ (decode cX12_passengerOf 57 = .ok (.bipush 112, 2)) ∧ (decode cX12_passengerOf 59 = .ok (.if_icmp .ne 7, 3)) ∧ (decode cX12_passengerOf 62 = .ok (.iconst 2, 1)) := by decide +kernel
theorem dX12_passengerOf_0 : decode cX12_passengerOf 0 = .ok (.iload_n 0, 1) := dX12_passengerOf_0_a.1
theorem dX12_passengerOf_1 : decode cX12_passengerOf 1 = .ok (.tableswitch 96 0 4 #[35, 78, 96, 96, 83], 35) := dX12_passengerOf_0_a.2.1
theorem dX12_passengerOf_36 : decode cX12_passengerOf 36 = .ok (.iload_n 1, 1) := dX12_passengerOf_0_a.2.2.1
theorem dX12_passengerOf_37 : decode cX12_passengerOf 37 = .ok (.bipush 116, 2) := dX12_passengerOf_0_a.2.2.2.1
theorem dX12_passengerOf_39 : decode cX12_passengerOf 39 = .ok (.if_icmp .ne 7, 3) := dX12_passengerOf_0_a.2.2.2.2.1
theorem dX12_passengerOf_42 : decode cX12_passengerOf 42 = .ok (.iconst 0, 1) := dX12_passengerOf_0_a.2.2.2.2.2.1
theorem dX12_passengerOf_43 : decode cX12_passengerOf 43 = .ok (.goto 35, 3) := dX12_passengerOf_0_a.2.2.2.2.2.2.1
theorem dX12_passengerOf_46 : decode cX12_passengerOf 46 = .ok (.iload_n 1, 1) := dX12_passengerOf_0_a.2.2.2.2.2.2.2.1
theorem dX12_passengerOf_47 : decode cX12_passengerOf 47 = .ok (.bipush 100, 2) := dX12_passengerOf_0_a.2.2.2.2.2.2.2.2.1
theorem dX12_passengerOf_49 : decode cX12_passengerOf 49 = .ok (.if_icmp .ne 7, 3) := dX12_passengerOf_0_a.2.2.2.2.2.2.2.2.2.1
theorem dX12_passengerOf_52 : decode cX12_passengerOf 52 = .ok (.iconst 1, 1) := dX12_passengerOf_0_a.2.2.2.2.2.2.2.2.2.2.1
theorem dX12_passengerOf_53 : decode cX12_passengerOf 53 = .ok (.goto 25, 3) := dX12_passengerOf_0_a.2.2.2.2.2.2.2.2.2.2.2.1
theorem dX12_passengerOf_56 : decode cX12_passengerOf 56 = .ok (.iload_n 1, 1) := dX12_passengerOf_0_a.2.2.2.2.2.2.2.2.2.2.2.2.1
theorem dX12_passengerOf_57 : decode cX12_passengerOf 57 = .ok (.bipush 112, 2) := dX12_passengerOf_0_a.2.2.2.2.2.2.2.2.2.2.2.2.2.1
theorem dX12_passengerOf_59 : decode cX12_passengerOf 59 = .ok (.if_icmp .ne 7, 3) := dX12_passengerOf_0_a.2.2.2.2.2.2.2.2.2.2.2.2.2.2.1
theorem dX12_passengerOf_62 : decode cX12_passengerOf 62 = .ok (.iconst 2, 1) := dX12_passengerOf_0_a.2.2.2.2.2.2.2.2.2.2.2.2.2.2.2
theorem dX12_passengerOf_63_a : (decode cX12_passengerOf 63 = .ok (.goto 15, 3)) ∧ (decode cX12_passengerOf 66 = .ok (.iload_n 1, 1)) ∧ (decode cX12_passengerOf 67 = .ok (.bipush 115, 2)) ∧ (decode cX12_passengerOf 69 = .ok (.if_icmp .ne 7, 3)) ∧ (decode cX12_passengerOf 72 = .ok (.iconst 3, 1)) ∧ (decode cX12_passengerOf 73 = .ok (.goto 5, 3)) ∧ (decode cX12_passengerOf 76 = .ok (.bipush (-9), 2)) ∧ (decode cX12_passengerOf 78 = .ok (.ireturn, 1)) ∧ (decode cX12_passengerOf 79 = .ok (.iload_n 1, 1)) ∧ (decode cX12_passengerOf 80 = .ok (.invokestatic 104, 3)) ∧ (decode cX12_passengerOf 83 = .ok (.ireturn, 1)) ∧ (decode cX12_passengerOf 84 = .ok (.iload_n 1, 1)) ∧ (decode cX12_passengerOf 85 = .ok (.bipush 59, 2)) ∧ (decode cX12_passengerOf 87 = .ok (.if_icmp .ne 7, 3)) ∧ (decode cX12_passengerOf 90 = .ok (.iconst 0, 1)) ∧ (decode cX12_passengerOf 91 = .ok (.goto 5, 3)) := by decide +kernel
theorem dX12_passengerOf_63 : decode cX12_passengerOf 63 = .ok (.goto 15, 3) := dX12_passengerOf_63_a.1
theorem dX12_passengerOf_66 : decode cX12_passengerOf 66 = .ok (.iload_n 1, 1) := dX12_passengerOf_63_a.2.1
theorem dX12_passengerOf_67 : decode cX12_passengerOf 67 = .ok (.bipush 115, 2) := dX12_passengerOf_63_a.2.2.1
theorem dX12_passengerOf_69 : decode cX12_passengerOf 69 = .ok (.if_icmp .ne 7, 3) := dX12_passengerOf_63_a.2.2.2.1
theorem dX12_passengerOf_72 : decode cX12_passengerOf 72 = .ok (.iconst 3, 1) := dX12_passengerOf_63_a.2.2.2.2.1
theorem dX12_passengerOf_73 : decode cX12_passengerOf 73 = .ok (.goto 5, 3) := dX12_passengerOf_63_a.2.2.2.2.2.1
theorem dX12_passengerOf_76 : decode cX12_passengerOf 76 = .ok (.bipush (-9), 2) := dX12_passengerOf_63_a.2.2.2.2.2.2.1
theorem dX12_passengerOf_78 : decode cX12_passengerOf 78 = .ok (.ireturn, 1) := dX12_passengerOf_63_a.2.2.2.2.2.2.2.1
theorem dX12_passengerOf_79 : decode cX12_passengerOf 79 = .ok (.iload_n 1, 1) := dX12_passengerOf_63_a.2.2.2.2.2.2.2.2.1
theorem dX12_passengerOf_80 : decode cX12_passengerOf 80 = .ok (.invokestatic 104, 3) := dX12_passengerOf_63_a.2.2.2.2.2.2.2.2.2.1
theorem dX12_passengerOf_83 : decode cX12_passengerOf 83 = .ok (.ireturn, 1) := dX12_passengerOf_63_a.2.2.2.2.2.2.2.2.2.2.1
theorem dX12_passengerOf_84 : decode cX12_passengerOf 84 = .ok (.iload_n 1, 1) := dX12_passengerOf_63_a.2.2.2.2.2.2.2.2.2.2.2.1
theorem dX12_passengerOf_85 : decode cX12_passengerOf 85 = .ok (.bipush 59, 2) := dX12_passengerOf_63_a.2.2.2.2.2.2.2.2.2.2.2.2.1
theorem dX12_passengerOf_87 : decode cX12_passengerOf 87 = .ok (.if_icmp .ne 7, 3) := dX12_passengerOf_63_a.2.2.2.2.2.2.2.2.2.2.2.2.2.1
theorem dX12_passengerOf_90 : decode cX12_passengerOf 90 = .ok (.iconst 0, 1) := dX12_passengerOf_63_a.2.2.2.2.2.2.2.2.2.2.2.2.2.2.1
theorem dX12_passengerOf_91 : decode cX12_passengerOf 91 = .ok (.goto 5, 3) := dX12_passengerOf_63_a.2.2.2.2.2.2.2.2.2.2.2.2.2.2.2
theorem dX12_passengerOf_94_a : (decode cX12_passengerOf 94 = .ok (.bipush (-9), 2)) ∧ (decode cX12_passengerOf 96 = .ok (.ireturn, 1)) ∧ (decode cX12_passengerOf 97 = .ok (.iload_n 1, 1)) ∧ (decode cX12_passengerOf 98 = .ok (.iconst 1, 1)) ∧ (decode cX12_passengerOf 99 = .ok (.invokestatic 113, 3)) ∧ (decode cX12_passengerOf 102 = .ok (.ireturn, 1)) := by decide +kernel
theorem dX12_passengerOf_94 : decode cX12_passengerOf 94 = .ok (.bipush (-9), 2) := dX12_passengerOf_94_a.1
theorem dX12_passengerOf_96 : decode cX12_passengerOf 96 = .ok (.ireturn, 1) := dX12_passengerOf_94_a.2.1
theorem dX12_passengerOf_97 : decode cX12_passengerOf 97 = .ok (.iload_n 1, 1) := dX12_passengerOf_94_a.2.2.1
theorem dX12_passengerOf_98 : decode cX12_passengerOf 98 = .ok (.iconst 1, 1) := dX12_passengerOf_94_a.2.2.2.1
theorem dX12_passengerOf_99 : decode cX12_passengerOf 99 = .ok (.invokestatic 113, 3) := dX12_passengerOf_94_a.2.2.2.2.1
theorem dX12_passengerOf_102 : decode cX12_passengerOf 102 = .ok (.ireturn, 1) := dX12_passengerOf_94_a.2.2.2.2.2
theorem dX12_readsPassengers_0_a : (decode cX12_readsPassengers 0 = .ok (.aload_n 0, 1)) ∧ (decode cX12_readsPassengers 1 = .ok (.iconst 0, 1)) ∧ (decode cX12_readsPassengers 2 = .ok (.putfield 116, 3)) ∧ (decode cX12_readsPassengers 5 = .ok (.aload_n 0, 1)) ∧ (decode cX12_readsPassengers 6 = .ok (.getfield 25, 3)) ∧ (decode cX12_readsPassengers 9 = .ok (.iconst 1, 1)) ∧ (decode cX12_readsPassengers 10 = .ok (.iaload, 1)) ∧ (decode cX12_readsPassengers 11 = .ok (.istore_n 1, 1)) ∧ (decode cX12_readsPassengers 12 = .ok (.iconst 0, 1)) ∧ (decode cX12_readsPassengers 13 = .ok (.istore_n 2, 1)) ∧ (decode cX12_readsPassengers 14 = .ok (.iload_n 2, 1)) ∧ (decode cX12_readsPassengers 15 = .ok (.iload_n 1, 1)) ∧ (decode cX12_readsPassengers 16 = .ok (.if_icmp .ge 80, 3)) ∧ (decode cX12_readsPassengers 19 = .ok (.iload_n 2, 1)) ∧ (decode cX12_readsPassengers 20 = .ok (.iconst 5, 1)) ∧ (decode cX12_readsPassengers 21 = .ok (.irem, 1)) := by decide +kernel
theorem dX12_readsPassengers_0 : decode cX12_readsPassengers 0 = .ok (.aload_n 0, 1) := dX12_readsPassengers_0_a.1
theorem dX12_readsPassengers_1 : decode cX12_readsPassengers 1 = .ok (.iconst 0, 1) := dX12_readsPassengers_0_a.2.1
theorem dX12_readsPassengers_2 : decode cX12_readsPassengers 2 = .ok (.putfield 116, 3) := dX12_readsPassengers_0_a.2.2.1
theorem dX12_readsPassengers_5 : decode cX12_readsPassengers 5 = .ok (.aload_n 0, 1) := dX12_readsPassengers_0_a.2.2.2.1
theorem dX12_readsPassengers_6 : decode cX12_readsPassengers 6 = .ok (.getfield 25, 3) := dX12_readsPassengers_0_a.2.2.2.2.1
theorem dX12_readsPassengers_9 : decode cX12_readsPassengers 9 = .ok (.iconst 1, 1) := dX12_readsPassengers_0_a.2.2.2.2.2.1
theorem dX12_readsPassengers_10 : decode cX12_readsPassengers 10 = .ok (.iaload, 1) := dX12_readsPassengers_0_a.2.2.2.2.2.2.1
theorem dX12_readsPassengers_11 : decode cX12_readsPassengers 11 = .ok (.istore_n 1, 1) := dX12_readsPassengers_0_a.2.2.2.2.2.2.2.1
theorem dX12_readsPassengers_12 : decode cX12_readsPassengers 12 = .ok (.iconst 0, 1) := dX12_readsPassengers_0_a.2.2.2.2.2.2.2.2.1
theorem dX12_readsPassengers_13 : decode cX12_readsPassengers 13 = .ok (.istore_n 2, 1) := dX12_readsPassengers_0_a.2.2.2.2.2.2.2.2.2.1
theorem dX12_readsPassengers_14 : decode cX12_readsPassengers 14 = .ok (.iload_n 2, 1) := dX12_readsPassengers_0_a.2.2.2.2.2.2.2.2.2.2.1
theorem dX12_readsPassengers_15 : decode cX12_readsPassengers 15 = .ok (.iload_n 1, 1) := dX12_readsPassengers_0_a.2.2.2.2.2.2.2.2.2.2.2.1
theorem dX12_readsPassengers_16 : decode cX12_readsPassengers 16 = .ok (.if_icmp .ge 80, 3) := dX12_readsPassengers_0_a.2.2.2.2.2.2.2.2.2.2.2.2.1
theorem dX12_readsPassengers_19 : decode cX12_readsPassengers 19 = .ok (.iload_n 2, 1) := dX12_readsPassengers_0_a.2.2.2.2.2.2.2.2.2.2.2.2.2.1
theorem dX12_readsPassengers_20 : decode cX12_readsPassengers 20 = .ok (.iconst 5, 1) := dX12_readsPassengers_0_a.2.2.2.2.2.2.2.2.2.2.2.2.2.2.1
theorem dX12_readsPassengers_21 : decode cX12_readsPassengers 21 = .ok (.irem, 1) := dX12_readsPassengers_0_a.2.2.2.2.2.2.2.2.2.2.2.2.2.2.2
theorem dX12_readsPassengers_22_a : (decode cX12_readsPassengers 22 = .ok (.istore_n 3, 1)) ∧ (decode cX12_readsPassengers 23 = .ok (.iload_n 3, 1)) ∧ (decode cX12_readsPassengers 24 = .ok (.aload_n 0, 1)) ∧ (decode cX12_readsPassengers 25 = .ok (.getfield 22, 3)) ∧ (decode cX12_readsPassengers 28 = .ok (.bipush 40, 2)) ∧ (decode cX12_readsPassengers 30 = .ok (.iload_n 2, 1)) ∧ (decode cX12_readsPassengers 31 = .ok (.iadd, 1)) ∧ (decode cX12_readsPassengers 32 = .ok (.iaload, 1)) ∧ (decode cX12_readsPassengers 33 = .ok (.invokestatic 119, 3)) ∧ (decode cX12_readsPassengers 36 = .ok (.istore 4, 2)) ∧ (decode cX12_readsPassengers 38 = .ok (.iload 4, 2)) ∧ (decode cX12_readsPassengers 40 = .ok (.bipush (-9), 2)) ∧ (decode cX12_readsPassengers 42 = .ok (.if_icmp .ne 10, 3)) ∧ (decode cX12_readsPassengers 45 = .ok (.aload_n 0, 1)) ∧ (decode cX12_readsPassengers 46 = .ok (.iconst 0, 1)) ∧ (decode cX12_readsPassengers 47 = .ok (.putfield 116, 3)) := by decide +kernel
theorem dX12_readsPassengers_22 : decode cX12_readsPassengers 22 = .ok (.istore_n 3, 1) := dX12_readsPassengers_22_a.1
theorem dX12_readsPassengers_23 : decode cX12_readsPassengers 23 = .ok (.iload_n 3, 1) := dX12_readsPassengers_22_a.2.1
theorem dX12_readsPassengers_24 : decode cX12_readsPassengers 24 = .ok (.aload_n 0, 1) := dX12_readsPassengers_22_a.2.2.1
theorem dX12_readsPassengers_25 : decode cX12_readsPassengers 25 = .ok (.getfield 22, 3) := dX12_readsPassengers_22_a.2.2.2.1
theorem dX12_readsPassengers_28 : decode cX12_readsPassengers 28 = .ok (.bipush 40, 2) := dX12_readsPassengers_22_a.2.2.2.2.1
theorem dX12_readsPassengers_30 : decode cX12_readsPassengers 30 = .ok (.iload_n 2, 1) := dX12_readsPassengers_22_a.2.2.2.2.2.1
theorem dX12_readsPassengers_31 : decode cX12_readsPassengers 31 = .ok (.iadd, 1) := dX12_readsPassengers_22_a.2.2.2.2.2.2.1
theorem dX12_readsPassengers_32 : decode cX12_readsPassengers 32 = .ok (.iaload, 1) := dX12_readsPassengers_22_a.2.2.2.2.2.2.2.1
theorem dX12_readsPassengers_33 : decode cX12_readsPassengers 33 = .ok (.invokestatic 119, 3) := dX12_readsPassengers_22_a.2.2.2.2.2.2.2.2.1
theorem dX12_readsPassengers_36 : decode cX12_readsPassengers 36 = .ok (.istore 4, 2) := dX12_readsPassengers_22_a.2.2.2.2.2.2.2.2.2.1
theorem dX12_readsPassengers_38 : decode cX12_readsPassengers 38 = .ok (.iload 4, 2) := dX12_readsPassengers_22_a.2.2.2.2.2.2.2.2.2.2.1
theorem dX12_readsPassengers_40 : decode cX12_readsPassengers 40 = .ok (.bipush (-9), 2) := dX12_readsPassengers_22_a.2.2.2.2.2.2.2.2.2.2.2.1
theorem dX12_readsPassengers_42 : decode cX12_readsPassengers 42 = .ok (.if_icmp .ne 10, 3) := dX12_readsPassengers_22_a.2.2.2.2.2.2.2.2.2.2.2.2.1
theorem dX12_readsPassengers_45 : decode cX12_readsPassengers 45 = .ok (.aload_n 0, 1) := dX12_readsPassengers_22_a.2.2.2.2.2.2.2.2.2.2.2.2.2.1
theorem dX12_readsPassengers_46 : decode cX12_readsPassengers 46 = .ok (.iconst 0, 1) := dX12_readsPassengers_22_a.2.2.2.2.2.2.2.2.2.2.2.2.2.2.1
theorem dX12_readsPassengers_47 : decode cX12_readsPassengers 47 = .ok (.putfield 116, 3) := dX12_readsPassengers_22_a.2.2.2.2.2.2.2.2.2.2.2.2.2.2.2
theorem dX12_readsPassengers_50_a : (decode cX12_readsPassengers 50 = .ok (.iload_n 2, 1)) ∧ (decode cX12_readsPassengers 51 = .ok (.ireturn, 1)) ∧ (decode cX12_readsPassengers 52 = .ok (.iload_n 3, 1)) ∧ (decode cX12_readsPassengers 53 = .ok (.iconst 4, 1)) ∧ (decode cX12_readsPassengers 54 = .ok (.if_icmp .ge 17, 3)) ∧ (decode cX12_readsPassengers 57 = .ok (.aload_n 0, 1)) ∧ (decode cX12_readsPassengers 58 = .ok (.getfield 31, 3)) ∧ (decode cX12_readsPassengers 61 = .ok (.iconst 4, 1)) ∧ (decode cX12_readsPassengers 62 = .ok (.iload_n 2, 1)) ∧ (decode cX12_readsPassengers 63 = .ok (.iconst 5, 1)) ∧ (decode cX12_readsPassengers 64 = .ok (.idiv, 1)) ∧ (decode cX12_readsPassengers 65 = .ok (.imul, 1)) ∧ (decode cX12_readsPassengers 66 = .ok (.iload_n 3, 1)) ∧ (decode cX12_readsPassengers 67 = .ok (.iadd, 1)) ∧ (decode cX12_readsPassengers 68 = .ok (.iload 4, 2)) ∧ (decode cX12_readsPassengers 70 = .ok (.iastore, 1)) := by decide +kernel
theorem dX12_readsPassengers_50 : decode cX12_readsPassengers 50 = .ok (.iload_n 2, 1) := dX12_readsPassengers_50_a.1
theorem dX12_readsPassengers_51 : decode cX12_readsPassengers 51 = .ok (.ireturn, 1) := dX12_readsPassengers_50_a.2.1
theorem dX12_readsPassengers_52 : decode cX12_readsPassengers 52 = .ok (.iload_n 3, 1) := dX12_readsPassengers_50_a.2.2.1
theorem dX12_readsPassengers_53 : decode cX12_readsPassengers 53 = .ok (.iconst 4, 1) := dX12_readsPassengers_50_a.2.2.2.1
theorem dX12_readsPassengers_54 : decode cX12_readsPassengers 54 = .ok (.if_icmp .ge 17, 3) := dX12_readsPassengers_50_a.2.2.2.2.1
theorem dX12_readsPassengers_57 : decode cX12_readsPassengers 57 = .ok (.aload_n 0, 1) := dX12_readsPassengers_50_a.2.2.2.2.2.1
theorem dX12_readsPassengers_58 : decode cX12_readsPassengers 58 = .ok (.getfield 31, 3) := dX12_readsPassengers_50_a.2.2.2.2.2.2.1
theorem dX12_readsPassengers_61 : decode cX12_readsPassengers 61 = .ok (.iconst 4, 1) := dX12_readsPassengers_50_a.2.2.2.2.2.2.2.1
theorem dX12_readsPassengers_62 : decode cX12_readsPassengers 62 = .ok (.iload_n 2, 1) := dX12_readsPassengers_50_a.2.2.2.2.2.2.2.2.1
theorem dX12_readsPassengers_63 : decode cX12_readsPassengers 63 = .ok (.iconst 5, 1) := dX12_readsPassengers_50_a.2.2.2.2.2.2.2.2.2.1
theorem dX12_readsPassengers_64 : decode cX12_readsPassengers 64 = .ok (.idiv, 1) := dX12_readsPassengers_50_a.2.2.2.2.2.2.2.2.2.2.1
theorem dX12_readsPassengers_65 : decode cX12_readsPassengers 65 = .ok (.imul, 1) := dX12_readsPassengers_50_a.2.2.2.2.2.2.2.2.2.2.2.1
theorem dX12_readsPassengers_66 : decode cX12_readsPassengers 66 = .ok (.iload_n 3, 1) := dX12_readsPassengers_50_a.2.2.2.2.2.2.2.2.2.2.2.2.1
theorem dX12_readsPassengers_67 : decode cX12_readsPassengers 67 = .ok (.iadd, 1) := dX12_readsPassengers_50_a.2.2.2.2.2.2.2.2.2.2.2.2.2.1
theorem dX12_readsPassengers_68 : decode cX12_readsPassengers 68 = .ok (.iload 4, 2) := dX12_readsPassengers_50_a.2.2.2.2.2.2.2.2.2.2.2.2.2.2.1
theorem dX12_readsPassengers_70 : decode cX12_readsPassengers 70 = .ok (.iastore, 1) := dX12_readsPassengers_50_a.2.2.2.2.2.2.2.2.2.2.2.2.2.2.2
theorem dX12_readsPassengers_71_a : (decode cX12_readsPassengers 71 = .ok (.aload_n 0, 1)) ∧ (decode cX12_readsPassengers 72 = .ok (.dup, 1)) ∧ (decode cX12_readsPassengers 73 = .ok (.getfield 116, 3)) ∧ (decode cX12_readsPassengers 76 = .ok (.iload_n 3, 1)) ∧ (decode cX12_readsPassengers 77 = .ok (.iconst 3, 1)) ∧ (decode cX12_readsPassengers 78 = .ok (.if_icmp .ne 7, 3)) ∧ (decode cX12_readsPassengers 81 = .ok (.iconst 1, 1)) ∧ (decode cX12_readsPassengers 82 = .ok (.goto 4, 3)) ∧ (decode cX12_readsPassengers 85 = .ok (.iconst 0, 1)) ∧ (decode cX12_readsPassengers 86 = .ok (.iadd, 1)) ∧ (decode cX12_readsPassengers 87 = .ok (.putfield 116, 3)) ∧ (decode cX12_readsPassengers 90 = .ok (.iinc 2 1, 3)) ∧ (decode cX12_readsPassengers 93 = .ok (.goto (-79), 3)) ∧ (decode cX12_readsPassengers 96 = .ok (.iload_n 1, 1)) ∧ (decode cX12_readsPassengers 97 = .ok (.ifCond .le 17, 3)) ∧ (decode cX12_readsPassengers 100 = .ok (.iload_n 1, 1)) := by decide +kernel
theorem dX12_readsPassengers_71 : decode cX12_readsPassengers 71 = .ok (.aload_n 0, 1) := dX12_readsPassengers_71_a.1
theorem dX12_readsPassengers_72 : decode cX12_readsPassengers 72 = .ok (.dup, 1) := dX12_readsPassengers_71_a.2.1
theorem dX12_readsPassengers_73 : decode cX12_readsPassengers 73 = .ok (.getfield 116, 3) := dX12_readsPassengers_71_a.2.2.1
theorem dX12_readsPassengers_76 : decode cX12_readsPassengers 76 = .ok (.iload_n 3, 1) := dX12_readsPassengers_71_a.2.2.2.1
theorem dX12_readsPassengers_77 : decode cX12_readsPassengers 77 = .ok (.iconst 3, 1) := dX12_readsPassengers_71_a.2.2.2.2.1
theorem dX12_readsPassengers_78 : decode cX12_readsPassengers 78 = .ok (.if_icmp .ne 7, 3) := dX12_readsPassengers_71_a.2.2.2.2.2.1
theorem dX12_readsPassengers_81 : decode cX12_readsPassengers 81 = .ok (.iconst 1, 1) := dX12_readsPassengers_71_a.2.2.2.2.2.2.1
theorem dX12_readsPassengers_82 : decode cX12_readsPassengers 82 = .ok (.goto 4, 3) := dX12_readsPassengers_71_a.2.2.2.2.2.2.2.1
theorem dX12_readsPassengers_85 : decode cX12_readsPassengers 85 = .ok (.iconst 0, 1) := dX12_readsPassengers_71_a.2.2.2.2.2.2.2.2.1
theorem dX12_readsPassengers_86 : decode cX12_readsPassengers 86 = .ok (.iadd, 1) := dX12_readsPassengers_71_a.2.2.2.2.2.2.2.2.2.1
theorem dX12_readsPassengers_87 : decode cX12_readsPassengers 87 = .ok (.putfield 116, 3) := dX12_readsPassengers_71_a.2.2.2.2.2.2.2.2.2.2.1
theorem dX12_readsPassengers_90 : decode cX12_readsPassengers 90 = .ok (.iinc 2 1, 3) := dX12_readsPassengers_71_a.2.2.2.2.2.2.2.2.2.2.2.1
theorem dX12_readsPassengers_93 : decode cX12_readsPassengers 93 = .ok (.goto (-79), 3) := dX12_readsPassengers_71_a.2.2.2.2.2.2.2.2.2.2.2.2.1
theorem dX12_readsPassengers_96 : decode cX12_readsPassengers 96 = .ok (.iload_n 1, 1) := dX12_readsPassengers_71_a.2.2.2.2.2.2.2.2.2.2.2.2.2.1
theorem dX12_readsPassengers_97 : decode cX12_readsPassengers 97 = .ok (.ifCond .le 17, 3) := dX12_readsPassengers_71_a.2.2.2.2.2.2.2.2.2.2.2.2.2.2.1
theorem dX12_readsPassengers_100 : decode cX12_readsPassengers 100 = .ok (.iload_n 1, 1) := dX12_readsPassengers_71_a.2.2.2.2.2.2.2.2.2.2.2.2.2.2.2
theorem dX12_readsPassengers_101_a : (decode cX12_readsPassengers 101 = .ok (.iconst 5, 1)) ∧ (decode cX12_readsPassengers 102 = .ok (.irem, 1)) ∧ (decode cX12_readsPassengers 103 = .ok (.iconst 4, 1)) ∧ (decode cX12_readsPassengers 104 = .ok (.if_icmp .eq 10, 3)) ∧ (decode cX12_readsPassengers 107 = .ok (.aload_n 0, 1)) ∧ (decode cX12_readsPassengers 108 = .ok (.iconst 0, 1)) ∧ (decode cX12_readsPassengers 109 = .ok (.putfield 116, 3)) ∧ (decode cX12_readsPassengers 112 = .ok (.iload_n 1, 1)) ∧ (decode cX12_readsPassengers 113 = .ok (.ireturn, 1)) ∧ (decode cX12_readsPassengers 114 = .ok (.iconst (-1), 1)) ∧ (decode cX12_readsPassengers 115 = .ok (.ireturn, 1)) := by decide +kernel
theorem dX12_readsPassengers_101 : decode cX12_readsPassengers 101 = .ok (.iconst 5, 1) := dX12_readsPassengers_101_a.1
theorem dX12_readsPassengers_102 : decode cX12_readsPassengers 102 = .ok (.irem, 1) := dX12_readsPassengers_101_a.2.1
theorem dX12_readsPassengers_103 : decode cX12_readsPassengers 103 = .ok (.iconst 4, 1) := dX12_readsPassengers_101_a.2.2.1
theorem dX12_readsPassengers_104 : decode cX12_readsPassengers 104 = .ok (.if_icmp .eq 10, 3) := dX12_readsPassengers_101_a.2.2.2.1
theorem dX12_readsPassengers_107 : decode cX12_readsPassengers 107 = .ok (.aload_n 0, 1) := dX12_readsPassengers_101_a.2.2.2.2.1
theorem dX12_readsPassengers_108 : decode cX12_readsPassengers 108 = .ok (.iconst 0, 1) := dX12_readsPassengers_101_a.2.2.2.2.2.1
theorem dX12_readsPassengers_109 : decode cX12_readsPassengers 109 = .ok (.putfield 116, 3) := dX12_readsPassengers_101_a.2.2.2.2.2.2.1
theorem dX12_readsPassengers_112 : decode cX12_readsPassengers 112 = .ok (.iload_n 1, 1) := dX12_readsPassengers_101_a.2.2.2.2.2.2.2.1
theorem dX12_readsPassengers_113 : decode cX12_readsPassengers 113 = .ok (.ireturn, 1) := dX12_readsPassengers_101_a.2.2.2.2.2.2.2.2.1
theorem dX12_readsPassengers_114 : decode cX12_readsPassengers 114 = .ok (.iconst (-1), 1) := dX12_readsPassengers_101_a.2.2.2.2.2.2.2.2.2.1
theorem dX12_readsPassengers_115 : decode cX12_readsPassengers 115 = .ok (.ireturn, 1) := dX12_readsPassengers_101_a.2.2.2.2.2.2.2.2.2.2
theorem dX12_gooseOf_0_a : (decode cX12_gooseOf 0 = .ok (.iload_n 0, 1)) ∧ (decode cX12_gooseOf 1 = .ok (.iconst 2, 1)) ∧ (decode cX12_gooseOf 2 = .ok (.if_icmp .ne 18, 3)) ∧ (decode cX12_gooseOf 5 = .ok (.iload_n 1, 1)) ∧ (decode cX12_gooseOf 6 = .ok (.bipush 59, 2)) ∧ (decode cX12_gooseOf 8 = .ok (.if_icmp .ne 7, 3)) ∧ (decode cX12_gooseOf 11 = .ok (.iconst 0, 1)) ∧ (decode cX12_gooseOf 12 = .ok (.goto 15, 3)) ∧ (decode cX12_gooseOf 15 = .ok (.bipush (-9), 2)) ∧ (decode cX12_gooseOf 17 = .ok (.goto 10, 3)) ∧ (decode cX12_gooseOf 20 = .ok (.iload_n 1, 1)) ∧ (decode cX12_gooseOf 21 = .ok (.iconst 1, 1)) ∧ (decode cX12_gooseOf 22 = .ok (.iload_n 0, 1)) ∧ (decode cX12_gooseOf 23 = .ok (.isub, 1)) ∧ (decode cX12_gooseOf 24 = .ok (.invokestatic 113, 3)) ∧ (decode cX12_gooseOf 27 = .ok (.ireturn, 1)) := by decide +kernel
theorem dX12_gooseOf_0 : decode cX12_gooseOf 0 = .ok (.iload_n 0, 1) := dX12_gooseOf_0_a.1
theorem dX12_gooseOf_1 : decode cX12_gooseOf 1 = .ok (.iconst 2, 1) := dX12_gooseOf_0_a.2.1
theorem dX12_gooseOf_2 : decode cX12_gooseOf 2 = .ok (.if_icmp .ne 18, 3) := dX12_gooseOf_0_a.2.2.1
theorem dX12_gooseOf_5 : decode cX12_gooseOf 5 = .ok (.iload_n 1, 1) := dX12_gooseOf_0_a.2.2.2.1
theorem dX12_gooseOf_6 : decode cX12_gooseOf 6 = .ok (.bipush 59, 2) := dX12_gooseOf_0_a.2.2.2.2.1
theorem dX12_gooseOf_8 : decode cX12_gooseOf 8 = .ok (.if_icmp .ne 7, 3) := dX12_gooseOf_0_a.2.2.2.2.2.1
theorem dX12_gooseOf_11 : decode cX12_gooseOf 11 = .ok (.iconst 0, 1) := dX12_gooseOf_0_a.2.2.2.2.2.2.1
theorem dX12_gooseOf_12 : decode cX12_gooseOf 12 = .ok (.goto 15, 3) := dX12_gooseOf_0_a.2.2.2.2.2.2.2.1
theorem dX12_gooseOf_15 : decode cX12_gooseOf 15 = .ok (.bipush (-9), 2) := dX12_gooseOf_0_a.2.2.2.2.2.2.2.2.1
theorem dX12_gooseOf_17 : decode cX12_gooseOf 17 = .ok (.goto 10, 3) := dX12_gooseOf_0_a.2.2.2.2.2.2.2.2.2.1
theorem dX12_gooseOf_20 : decode cX12_gooseOf 20 = .ok (.iload_n 1, 1) := dX12_gooseOf_0_a.2.2.2.2.2.2.2.2.2.2.1
theorem dX12_gooseOf_21 : decode cX12_gooseOf 21 = .ok (.iconst 1, 1) := dX12_gooseOf_0_a.2.2.2.2.2.2.2.2.2.2.2.1
theorem dX12_gooseOf_22 : decode cX12_gooseOf 22 = .ok (.iload_n 0, 1) := dX12_gooseOf_0_a.2.2.2.2.2.2.2.2.2.2.2.2.1
theorem dX12_gooseOf_23 : decode cX12_gooseOf 23 = .ok (.isub, 1) := dX12_gooseOf_0_a.2.2.2.2.2.2.2.2.2.2.2.2.2.1
theorem dX12_gooseOf_24 : decode cX12_gooseOf 24 = .ok (.invokestatic 113, 3) := dX12_gooseOf_0_a.2.2.2.2.2.2.2.2.2.2.2.2.2.2.1
theorem dX12_gooseOf_27 : decode cX12_gooseOf 27 = .ok (.ireturn, 1) := dX12_gooseOf_0_a.2.2.2.2.2.2.2.2.2.2.2.2.2.2.2
theorem dX12_readsGeese_0_a : (decode cX12_readsGeese 0 = .ok (.aload_n 0, 1)) ∧ (decode cX12_readsGeese 1 = .ok (.iconst 0, 1)) ∧ (decode cX12_readsGeese 2 = .ok (.putfield 122, 3)) ∧ (decode cX12_readsGeese 5 = .ok (.aload_n 0, 1)) ∧ (decode cX12_readsGeese 6 = .ok (.getfield 25, 3)) ∧ (decode cX12_readsGeese 9 = .ok (.iconst 2, 1)) ∧ (decode cX12_readsGeese 10 = .ok (.iaload, 1)) ∧ (decode cX12_readsGeese 11 = .ok (.istore_n 1, 1)) ∧ (decode cX12_readsGeese 12 = .ok (.iconst 0, 1)) ∧ (decode cX12_readsGeese 13 = .ok (.istore_n 2, 1)) ∧ (decode cX12_readsGeese 14 = .ok (.iload_n 2, 1)) ∧ (decode cX12_readsGeese 15 = .ok (.iload_n 1, 1)) ∧ (decode cX12_readsGeese 16 = .ok (.if_icmp .ge 80, 3)) ∧ (decode cX12_readsGeese 19 = .ok (.iload_n 2, 1)) ∧ (decode cX12_readsGeese 20 = .ok (.iconst 3, 1)) ∧ (decode cX12_readsGeese 21 = .ok (.irem, 1)) := by decide +kernel
theorem dX12_readsGeese_0 : decode cX12_readsGeese 0 = .ok (.aload_n 0, 1) := dX12_readsGeese_0_a.1
theorem dX12_readsGeese_1 : decode cX12_readsGeese 1 = .ok (.iconst 0, 1) := dX12_readsGeese_0_a.2.1
theorem dX12_readsGeese_2 : decode cX12_readsGeese 2 = .ok (.putfield 122, 3) := dX12_readsGeese_0_a.2.2.1
theorem dX12_readsGeese_5 : decode cX12_readsGeese 5 = .ok (.aload_n 0, 1) := dX12_readsGeese_0_a.2.2.2.1
theorem dX12_readsGeese_6 : decode cX12_readsGeese 6 = .ok (.getfield 25, 3) := dX12_readsGeese_0_a.2.2.2.2.1
theorem dX12_readsGeese_9 : decode cX12_readsGeese 9 = .ok (.iconst 2, 1) := dX12_readsGeese_0_a.2.2.2.2.2.1
theorem dX12_readsGeese_10 : decode cX12_readsGeese 10 = .ok (.iaload, 1) := dX12_readsGeese_0_a.2.2.2.2.2.2.1
theorem dX12_readsGeese_11 : decode cX12_readsGeese 11 = .ok (.istore_n 1, 1) := dX12_readsGeese_0_a.2.2.2.2.2.2.2.1
theorem dX12_readsGeese_12 : decode cX12_readsGeese 12 = .ok (.iconst 0, 1) := dX12_readsGeese_0_a.2.2.2.2.2.2.2.2.1
theorem dX12_readsGeese_13 : decode cX12_readsGeese 13 = .ok (.istore_n 2, 1) := dX12_readsGeese_0_a.2.2.2.2.2.2.2.2.2.1
theorem dX12_readsGeese_14 : decode cX12_readsGeese 14 = .ok (.iload_n 2, 1) := dX12_readsGeese_0_a.2.2.2.2.2.2.2.2.2.2.1
theorem dX12_readsGeese_15 : decode cX12_readsGeese 15 = .ok (.iload_n 1, 1) := dX12_readsGeese_0_a.2.2.2.2.2.2.2.2.2.2.2.1
theorem dX12_readsGeese_16 : decode cX12_readsGeese 16 = .ok (.if_icmp .ge 80, 3) := dX12_readsGeese_0_a.2.2.2.2.2.2.2.2.2.2.2.2.1
theorem dX12_readsGeese_19 : decode cX12_readsGeese 19 = .ok (.iload_n 2, 1) := dX12_readsGeese_0_a.2.2.2.2.2.2.2.2.2.2.2.2.2.1
theorem dX12_readsGeese_20 : decode cX12_readsGeese 20 = .ok (.iconst 3, 1) := dX12_readsGeese_0_a.2.2.2.2.2.2.2.2.2.2.2.2.2.2.1
theorem dX12_readsGeese_21 : decode cX12_readsGeese 21 = .ok (.irem, 1) := dX12_readsGeese_0_a.2.2.2.2.2.2.2.2.2.2.2.2.2.2.2
theorem dX12_readsGeese_22_a : (decode cX12_readsGeese 22 = .ok (.istore_n 3, 1)) ∧ (decode cX12_readsGeese 23 = .ok (.iload_n 3, 1)) ∧ (decode cX12_readsGeese 24 = .ok (.aload_n 0, 1)) ∧ (decode cX12_readsGeese 25 = .ok (.getfield 22, 3)) ∧ (decode cX12_readsGeese 28 = .ok (.bipush 80, 2)) ∧ (decode cX12_readsGeese 30 = .ok (.iload_n 2, 1)) ∧ (decode cX12_readsGeese 31 = .ok (.iadd, 1)) ∧ (decode cX12_readsGeese 32 = .ok (.iaload, 1)) ∧ (decode cX12_readsGeese 33 = .ok (.invokestatic 125, 3)) ∧ (decode cX12_readsGeese 36 = .ok (.istore 4, 2)) ∧ (decode cX12_readsGeese 38 = .ok (.iload 4, 2)) ∧ (decode cX12_readsGeese 40 = .ok (.bipush (-9), 2)) ∧ (decode cX12_readsGeese 42 = .ok (.if_icmp .ne 10, 3)) ∧ (decode cX12_readsGeese 45 = .ok (.aload_n 0, 1)) ∧ (decode cX12_readsGeese 46 = .ok (.iconst 0, 1)) ∧ (decode cX12_readsGeese 47 = .ok (.putfield 122, 3)) := by decide +kernel
theorem dX12_readsGeese_22 : decode cX12_readsGeese 22 = .ok (.istore_n 3, 1) := dX12_readsGeese_22_a.1
theorem dX12_readsGeese_23 : decode cX12_readsGeese 23 = .ok (.iload_n 3, 1) := dX12_readsGeese_22_a.2.1
theorem dX12_readsGeese_24 : decode cX12_readsGeese 24 = .ok (.aload_n 0, 1) := dX12_readsGeese_22_a.2.2.1
theorem dX12_readsGeese_25 : decode cX12_readsGeese 25 = .ok (.getfield 22, 3) := dX12_readsGeese_22_a.2.2.2.1
theorem dX12_readsGeese_28 : decode cX12_readsGeese 28 = .ok (.bipush 80, 2) := dX12_readsGeese_22_a.2.2.2.2.1
theorem dX12_readsGeese_30 : decode cX12_readsGeese 30 = .ok (.iload_n 2, 1) := dX12_readsGeese_22_a.2.2.2.2.2.1
theorem dX12_readsGeese_31 : decode cX12_readsGeese 31 = .ok (.iadd, 1) := dX12_readsGeese_22_a.2.2.2.2.2.2.1
theorem dX12_readsGeese_32 : decode cX12_readsGeese 32 = .ok (.iaload, 1) := dX12_readsGeese_22_a.2.2.2.2.2.2.2.1
theorem dX12_readsGeese_33 : decode cX12_readsGeese 33 = .ok (.invokestatic 125, 3) := dX12_readsGeese_22_a.2.2.2.2.2.2.2.2.1
theorem dX12_readsGeese_36 : decode cX12_readsGeese 36 = .ok (.istore 4, 2) := dX12_readsGeese_22_a.2.2.2.2.2.2.2.2.2.1
theorem dX12_readsGeese_38 : decode cX12_readsGeese 38 = .ok (.iload 4, 2) := dX12_readsGeese_22_a.2.2.2.2.2.2.2.2.2.2.1
theorem dX12_readsGeese_40 : decode cX12_readsGeese 40 = .ok (.bipush (-9), 2) := dX12_readsGeese_22_a.2.2.2.2.2.2.2.2.2.2.2.1
theorem dX12_readsGeese_42 : decode cX12_readsGeese 42 = .ok (.if_icmp .ne 10, 3) := dX12_readsGeese_22_a.2.2.2.2.2.2.2.2.2.2.2.2.1
theorem dX12_readsGeese_45 : decode cX12_readsGeese 45 = .ok (.aload_n 0, 1) := dX12_readsGeese_22_a.2.2.2.2.2.2.2.2.2.2.2.2.2.1
theorem dX12_readsGeese_46 : decode cX12_readsGeese 46 = .ok (.iconst 0, 1) := dX12_readsGeese_22_a.2.2.2.2.2.2.2.2.2.2.2.2.2.2.1
theorem dX12_readsGeese_47 : decode cX12_readsGeese 47 = .ok (.putfield 122, 3) := dX12_readsGeese_22_a.2.2.2.2.2.2.2.2.2.2.2.2.2.2.2
theorem dX12_readsGeese_50_a : (decode cX12_readsGeese 50 = .ok (.iload_n 2, 1)) ∧ (decode cX12_readsGeese 51 = .ok (.ireturn, 1)) ∧ (decode cX12_readsGeese 52 = .ok (.iload_n 3, 1)) ∧ (decode cX12_readsGeese 53 = .ok (.iconst 2, 1)) ∧ (decode cX12_readsGeese 54 = .ok (.if_icmp .ge 17, 3)) ∧ (decode cX12_readsGeese 57 = .ok (.aload_n 0, 1)) ∧ (decode cX12_readsGeese 58 = .ok (.getfield 34, 3)) ∧ (decode cX12_readsGeese 61 = .ok (.iconst 2, 1)) ∧ (decode cX12_readsGeese 62 = .ok (.iload_n 2, 1)) ∧ (decode cX12_readsGeese 63 = .ok (.iconst 3, 1)) ∧ (decode cX12_readsGeese 64 = .ok (.idiv, 1)) ∧ (decode cX12_readsGeese 65 = .ok (.imul, 1)) ∧ (decode cX12_readsGeese 66 = .ok (.iload_n 3, 1)) ∧ (decode cX12_readsGeese 67 = .ok (.iadd, 1)) ∧ (decode cX12_readsGeese 68 = .ok (.iload 4, 2)) ∧ (decode cX12_readsGeese 70 = .ok (.iastore, 1)) := by decide +kernel
theorem dX12_readsGeese_50 : decode cX12_readsGeese 50 = .ok (.iload_n 2, 1) := dX12_readsGeese_50_a.1
theorem dX12_readsGeese_51 : decode cX12_readsGeese 51 = .ok (.ireturn, 1) := dX12_readsGeese_50_a.2.1
theorem dX12_readsGeese_52 : decode cX12_readsGeese 52 = .ok (.iload_n 3, 1) := dX12_readsGeese_50_a.2.2.1
theorem dX12_readsGeese_53 : decode cX12_readsGeese 53 = .ok (.iconst 2, 1) := dX12_readsGeese_50_a.2.2.2.1
theorem dX12_readsGeese_54 : decode cX12_readsGeese 54 = .ok (.if_icmp .ge 17, 3) := dX12_readsGeese_50_a.2.2.2.2.1
theorem dX12_readsGeese_57 : decode cX12_readsGeese 57 = .ok (.aload_n 0, 1) := dX12_readsGeese_50_a.2.2.2.2.2.1
theorem dX12_readsGeese_58 : decode cX12_readsGeese 58 = .ok (.getfield 34, 3) := dX12_readsGeese_50_a.2.2.2.2.2.2.1
theorem dX12_readsGeese_61 : decode cX12_readsGeese 61 = .ok (.iconst 2, 1) := dX12_readsGeese_50_a.2.2.2.2.2.2.2.1
theorem dX12_readsGeese_62 : decode cX12_readsGeese 62 = .ok (.iload_n 2, 1) := dX12_readsGeese_50_a.2.2.2.2.2.2.2.2.1
theorem dX12_readsGeese_63 : decode cX12_readsGeese 63 = .ok (.iconst 3, 1) := dX12_readsGeese_50_a.2.2.2.2.2.2.2.2.2.1
theorem dX12_readsGeese_64 : decode cX12_readsGeese 64 = .ok (.idiv, 1) := dX12_readsGeese_50_a.2.2.2.2.2.2.2.2.2.2.1
theorem dX12_readsGeese_65 : decode cX12_readsGeese 65 = .ok (.imul, 1) := dX12_readsGeese_50_a.2.2.2.2.2.2.2.2.2.2.2.1
theorem dX12_readsGeese_66 : decode cX12_readsGeese 66 = .ok (.iload_n 3, 1) := dX12_readsGeese_50_a.2.2.2.2.2.2.2.2.2.2.2.2.1
theorem dX12_readsGeese_67 : decode cX12_readsGeese 67 = .ok (.iadd, 1) := dX12_readsGeese_50_a.2.2.2.2.2.2.2.2.2.2.2.2.2.1
theorem dX12_readsGeese_68 : decode cX12_readsGeese 68 = .ok (.iload 4, 2) := dX12_readsGeese_50_a.2.2.2.2.2.2.2.2.2.2.2.2.2.2.1
theorem dX12_readsGeese_70 : decode cX12_readsGeese 70 = .ok (.iastore, 1) := dX12_readsGeese_50_a.2.2.2.2.2.2.2.2.2.2.2.2.2.2.2
theorem dX12_readsGeese_71_a : (decode cX12_readsGeese 71 = .ok (.aload_n 0, 1)) ∧ (decode cX12_readsGeese 72 = .ok (.dup, 1)) ∧ (decode cX12_readsGeese 73 = .ok (.getfield 122, 3)) ∧ (decode cX12_readsGeese 76 = .ok (.iload_n 3, 1)) ∧ (decode cX12_readsGeese 77 = .ok (.iconst 1, 1)) ∧ (decode cX12_readsGeese 78 = .ok (.if_icmp .ne 7, 3)) ∧ (decode cX12_readsGeese 81 = .ok (.iconst 1, 1)) ∧ (decode cX12_readsGeese 82 = .ok (.goto 4, 3)) ∧ (decode cX12_readsGeese 85 = .ok (.iconst 0, 1)) ∧ (decode cX12_readsGeese 86 = .ok (.iadd, 1)) ∧ (decode cX12_readsGeese 87 = .ok (.putfield 122, 3)) ∧ (decode cX12_readsGeese 90 = .ok (.iinc 2 1, 3)) ∧ (decode cX12_readsGeese 93 = .ok (.goto (-79), 3)) ∧ (decode cX12_readsGeese 96 = .ok (.iload_n 1, 1)) ∧ (decode cX12_readsGeese 97 = .ok (.ifCond .le 17, 3)) ∧ (decode cX12_readsGeese 100 = .ok (.iload_n 1, 1)) := by decide +kernel
theorem dX12_readsGeese_71 : decode cX12_readsGeese 71 = .ok (.aload_n 0, 1) := dX12_readsGeese_71_a.1
theorem dX12_readsGeese_72 : decode cX12_readsGeese 72 = .ok (.dup, 1) := dX12_readsGeese_71_a.2.1
theorem dX12_readsGeese_73 : decode cX12_readsGeese 73 = .ok (.getfield 122, 3) := dX12_readsGeese_71_a.2.2.1
theorem dX12_readsGeese_76 : decode cX12_readsGeese 76 = .ok (.iload_n 3, 1) := dX12_readsGeese_71_a.2.2.2.1
theorem dX12_readsGeese_77 : decode cX12_readsGeese 77 = .ok (.iconst 1, 1) := dX12_readsGeese_71_a.2.2.2.2.1
theorem dX12_readsGeese_78 : decode cX12_readsGeese 78 = .ok (.if_icmp .ne 7, 3) := dX12_readsGeese_71_a.2.2.2.2.2.1
theorem dX12_readsGeese_81 : decode cX12_readsGeese 81 = .ok (.iconst 1, 1) := dX12_readsGeese_71_a.2.2.2.2.2.2.1
theorem dX12_readsGeese_82 : decode cX12_readsGeese 82 = .ok (.goto 4, 3) := dX12_readsGeese_71_a.2.2.2.2.2.2.2.1
theorem dX12_readsGeese_85 : decode cX12_readsGeese 85 = .ok (.iconst 0, 1) := dX12_readsGeese_71_a.2.2.2.2.2.2.2.2.1
theorem dX12_readsGeese_86 : decode cX12_readsGeese 86 = .ok (.iadd, 1) := dX12_readsGeese_71_a.2.2.2.2.2.2.2.2.2.1
theorem dX12_readsGeese_87 : decode cX12_readsGeese 87 = .ok (.putfield 122, 3) := dX12_readsGeese_71_a.2.2.2.2.2.2.2.2.2.2.1
theorem dX12_readsGeese_90 : decode cX12_readsGeese 90 = .ok (.iinc 2 1, 3) := dX12_readsGeese_71_a.2.2.2.2.2.2.2.2.2.2.2.1
theorem dX12_readsGeese_93 : decode cX12_readsGeese 93 = .ok (.goto (-79), 3) := dX12_readsGeese_71_a.2.2.2.2.2.2.2.2.2.2.2.2.1
theorem dX12_readsGeese_96 : decode cX12_readsGeese 96 = .ok (.iload_n 1, 1) := dX12_readsGeese_71_a.2.2.2.2.2.2.2.2.2.2.2.2.2.1
theorem dX12_readsGeese_97 : decode cX12_readsGeese 97 = .ok (.ifCond .le 17, 3) := dX12_readsGeese_71_a.2.2.2.2.2.2.2.2.2.2.2.2.2.2.1
theorem dX12_readsGeese_100 : decode cX12_readsGeese 100 = .ok (.iload_n 1, 1) := dX12_readsGeese_71_a.2.2.2.2.2.2.2.2.2.2.2.2.2.2.2
theorem dX12_readsGeese_101_a : (decode cX12_readsGeese 101 = .ok (.iconst 3, 1)) ∧ (decode cX12_readsGeese 102 = .ok (.irem, 1)) ∧ (decode cX12_readsGeese 103 = .ok (.iconst 2, 1)) ∧ (decode cX12_readsGeese 104 = .ok (.if_icmp .eq 10, 3)) ∧ (decode cX12_readsGeese 107 = .ok (.aload_n 0, 1)) ∧ (decode cX12_readsGeese 108 = .ok (.iconst 0, 1)) ∧ (decode cX12_readsGeese 109 = .ok (.putfield 122, 3)) ∧ (decode cX12_readsGeese 112 = .ok (.iload_n 1, 1)) ∧ (decode cX12_readsGeese 113 = .ok (.ireturn, 1)) ∧ (decode cX12_readsGeese 114 = .ok (.iconst (-1), 1)) ∧ (decode cX12_readsGeese 115 = .ok (.ireturn, 1)) := by decide +kernel
theorem dX12_readsGeese_101 : decode cX12_readsGeese 101 = .ok (.iconst 3, 1) := dX12_readsGeese_101_a.1
theorem dX12_readsGeese_102 : decode cX12_readsGeese 102 = .ok (.irem, 1) := dX12_readsGeese_101_a.2.1
theorem dX12_readsGeese_103 : decode cX12_readsGeese 103 = .ok (.iconst 2, 1) := dX12_readsGeese_101_a.2.2.1
theorem dX12_readsGeese_104 : decode cX12_readsGeese 104 = .ok (.if_icmp .eq 10, 3) := dX12_readsGeese_101_a.2.2.2.1
theorem dX12_readsGeese_107 : decode cX12_readsGeese 107 = .ok (.aload_n 0, 1) := dX12_readsGeese_101_a.2.2.2.2.1
theorem dX12_readsGeese_108 : decode cX12_readsGeese 108 = .ok (.iconst 0, 1) := dX12_readsGeese_101_a.2.2.2.2.2.1
theorem dX12_readsGeese_109 : decode cX12_readsGeese 109 = .ok (.putfield 122, 3) := dX12_readsGeese_101_a.2.2.2.2.2.2.1
theorem dX12_readsGeese_112 : decode cX12_readsGeese 112 = .ok (.iload_n 1, 1) := dX12_readsGeese_101_a.2.2.2.2.2.2.2.1
theorem dX12_readsGeese_113 : decode cX12_readsGeese 113 = .ok (.ireturn, 1) := dX12_readsGeese_101_a.2.2.2.2.2.2.2.2.1
theorem dX12_readsGeese_114 : decode cX12_readsGeese 114 = .ok (.iconst (-1), 1) := dX12_readsGeese_101_a.2.2.2.2.2.2.2.2.2.1
theorem dX12_readsGeese_115 : decode cX12_readsGeese 115 = .ok (.ireturn, 1) := dX12_readsGeese_101_a.2.2.2.2.2.2.2.2.2.2
theorem dX12_readsText_0_a : (decode cX12_readsText 0 = .ok (.iload_n 1, 1)) ∧ (decode cX12_readsText 1 = .ok (.ifCond .ne 10, 3)) ∧ (decode cX12_readsText 4 = .ok (.aload_n 0, 1)) ∧ (decode cX12_readsText 5 = .ok (.invokevirtual 128, 3)) ∧ (decode cX12_readsText 8 = .ok (.goto 19, 3)) ∧ (decode cX12_readsText 11 = .ok (.iload_n 1, 1)) ∧ (decode cX12_readsText 12 = .ok (.iconst 1, 1)) ∧ (decode cX12_readsText 13 = .ok (.if_icmp .ne 10, 3)) ∧ (decode cX12_readsText 16 = .ok (.aload_n 0, 1)) ∧ (decode cX12_readsText 17 = .ok (.invokevirtual 132, 3)) ∧ (decode cX12_readsText 20 = .ok (.goto 7, 3)) ∧ (decode cX12_readsText 23 = .ok (.aload_n 0, 1)) ∧ (decode cX12_readsText 24 = .ok (.invokevirtual 135, 3)) ∧ (decode cX12_readsText 27 = .ok (.ireturn, 1)) := by decide +kernel
theorem dX12_readsText_0 : decode cX12_readsText 0 = .ok (.iload_n 1, 1) := dX12_readsText_0_a.1
theorem dX12_readsText_1 : decode cX12_readsText 1 = .ok (.ifCond .ne 10, 3) := dX12_readsText_0_a.2.1
theorem dX12_readsText_4 : decode cX12_readsText 4 = .ok (.aload_n 0, 1) := dX12_readsText_0_a.2.2.1
theorem dX12_readsText_5 : decode cX12_readsText 5 = .ok (.invokevirtual 128, 3) := dX12_readsText_0_a.2.2.2.1
theorem dX12_readsText_8 : decode cX12_readsText 8 = .ok (.goto 19, 3) := dX12_readsText_0_a.2.2.2.2.1
theorem dX12_readsText_11 : decode cX12_readsText 11 = .ok (.iload_n 1, 1) := dX12_readsText_0_a.2.2.2.2.2.1
theorem dX12_readsText_12 : decode cX12_readsText 12 = .ok (.iconst 1, 1) := dX12_readsText_0_a.2.2.2.2.2.2.1
theorem dX12_readsText_13 : decode cX12_readsText 13 = .ok (.if_icmp .ne 10, 3) := dX12_readsText_0_a.2.2.2.2.2.2.2.1
theorem dX12_readsText_16 : decode cX12_readsText 16 = .ok (.aload_n 0, 1) := dX12_readsText_0_a.2.2.2.2.2.2.2.2.1
theorem dX12_readsText_17 : decode cX12_readsText 17 = .ok (.invokevirtual 132, 3) := dX12_readsText_0_a.2.2.2.2.2.2.2.2.2.1
theorem dX12_readsText_20 : decode cX12_readsText 20 = .ok (.goto 7, 3) := dX12_readsText_0_a.2.2.2.2.2.2.2.2.2.2.1
theorem dX12_readsText_23 : decode cX12_readsText 23 = .ok (.aload_n 0, 1) := dX12_readsText_0_a.2.2.2.2.2.2.2.2.2.2.2.1
theorem dX12_readsText_24 : decode cX12_readsText 24 = .ok (.invokevirtual 135, 3) := dX12_readsText_0_a.2.2.2.2.2.2.2.2.2.2.2.2.1
theorem dX12_readsText_27 : decode cX12_readsText 27 = .ok (.ireturn, 1) := dX12_readsText_0_a.2.2.2.2.2.2.2.2.2.2.2.2.2
theorem dX12_fault_0_a : (decode cX12_fault 0 = .ok (.iload_n 1, 1)) ∧ (decode cX12_fault 1 = .ok (.invokestatic 93, 3)) ∧ (decode cX12_fault 4 = .ok (.ifCond .eq 11, 3)) ∧ (decode cX12_fault 7 = .ok (.aload_n 0, 1)) ∧ (decode cX12_fault 8 = .ok (.iload_n 1, 1)) ∧ (decode cX12_fault 9 = .ok (.invokevirtual 138, 3)) ∧ (decode cX12_fault 12 = .ok (.goto 5, 3)) ∧ (decode cX12_fault 15 = .ok (.bipush (-2), 2)) ∧ (decode cX12_fault 17 = .ok (.ireturn, 1)) := by decide +kernel
theorem dX12_fault_0 : decode cX12_fault 0 = .ok (.iload_n 1, 1) := dX12_fault_0_a.1
theorem dX12_fault_1 : decode cX12_fault 1 = .ok (.invokestatic 93, 3) := dX12_fault_0_a.2.1
theorem dX12_fault_4 : decode cX12_fault 4 = .ok (.ifCond .eq 11, 3) := dX12_fault_0_a.2.2.1
theorem dX12_fault_7 : decode cX12_fault 7 = .ok (.aload_n 0, 1) := dX12_fault_0_a.2.2.2.1
theorem dX12_fault_8 : decode cX12_fault 8 = .ok (.iload_n 1, 1) := dX12_fault_0_a.2.2.2.2.1
theorem dX12_fault_9 : decode cX12_fault 9 = .ok (.invokevirtual 138, 3) := dX12_fault_0_a.2.2.2.2.2.1
theorem dX12_fault_12 : decode cX12_fault 12 = .ok (.goto 5, 3) := dX12_fault_0_a.2.2.2.2.2.2.1
theorem dX12_fault_15 : decode cX12_fault 15 = .ok (.bipush (-2), 2) := dX12_fault_0_a.2.2.2.2.2.2.2.1
theorem dX12_fault_17 : decode cX12_fault 17 = .ok (.ireturn, 1) := dX12_fault_0_a.2.2.2.2.2.2.2.2
theorem dX12_reads_0_a : (decode cX12_reads 0 = .ok (.aload_n 0, 1)) ∧ (decode cX12_reads 1 = .ok (.invokevirtual 128, 3)) ∧ (decode cX12_reads 4 = .ok (.pop, 1)) ∧ (decode cX12_reads 5 = .ok (.aload_n 0, 1)) ∧ (decode cX12_reads 6 = .ok (.invokevirtual 132, 3)) ∧ (decode cX12_reads 9 = .ok (.pop, 1)) ∧ (decode cX12_reads 10 = .ok (.aload_n 0, 1)) ∧ (decode cX12_reads 11 = .ok (.invokevirtual 135, 3)) ∧ (decode cX12_reads 14 = .ok (.pop, 1)) ∧ (decode cX12_reads 15 = .ok (.return_, 1)) := by decide +kernel
theorem dX12_reads_0 : decode cX12_reads 0 = .ok (.aload_n 0, 1) := dX12_reads_0_a.1
theorem dX12_reads_1 : decode cX12_reads 1 = .ok (.invokevirtual 128, 3) := dX12_reads_0_a.2.1
theorem dX12_reads_4 : decode cX12_reads 4 = .ok (.pop, 1) := dX12_reads_0_a.2.2.1
theorem dX12_reads_5 : decode cX12_reads 5 = .ok (.aload_n 0, 1) := dX12_reads_0_a.2.2.2.1
theorem dX12_reads_6 : decode cX12_reads 6 = .ok (.invokevirtual 132, 3) := dX12_reads_0_a.2.2.2.2.1
theorem dX12_reads_9 : decode cX12_reads 9 = .ok (.pop, 1) := dX12_reads_0_a.2.2.2.2.2.1
theorem dX12_reads_10 : decode cX12_reads 10 = .ok (.aload_n 0, 1) := dX12_reads_0_a.2.2.2.2.2.2.1
theorem dX12_reads_11 : decode cX12_reads 11 = .ok (.invokevirtual 135, 3) := dX12_reads_0_a.2.2.2.2.2.2.2.1
theorem dX12_reads_14 : decode cX12_reads 14 = .ok (.pop, 1) := dX12_reads_0_a.2.2.2.2.2.2.2.2.1
theorem dX12_reads_15 : decode cX12_reads 15 = .ok (.return_, 1) := dX12_reads_0_a.2.2.2.2.2.2.2.2.2
theorem dX12_isPassenger_0_a : (decode cX12_isPassenger 0 = .ok (.iload_n 1, 1)) ∧ (decode cX12_isPassenger 1 = .ok (.i2l, 1)) ∧ (decode cX12_isPassenger 2 = .ok (.lconst 0, 1)) ∧ (decode cX12_isPassenger 3 = .ok (.aload_n 0, 1)) ∧ (decode cX12_isPassenger 4 = .ok (.getfield 116, 3)) ∧ (decode cX12_isPassenger 7 = .ok (.iconst 1, 1)) ∧ (decode cX12_isPassenger 8 = .ok (.isub, 1)) ∧ (decode cX12_isPassenger 9 = .ok (.i2l, 1)) ∧ (decode cX12_isPassenger 10 = .ok (.invokestatic 65, 3)) ∧ (decode cX12_isPassenger 13 = .ok (.ireturn, 1)) := by decide +kernel
theorem dX12_isPassenger_0 : decode cX12_isPassenger 0 = .ok (.iload_n 1, 1) := dX12_isPassenger_0_a.1
theorem dX12_isPassenger_1 : decode cX12_isPassenger 1 = .ok (.i2l, 1) := dX12_isPassenger_0_a.2.1
theorem dX12_isPassenger_2 : decode cX12_isPassenger 2 = .ok (.lconst 0, 1) := dX12_isPassenger_0_a.2.2.1
theorem dX12_isPassenger_3 : decode cX12_isPassenger 3 = .ok (.aload_n 0, 1) := dX12_isPassenger_0_a.2.2.2.1
theorem dX12_isPassenger_4 : decode cX12_isPassenger 4 = .ok (.getfield 116, 3) := dX12_isPassenger_0_a.2.2.2.2.1
theorem dX12_isPassenger_7 : decode cX12_isPassenger 7 = .ok (.iconst 1, 1) := dX12_isPassenger_0_a.2.2.2.2.2.1
theorem dX12_isPassenger_8 : decode cX12_isPassenger 8 = .ok (.isub, 1) := dX12_isPassenger_0_a.2.2.2.2.2.2.1
theorem dX12_isPassenger_9 : decode cX12_isPassenger 9 = .ok (.i2l, 1) := dX12_isPassenger_0_a.2.2.2.2.2.2.2.1
theorem dX12_isPassenger_10 : decode cX12_isPassenger 10 = .ok (.invokestatic 65, 3) := dX12_isPassenger_0_a.2.2.2.2.2.2.2.2.1
theorem dX12_isPassenger_13 : decode cX12_isPassenger 13 = .ok (.ireturn, 1) := dX12_isPassenger_0_a.2.2.2.2.2.2.2.2.2
theorem dX12_isGoose_0_a : (decode cX12_isGoose 0 = .ok (.iload_n 1, 1)) ∧ (decode cX12_isGoose 1 = .ok (.i2l, 1)) ∧ (decode cX12_isGoose 2 = .ok (.lconst 0, 1)) ∧ (decode cX12_isGoose 3 = .ok (.aload_n 0, 1)) ∧ (decode cX12_isGoose 4 = .ok (.getfield 122, 3)) ∧ (decode cX12_isGoose 7 = .ok (.iconst 1, 1)) ∧ (decode cX12_isGoose 8 = .ok (.isub, 1)) ∧ (decode cX12_isGoose 9 = .ok (.i2l, 1)) ∧ (decode cX12_isGoose 10 = .ok (.invokestatic 65, 3)) ∧ (decode cX12_isGoose 13 = .ok (.ireturn, 1)) := by decide +kernel
theorem dX12_isGoose_0 : decode cX12_isGoose 0 = .ok (.iload_n 1, 1) := dX12_isGoose_0_a.1
theorem dX12_isGoose_1 : decode cX12_isGoose 1 = .ok (.i2l, 1) := dX12_isGoose_0_a.2.1
theorem dX12_isGoose_2 : decode cX12_isGoose 2 = .ok (.lconst 0, 1) := dX12_isGoose_0_a.2.2.1
theorem dX12_isGoose_3 : decode cX12_isGoose 3 = .ok (.aload_n 0, 1) := dX12_isGoose_0_a.2.2.2.1
theorem dX12_isGoose_4 : decode cX12_isGoose 4 = .ok (.getfield 122, 3) := dX12_isGoose_0_a.2.2.2.2.1
theorem dX12_isGoose_7 : decode cX12_isGoose 7 = .ok (.iconst 1, 1) := dX12_isGoose_0_a.2.2.2.2.2.1
theorem dX12_isGoose_8 : decode cX12_isGoose 8 = .ok (.isub, 1) := dX12_isGoose_0_a.2.2.2.2.2.2.1
theorem dX12_isGoose_9 : decode cX12_isGoose 9 = .ok (.i2l, 1) := dX12_isGoose_0_a.2.2.2.2.2.2.2.1
theorem dX12_isGoose_10 : decode cX12_isGoose 10 = .ok (.invokestatic 65, 3) := dX12_isGoose_0_a.2.2.2.2.2.2.2.2.1
theorem dX12_isGoose_13 : decode cX12_isGoose 13 = .ok (.ireturn, 1) := dX12_isGoose_0_a.2.2.2.2.2.2.2.2.2
theorem dX12_mile_0_a : (decode cX12_mile 0 = .ok (.aload_n 0, 1)) ∧ (decode cX12_mile 1 = .ok (.invokevirtual 141, 3)) ∧ (decode cX12_mile 4 = .ok (.iload_n 1, 1)) ∧ (decode cX12_mile 5 = .ok (.i2l, 1)) ∧ (decode cX12_mile 6 = .ok (.lconst 0, 1)) ∧ (decode cX12_mile 7 = .ok (.ldc2_w 144, 3)) ∧ (decode cX12_mile 10 = .ok (.invokestatic 65, 3)) ∧ (decode cX12_mile 13 = .ok (.ifCond .ne 8, 3)) ∧ (decode cX12_mile 16 = .ok (.bipush (-2), 2)) ∧ (decode cX12_mile 18 = .ok (.goto 21, 3)) ∧ (decode cX12_mile 21 = .ok (.iload_n 1, 1)) ∧ (decode cX12_mile 22 = .ok (.aload_n 0, 1)) ∧ (decode cX12_mile 23 = .ok (.getfield 107, 3)) ∧ (decode cX12_mile 26 = .ok (.if_icmp .ge 12, 3)) ∧ (decode cX12_mile 29 = .ok (.aload_n 0, 1)) ∧ (decode cX12_mile 30 = .ok (.getfield 28, 3)) := by decide +kernel
theorem dX12_mile_0 : decode cX12_mile 0 = .ok (.aload_n 0, 1) := dX12_mile_0_a.1
theorem dX12_mile_1 : decode cX12_mile 1 = .ok (.invokevirtual 141, 3) := dX12_mile_0_a.2.1
theorem dX12_mile_4 : decode cX12_mile 4 = .ok (.iload_n 1, 1) := dX12_mile_0_a.2.2.1
theorem dX12_mile_5 : decode cX12_mile 5 = .ok (.i2l, 1) := dX12_mile_0_a.2.2.2.1
theorem dX12_mile_6 : decode cX12_mile 6 = .ok (.lconst 0, 1) := dX12_mile_0_a.2.2.2.2.1
theorem dX12_mile_7 : decode cX12_mile 7 = .ok (.ldc2_w 144, 3) := dX12_mile_0_a.2.2.2.2.2.1
theorem dX12_mile_10 : decode cX12_mile 10 = .ok (.invokestatic 65, 3) := dX12_mile_0_a.2.2.2.2.2.2.1
theorem dX12_mile_13 : decode cX12_mile 13 = .ok (.ifCond .ne 8, 3) := dX12_mile_0_a.2.2.2.2.2.2.2.1
theorem dX12_mile_16 : decode cX12_mile 16 = .ok (.bipush (-2), 2) := dX12_mile_0_a.2.2.2.2.2.2.2.2.1
theorem dX12_mile_18 : decode cX12_mile 18 = .ok (.goto 21, 3) := dX12_mile_0_a.2.2.2.2.2.2.2.2.2.1
theorem dX12_mile_21 : decode cX12_mile 21 = .ok (.iload_n 1, 1) := dX12_mile_0_a.2.2.2.2.2.2.2.2.2.2.1
theorem dX12_mile_22 : decode cX12_mile 22 = .ok (.aload_n 0, 1) := dX12_mile_0_a.2.2.2.2.2.2.2.2.2.2.2.1
theorem dX12_mile_23 : decode cX12_mile 23 = .ok (.getfield 107, 3) := dX12_mile_0_a.2.2.2.2.2.2.2.2.2.2.2.2.1
theorem dX12_mile_26 : decode cX12_mile 26 = .ok (.if_icmp .ge 12, 3) := dX12_mile_0_a.2.2.2.2.2.2.2.2.2.2.2.2.2.1
theorem dX12_mile_29 : decode cX12_mile 29 = .ok (.aload_n 0, 1) := dX12_mile_0_a.2.2.2.2.2.2.2.2.2.2.2.2.2.2.1
theorem dX12_mile_30 : decode cX12_mile 30 = .ok (.getfield 28, 3) := dX12_mile_0_a.2.2.2.2.2.2.2.2.2.2.2.2.2.2.2
theorem dX12_mile_33_a : (decode cX12_mile 33 = .ok (.iload_n 1, 1)) ∧ (decode cX12_mile 34 = .ok (.iaload, 1)) ∧ (decode cX12_mile 35 = .ok (.goto 4, 3)) ∧ (decode cX12_mile 38 = .ok (.iconst (-1), 1)) ∧ (decode cX12_mile 39 = .ok (.ireturn, 1)) := by decide +kernel
theorem dX12_mile_33 : decode cX12_mile 33 = .ok (.iload_n 1, 1) := dX12_mile_33_a.1
theorem dX12_mile_34 : decode cX12_mile 34 = .ok (.iaload, 1) := dX12_mile_33_a.2.1
theorem dX12_mile_35 : decode cX12_mile 35 = .ok (.goto 4, 3) := dX12_mile_33_a.2.2.1
theorem dX12_mile_38 : decode cX12_mile 38 = .ok (.iconst (-1), 1) := dX12_mile_33_a.2.2.2.1
theorem dX12_mile_39 : decode cX12_mile 39 = .ok (.ireturn, 1) := dX12_mile_33_a.2.2.2.2
theorem dX12_passenger_0_a : (decode cX12_passenger 0 = .ok (.aload_n 0, 1)) ∧ (decode cX12_passenger 1 = .ok (.invokevirtual 141, 3)) ∧ (decode cX12_passenger 4 = .ok (.aload_n 0, 1)) ∧ (decode cX12_passenger 5 = .ok (.iload_n 1, 1)) ∧ (decode cX12_passenger 6 = .ok (.invokevirtual 146, 3)) ∧ (decode cX12_passenger 9 = .ok (.ifCond .eq 28, 3)) ∧ (decode cX12_passenger 12 = .ok (.iload_n 2, 1)) ∧ (decode cX12_passenger 13 = .ok (.i2l, 1)) ∧ (decode cX12_passenger 14 = .ok (.lconst 0, 1)) ∧ (decode cX12_passenger 15 = .ok (.ldc2_w 72, 3)) ∧ (decode cX12_passenger 18 = .ok (.invokestatic 65, 3)) ∧ (decode cX12_passenger 21 = .ok (.ifCond .eq 16, 3)) ∧ (decode cX12_passenger 24 = .ok (.aload_n 0, 1)) ∧ (decode cX12_passenger 25 = .ok (.getfield 31, 3)) ∧ (decode cX12_passenger 28 = .ok (.iconst 4, 1)) ∧ (decode cX12_passenger 29 = .ok (.iload_n 1, 1)) := by decide +kernel
theorem dX12_passenger_0 : decode cX12_passenger 0 = .ok (.aload_n 0, 1) := dX12_passenger_0_a.1
theorem dX12_passenger_1 : decode cX12_passenger 1 = .ok (.invokevirtual 141, 3) := dX12_passenger_0_a.2.1
theorem dX12_passenger_4 : decode cX12_passenger 4 = .ok (.aload_n 0, 1) := dX12_passenger_0_a.2.2.1
theorem dX12_passenger_5 : decode cX12_passenger 5 = .ok (.iload_n 1, 1) := dX12_passenger_0_a.2.2.2.1
theorem dX12_passenger_6 : decode cX12_passenger 6 = .ok (.invokevirtual 146, 3) := dX12_passenger_0_a.2.2.2.2.1
theorem dX12_passenger_9 : decode cX12_passenger 9 = .ok (.ifCond .eq 28, 3) := dX12_passenger_0_a.2.2.2.2.2.1
theorem dX12_passenger_12 : decode cX12_passenger 12 = .ok (.iload_n 2, 1) := dX12_passenger_0_a.2.2.2.2.2.2.1
theorem dX12_passenger_13 : decode cX12_passenger 13 = .ok (.i2l, 1) := dX12_passenger_0_a.2.2.2.2.2.2.2.1
theorem dX12_passenger_14 : decode cX12_passenger 14 = .ok (.lconst 0, 1) := dX12_passenger_0_a.2.2.2.2.2.2.2.2.1
theorem dX12_passenger_15 : decode cX12_passenger 15 = .ok (.ldc2_w 72, 3) := dX12_passenger_0_a.2.2.2.2.2.2.2.2.2.1
theorem dX12_passenger_18 : decode cX12_passenger 18 = .ok (.invokestatic 65, 3) := dX12_passenger_0_a.2.2.2.2.2.2.2.2.2.2.1
theorem dX12_passenger_21 : decode cX12_passenger 21 = .ok (.ifCond .eq 16, 3) := dX12_passenger_0_a.2.2.2.2.2.2.2.2.2.2.2.1
theorem dX12_passenger_24 : decode cX12_passenger 24 = .ok (.aload_n 0, 1) := dX12_passenger_0_a.2.2.2.2.2.2.2.2.2.2.2.2.1
theorem dX12_passenger_25 : decode cX12_passenger 25 = .ok (.getfield 31, 3) := dX12_passenger_0_a.2.2.2.2.2.2.2.2.2.2.2.2.2.1
theorem dX12_passenger_28 : decode cX12_passenger 28 = .ok (.iconst 4, 1) := dX12_passenger_0_a.2.2.2.2.2.2.2.2.2.2.2.2.2.2.1
theorem dX12_passenger_29 : decode cX12_passenger 29 = .ok (.iload_n 1, 1) := dX12_passenger_0_a.2.2.2.2.2.2.2.2.2.2.2.2.2.2.2
theorem dX12_passenger_30_a : (decode cX12_passenger 30 = .ok (.imul, 1)) ∧ (decode cX12_passenger 31 = .ok (.iload_n 2, 1)) ∧ (decode cX12_passenger 32 = .ok (.iadd, 1)) ∧ (decode cX12_passenger 33 = .ok (.iaload, 1)) ∧ (decode cX12_passenger 34 = .ok (.goto 5, 3)) ∧ (decode cX12_passenger 37 = .ok (.bipush (-2), 2)) ∧ (decode cX12_passenger 39 = .ok (.ireturn, 1)) := by decide +kernel
theorem dX12_passenger_30 : decode cX12_passenger 30 = .ok (.imul, 1) := dX12_passenger_30_a.1
theorem dX12_passenger_31 : decode cX12_passenger 31 = .ok (.iload_n 2, 1) := dX12_passenger_30_a.2.1
theorem dX12_passenger_32 : decode cX12_passenger 32 = .ok (.iadd, 1) := dX12_passenger_30_a.2.2.1
theorem dX12_passenger_33 : decode cX12_passenger 33 = .ok (.iaload, 1) := dX12_passenger_30_a.2.2.2.1
theorem dX12_passenger_34 : decode cX12_passenger 34 = .ok (.goto 5, 3) := dX12_passenger_30_a.2.2.2.2.1
theorem dX12_passenger_37 : decode cX12_passenger 37 = .ok (.bipush (-2), 2) := dX12_passenger_30_a.2.2.2.2.2.1
theorem dX12_passenger_39 : decode cX12_passenger 39 = .ok (.ireturn, 1) := dX12_passenger_30_a.2.2.2.2.2.2
theorem dX12_goose_0_a : (decode cX12_goose 0 = .ok (.aload_n 0, 1)) ∧ (decode cX12_goose 1 = .ok (.invokevirtual 141, 3)) ∧ (decode cX12_goose 4 = .ok (.aload_n 0, 1)) ∧ (decode cX12_goose 5 = .ok (.iload_n 1, 1)) ∧ (decode cX12_goose 6 = .ok (.invokevirtual 149, 3)) ∧ (decode cX12_goose 9 = .ok (.ifCond .eq 23, 3)) ∧ (decode cX12_goose 12 = .ok (.iload_n 2, 1)) ∧ (decode cX12_goose 13 = .ok (.invokestatic 152, 3)) ∧ (decode cX12_goose 16 = .ok (.ifCond .eq 16, 3)) ∧ (decode cX12_goose 19 = .ok (.aload_n 0, 1)) ∧ (decode cX12_goose 20 = .ok (.getfield 34, 3)) ∧ (decode cX12_goose 23 = .ok (.iconst 2, 1)) ∧ (decode cX12_goose 24 = .ok (.iload_n 1, 1)) ∧ (decode cX12_goose 25 = .ok (.imul, 1)) ∧ (decode cX12_goose 26 = .ok (.iload_n 2, 1)) ∧ (decode cX12_goose 27 = .ok (.iadd, 1)) := by decide +kernel
theorem dX12_goose_0 : decode cX12_goose 0 = .ok (.aload_n 0, 1) := dX12_goose_0_a.1
theorem dX12_goose_1 : decode cX12_goose 1 = .ok (.invokevirtual 141, 3) := dX12_goose_0_a.2.1
theorem dX12_goose_4 : decode cX12_goose 4 = .ok (.aload_n 0, 1) := dX12_goose_0_a.2.2.1
theorem dX12_goose_5 : decode cX12_goose 5 = .ok (.iload_n 1, 1) := dX12_goose_0_a.2.2.2.1
theorem dX12_goose_6 : decode cX12_goose 6 = .ok (.invokevirtual 149, 3) := dX12_goose_0_a.2.2.2.2.1
theorem dX12_goose_9 : decode cX12_goose 9 = .ok (.ifCond .eq 23, 3) := dX12_goose_0_a.2.2.2.2.2.1
theorem dX12_goose_12 : decode cX12_goose 12 = .ok (.iload_n 2, 1) := dX12_goose_0_a.2.2.2.2.2.2.1
theorem dX12_goose_13 : decode cX12_goose 13 = .ok (.invokestatic 152, 3) := dX12_goose_0_a.2.2.2.2.2.2.2.1
theorem dX12_goose_16 : decode cX12_goose 16 = .ok (.ifCond .eq 16, 3) := dX12_goose_0_a.2.2.2.2.2.2.2.2.1
theorem dX12_goose_19 : decode cX12_goose 19 = .ok (.aload_n 0, 1) := dX12_goose_0_a.2.2.2.2.2.2.2.2.2.1
theorem dX12_goose_20 : decode cX12_goose 20 = .ok (.getfield 34, 3) := dX12_goose_0_a.2.2.2.2.2.2.2.2.2.2.1
theorem dX12_goose_23 : decode cX12_goose 23 = .ok (.iconst 2, 1) := dX12_goose_0_a.2.2.2.2.2.2.2.2.2.2.2.1
theorem dX12_goose_24 : decode cX12_goose 24 = .ok (.iload_n 1, 1) := dX12_goose_0_a.2.2.2.2.2.2.2.2.2.2.2.2.1
theorem dX12_goose_25 : decode cX12_goose 25 = .ok (.imul, 1) := dX12_goose_0_a.2.2.2.2.2.2.2.2.2.2.2.2.2.1
theorem dX12_goose_26 : decode cX12_goose 26 = .ok (.iload_n 2, 1) := dX12_goose_0_a.2.2.2.2.2.2.2.2.2.2.2.2.2.2.1
theorem dX12_goose_27 : decode cX12_goose 27 = .ok (.iadd, 1) := dX12_goose_0_a.2.2.2.2.2.2.2.2.2.2.2.2.2.2.2
theorem dX12_goose_28_a : (decode cX12_goose 28 = .ok (.iaload, 1)) ∧ (decode cX12_goose 29 = .ok (.goto 5, 3)) ∧ (decode cX12_goose 32 = .ok (.bipush (-2), 2)) ∧ (decode cX12_goose 34 = .ok (.ireturn, 1)) := by decide +kernel
theorem dX12_goose_28 : decode cX12_goose 28 = .ok (.iaload, 1) := dX12_goose_28_a.1
theorem dX12_goose_29 : decode cX12_goose 29 = .ok (.goto 5, 3) := dX12_goose_28_a.2.1
theorem dX12_goose_32 : decode cX12_goose 32 = .ok (.bipush (-2), 2) := dX12_goose_28_a.2.2.1
theorem dX12_goose_34 : decode cX12_goose 34 = .ok (.ireturn, 1) := dX12_goose_28_a.2.2.2
theorem dX12_flight_0_a : (decode cX12_flight 0 = .ok (.iload_n 1, 1)) ∧ (decode cX12_flight 1 = .ok (.i2l, 1)) ∧ (decode cX12_flight 2 = .ok (.lconst 0, 1)) ∧ (decode cX12_flight 3 = .ok (.ldc2_w 155, 3)) ∧ (decode cX12_flight 6 = .ok (.invokestatic 65, 3)) ∧ (decode cX12_flight 9 = .ok (.ifCond .eq 45, 3)) ∧ (decode cX12_flight 12 = .ok (.iload_n 2, 1)) ∧ (decode cX12_flight 13 = .ok (.i2l, 1)) ∧ (decode cX12_flight 14 = .ok (.lconst 0, 1)) ∧ (decode cX12_flight 15 = .ok (.ldc2_w 155, 3)) ∧ (decode cX12_flight 18 = .ok (.invokestatic 65, 3)) ∧ (decode cX12_flight 21 = .ok (.ifCond .eq 33, 3)) ∧ (decode cX12_flight 24 = .ok (.iload_n 3, 1)) ∧ (decode cX12_flight 25 = .ok (.i2l, 1)) ∧ (decode cX12_flight 26 = .ok (.lconst 0, 1)) ∧ (decode cX12_flight 27 = .ok (.ldc2_w 155, 3)) := by decide +kernel
theorem dX12_flight_0 : decode cX12_flight 0 = .ok (.iload_n 1, 1) := dX12_flight_0_a.1
theorem dX12_flight_1 : decode cX12_flight 1 = .ok (.i2l, 1) := dX12_flight_0_a.2.1
theorem dX12_flight_2 : decode cX12_flight 2 = .ok (.lconst 0, 1) := dX12_flight_0_a.2.2.1
theorem dX12_flight_3 : decode cX12_flight 3 = .ok (.ldc2_w 155, 3) := dX12_flight_0_a.2.2.2.1
theorem dX12_flight_6 : decode cX12_flight 6 = .ok (.invokestatic 65, 3) := dX12_flight_0_a.2.2.2.2.1
theorem dX12_flight_9 : decode cX12_flight 9 = .ok (.ifCond .eq 45, 3) := dX12_flight_0_a.2.2.2.2.2.1
theorem dX12_flight_12 : decode cX12_flight 12 = .ok (.iload_n 2, 1) := dX12_flight_0_a.2.2.2.2.2.2.1
theorem dX12_flight_13 : decode cX12_flight 13 = .ok (.i2l, 1) := dX12_flight_0_a.2.2.2.2.2.2.2.1
theorem dX12_flight_14 : decode cX12_flight 14 = .ok (.lconst 0, 1) := dX12_flight_0_a.2.2.2.2.2.2.2.2.1
theorem dX12_flight_15 : decode cX12_flight 15 = .ok (.ldc2_w 155, 3) := dX12_flight_0_a.2.2.2.2.2.2.2.2.2.1
theorem dX12_flight_18 : decode cX12_flight 18 = .ok (.invokestatic 65, 3) := dX12_flight_0_a.2.2.2.2.2.2.2.2.2.2.1
theorem dX12_flight_21 : decode cX12_flight 21 = .ok (.ifCond .eq 33, 3) := dX12_flight_0_a.2.2.2.2.2.2.2.2.2.2.2.1
theorem dX12_flight_24 : decode cX12_flight 24 = .ok (.iload_n 3, 1) := dX12_flight_0_a.2.2.2.2.2.2.2.2.2.2.2.2.1
theorem dX12_flight_25 : decode cX12_flight 25 = .ok (.i2l, 1) := dX12_flight_0_a.2.2.2.2.2.2.2.2.2.2.2.2.2.1
theorem dX12_flight_26 : decode cX12_flight 26 = .ok (.lconst 0, 1) := dX12_flight_0_a.2.2.2.2.2.2.2.2.2.2.2.2.2.2.1
theorem dX12_flight_27 : decode cX12_flight 27 = .ok (.ldc2_w 155, 3) := dX12_flight_0_a.2.2.2.2.2.2.2.2.2.2.2.2.2.2.2
theorem dX12_flight_30_a : (decode cX12_flight 30 = .ok (.invokestatic 65, 3)) ∧ (decode cX12_flight 33 = .ok (.ifCond .eq 21, 3)) ∧ (decode cX12_flight 36 = .ok (.iload_n 2, 1)) ∧ (decode cX12_flight 37 = .ok (.iload_n 3, 1)) ∧ (decode cX12_flight 38 = .ok (.if_icmp .eq 16, 3)) ∧ (decode cX12_flight 41 = .ok (.iload 4, 2)) ∧ (decode cX12_flight 43 = .ok (.i2l, 1)) ∧ (decode cX12_flight 44 = .ok (.lconst 1, 1)) ∧ (decode cX12_flight 45 = .ok (.ldc2_w 157, 3)) ∧ (decode cX12_flight 48 = .ok (.invokestatic 65, 3)) ∧ (decode cX12_flight 51 = .ok (.ifCond .ne 6, 3)) ∧ (decode cX12_flight 54 = .ok (.bipush (-2), 2)) ∧ (decode cX12_flight 56 = .ok (.ireturn, 1)) ∧ (decode cX12_flight 57 = .ok (.aload_n 0, 1)) ∧ (decode cX12_flight 58 = .ok (.getfield 159, 3)) ∧ (decode cX12_flight 61 = .ok (.bipush 8, 2)) := by decide +kernel
theorem dX12_flight_30 : decode cX12_flight 30 = .ok (.invokestatic 65, 3) := dX12_flight_30_a.1
theorem dX12_flight_33 : decode cX12_flight 33 = .ok (.ifCond .eq 21, 3) := dX12_flight_30_a.2.1
theorem dX12_flight_36 : decode cX12_flight 36 = .ok (.iload_n 2, 1) := dX12_flight_30_a.2.2.1
theorem dX12_flight_37 : decode cX12_flight 37 = .ok (.iload_n 3, 1) := dX12_flight_30_a.2.2.2.1
theorem dX12_flight_38 : decode cX12_flight 38 = .ok (.if_icmp .eq 16, 3) := dX12_flight_30_a.2.2.2.2.1
theorem dX12_flight_41 : decode cX12_flight 41 = .ok (.iload 4, 2) := dX12_flight_30_a.2.2.2.2.2.1
theorem dX12_flight_43 : decode cX12_flight 43 = .ok (.i2l, 1) := dX12_flight_30_a.2.2.2.2.2.2.1
theorem dX12_flight_44 : decode cX12_flight 44 = .ok (.lconst 1, 1) := dX12_flight_30_a.2.2.2.2.2.2.2.1
theorem dX12_flight_45 : decode cX12_flight 45 = .ok (.ldc2_w 157, 3) := dX12_flight_30_a.2.2.2.2.2.2.2.2.1
theorem dX12_flight_48 : decode cX12_flight 48 = .ok (.invokestatic 65, 3) := dX12_flight_30_a.2.2.2.2.2.2.2.2.2.1
theorem dX12_flight_51 : decode cX12_flight 51 = .ok (.ifCond .ne 6, 3) := dX12_flight_30_a.2.2.2.2.2.2.2.2.2.2.1
theorem dX12_flight_54 : decode cX12_flight 54 = .ok (.bipush (-2), 2) := dX12_flight_30_a.2.2.2.2.2.2.2.2.2.2.2.1
theorem dX12_flight_56 : decode cX12_flight 56 = .ok (.ireturn, 1) := dX12_flight_30_a.2.2.2.2.2.2.2.2.2.2.2.2.1
theorem dX12_flight_57 : decode cX12_flight 57 = .ok (.aload_n 0, 1) := dX12_flight_30_a.2.2.2.2.2.2.2.2.2.2.2.2.2.1
theorem dX12_flight_58 : decode cX12_flight 58 = .ok (.getfield 159, 3) := dX12_flight_30_a.2.2.2.2.2.2.2.2.2.2.2.2.2.2.1
theorem dX12_flight_61 : decode cX12_flight 61 = .ok (.bipush 8, 2) := dX12_flight_30_a.2.2.2.2.2.2.2.2.2.2.2.2.2.2.2
theorem dX12_flight_63_a : (decode cX12_flight 63 = .ok (.if_icmp .ne 6, 3)) ∧ (decode cX12_flight 66 = .ok (.bipush (-4), 2)) ∧ (decode cX12_flight 68 = .ok (.ireturn, 1)) ∧ (decode cX12_flight 69 = .ok (.aload_n 0, 1)) ∧ (decode cX12_flight 70 = .ok (.getfield 37, 3)) ∧ (decode cX12_flight 73 = .ok (.iconst 4, 1)) ∧ (decode cX12_flight 74 = .ok (.aload_n 0, 1)) ∧ (decode cX12_flight 75 = .ok (.getfield 159, 3)) ∧ (decode cX12_flight 78 = .ok (.imul, 1)) ∧ (decode cX12_flight 79 = .ok (.iload_n 1, 1)) ∧ (decode cX12_flight 80 = .ok (.iastore, 1)) ∧ (decode cX12_flight 81 = .ok (.aload_n 0, 1)) ∧ (decode cX12_flight 82 = .ok (.getfield 37, 3)) ∧ (decode cX12_flight 85 = .ok (.iconst 4, 1)) ∧ (decode cX12_flight 86 = .ok (.aload_n 0, 1)) ∧ (decode cX12_flight 87 = .ok (.getfield 159, 3)) := by decide +kernel
theorem dX12_flight_63 : decode cX12_flight 63 = .ok (.if_icmp .ne 6, 3) := dX12_flight_63_a.1
theorem dX12_flight_66 : decode cX12_flight 66 = .ok (.bipush (-4), 2) := dX12_flight_63_a.2.1
theorem dX12_flight_68 : decode cX12_flight 68 = .ok (.ireturn, 1) := dX12_flight_63_a.2.2.1
theorem dX12_flight_69 : decode cX12_flight 69 = .ok (.aload_n 0, 1) := dX12_flight_63_a.2.2.2.1
theorem dX12_flight_70 : decode cX12_flight 70 = .ok (.getfield 37, 3) := dX12_flight_63_a.2.2.2.2.1
theorem dX12_flight_73 : decode cX12_flight 73 = .ok (.iconst 4, 1) := dX12_flight_63_a.2.2.2.2.2.1
theorem dX12_flight_74 : decode cX12_flight 74 = .ok (.aload_n 0, 1) := dX12_flight_63_a.2.2.2.2.2.2.1
theorem dX12_flight_75 : decode cX12_flight 75 = .ok (.getfield 159, 3) := dX12_flight_63_a.2.2.2.2.2.2.2.1
theorem dX12_flight_78 : decode cX12_flight 78 = .ok (.imul, 1) := dX12_flight_63_a.2.2.2.2.2.2.2.2.1
theorem dX12_flight_79 : decode cX12_flight 79 = .ok (.iload_n 1, 1) := dX12_flight_63_a.2.2.2.2.2.2.2.2.2.1
theorem dX12_flight_80 : decode cX12_flight 80 = .ok (.iastore, 1) := dX12_flight_63_a.2.2.2.2.2.2.2.2.2.2.1
theorem dX12_flight_81 : decode cX12_flight 81 = .ok (.aload_n 0, 1) := dX12_flight_63_a.2.2.2.2.2.2.2.2.2.2.2.1
theorem dX12_flight_82 : decode cX12_flight 82 = .ok (.getfield 37, 3) := dX12_flight_63_a.2.2.2.2.2.2.2.2.2.2.2.2.1
theorem dX12_flight_85 : decode cX12_flight 85 = .ok (.iconst 4, 1) := dX12_flight_63_a.2.2.2.2.2.2.2.2.2.2.2.2.2.1
theorem dX12_flight_86 : decode cX12_flight 86 = .ok (.aload_n 0, 1) := dX12_flight_63_a.2.2.2.2.2.2.2.2.2.2.2.2.2.2.1
theorem dX12_flight_87 : decode cX12_flight 87 = .ok (.getfield 159, 3) := dX12_flight_63_a.2.2.2.2.2.2.2.2.2.2.2.2.2.2.2
theorem dX12_flight_90_a : (decode cX12_flight 90 = .ok (.imul, 1)) ∧ (decode cX12_flight 91 = .ok (.iconst 1, 1)) ∧ (decode cX12_flight 92 = .ok (.iadd, 1)) ∧ (decode cX12_flight 93 = .ok (.iload_n 2, 1)) ∧ (decode cX12_flight 94 = .ok (.iastore, 1)) ∧ (decode cX12_flight 95 = .ok (.aload_n 0, 1)) ∧ (decode cX12_flight 96 = .ok (.getfield 37, 3)) ∧ (decode cX12_flight 99 = .ok (.iconst 4, 1)) ∧ (decode cX12_flight 100 = .ok (.aload_n 0, 1)) ∧ (decode cX12_flight 101 = .ok (.getfield 159, 3)) ∧ (decode cX12_flight 104 = .ok (.imul, 1)) ∧ (decode cX12_flight 105 = .ok (.iconst 2, 1)) ∧ (decode cX12_flight 106 = .ok (.iadd, 1)) ∧ (decode cX12_flight 107 = .ok (.iload_n 3, 1)) ∧ (decode cX12_flight 108 = .ok (.iastore, 1)) ∧ (decode cX12_flight 109 = .ok (.aload_n 0, 1)) := by decide +kernel
theorem dX12_flight_90 : decode cX12_flight 90 = .ok (.imul, 1) := dX12_flight_90_a.1
theorem dX12_flight_91 : decode cX12_flight 91 = .ok (.iconst 1, 1) := dX12_flight_90_a.2.1
theorem dX12_flight_92 : decode cX12_flight 92 = .ok (.iadd, 1) := dX12_flight_90_a.2.2.1
theorem dX12_flight_93 : decode cX12_flight 93 = .ok (.iload_n 2, 1) := dX12_flight_90_a.2.2.2.1
theorem dX12_flight_94 : decode cX12_flight 94 = .ok (.iastore, 1) := dX12_flight_90_a.2.2.2.2.1
theorem dX12_flight_95 : decode cX12_flight 95 = .ok (.aload_n 0, 1) := dX12_flight_90_a.2.2.2.2.2.1
theorem dX12_flight_96 : decode cX12_flight 96 = .ok (.getfield 37, 3) := dX12_flight_90_a.2.2.2.2.2.2.1
theorem dX12_flight_99 : decode cX12_flight 99 = .ok (.iconst 4, 1) := dX12_flight_90_a.2.2.2.2.2.2.2.1
theorem dX12_flight_100 : decode cX12_flight 100 = .ok (.aload_n 0, 1) := dX12_flight_90_a.2.2.2.2.2.2.2.2.1
theorem dX12_flight_101 : decode cX12_flight 101 = .ok (.getfield 159, 3) := dX12_flight_90_a.2.2.2.2.2.2.2.2.2.1
theorem dX12_flight_104 : decode cX12_flight 104 = .ok (.imul, 1) := dX12_flight_90_a.2.2.2.2.2.2.2.2.2.2.1
theorem dX12_flight_105 : decode cX12_flight 105 = .ok (.iconst 2, 1) := dX12_flight_90_a.2.2.2.2.2.2.2.2.2.2.2.1
theorem dX12_flight_106 : decode cX12_flight 106 = .ok (.iadd, 1) := dX12_flight_90_a.2.2.2.2.2.2.2.2.2.2.2.2.1
theorem dX12_flight_107 : decode cX12_flight 107 = .ok (.iload_n 3, 1) := dX12_flight_90_a.2.2.2.2.2.2.2.2.2.2.2.2.2.1
theorem dX12_flight_108 : decode cX12_flight 108 = .ok (.iastore, 1) := dX12_flight_90_a.2.2.2.2.2.2.2.2.2.2.2.2.2.2.1
theorem dX12_flight_109 : decode cX12_flight 109 = .ok (.aload_n 0, 1) := dX12_flight_90_a.2.2.2.2.2.2.2.2.2.2.2.2.2.2.2
theorem dX12_flight_110_a : (decode cX12_flight 110 = .ok (.getfield 37, 3)) ∧ (decode cX12_flight 113 = .ok (.iconst 4, 1)) ∧ (decode cX12_flight 114 = .ok (.aload_n 0, 1)) ∧ (decode cX12_flight 115 = .ok (.getfield 159, 3)) ∧ (decode cX12_flight 118 = .ok (.imul, 1)) ∧ (decode cX12_flight 119 = .ok (.iconst 3, 1)) ∧ (decode cX12_flight 120 = .ok (.iadd, 1)) ∧ (decode cX12_flight 121 = .ok (.iload 4, 2)) ∧ (decode cX12_flight 123 = .ok (.iastore, 1)) ∧ (decode cX12_flight 124 = .ok (.aload_n 0, 1)) ∧ (decode cX12_flight 125 = .ok (.dup, 1)) ∧ (decode cX12_flight 126 = .ok (.getfield 159, 3)) ∧ (decode cX12_flight 129 = .ok (.iconst 1, 1)) ∧ (decode cX12_flight 130 = .ok (.iadd, 1)) ∧ (decode cX12_flight 131 = .ok (.putfield 159, 3)) ∧ (decode cX12_flight 134 = .ok (.aload_n 0, 1)) := by decide +kernel
theorem dX12_flight_110 : decode cX12_flight 110 = .ok (.getfield 37, 3) := dX12_flight_110_a.1
theorem dX12_flight_113 : decode cX12_flight 113 = .ok (.iconst 4, 1) := dX12_flight_110_a.2.1
theorem dX12_flight_114 : decode cX12_flight 114 = .ok (.aload_n 0, 1) := dX12_flight_110_a.2.2.1
theorem dX12_flight_115 : decode cX12_flight 115 = .ok (.getfield 159, 3) := dX12_flight_110_a.2.2.2.1
theorem dX12_flight_118 : decode cX12_flight 118 = .ok (.imul, 1) := dX12_flight_110_a.2.2.2.2.1
theorem dX12_flight_119 : decode cX12_flight 119 = .ok (.iconst 3, 1) := dX12_flight_110_a.2.2.2.2.2.1
theorem dX12_flight_120 : decode cX12_flight 120 = .ok (.iadd, 1) := dX12_flight_110_a.2.2.2.2.2.2.1
theorem dX12_flight_121 : decode cX12_flight 121 = .ok (.iload 4, 2) := dX12_flight_110_a.2.2.2.2.2.2.2.1
theorem dX12_flight_123 : decode cX12_flight 123 = .ok (.iastore, 1) := dX12_flight_110_a.2.2.2.2.2.2.2.2.1
theorem dX12_flight_124 : decode cX12_flight 124 = .ok (.aload_n 0, 1) := dX12_flight_110_a.2.2.2.2.2.2.2.2.2.1
theorem dX12_flight_125 : decode cX12_flight 125 = .ok (.dup, 1) := dX12_flight_110_a.2.2.2.2.2.2.2.2.2.2.1
theorem dX12_flight_126 : decode cX12_flight 126 = .ok (.getfield 159, 3) := dX12_flight_110_a.2.2.2.2.2.2.2.2.2.2.2.1
theorem dX12_flight_129 : decode cX12_flight 129 = .ok (.iconst 1, 1) := dX12_flight_110_a.2.2.2.2.2.2.2.2.2.2.2.2.1
theorem dX12_flight_130 : decode cX12_flight 130 = .ok (.iadd, 1) := dX12_flight_110_a.2.2.2.2.2.2.2.2.2.2.2.2.2.1
theorem dX12_flight_131 : decode cX12_flight 131 = .ok (.putfield 159, 3) := dX12_flight_110_a.2.2.2.2.2.2.2.2.2.2.2.2.2.2.1
theorem dX12_flight_134 : decode cX12_flight 134 = .ok (.aload_n 0, 1) := dX12_flight_110_a.2.2.2.2.2.2.2.2.2.2.2.2.2.2.2
theorem dX12_flight_135_a : (decode cX12_flight 135 = .ok (.getfield 159, 3)) ∧ (decode cX12_flight 138 = .ok (.ireturn, 1)) := by decide +kernel
theorem dX12_flight_135 : decode cX12_flight 135 = .ok (.getfield 159, 3) := dX12_flight_135_a.1
theorem dX12_flight_138 : decode cX12_flight 138 = .ok (.ireturn, 1) := dX12_flight_135_a.2
theorem dX12_back_0_a : (decode cX12_back 0 = .ok (.aload_n 0, 1)) ∧ (decode cX12_back 1 = .ok (.getfield 159, 3)) ∧ (decode cX12_back 4 = .ok (.ifCond .ne 6, 3)) ∧ (decode cX12_back 7 = .ok (.bipush (-3), 2)) ∧ (decode cX12_back 9 = .ok (.ireturn, 1)) ∧ (decode cX12_back 10 = .ok (.aload_n 0, 1)) ∧ (decode cX12_back 11 = .ok (.dup, 1)) ∧ (decode cX12_back 12 = .ok (.getfield 159, 3)) ∧ (decode cX12_back 15 = .ok (.iconst 1, 1)) ∧ (decode cX12_back 16 = .ok (.isub, 1)) ∧ (decode cX12_back 17 = .ok (.putfield 159, 3)) ∧ (decode cX12_back 20 = .ok (.aload_n 0, 1)) ∧ (decode cX12_back 21 = .ok (.getfield 159, 3)) ∧ (decode cX12_back 24 = .ok (.ireturn, 1)) := by decide +kernel
theorem dX12_back_0 : decode cX12_back 0 = .ok (.aload_n 0, 1) := dX12_back_0_a.1
theorem dX12_back_1 : decode cX12_back 1 = .ok (.getfield 159, 3) := dX12_back_0_a.2.1
theorem dX12_back_4 : decode cX12_back 4 = .ok (.ifCond .ne 6, 3) := dX12_back_0_a.2.2.1
theorem dX12_back_7 : decode cX12_back 7 = .ok (.bipush (-3), 2) := dX12_back_0_a.2.2.2.1
theorem dX12_back_9 : decode cX12_back 9 = .ok (.ireturn, 1) := dX12_back_0_a.2.2.2.2.1
theorem dX12_back_10 : decode cX12_back 10 = .ok (.aload_n 0, 1) := dX12_back_0_a.2.2.2.2.2.1
theorem dX12_back_11 : decode cX12_back 11 = .ok (.dup, 1) := dX12_back_0_a.2.2.2.2.2.2.1
theorem dX12_back_12 : decode cX12_back 12 = .ok (.getfield 159, 3) := dX12_back_0_a.2.2.2.2.2.2.2.1
theorem dX12_back_15 : decode cX12_back 15 = .ok (.iconst 1, 1) := dX12_back_0_a.2.2.2.2.2.2.2.2.1
theorem dX12_back_16 : decode cX12_back 16 = .ok (.isub, 1) := dX12_back_0_a.2.2.2.2.2.2.2.2.2.1
theorem dX12_back_17 : decode cX12_back 17 = .ok (.putfield 159, 3) := dX12_back_0_a.2.2.2.2.2.2.2.2.2.2.1
theorem dX12_back_20 : decode cX12_back 20 = .ok (.aload_n 0, 1) := dX12_back_0_a.2.2.2.2.2.2.2.2.2.2.2.1
theorem dX12_back_21 : decode cX12_back 21 = .ok (.getfield 159, 3) := dX12_back_0_a.2.2.2.2.2.2.2.2.2.2.2.2.1
theorem dX12_back_24 : decode cX12_back 24 = .ok (.ireturn, 1) := dX12_back_0_a.2.2.2.2.2.2.2.2.2.2.2.2.2
theorem dX12_read_0_a : (decode cX12_read 0 = .ok (.iload_n 1, 1)) ∧ (decode cX12_read 1 = .ok (.invokestatic 74, 3)) ∧ (decode cX12_read 4 = .ok (.ifCond .ne 6, 3)) ∧ (decode cX12_read 7 = .ok (.bipush (-2), 2)) ∧ (decode cX12_read 9 = .ok (.ireturn, 1)) ∧ (decode cX12_read 10 = .ok (.aload_n 0, 1)) ∧ (decode cX12_read 11 = .ok (.getfield 7, 3)) ∧ (decode cX12_read 14 = .ok (.iload_n 1, 1)) ∧ (decode cX12_read 15 = .ok (.iaload, 1)) ∧ (decode cX12_read 16 = .ok (.ifCond .ge 9, 3)) ∧ (decode cX12_read 19 = .ok (.aload_n 0, 1)) ∧ (decode cX12_read 20 = .ok (.iconst 1, 1)) ∧ (decode cX12_read 21 = .ok (.invokevirtual 80, 3)) ∧ (decode cX12_read 24 = .ok (.ireturn, 1)) ∧ (decode cX12_read 25 = .ok (.iconst 0, 1)) ∧ (decode cX12_read 26 = .ok (.istore_n 2, 1)) := by decide +kernel
theorem dX12_read_0 : decode cX12_read 0 = .ok (.iload_n 1, 1) := dX12_read_0_a.1
theorem dX12_read_1 : decode cX12_read 1 = .ok (.invokestatic 74, 3) := dX12_read_0_a.2.1
theorem dX12_read_4 : decode cX12_read 4 = .ok (.ifCond .ne 6, 3) := dX12_read_0_a.2.2.1
theorem dX12_read_7 : decode cX12_read 7 = .ok (.bipush (-2), 2) := dX12_read_0_a.2.2.2.1
theorem dX12_read_9 : decode cX12_read 9 = .ok (.ireturn, 1) := dX12_read_0_a.2.2.2.2.1
theorem dX12_read_10 : decode cX12_read 10 = .ok (.aload_n 0, 1) := dX12_read_0_a.2.2.2.2.2.1
theorem dX12_read_11 : decode cX12_read 11 = .ok (.getfield 7, 3) := dX12_read_0_a.2.2.2.2.2.2.1
theorem dX12_read_14 : decode cX12_read 14 = .ok (.iload_n 1, 1) := dX12_read_0_a.2.2.2.2.2.2.2.1
theorem dX12_read_15 : decode cX12_read 15 = .ok (.iaload, 1) := dX12_read_0_a.2.2.2.2.2.2.2.2.1
theorem dX12_read_16 : decode cX12_read 16 = .ok (.ifCond .ge 9, 3) := dX12_read_0_a.2.2.2.2.2.2.2.2.2.1
theorem dX12_read_19 : decode cX12_read 19 = .ok (.aload_n 0, 1) := dX12_read_0_a.2.2.2.2.2.2.2.2.2.2.1
theorem dX12_read_20 : decode cX12_read 20 = .ok (.iconst 1, 1) := dX12_read_0_a.2.2.2.2.2.2.2.2.2.2.2.1
theorem dX12_read_21 : decode cX12_read 21 = .ok (.invokevirtual 80, 3) := dX12_read_0_a.2.2.2.2.2.2.2.2.2.2.2.2.1
theorem dX12_read_24 : decode cX12_read 24 = .ok (.ireturn, 1) := dX12_read_0_a.2.2.2.2.2.2.2.2.2.2.2.2.2.1
theorem dX12_read_25 : decode cX12_read 25 = .ok (.iconst 0, 1) := dX12_read_0_a.2.2.2.2.2.2.2.2.2.2.2.2.2.2.1
theorem dX12_read_26 : decode cX12_read 26 = .ok (.istore_n 2, 1) := dX12_read_0_a.2.2.2.2.2.2.2.2.2.2.2.2.2.2.2
theorem dX12_read_27_a : (decode cX12_read 27 = .ok (.iconst 1, 1)) ∧ (decode cX12_read 28 = .ok (.istore_n 3, 1)) ∧ (decode cX12_read 29 = .ok (.iload_n 3, 1)) ∧ (decode cX12_read 30 = .ok (.ifCond .eq 89, 3)) ∧ (decode cX12_read 33 = .ok (.iconst 4, 1)) ∧ (decode cX12_read 34 = .ok (.iload_n 2, 1)) ∧ (decode cX12_read 35 = .ok (.imul, 1)) ∧ (decode cX12_read 36 = .ok (.iconst 4, 1)) ∧ (decode cX12_read 37 = .ok (.iadd, 1)) ∧ (decode cX12_read 38 = .ok (.aload_n 0, 1)) ∧ (decode cX12_read 39 = .ok (.getfield 13, 3)) ∧ (decode cX12_read 42 = .ok (.iload_n 1, 1)) ∧ (decode cX12_read 43 = .ok (.iaload, 1)) ∧ (decode cX12_read 44 = .ok (.if_icmp .gt 75, 3)) ∧ (decode cX12_read 47 = .ok (.bipush 60, 2)) ∧ (decode cX12_read 49 = .ok (.iload_n 1, 1)) := by decide +kernel
theorem dX12_read_27 : decode cX12_read 27 = .ok (.iconst 1, 1) := dX12_read_27_a.1
theorem dX12_read_28 : decode cX12_read 28 = .ok (.istore_n 3, 1) := dX12_read_27_a.2.1
theorem dX12_read_29 : decode cX12_read 29 = .ok (.iload_n 3, 1) := dX12_read_27_a.2.2.1
theorem dX12_read_30 : decode cX12_read 30 = .ok (.ifCond .eq 89, 3) := dX12_read_27_a.2.2.2.1
theorem dX12_read_33 : decode cX12_read 33 = .ok (.iconst 4, 1) := dX12_read_27_a.2.2.2.2.1
theorem dX12_read_34 : decode cX12_read 34 = .ok (.iload_n 2, 1) := dX12_read_27_a.2.2.2.2.2.1
theorem dX12_read_35 : decode cX12_read 35 = .ok (.imul, 1) := dX12_read_27_a.2.2.2.2.2.2.1
theorem dX12_read_36 : decode cX12_read 36 = .ok (.iconst 4, 1) := dX12_read_27_a.2.2.2.2.2.2.2.1
theorem dX12_read_37 : decode cX12_read 37 = .ok (.iadd, 1) := dX12_read_27_a.2.2.2.2.2.2.2.2.1
theorem dX12_read_38 : decode cX12_read 38 = .ok (.aload_n 0, 1) := dX12_read_27_a.2.2.2.2.2.2.2.2.2.1
theorem dX12_read_39 : decode cX12_read 39 = .ok (.getfield 13, 3) := dX12_read_27_a.2.2.2.2.2.2.2.2.2.2.1
theorem dX12_read_42 : decode cX12_read 42 = .ok (.iload_n 1, 1) := dX12_read_27_a.2.2.2.2.2.2.2.2.2.2.2.1
theorem dX12_read_43 : decode cX12_read 43 = .ok (.iaload, 1) := dX12_read_27_a.2.2.2.2.2.2.2.2.2.2.2.2.1
theorem dX12_read_44 : decode cX12_read 44 = .ok (.if_icmp .gt 75, 3) := dX12_read_27_a.2.2.2.2.2.2.2.2.2.2.2.2.2.1
theorem dX12_read_47 : decode cX12_read 47 = .ok (.bipush 60, 2) := dX12_read_27_a.2.2.2.2.2.2.2.2.2.2.2.2.2.2.1
theorem dX12_read_49 : decode cX12_read 49 = .ok (.iload_n 1, 1) := dX12_read_27_a.2.2.2.2.2.2.2.2.2.2.2.2.2.2.2
theorem dX12_read_50_a : (decode cX12_read 50 = .ok (.imul, 1)) ∧ (decode cX12_read 51 = .ok (.iconst 4, 1)) ∧ (decode cX12_read 52 = .ok (.iload_n 2, 1)) ∧ (decode cX12_read 53 = .ok (.imul, 1)) ∧ (decode cX12_read 54 = .ok (.iadd, 1)) ∧ (decode cX12_read 55 = .ok (.istore 4, 2)) ∧ (decode cX12_read 57 = .ok (.aload_n 0, 1)) ∧ (decode cX12_read 58 = .ok (.aload_n 0, 1)) ∧ (decode cX12_read 59 = .ok (.getfield 16, 3)) ∧ (decode cX12_read 62 = .ok (.iload 4, 2)) ∧ (decode cX12_read 64 = .ok (.iaload, 1)) ∧ (decode cX12_read 65 = .ok (.aload_n 0, 1)) ∧ (decode cX12_read 66 = .ok (.getfield 16, 3)) ∧ (decode cX12_read 69 = .ok (.iload 4, 2)) ∧ (decode cX12_read 71 = .ok (.iconst 1, 1)) ∧ (decode cX12_read 72 = .ok (.iadd, 1)) := by decide +kernel
theorem dX12_read_50 : decode cX12_read 50 = .ok (.imul, 1) := dX12_read_50_a.1
theorem dX12_read_51 : decode cX12_read 51 = .ok (.iconst 4, 1) := dX12_read_50_a.2.1
theorem dX12_read_52 : decode cX12_read 52 = .ok (.iload_n 2, 1) := dX12_read_50_a.2.2.1
theorem dX12_read_53 : decode cX12_read 53 = .ok (.imul, 1) := dX12_read_50_a.2.2.2.1
theorem dX12_read_54 : decode cX12_read 54 = .ok (.iadd, 1) := dX12_read_50_a.2.2.2.2.1
theorem dX12_read_55 : decode cX12_read 55 = .ok (.istore 4, 2) := dX12_read_50_a.2.2.2.2.2.1
theorem dX12_read_57 : decode cX12_read 57 = .ok (.aload_n 0, 1) := dX12_read_50_a.2.2.2.2.2.2.1
theorem dX12_read_58 : decode cX12_read 58 = .ok (.aload_n 0, 1) := dX12_read_50_a.2.2.2.2.2.2.2.1
theorem dX12_read_59 : decode cX12_read 59 = .ok (.getfield 16, 3) := dX12_read_50_a.2.2.2.2.2.2.2.2.1
theorem dX12_read_62 : decode cX12_read 62 = .ok (.iload 4, 2) := dX12_read_50_a.2.2.2.2.2.2.2.2.2.1
theorem dX12_read_64 : decode cX12_read 64 = .ok (.iaload, 1) := dX12_read_50_a.2.2.2.2.2.2.2.2.2.2.1
theorem dX12_read_65 : decode cX12_read 65 = .ok (.aload_n 0, 1) := dX12_read_50_a.2.2.2.2.2.2.2.2.2.2.2.1
theorem dX12_read_66 : decode cX12_read 66 = .ok (.getfield 16, 3) := dX12_read_50_a.2.2.2.2.2.2.2.2.2.2.2.2.1
theorem dX12_read_69 : decode cX12_read 69 = .ok (.iload 4, 2) := dX12_read_50_a.2.2.2.2.2.2.2.2.2.2.2.2.2.1
theorem dX12_read_71 : decode cX12_read 71 = .ok (.iconst 1, 1) := dX12_read_50_a.2.2.2.2.2.2.2.2.2.2.2.2.2.2.1
theorem dX12_read_72 : decode cX12_read 72 = .ok (.iadd, 1) := dX12_read_50_a.2.2.2.2.2.2.2.2.2.2.2.2.2.2.2
theorem dX12_read_73_a : (decode cX12_read 73 = .ok (.iaload, 1)) ∧ (decode cX12_read 74 = .ok (.aload_n 0, 1)) ∧ (decode cX12_read 75 = .ok (.getfield 16, 3)) ∧ (decode cX12_read 78 = .ok (.iload 4, 2)) ∧ (decode cX12_read 80 = .ok (.iconst 2, 1)) ∧ (decode cX12_read 81 = .ok (.iadd, 1)) ∧ (decode cX12_read 82 = .ok (.iaload, 1)) ∧ (decode cX12_read 83 = .ok (.aload_n 0, 1)) ∧ (decode cX12_read 84 = .ok (.getfield 16, 3)) ∧ (decode cX12_read 87 = .ok (.iload 4, 2)) ∧ (decode cX12_read 89 = .ok (.iconst 3, 1)) ∧ (decode cX12_read 90 = .ok (.iadd, 1)) ∧ (decode cX12_read 91 = .ok (.iaload, 1)) ∧ (decode cX12_read 92 = .ok (.invokevirtual 162, 3)) ∧ (decode cX12_read 95 = .ok (.ifCond .lt 7, 3)) ∧ (decode cX12_read 98 = .ok (.iconst 1, 1)) := by decide +kernel
theorem dX12_read_73 : decode cX12_read 73 = .ok (.iaload, 1) := dX12_read_73_a.1
theorem dX12_read_74 : decode cX12_read 74 = .ok (.aload_n 0, 1) := dX12_read_73_a.2.1
theorem dX12_read_75 : decode cX12_read 75 = .ok (.getfield 16, 3) := dX12_read_73_a.2.2.1
theorem dX12_read_78 : decode cX12_read 78 = .ok (.iload 4, 2) := dX12_read_73_a.2.2.2.1
theorem dX12_read_80 : decode cX12_read 80 = .ok (.iconst 2, 1) := dX12_read_73_a.2.2.2.2.1
theorem dX12_read_81 : decode cX12_read 81 = .ok (.iadd, 1) := dX12_read_73_a.2.2.2.2.2.1
theorem dX12_read_82 : decode cX12_read 82 = .ok (.iaload, 1) := dX12_read_73_a.2.2.2.2.2.2.1
theorem dX12_read_83 : decode cX12_read 83 = .ok (.aload_n 0, 1) := dX12_read_73_a.2.2.2.2.2.2.2.1
theorem dX12_read_84 : decode cX12_read 84 = .ok (.getfield 16, 3) := dX12_read_73_a.2.2.2.2.2.2.2.2.1
theorem dX12_read_87 : decode cX12_read 87 = .ok (.iload 4, 2) := dX12_read_73_a.2.2.2.2.2.2.2.2.2.1
theorem dX12_read_89 : decode cX12_read 89 = .ok (.iconst 3, 1) := dX12_read_73_a.2.2.2.2.2.2.2.2.2.2.1
theorem dX12_read_90 : decode cX12_read 90 = .ok (.iadd, 1) := dX12_read_73_a.2.2.2.2.2.2.2.2.2.2.2.1
theorem dX12_read_91 : decode cX12_read 91 = .ok (.iaload, 1) := dX12_read_73_a.2.2.2.2.2.2.2.2.2.2.2.2.1
theorem dX12_read_92 : decode cX12_read 92 = .ok (.invokevirtual 162, 3) := dX12_read_73_a.2.2.2.2.2.2.2.2.2.2.2.2.2.1
theorem dX12_read_95 : decode cX12_read 95 = .ok (.ifCond .lt 7, 3) := dX12_read_73_a.2.2.2.2.2.2.2.2.2.2.2.2.2.2.1
theorem dX12_read_98 : decode cX12_read 98 = .ok (.iconst 1, 1) := dX12_read_73_a.2.2.2.2.2.2.2.2.2.2.2.2.2.2.2
theorem dX12_read_99_a : (decode cX12_read 99 = .ok (.goto 4, 3)) ∧ (decode cX12_read 102 = .ok (.iconst 0, 1)) ∧ (decode cX12_read 103 = .ok (.istore_n 3, 1)) ∧ (decode cX12_read 104 = .ok (.iload_n 2, 1)) ∧ (decode cX12_read 105 = .ok (.iload_n 3, 1)) ∧ (decode cX12_read 106 = .ok (.ifCond .eq 7, 3)) ∧ (decode cX12_read 109 = .ok (.iconst 1, 1)) ∧ (decode cX12_read 110 = .ok (.goto 4, 3)) ∧ (decode cX12_read 113 = .ok (.iconst 0, 1)) ∧ (decode cX12_read 114 = .ok (.iadd, 1)) ∧ (decode cX12_read 115 = .ok (.istore_n 2, 1)) ∧ (decode cX12_read 116 = .ok (.goto (-87), 3)) ∧ (decode cX12_read 119 = .ok (.iload_n 2, 1)) ∧ (decode cX12_read 120 = .ok (.ireturn, 1)) := by decide +kernel
theorem dX12_read_99 : decode cX12_read 99 = .ok (.goto 4, 3) := dX12_read_99_a.1
theorem dX12_read_102 : decode cX12_read 102 = .ok (.iconst 0, 1) := dX12_read_99_a.2.1
theorem dX12_read_103 : decode cX12_read 103 = .ok (.istore_n 3, 1) := dX12_read_99_a.2.2.1
theorem dX12_read_104 : decode cX12_read 104 = .ok (.iload_n 2, 1) := dX12_read_99_a.2.2.2.1
theorem dX12_read_105 : decode cX12_read 105 = .ok (.iload_n 3, 1) := dX12_read_99_a.2.2.2.2.1
theorem dX12_read_106 : decode cX12_read 106 = .ok (.ifCond .eq 7, 3) := dX12_read_99_a.2.2.2.2.2.1
theorem dX12_read_109 : decode cX12_read 109 = .ok (.iconst 1, 1) := dX12_read_99_a.2.2.2.2.2.2.1
theorem dX12_read_110 : decode cX12_read 110 = .ok (.goto 4, 3) := dX12_read_99_a.2.2.2.2.2.2.2.1
theorem dX12_read_113 : decode cX12_read 113 = .ok (.iconst 0, 1) := dX12_read_99_a.2.2.2.2.2.2.2.2.1
theorem dX12_read_114 : decode cX12_read 114 = .ok (.iadd, 1) := dX12_read_99_a.2.2.2.2.2.2.2.2.2.1
theorem dX12_read_115 : decode cX12_read 115 = .ok (.istore_n 2, 1) := dX12_read_99_a.2.2.2.2.2.2.2.2.2.2.1
theorem dX12_read_116 : decode cX12_read 116 = .ok (.goto (-87), 3) := dX12_read_99_a.2.2.2.2.2.2.2.2.2.2.2.1
theorem dX12_read_119 : decode cX12_read 119 = .ok (.iload_n 2, 1) := dX12_read_99_a.2.2.2.2.2.2.2.2.2.2.2.2.1
theorem dX12_read_120 : decode cX12_read 120 = .ok (.ireturn, 1) := dX12_read_99_a.2.2.2.2.2.2.2.2.2.2.2.2.2
theorem dX12_learn_0_a : (decode cX12_learn 0 = .ok (.iload_n 1, 1)) ∧ (decode cX12_learn 1 = .ok (.i2l, 1)) ∧ (decode cX12_learn 2 = .ok (.lconst 0, 1)) ∧ (decode cX12_learn 3 = .ok (.ldc2_w 165, 3)) ∧ (decode cX12_learn 6 = .ok (.invokestatic 65, 3)) ∧ (decode cX12_learn 9 = .ok (.ifCond .ne 6, 3)) ∧ (decode cX12_learn 12 = .ok (.bipush (-2), 2)) ∧ (decode cX12_learn 14 = .ok (.ireturn, 1)) ∧ (decode cX12_learn 15 = .ok (.aload_n 0, 1)) ∧ (decode cX12_learn 16 = .ok (.getfield 167, 3)) ∧ (decode cX12_learn 19 = .ok (.istore_n 2, 1)) ∧ (decode cX12_learn 20 = .ok (.aload_n 0, 1)) ∧ (decode cX12_learn 21 = .ok (.iload_n 1, 1)) ∧ (decode cX12_learn 22 = .ok (.putfield 167, 3)) ∧ (decode cX12_learn 25 = .ok (.iload_n 2, 1)) ∧ (decode cX12_learn 26 = .ok (.ireturn, 1)) := by decide +kernel
theorem dX12_learn_0 : decode cX12_learn 0 = .ok (.iload_n 1, 1) := dX12_learn_0_a.1
theorem dX12_learn_1 : decode cX12_learn 1 = .ok (.i2l, 1) := dX12_learn_0_a.2.1
theorem dX12_learn_2 : decode cX12_learn 2 = .ok (.lconst 0, 1) := dX12_learn_0_a.2.2.1
theorem dX12_learn_3 : decode cX12_learn 3 = .ok (.ldc2_w 165, 3) := dX12_learn_0_a.2.2.2.1
theorem dX12_learn_6 : decode cX12_learn 6 = .ok (.invokestatic 65, 3) := dX12_learn_0_a.2.2.2.2.1
theorem dX12_learn_9 : decode cX12_learn 9 = .ok (.ifCond .ne 6, 3) := dX12_learn_0_a.2.2.2.2.2.1
theorem dX12_learn_12 : decode cX12_learn 12 = .ok (.bipush (-2), 2) := dX12_learn_0_a.2.2.2.2.2.2.1
theorem dX12_learn_14 : decode cX12_learn 14 = .ok (.ireturn, 1) := dX12_learn_0_a.2.2.2.2.2.2.2.1
theorem dX12_learn_15 : decode cX12_learn 15 = .ok (.aload_n 0, 1) := dX12_learn_0_a.2.2.2.2.2.2.2.2.1
theorem dX12_learn_16 : decode cX12_learn 16 = .ok (.getfield 167, 3) := dX12_learn_0_a.2.2.2.2.2.2.2.2.2.1
theorem dX12_learn_19 : decode cX12_learn 19 = .ok (.istore_n 2, 1) := dX12_learn_0_a.2.2.2.2.2.2.2.2.2.2.1
theorem dX12_learn_20 : decode cX12_learn 20 = .ok (.aload_n 0, 1) := dX12_learn_0_a.2.2.2.2.2.2.2.2.2.2.2.1
theorem dX12_learn_21 : decode cX12_learn 21 = .ok (.iload_n 1, 1) := dX12_learn_0_a.2.2.2.2.2.2.2.2.2.2.2.2.1
theorem dX12_learn_22 : decode cX12_learn 22 = .ok (.putfield 167, 3) := dX12_learn_0_a.2.2.2.2.2.2.2.2.2.2.2.2.2.1
theorem dX12_learn_25 : decode cX12_learn 25 = .ok (.iload_n 2, 1) := dX12_learn_0_a.2.2.2.2.2.2.2.2.2.2.2.2.2.2.1
theorem dX12_learn_26 : decode cX12_learn 26 = .ok (.ireturn, 1) := dX12_learn_0_a.2.2.2.2.2.2.2.2.2.2.2.2.2.2.2
theorem dX12_isFlight_0_a : (decode cX12_isFlight 0 = .ok (.iload_n 1, 1)) ∧ (decode cX12_isFlight 1 = .ok (.i2l, 1)) ∧ (decode cX12_isFlight 2 = .ok (.lconst 0, 1)) ∧ (decode cX12_isFlight 3 = .ok (.aload_n 0, 1)) ∧ (decode cX12_isFlight 4 = .ok (.getfield 159, 3)) ∧ (decode cX12_isFlight 7 = .ok (.iconst 1, 1)) ∧ (decode cX12_isFlight 8 = .ok (.isub, 1)) ∧ (decode cX12_isFlight 9 = .ok (.i2l, 1)) ∧ (decode cX12_isFlight 10 = .ok (.invokestatic 65, 3)) ∧ (decode cX12_isFlight 13 = .ok (.ireturn, 1)) := by decide +kernel
theorem dX12_isFlight_0 : decode cX12_isFlight 0 = .ok (.iload_n 1, 1) := dX12_isFlight_0_a.1
theorem dX12_isFlight_1 : decode cX12_isFlight 1 = .ok (.i2l, 1) := dX12_isFlight_0_a.2.1
theorem dX12_isFlight_2 : decode cX12_isFlight 2 = .ok (.lconst 0, 1) := dX12_isFlight_0_a.2.2.1
theorem dX12_isFlight_3 : decode cX12_isFlight 3 = .ok (.aload_n 0, 1) := dX12_isFlight_0_a.2.2.2.1
theorem dX12_isFlight_4 : decode cX12_isFlight 4 = .ok (.getfield 159, 3) := dX12_isFlight_0_a.2.2.2.2.1
theorem dX12_isFlight_7 : decode cX12_isFlight 7 = .ok (.iconst 1, 1) := dX12_isFlight_0_a.2.2.2.2.2.1
theorem dX12_isFlight_8 : decode cX12_isFlight 8 = .ok (.isub, 1) := dX12_isFlight_0_a.2.2.2.2.2.2.1
theorem dX12_isFlight_9 : decode cX12_isFlight 9 = .ok (.i2l, 1) := dX12_isFlight_0_a.2.2.2.2.2.2.2.1
theorem dX12_isFlight_10 : decode cX12_isFlight 10 = .ok (.invokestatic 65, 3) := dX12_isFlight_0_a.2.2.2.2.2.2.2.2.1
theorem dX12_isFlight_13 : decode cX12_isFlight 13 = .ok (.ireturn, 1) := dX12_isFlight_0_a.2.2.2.2.2.2.2.2.2
theorem dX12_changes_0_a : (decode cX12_changes 0 = .ok (.aload_n 0, 1)) ∧ (decode cX12_changes 1 = .ok (.getfield 43, 3)) ∧ (decode cX12_changes 4 = .ok (.iconst 0, 1)) ∧ (decode cX12_changes 5 = .ok (.iaload, 1)) ∧ (decode cX12_changes 6 = .ok (.istore_n 1, 1)) ∧ (decode cX12_changes 7 = .ok (.aload_n 0, 1)) ∧ (decode cX12_changes 8 = .ok (.getfield 46, 3)) ∧ (decode cX12_changes 11 = .ok (.iconst 0, 1)) ∧ (decode cX12_changes 12 = .ok (.iaload, 1)) ∧ (decode cX12_changes 13 = .ok (.istore_n 2, 1)) ∧ (decode cX12_changes 14 = .ok (.aload_n 0, 1)) ∧ (decode cX12_changes 15 = .ok (.getfield 49, 3)) ∧ (decode cX12_changes 18 = .ok (.iconst 0, 1)) ∧ (decode cX12_changes 19 = .ok (.iaload, 1)) ∧ (decode cX12_changes 20 = .ok (.istore_n 3, 1)) ∧ (decode cX12_changes 21 = .ok (.aload_n 0, 1)) := by decide +kernel
theorem dX12_changes_0 : decode cX12_changes 0 = .ok (.aload_n 0, 1) := dX12_changes_0_a.1
theorem dX12_changes_1 : decode cX12_changes 1 = .ok (.getfield 43, 3) := dX12_changes_0_a.2.1
theorem dX12_changes_4 : decode cX12_changes 4 = .ok (.iconst 0, 1) := dX12_changes_0_a.2.2.1
theorem dX12_changes_5 : decode cX12_changes 5 = .ok (.iaload, 1) := dX12_changes_0_a.2.2.2.1
theorem dX12_changes_6 : decode cX12_changes 6 = .ok (.istore_n 1, 1) := dX12_changes_0_a.2.2.2.2.1
theorem dX12_changes_7 : decode cX12_changes 7 = .ok (.aload_n 0, 1) := dX12_changes_0_a.2.2.2.2.2.1
theorem dX12_changes_8 : decode cX12_changes 8 = .ok (.getfield 46, 3) := dX12_changes_0_a.2.2.2.2.2.2.1
theorem dX12_changes_11 : decode cX12_changes 11 = .ok (.iconst 0, 1) := dX12_changes_0_a.2.2.2.2.2.2.2.1
theorem dX12_changes_12 : decode cX12_changes 12 = .ok (.iaload, 1) := dX12_changes_0_a.2.2.2.2.2.2.2.2.1
theorem dX12_changes_13 : decode cX12_changes 13 = .ok (.istore_n 2, 1) := dX12_changes_0_a.2.2.2.2.2.2.2.2.2.1
theorem dX12_changes_14 : decode cX12_changes 14 = .ok (.aload_n 0, 1) := dX12_changes_0_a.2.2.2.2.2.2.2.2.2.2.1
theorem dX12_changes_15 : decode cX12_changes 15 = .ok (.getfield 49, 3) := dX12_changes_0_a.2.2.2.2.2.2.2.2.2.2.2.1
theorem dX12_changes_18 : decode cX12_changes 18 = .ok (.iconst 0, 1) := dX12_changes_0_a.2.2.2.2.2.2.2.2.2.2.2.2.1
theorem dX12_changes_19 : decode cX12_changes 19 = .ok (.iaload, 1) := dX12_changes_0_a.2.2.2.2.2.2.2.2.2.2.2.2.2.1
theorem dX12_changes_20 : decode cX12_changes 20 = .ok (.istore_n 3, 1) := dX12_changes_0_a.2.2.2.2.2.2.2.2.2.2.2.2.2.2.1
theorem dX12_changes_21 : decode cX12_changes 21 = .ok (.aload_n 0, 1) := dX12_changes_0_a.2.2.2.2.2.2.2.2.2.2.2.2.2.2.2
theorem dX12_changes_22_a : (decode cX12_changes 22 = .ok (.getfield 43, 3)) ∧ (decode cX12_changes 25 = .ok (.iconst 0, 1)) ∧ (decode cX12_changes 26 = .ok (.aload_n 0, 1)) ∧ (decode cX12_changes 27 = .ok (.getfield 43, 3)) ∧ (decode cX12_changes 30 = .ok (.iconst 1, 1)) ∧ (decode cX12_changes 31 = .ok (.iaload, 1)) ∧ (decode cX12_changes 32 = .ok (.iastore, 1)) ∧ (decode cX12_changes 33 = .ok (.aload_n 0, 1)) ∧ (decode cX12_changes 34 = .ok (.getfield 46, 3)) ∧ (decode cX12_changes 37 = .ok (.iconst 0, 1)) ∧ (decode cX12_changes 38 = .ok (.aload_n 0, 1)) ∧ (decode cX12_changes 39 = .ok (.getfield 46, 3)) ∧ (decode cX12_changes 42 = .ok (.iconst 1, 1)) ∧ (decode cX12_changes 43 = .ok (.iaload, 1)) ∧ (decode cX12_changes 44 = .ok (.iastore, 1)) ∧ (decode cX12_changes 45 = .ok (.aload_n 0, 1)) := by decide +kernel
theorem dX12_changes_22 : decode cX12_changes 22 = .ok (.getfield 43, 3) := dX12_changes_22_a.1
theorem dX12_changes_25 : decode cX12_changes 25 = .ok (.iconst 0, 1) := dX12_changes_22_a.2.1
theorem dX12_changes_26 : decode cX12_changes 26 = .ok (.aload_n 0, 1) := dX12_changes_22_a.2.2.1
theorem dX12_changes_27 : decode cX12_changes 27 = .ok (.getfield 43, 3) := dX12_changes_22_a.2.2.2.1
theorem dX12_changes_30 : decode cX12_changes 30 = .ok (.iconst 1, 1) := dX12_changes_22_a.2.2.2.2.1
theorem dX12_changes_31 : decode cX12_changes 31 = .ok (.iaload, 1) := dX12_changes_22_a.2.2.2.2.2.1
theorem dX12_changes_32 : decode cX12_changes 32 = .ok (.iastore, 1) := dX12_changes_22_a.2.2.2.2.2.2.1
theorem dX12_changes_33 : decode cX12_changes 33 = .ok (.aload_n 0, 1) := dX12_changes_22_a.2.2.2.2.2.2.2.1
theorem dX12_changes_34 : decode cX12_changes 34 = .ok (.getfield 46, 3) := dX12_changes_22_a.2.2.2.2.2.2.2.2.1
theorem dX12_changes_37 : decode cX12_changes 37 = .ok (.iconst 0, 1) := dX12_changes_22_a.2.2.2.2.2.2.2.2.2.1
theorem dX12_changes_38 : decode cX12_changes 38 = .ok (.aload_n 0, 1) := dX12_changes_22_a.2.2.2.2.2.2.2.2.2.2.1
theorem dX12_changes_39 : decode cX12_changes 39 = .ok (.getfield 46, 3) := dX12_changes_22_a.2.2.2.2.2.2.2.2.2.2.2.1
theorem dX12_changes_42 : decode cX12_changes 42 = .ok (.iconst 1, 1) := dX12_changes_22_a.2.2.2.2.2.2.2.2.2.2.2.2.1
theorem dX12_changes_43 : decode cX12_changes 43 = .ok (.iaload, 1) := dX12_changes_22_a.2.2.2.2.2.2.2.2.2.2.2.2.2.1
theorem dX12_changes_44 : decode cX12_changes 44 = .ok (.iastore, 1) := dX12_changes_22_a.2.2.2.2.2.2.2.2.2.2.2.2.2.2.1
theorem dX12_changes_45 : decode cX12_changes 45 = .ok (.aload_n 0, 1) := dX12_changes_22_a.2.2.2.2.2.2.2.2.2.2.2.2.2.2.2
theorem dX12_changes_46_a : (decode cX12_changes 46 = .ok (.getfield 49, 3)) ∧ (decode cX12_changes 49 = .ok (.iconst 0, 1)) ∧ (decode cX12_changes 50 = .ok (.aload_n 0, 1)) ∧ (decode cX12_changes 51 = .ok (.getfield 49, 3)) ∧ (decode cX12_changes 54 = .ok (.iconst 1, 1)) ∧ (decode cX12_changes 55 = .ok (.iaload, 1)) ∧ (decode cX12_changes 56 = .ok (.iastore, 1)) ∧ (decode cX12_changes 57 = .ok (.aload_n 0, 1)) ∧ (decode cX12_changes 58 = .ok (.getfield 43, 3)) ∧ (decode cX12_changes 61 = .ok (.iconst 1, 1)) ∧ (decode cX12_changes 62 = .ok (.iload_n 1, 1)) ∧ (decode cX12_changes 63 = .ok (.iastore, 1)) ∧ (decode cX12_changes 64 = .ok (.aload_n 0, 1)) ∧ (decode cX12_changes 65 = .ok (.getfield 46, 3)) ∧ (decode cX12_changes 68 = .ok (.iconst 1, 1)) ∧ (decode cX12_changes 69 = .ok (.iload_n 2, 1)) := by decide +kernel
theorem dX12_changes_46 : decode cX12_changes 46 = .ok (.getfield 49, 3) := dX12_changes_46_a.1
theorem dX12_changes_49 : decode cX12_changes 49 = .ok (.iconst 0, 1) := dX12_changes_46_a.2.1
theorem dX12_changes_50 : decode cX12_changes 50 = .ok (.aload_n 0, 1) := dX12_changes_46_a.2.2.1
theorem dX12_changes_51 : decode cX12_changes 51 = .ok (.getfield 49, 3) := dX12_changes_46_a.2.2.2.1
theorem dX12_changes_54 : decode cX12_changes 54 = .ok (.iconst 1, 1) := dX12_changes_46_a.2.2.2.2.1
theorem dX12_changes_55 : decode cX12_changes 55 = .ok (.iaload, 1) := dX12_changes_46_a.2.2.2.2.2.1
theorem dX12_changes_56 : decode cX12_changes 56 = .ok (.iastore, 1) := dX12_changes_46_a.2.2.2.2.2.2.1
theorem dX12_changes_57 : decode cX12_changes 57 = .ok (.aload_n 0, 1) := dX12_changes_46_a.2.2.2.2.2.2.2.1
theorem dX12_changes_58 : decode cX12_changes 58 = .ok (.getfield 43, 3) := dX12_changes_46_a.2.2.2.2.2.2.2.2.1
theorem dX12_changes_61 : decode cX12_changes 61 = .ok (.iconst 1, 1) := dX12_changes_46_a.2.2.2.2.2.2.2.2.2.1
theorem dX12_changes_62 : decode cX12_changes 62 = .ok (.iload_n 1, 1) := dX12_changes_46_a.2.2.2.2.2.2.2.2.2.2.1
theorem dX12_changes_63 : decode cX12_changes 63 = .ok (.iastore, 1) := dX12_changes_46_a.2.2.2.2.2.2.2.2.2.2.2.1
theorem dX12_changes_64 : decode cX12_changes 64 = .ok (.aload_n 0, 1) := dX12_changes_46_a.2.2.2.2.2.2.2.2.2.2.2.2.1
theorem dX12_changes_65 : decode cX12_changes 65 = .ok (.getfield 46, 3) := dX12_changes_46_a.2.2.2.2.2.2.2.2.2.2.2.2.2.1
theorem dX12_changes_68 : decode cX12_changes 68 = .ok (.iconst 1, 1) := dX12_changes_46_a.2.2.2.2.2.2.2.2.2.2.2.2.2.2.1
theorem dX12_changes_69 : decode cX12_changes 69 = .ok (.iload_n 2, 1) := dX12_changes_46_a.2.2.2.2.2.2.2.2.2.2.2.2.2.2.2
theorem dX12_changes_70_a : (decode cX12_changes 70 = .ok (.iastore, 1)) ∧ (decode cX12_changes 71 = .ok (.aload_n 0, 1)) ∧ (decode cX12_changes 72 = .ok (.getfield 49, 3)) ∧ (decode cX12_changes 75 = .ok (.iconst 1, 1)) ∧ (decode cX12_changes 76 = .ok (.iload_n 3, 1)) ∧ (decode cX12_changes 77 = .ok (.iastore, 1)) ∧ (decode cX12_changes 78 = .ok (.return_, 1)) := by decide +kernel
theorem dX12_changes_70 : decode cX12_changes 70 = .ok (.iastore, 1) := dX12_changes_70_a.1
theorem dX12_changes_71 : decode cX12_changes 71 = .ok (.aload_n 0, 1) := dX12_changes_70_a.2.1
theorem dX12_changes_72 : decode cX12_changes 72 = .ok (.getfield 49, 3) := dX12_changes_70_a.2.2.1
theorem dX12_changes_75 : decode cX12_changes 75 = .ok (.iconst 1, 1) := dX12_changes_70_a.2.2.2.1
theorem dX12_changes_76 : decode cX12_changes 76 = .ok (.iload_n 3, 1) := dX12_changes_70_a.2.2.2.2.1
theorem dX12_changes_77 : decode cX12_changes 77 = .ok (.iastore, 1) := dX12_changes_70_a.2.2.2.2.2.1
theorem dX12_changes_78 : decode cX12_changes 78 = .ok (.return_, 1) := dX12_changes_70_a.2.2.2.2.2.2
theorem dX12_tires_0_a : (decode cX12_tires 0 = .ok (.aload_n 0, 1)) ∧ (decode cX12_tires 1 = .ok (.getfield 49, 3)) ∧ (decode cX12_tires 4 = .ok (.iload_n 1, 1)) ∧ (decode cX12_tires 5 = .ok (.dup2, 1)) ∧ (decode cX12_tires 6 = .ok (.iaload, 1)) ∧ (decode cX12_tires 7 = .ok (.iconst 1, 1)) ∧ (decode cX12_tires 8 = .ok (.iadd, 1)) ∧ (decode cX12_tires 9 = .ok (.iastore, 1)) ∧ (decode cX12_tires 10 = .ok (.aload_n 0, 1)) ∧ (decode cX12_tires 11 = .ok (.getfield 49, 3)) ∧ (decode cX12_tires 14 = .ok (.iload_n 1, 1)) ∧ (decode cX12_tires 15 = .ok (.iaload, 1)) ∧ (decode cX12_tires 16 = .ok (.aload_n 0, 1)) ∧ (decode cX12_tires 17 = .ok (.getfield 34, 3)) ∧ (decode cX12_tires 20 = .ok (.iconst 2, 1)) ∧ (decode cX12_tires 21 = .ok (.aload_n 0, 1)) := by decide +kernel
theorem dX12_tires_0 : decode cX12_tires 0 = .ok (.aload_n 0, 1) := dX12_tires_0_a.1
theorem dX12_tires_1 : decode cX12_tires 1 = .ok (.getfield 49, 3) := dX12_tires_0_a.2.1
theorem dX12_tires_4 : decode cX12_tires 4 = .ok (.iload_n 1, 1) := dX12_tires_0_a.2.2.1
theorem dX12_tires_5 : decode cX12_tires 5 = .ok (.dup2, 1) := dX12_tires_0_a.2.2.2.1
theorem dX12_tires_6 : decode cX12_tires 6 = .ok (.iaload, 1) := dX12_tires_0_a.2.2.2.2.1
theorem dX12_tires_7 : decode cX12_tires 7 = .ok (.iconst 1, 1) := dX12_tires_0_a.2.2.2.2.2.1
theorem dX12_tires_8 : decode cX12_tires 8 = .ok (.iadd, 1) := dX12_tires_0_a.2.2.2.2.2.2.1
theorem dX12_tires_9 : decode cX12_tires 9 = .ok (.iastore, 1) := dX12_tires_0_a.2.2.2.2.2.2.2.1
theorem dX12_tires_10 : decode cX12_tires 10 = .ok (.aload_n 0, 1) := dX12_tires_0_a.2.2.2.2.2.2.2.2.1
theorem dX12_tires_11 : decode cX12_tires 11 = .ok (.getfield 49, 3) := dX12_tires_0_a.2.2.2.2.2.2.2.2.2.1
theorem dX12_tires_14 : decode cX12_tires 14 = .ok (.iload_n 1, 1) := dX12_tires_0_a.2.2.2.2.2.2.2.2.2.2.1
theorem dX12_tires_15 : decode cX12_tires 15 = .ok (.iaload, 1) := dX12_tires_0_a.2.2.2.2.2.2.2.2.2.2.2.1
theorem dX12_tires_16 : decode cX12_tires 16 = .ok (.aload_n 0, 1) := dX12_tires_0_a.2.2.2.2.2.2.2.2.2.2.2.2.1
theorem dX12_tires_17 : decode cX12_tires 17 = .ok (.getfield 34, 3) := dX12_tires_0_a.2.2.2.2.2.2.2.2.2.2.2.2.2.1
theorem dX12_tires_20 : decode cX12_tires 20 = .ok (.iconst 2, 1) := dX12_tires_0_a.2.2.2.2.2.2.2.2.2.2.2.2.2.2.1
theorem dX12_tires_21 : decode cX12_tires 21 = .ok (.aload_n 0, 1) := dX12_tires_0_a.2.2.2.2.2.2.2.2.2.2.2.2.2.2.2
theorem dX12_tires_22_a : (decode cX12_tires 22 = .ok (.getfield 43, 3)) ∧ (decode cX12_tires 25 = .ok (.iload_n 1, 1)) ∧ (decode cX12_tires 26 = .ok (.iaload, 1)) ∧ (decode cX12_tires 27 = .ok (.imul, 1)) ∧ (decode cX12_tires 28 = .ok (.iconst 1, 1)) ∧ (decode cX12_tires 29 = .ok (.iadd, 1)) ∧ (decode cX12_tires 30 = .ok (.iaload, 1)) ∧ (decode cX12_tires 31 = .ok (.if_icmp .ne 20, 3)) ∧ (decode cX12_tires 34 = .ok (.aload_n 0, 1)) ∧ (decode cX12_tires 35 = .ok (.getfield 49, 3)) ∧ (decode cX12_tires 38 = .ok (.iload_n 1, 1)) ∧ (decode cX12_tires 39 = .ok (.iconst 0, 1)) ∧ (decode cX12_tires 40 = .ok (.iastore, 1)) ∧ (decode cX12_tires 41 = .ok (.aload_n 0, 1)) ∧ (decode cX12_tires 42 = .ok (.getfield 46, 3)) ∧ (decode cX12_tires 45 = .ok (.iload_n 1, 1)) := by decide +kernel
theorem dX12_tires_22 : decode cX12_tires 22 = .ok (.getfield 43, 3) := dX12_tires_22_a.1
theorem dX12_tires_25 : decode cX12_tires 25 = .ok (.iload_n 1, 1) := dX12_tires_22_a.2.1
theorem dX12_tires_26 : decode cX12_tires 26 = .ok (.iaload, 1) := dX12_tires_22_a.2.2.1
theorem dX12_tires_27 : decode cX12_tires 27 = .ok (.imul, 1) := dX12_tires_22_a.2.2.2.1
theorem dX12_tires_28 : decode cX12_tires 28 = .ok (.iconst 1, 1) := dX12_tires_22_a.2.2.2.2.1
theorem dX12_tires_29 : decode cX12_tires 29 = .ok (.iadd, 1) := dX12_tires_22_a.2.2.2.2.2.1
theorem dX12_tires_30 : decode cX12_tires 30 = .ok (.iaload, 1) := dX12_tires_22_a.2.2.2.2.2.2.1
theorem dX12_tires_31 : decode cX12_tires 31 = .ok (.if_icmp .ne 20, 3) := dX12_tires_22_a.2.2.2.2.2.2.2.1
theorem dX12_tires_34 : decode cX12_tires 34 = .ok (.aload_n 0, 1) := dX12_tires_22_a.2.2.2.2.2.2.2.2.1
theorem dX12_tires_35 : decode cX12_tires 35 = .ok (.getfield 49, 3) := dX12_tires_22_a.2.2.2.2.2.2.2.2.2.1
theorem dX12_tires_38 : decode cX12_tires 38 = .ok (.iload_n 1, 1) := dX12_tires_22_a.2.2.2.2.2.2.2.2.2.2.1
theorem dX12_tires_39 : decode cX12_tires 39 = .ok (.iconst 0, 1) := dX12_tires_22_a.2.2.2.2.2.2.2.2.2.2.2.1
theorem dX12_tires_40 : decode cX12_tires 40 = .ok (.iastore, 1) := dX12_tires_22_a.2.2.2.2.2.2.2.2.2.2.2.2.1
theorem dX12_tires_41 : decode cX12_tires 41 = .ok (.aload_n 0, 1) := dX12_tires_22_a.2.2.2.2.2.2.2.2.2.2.2.2.2.1
theorem dX12_tires_42 : decode cX12_tires 42 = .ok (.getfield 46, 3) := dX12_tires_22_a.2.2.2.2.2.2.2.2.2.2.2.2.2.2.1
theorem dX12_tires_45 : decode cX12_tires 45 = .ok (.iload_n 1, 1) := dX12_tires_22_a.2.2.2.2.2.2.2.2.2.2.2.2.2.2.2
theorem dX12_tires_46_a : (decode cX12_tires 46 = .ok (.dup2, 1)) ∧ (decode cX12_tires 47 = .ok (.iaload, 1)) ∧ (decode cX12_tires 48 = .ok (.iconst 1, 1)) ∧ (decode cX12_tires 49 = .ok (.isub, 1)) ∧ (decode cX12_tires 50 = .ok (.iastore, 1)) ∧ (decode cX12_tires 51 = .ok (.return_, 1)) := by decide +kernel
theorem dX12_tires_46 : decode cX12_tires 46 = .ok (.dup2, 1) := dX12_tires_46_a.1
theorem dX12_tires_47 : decode cX12_tires 47 = .ok (.iaload, 1) := dX12_tires_46_a.2.1
theorem dX12_tires_48 : decode cX12_tires 48 = .ok (.iconst 1, 1) := dX12_tires_46_a.2.2.1
theorem dX12_tires_49 : decode cX12_tires 49 = .ok (.isub, 1) := dX12_tires_46_a.2.2.2.1
theorem dX12_tires_50 : decode cX12_tires 50 = .ok (.iastore, 1) := dX12_tires_46_a.2.2.2.2.1
theorem dX12_tires_51 : decode cX12_tires 51 = .ok (.return_, 1) := dX12_tires_46_a.2.2.2.2.2
theorem dX12_angerBy_0_a : (decode cX12_angerBy 0 = .ok (.aload_n 0, 1)) ∧ (decode cX12_angerBy 1 = .ok (.getfield 31, 3)) ∧ (decode cX12_angerBy 4 = .ok (.iconst 4, 1)) ∧ (decode cX12_angerBy 5 = .ok (.iload_n 1, 1)) ∧ (decode cX12_angerBy 6 = .ok (.imul, 1)) ∧ (decode cX12_angerBy 7 = .ok (.iaload, 1)) ∧ (decode cX12_angerBy 8 = .ok (.istore 4, 2)) ∧ (decode cX12_angerBy 10 = .ok (.iload 4, 2)) ∧ (decode cX12_angerBy 12 = .ok (.iconst 1, 1)) ∧ (decode cX12_angerBy 13 = .ok (.if_icmp .eq 15, 3)) ∧ (decode cX12_angerBy 16 = .ok (.iload 4, 2)) ∧ (decode cX12_angerBy 18 = .ok (.iconst 3, 1)) ∧ (decode cX12_angerBy 19 = .ok (.if_icmp .ne 11, 3)) ∧ (decode cX12_angerBy 22 = .ok (.iload_n 3, 1)) ∧ (decode cX12_angerBy 23 = .ok (.bipush 6, 2)) ∧ (decode cX12_angerBy 25 = .ok (.if_icmp .le 5, 3)) := by decide +kernel
theorem dX12_angerBy_0 : decode cX12_angerBy 0 = .ok (.aload_n 0, 1) := dX12_angerBy_0_a.1
theorem dX12_angerBy_1 : decode cX12_angerBy 1 = .ok (.getfield 31, 3) := dX12_angerBy_0_a.2.1
theorem dX12_angerBy_4 : decode cX12_angerBy 4 = .ok (.iconst 4, 1) := dX12_angerBy_0_a.2.2.1
theorem dX12_angerBy_5 : decode cX12_angerBy 5 = .ok (.iload_n 1, 1) := dX12_angerBy_0_a.2.2.2.1
theorem dX12_angerBy_6 : decode cX12_angerBy 6 = .ok (.imul, 1) := dX12_angerBy_0_a.2.2.2.2.1
theorem dX12_angerBy_7 : decode cX12_angerBy 7 = .ok (.iaload, 1) := dX12_angerBy_0_a.2.2.2.2.2.1
theorem dX12_angerBy_8 : decode cX12_angerBy 8 = .ok (.istore 4, 2) := dX12_angerBy_0_a.2.2.2.2.2.2.1
theorem dX12_angerBy_10 : decode cX12_angerBy 10 = .ok (.iload 4, 2) := dX12_angerBy_0_a.2.2.2.2.2.2.2.1
theorem dX12_angerBy_12 : decode cX12_angerBy 12 = .ok (.iconst 1, 1) := dX12_angerBy_0_a.2.2.2.2.2.2.2.2.1
theorem dX12_angerBy_13 : decode cX12_angerBy 13 = .ok (.if_icmp .eq 15, 3) := dX12_angerBy_0_a.2.2.2.2.2.2.2.2.2.1
theorem dX12_angerBy_16 : decode cX12_angerBy 16 = .ok (.iload 4, 2) := dX12_angerBy_0_a.2.2.2.2.2.2.2.2.2.2.1
theorem dX12_angerBy_18 : decode cX12_angerBy 18 = .ok (.iconst 3, 1) := dX12_angerBy_0_a.2.2.2.2.2.2.2.2.2.2.2.1
theorem dX12_angerBy_19 : decode cX12_angerBy 19 = .ok (.if_icmp .ne 11, 3) := dX12_angerBy_0_a.2.2.2.2.2.2.2.2.2.2.2.2.1
theorem dX12_angerBy_22 : decode cX12_angerBy 22 = .ok (.iload_n 3, 1) := dX12_angerBy_0_a.2.2.2.2.2.2.2.2.2.2.2.2.2.1
theorem dX12_angerBy_23 : decode cX12_angerBy 23 = .ok (.bipush 6, 2) := dX12_angerBy_0_a.2.2.2.2.2.2.2.2.2.2.2.2.2.2.1
theorem dX12_angerBy_25 : decode cX12_angerBy 25 = .ok (.if_icmp .le 5, 3) := dX12_angerBy_0_a.2.2.2.2.2.2.2.2.2.2.2.2.2.2.2
theorem dX12_angerBy_28_a : (decode cX12_angerBy 28 = .ok (.iconst 0, 1)) ∧ (decode cX12_angerBy 29 = .ok (.ireturn, 1)) ∧ (decode cX12_angerBy 30 = .ok (.aload_n 0, 1)) ∧ (decode cX12_angerBy 31 = .ok (.getfield 31, 3)) ∧ (decode cX12_angerBy 34 = .ok (.iconst 4, 1)) ∧ (decode cX12_angerBy 35 = .ok (.iload_n 1, 1)) ∧ (decode cX12_angerBy 36 = .ok (.imul, 1)) ∧ (decode cX12_angerBy 37 = .ok (.iconst 1, 1)) ∧ (decode cX12_angerBy 38 = .ok (.iadd, 1)) ∧ (decode cX12_angerBy 39 = .ok (.iaload, 1)) ∧ (decode cX12_angerBy 40 = .ok (.iload_n 2, 1)) ∧ (decode cX12_angerBy 41 = .ok (.if_icmp .ne 12, 3)) ∧ (decode cX12_angerBy 44 = .ok (.iconst 2, 1)) ∧ (decode cX12_angerBy 45 = .ok (.bipush 10, 2)) ∧ (decode cX12_angerBy 47 = .ok (.iload_n 3, 1)) ∧ (decode cX12_angerBy 48 = .ok (.isub, 1)) := by decide +kernel
theorem dX12_angerBy_28 : decode cX12_angerBy 28 = .ok (.iconst 0, 1) := dX12_angerBy_28_a.1
theorem dX12_angerBy_29 : decode cX12_angerBy 29 = .ok (.ireturn, 1) := dX12_angerBy_28_a.2.1
theorem dX12_angerBy_30 : decode cX12_angerBy 30 = .ok (.aload_n 0, 1) := dX12_angerBy_28_a.2.2.1
theorem dX12_angerBy_31 : decode cX12_angerBy 31 = .ok (.getfield 31, 3) := dX12_angerBy_28_a.2.2.2.1
theorem dX12_angerBy_34 : decode cX12_angerBy 34 = .ok (.iconst 4, 1) := dX12_angerBy_28_a.2.2.2.2.1
theorem dX12_angerBy_35 : decode cX12_angerBy 35 = .ok (.iload_n 1, 1) := dX12_angerBy_28_a.2.2.2.2.2.1
theorem dX12_angerBy_36 : decode cX12_angerBy 36 = .ok (.imul, 1) := dX12_angerBy_28_a.2.2.2.2.2.2.1
theorem dX12_angerBy_37 : decode cX12_angerBy 37 = .ok (.iconst 1, 1) := dX12_angerBy_28_a.2.2.2.2.2.2.2.1
theorem dX12_angerBy_38 : decode cX12_angerBy 38 = .ok (.iadd, 1) := dX12_angerBy_28_a.2.2.2.2.2.2.2.2.1
theorem dX12_angerBy_39 : decode cX12_angerBy 39 = .ok (.iaload, 1) := dX12_angerBy_28_a.2.2.2.2.2.2.2.2.2.1
theorem dX12_angerBy_40 : decode cX12_angerBy 40 = .ok (.iload_n 2, 1) := dX12_angerBy_28_a.2.2.2.2.2.2.2.2.2.2.1
theorem dX12_angerBy_41 : decode cX12_angerBy 41 = .ok (.if_icmp .ne 12, 3) := dX12_angerBy_28_a.2.2.2.2.2.2.2.2.2.2.2.1
theorem dX12_angerBy_44 : decode cX12_angerBy 44 = .ok (.iconst 2, 1) := dX12_angerBy_28_a.2.2.2.2.2.2.2.2.2.2.2.2.1
theorem dX12_angerBy_45 : decode cX12_angerBy 45 = .ok (.bipush 10, 2) := dX12_angerBy_28_a.2.2.2.2.2.2.2.2.2.2.2.2.2.1
theorem dX12_angerBy_47 : decode cX12_angerBy 47 = .ok (.iload_n 3, 1) := dX12_angerBy_28_a.2.2.2.2.2.2.2.2.2.2.2.2.2.2.1
theorem dX12_angerBy_48 : decode cX12_angerBy 48 = .ok (.isub, 1) := dX12_angerBy_28_a.2.2.2.2.2.2.2.2.2.2.2.2.2.2.2
theorem dX12_angerBy_49_a : (decode cX12_angerBy 49 = .ok (.imul, 1)) ∧ (decode cX12_angerBy 50 = .ok (.goto 7, 3)) ∧ (decode cX12_angerBy 53 = .ok (.bipush 10, 2)) ∧ (decode cX12_angerBy 55 = .ok (.iload_n 3, 1)) ∧ (decode cX12_angerBy 56 = .ok (.isub, 1)) ∧ (decode cX12_angerBy 57 = .ok (.istore 5, 2)) ∧ (decode cX12_angerBy 59 = .ok (.iload 4, 2)) ∧ (decode cX12_angerBy 61 = .ok (.iconst 2, 1)) ∧ (decode cX12_angerBy 62 = .ok (.if_icmp .ne 10, 3)) ∧ (decode cX12_angerBy 65 = .ok (.iload 5, 2)) ∧ (decode cX12_angerBy 67 = .ok (.iconst 1, 1)) ∧ (decode cX12_angerBy 68 = .ok (.iadd, 1)) ∧ (decode cX12_angerBy 69 = .ok (.goto 5, 3)) ∧ (decode cX12_angerBy 72 = .ok (.iload 5, 2)) ∧ (decode cX12_angerBy 74 = .ok (.ireturn, 1)) := by decide +kernel
theorem dX12_angerBy_49 : decode cX12_angerBy 49 = .ok (.imul, 1) := dX12_angerBy_49_a.1
theorem dX12_angerBy_50 : decode cX12_angerBy 50 = .ok (.goto 7, 3) := dX12_angerBy_49_a.2.1
theorem dX12_angerBy_53 : decode cX12_angerBy 53 = .ok (.bipush 10, 2) := dX12_angerBy_49_a.2.2.1
theorem dX12_angerBy_55 : decode cX12_angerBy 55 = .ok (.iload_n 3, 1) := dX12_angerBy_49_a.2.2.2.1
theorem dX12_angerBy_56 : decode cX12_angerBy 56 = .ok (.isub, 1) := dX12_angerBy_49_a.2.2.2.2.1
theorem dX12_angerBy_57 : decode cX12_angerBy 57 = .ok (.istore 5, 2) := dX12_angerBy_49_a.2.2.2.2.2.1
theorem dX12_angerBy_59 : decode cX12_angerBy 59 = .ok (.iload 4, 2) := dX12_angerBy_49_a.2.2.2.2.2.2.1
theorem dX12_angerBy_61 : decode cX12_angerBy 61 = .ok (.iconst 2, 1) := dX12_angerBy_49_a.2.2.2.2.2.2.2.1
theorem dX12_angerBy_62 : decode cX12_angerBy 62 = .ok (.if_icmp .ne 10, 3) := dX12_angerBy_49_a.2.2.2.2.2.2.2.2.1
theorem dX12_angerBy_65 : decode cX12_angerBy 65 = .ok (.iload 5, 2) := dX12_angerBy_49_a.2.2.2.2.2.2.2.2.2.1
theorem dX12_angerBy_67 : decode cX12_angerBy 67 = .ok (.iconst 1, 1) := dX12_angerBy_49_a.2.2.2.2.2.2.2.2.2.2.1
theorem dX12_angerBy_68 : decode cX12_angerBy 68 = .ok (.iadd, 1) := dX12_angerBy_49_a.2.2.2.2.2.2.2.2.2.2.2.1
theorem dX12_angerBy_69 : decode cX12_angerBy 69 = .ok (.goto 5, 3) := dX12_angerBy_49_a.2.2.2.2.2.2.2.2.2.2.2.2.1
theorem dX12_angerBy_72 : decode cX12_angerBy 72 = .ok (.iload 5, 2) := dX12_angerBy_49_a.2.2.2.2.2.2.2.2.2.2.2.2.2.1
theorem dX12_angerBy_74 : decode cX12_angerBy 74 = .ok (.ireturn, 1) := dX12_angerBy_49_a.2.2.2.2.2.2.2.2.2.2.2.2.2.2
theorem dX12_goes_0_a : (decode cX12_goes 0 = .ok (.aload_n 0, 1)) ∧ (decode cX12_goes 1 = .ok (.getfield 28, 3)) ∧ (decode cX12_goes 4 = .ok (.iload_n 2, 1)) ∧ (decode cX12_goes 5 = .ok (.iaload, 1)) ∧ (decode cX12_goes 6 = .ok (.istore 4, 2)) ∧ (decode cX12_goes 8 = .ok (.iload 4, 2)) ∧ (decode cX12_goes 10 = .ok (.bipush 8, 2)) ∧ (decode cX12_goes 12 = .ok (.if_icmp .ne 7, 3)) ∧ (decode cX12_goes 15 = .ok (.aload_n 0, 1)) ∧ (decode cX12_goes 16 = .ok (.invokevirtual 170, 3)) ∧ (decode cX12_goes 19 = .ok (.aload_n 0, 1)) ∧ (decode cX12_goes 20 = .ok (.iconst 0, 1)) ∧ (decode cX12_goes 21 = .ok (.invokevirtual 173, 3)) ∧ (decode cX12_goes 24 = .ok (.aload_n 0, 1)) ∧ (decode cX12_goes 25 = .ok (.iconst 1, 1)) ∧ (decode cX12_goes 26 = .ok (.invokevirtual 173, 3)) := by decide +kernel
theorem dX12_goes_0 : decode cX12_goes 0 = .ok (.aload_n 0, 1) := dX12_goes_0_a.1
theorem dX12_goes_1 : decode cX12_goes 1 = .ok (.getfield 28, 3) := dX12_goes_0_a.2.1
theorem dX12_goes_4 : decode cX12_goes 4 = .ok (.iload_n 2, 1) := dX12_goes_0_a.2.2.1
theorem dX12_goes_5 : decode cX12_goes 5 = .ok (.iaload, 1) := dX12_goes_0_a.2.2.2.1
theorem dX12_goes_6 : decode cX12_goes 6 = .ok (.istore 4, 2) := dX12_goes_0_a.2.2.2.2.1
theorem dX12_goes_8 : decode cX12_goes 8 = .ok (.iload 4, 2) := dX12_goes_0_a.2.2.2.2.2.1
theorem dX12_goes_10 : decode cX12_goes 10 = .ok (.bipush 8, 2) := dX12_goes_0_a.2.2.2.2.2.2.1
theorem dX12_goes_12 : decode cX12_goes 12 = .ok (.if_icmp .ne 7, 3) := dX12_goes_0_a.2.2.2.2.2.2.2.1
theorem dX12_goes_15 : decode cX12_goes 15 = .ok (.aload_n 0, 1) := dX12_goes_0_a.2.2.2.2.2.2.2.2.1
theorem dX12_goes_16 : decode cX12_goes 16 = .ok (.invokevirtual 170, 3) := dX12_goes_0_a.2.2.2.2.2.2.2.2.2.1
theorem dX12_goes_19 : decode cX12_goes 19 = .ok (.aload_n 0, 1) := dX12_goes_0_a.2.2.2.2.2.2.2.2.2.2.1
theorem dX12_goes_20 : decode cX12_goes 20 = .ok (.iconst 0, 1) := dX12_goes_0_a.2.2.2.2.2.2.2.2.2.2.2.1
theorem dX12_goes_21 : decode cX12_goes 21 = .ok (.invokevirtual 173, 3) := dX12_goes_0_a.2.2.2.2.2.2.2.2.2.2.2.2.1
theorem dX12_goes_24 : decode cX12_goes 24 = .ok (.aload_n 0, 1) := dX12_goes_0_a.2.2.2.2.2.2.2.2.2.2.2.2.2.1
theorem dX12_goes_25 : decode cX12_goes 25 = .ok (.iconst 1, 1) := dX12_goes_0_a.2.2.2.2.2.2.2.2.2.2.2.2.2.2.1
theorem dX12_goes_26 : decode cX12_goes 26 = .ok (.invokevirtual 173, 3) := dX12_goes_0_a.2.2.2.2.2.2.2.2.2.2.2.2.2.2.2
theorem dX12_goes_29_a : (decode cX12_goes 29 = .ok (.aload_n 0, 1)) ∧ (decode cX12_goes 30 = .ok (.getfield 31, 3)) ∧ (decode cX12_goes 33 = .ok (.iconst 4, 1)) ∧ (decode cX12_goes 34 = .ok (.iload_n 1, 1)) ∧ (decode cX12_goes 35 = .ok (.imul, 1)) ∧ (decode cX12_goes 36 = .ok (.iconst 3, 1)) ∧ (decode cX12_goes 37 = .ok (.iadd, 1)) ∧ (decode cX12_goes 38 = .ok (.iaload, 1)) ∧ (decode cX12_goes 39 = .ok (.istore 5, 2)) ∧ (decode cX12_goes 41 = .ok (.aload_n 0, 1)) ∧ (decode cX12_goes 42 = .ok (.getfield 46, 3)) ∧ (decode cX12_goes 45 = .ok (.iconst 0, 1)) ∧ (decode cX12_goes 46 = .ok (.iaload, 1)) ∧ (decode cX12_goes 47 = .ok (.iload 5, 2)) ∧ (decode cX12_goes 49 = .ok (.iconst 1, 1)) ∧ (decode cX12_goes 50 = .ok (.iadd, 1)) := by decide +kernel
theorem dX12_goes_29 : decode cX12_goes 29 = .ok (.aload_n 0, 1) := dX12_goes_29_a.1
theorem dX12_goes_30 : decode cX12_goes 30 = .ok (.getfield 31, 3) := dX12_goes_29_a.2.1
theorem dX12_goes_33 : decode cX12_goes 33 = .ok (.iconst 4, 1) := dX12_goes_29_a.2.2.1
theorem dX12_goes_34 : decode cX12_goes 34 = .ok (.iload_n 1, 1) := dX12_goes_29_a.2.2.2.1
theorem dX12_goes_35 : decode cX12_goes 35 = .ok (.imul, 1) := dX12_goes_29_a.2.2.2.2.1
theorem dX12_goes_36 : decode cX12_goes 36 = .ok (.iconst 3, 1) := dX12_goes_29_a.2.2.2.2.2.1
theorem dX12_goes_37 : decode cX12_goes 37 = .ok (.iadd, 1) := dX12_goes_29_a.2.2.2.2.2.2.1
theorem dX12_goes_38 : decode cX12_goes 38 = .ok (.iaload, 1) := dX12_goes_29_a.2.2.2.2.2.2.2.1
theorem dX12_goes_39 : decode cX12_goes 39 = .ok (.istore 5, 2) := dX12_goes_29_a.2.2.2.2.2.2.2.2.1
theorem dX12_goes_41 : decode cX12_goes 41 = .ok (.aload_n 0, 1) := dX12_goes_29_a.2.2.2.2.2.2.2.2.2.1
theorem dX12_goes_42 : decode cX12_goes 42 = .ok (.getfield 46, 3) := dX12_goes_29_a.2.2.2.2.2.2.2.2.2.2.1
theorem dX12_goes_45 : decode cX12_goes 45 = .ok (.iconst 0, 1) := dX12_goes_29_a.2.2.2.2.2.2.2.2.2.2.2.1
theorem dX12_goes_46 : decode cX12_goes 46 = .ok (.iaload, 1) := dX12_goes_29_a.2.2.2.2.2.2.2.2.2.2.2.2.1
theorem dX12_goes_47 : decode cX12_goes 47 = .ok (.iload 5, 2) := dX12_goes_29_a.2.2.2.2.2.2.2.2.2.2.2.2.2.1
theorem dX12_goes_49 : decode cX12_goes 49 = .ok (.iconst 1, 1) := dX12_goes_29_a.2.2.2.2.2.2.2.2.2.2.2.2.2.2.1
theorem dX12_goes_50 : decode cX12_goes 50 = .ok (.iadd, 1) := dX12_goes_29_a.2.2.2.2.2.2.2.2.2.2.2.2.2.2.2
theorem dX12_goes_51_a : (decode cX12_goes 51 = .ok (.iconst 2, 1)) ∧ (decode cX12_goes 52 = .ok (.idiv, 1)) ∧ (decode cX12_goes 53 = .ok (.if_icmp .lt 16, 3)) ∧ (decode cX12_goes 56 = .ok (.aload_n 0, 1)) ∧ (decode cX12_goes 57 = .ok (.getfield 46, 3)) ∧ (decode cX12_goes 60 = .ok (.iconst 1, 1)) ∧ (decode cX12_goes 61 = .ok (.iaload, 1)) ∧ (decode cX12_goes 62 = .ok (.iload 5, 2)) ∧ (decode cX12_goes 64 = .ok (.iconst 2, 1)) ∧ (decode cX12_goes 65 = .ok (.idiv, 1)) ∧ (decode cX12_goes 66 = .ok (.if_icmp .ge 5, 3)) ∧ (decode cX12_goes 69 = .ok (.iconst 1, 1)) ∧ (decode cX12_goes 70 = .ok (.ireturn, 1)) ∧ (decode cX12_goes 71 = .ok (.aload_n 0, 1)) ∧ (decode cX12_goes 72 = .ok (.dup, 1)) ∧ (decode cX12_goes 73 = .ok (.getfield 177, 3)) := by decide +kernel
theorem dX12_goes_51 : decode cX12_goes 51 = .ok (.iconst 2, 1) := dX12_goes_51_a.1
theorem dX12_goes_52 : decode cX12_goes 52 = .ok (.idiv, 1) := dX12_goes_51_a.2.1
theorem dX12_goes_53 : decode cX12_goes 53 = .ok (.if_icmp .lt 16, 3) := dX12_goes_51_a.2.2.1
theorem dX12_goes_56 : decode cX12_goes 56 = .ok (.aload_n 0, 1) := dX12_goes_51_a.2.2.2.1
theorem dX12_goes_57 : decode cX12_goes 57 = .ok (.getfield 46, 3) := dX12_goes_51_a.2.2.2.2.1
theorem dX12_goes_60 : decode cX12_goes 60 = .ok (.iconst 1, 1) := dX12_goes_51_a.2.2.2.2.2.1
theorem dX12_goes_61 : decode cX12_goes 61 = .ok (.iaload, 1) := dX12_goes_51_a.2.2.2.2.2.2.1
theorem dX12_goes_62 : decode cX12_goes 62 = .ok (.iload 5, 2) := dX12_goes_51_a.2.2.2.2.2.2.2.1
theorem dX12_goes_64 : decode cX12_goes 64 = .ok (.iconst 2, 1) := dX12_goes_51_a.2.2.2.2.2.2.2.2.1
theorem dX12_goes_65 : decode cX12_goes 65 = .ok (.idiv, 1) := dX12_goes_51_a.2.2.2.2.2.2.2.2.2.1
theorem dX12_goes_66 : decode cX12_goes 66 = .ok (.if_icmp .ge 5, 3) := dX12_goes_51_a.2.2.2.2.2.2.2.2.2.2.1
theorem dX12_goes_69 : decode cX12_goes 69 = .ok (.iconst 1, 1) := dX12_goes_51_a.2.2.2.2.2.2.2.2.2.2.2.1
theorem dX12_goes_70 : decode cX12_goes 70 = .ok (.ireturn, 1) := dX12_goes_51_a.2.2.2.2.2.2.2.2.2.2.2.2.1
theorem dX12_goes_71 : decode cX12_goes 71 = .ok (.aload_n 0, 1) := dX12_goes_51_a.2.2.2.2.2.2.2.2.2.2.2.2.2.1
theorem dX12_goes_72 : decode cX12_goes 72 = .ok (.dup, 1) := dX12_goes_51_a.2.2.2.2.2.2.2.2.2.2.2.2.2.2.1
theorem dX12_goes_73 : decode cX12_goes 73 = .ok (.getfield 177, 3) := dX12_goes_51_a.2.2.2.2.2.2.2.2.2.2.2.2.2.2.2
theorem dX12_goes_76_a : (decode cX12_goes 76 = .ok (.iload_n 3, 1)) ∧ (decode cX12_goes 77 = .ok (.iconst 5, 1)) ∧ (decode cX12_goes 78 = .ok (.if_icmp .le 9, 3)) ∧ (decode cX12_goes 81 = .ok (.iload_n 3, 1)) ∧ (decode cX12_goes 82 = .ok (.iconst 5, 1)) ∧ (decode cX12_goes 83 = .ok (.isub, 1)) ∧ (decode cX12_goes 84 = .ok (.goto 4, 3)) ∧ (decode cX12_goes 87 = .ok (.iconst 0, 1)) ∧ (decode cX12_goes 88 = .ok (.iadd, 1)) ∧ (decode cX12_goes 89 = .ok (.putfield 177, 3)) ∧ (decode cX12_goes 92 = .ok (.aload_n 0, 1)) ∧ (decode cX12_goes 93 = .ok (.getfield 177, 3)) ∧ (decode cX12_goes 96 = .ok (.bipush 20, 2)) ∧ (decode cX12_goes 98 = .ok (.if_icmp .le 5, 3)) ∧ (decode cX12_goes 101 = .ok (.iconst 2, 1)) ∧ (decode cX12_goes 102 = .ok (.ireturn, 1)) := by decide +kernel
theorem dX12_goes_76 : decode cX12_goes 76 = .ok (.iload_n 3, 1) := dX12_goes_76_a.1
theorem dX12_goes_77 : decode cX12_goes 77 = .ok (.iconst 5, 1) := dX12_goes_76_a.2.1
theorem dX12_goes_78 : decode cX12_goes 78 = .ok (.if_icmp .le 9, 3) := dX12_goes_76_a.2.2.1
theorem dX12_goes_81 : decode cX12_goes 81 = .ok (.iload_n 3, 1) := dX12_goes_76_a.2.2.2.1
theorem dX12_goes_82 : decode cX12_goes 82 = .ok (.iconst 5, 1) := dX12_goes_76_a.2.2.2.2.1
theorem dX12_goes_83 : decode cX12_goes 83 = .ok (.isub, 1) := dX12_goes_76_a.2.2.2.2.2.1
theorem dX12_goes_84 : decode cX12_goes 84 = .ok (.goto 4, 3) := dX12_goes_76_a.2.2.2.2.2.2.1
theorem dX12_goes_87 : decode cX12_goes 87 = .ok (.iconst 0, 1) := dX12_goes_76_a.2.2.2.2.2.2.2.1
theorem dX12_goes_88 : decode cX12_goes 88 = .ok (.iadd, 1) := dX12_goes_76_a.2.2.2.2.2.2.2.2.1
theorem dX12_goes_89 : decode cX12_goes 89 = .ok (.putfield 177, 3) := dX12_goes_76_a.2.2.2.2.2.2.2.2.2.1
theorem dX12_goes_92 : decode cX12_goes 92 = .ok (.aload_n 0, 1) := dX12_goes_76_a.2.2.2.2.2.2.2.2.2.2.1
theorem dX12_goes_93 : decode cX12_goes 93 = .ok (.getfield 177, 3) := dX12_goes_76_a.2.2.2.2.2.2.2.2.2.2.2.1
theorem dX12_goes_96 : decode cX12_goes 96 = .ok (.bipush 20, 2) := dX12_goes_76_a.2.2.2.2.2.2.2.2.2.2.2.2.1
theorem dX12_goes_98 : decode cX12_goes 98 = .ok (.if_icmp .le 5, 3) := dX12_goes_76_a.2.2.2.2.2.2.2.2.2.2.2.2.2.1
theorem dX12_goes_101 : decode cX12_goes 101 = .ok (.iconst 2, 1) := dX12_goes_76_a.2.2.2.2.2.2.2.2.2.2.2.2.2.2.1
theorem dX12_goes_102 : decode cX12_goes 102 = .ok (.ireturn, 1) := dX12_goes_76_a.2.2.2.2.2.2.2.2.2.2.2.2.2.2.2
theorem dX12_goes_103_a : (decode cX12_goes 103 = .ok (.iload 4, 2)) ∧ (decode cX12_goes 105 = .ok (.bipush 6, 2)) ∧ (decode cX12_goes 107 = .ok (.if_icmp .ge 43, 3)) ∧ (decode cX12_goes 110 = .ok (.aload_n 0, 1)) ∧ (decode cX12_goes 111 = .ok (.getfield 167, 3)) ∧ (decode cX12_goes 114 = .ok (.iload 4, 2)) ∧ (decode cX12_goes 116 = .ok (.invokestatic 180, 3)) ∧ (decode cX12_goes 119 = .ok (.ifCond .ne 31, 3)) ∧ (decode cX12_goes 122 = .ok (.aload_n 0, 1)) ∧ (decode cX12_goes 123 = .ok (.getfield 59, 3)) ∧ (decode cX12_goes 126 = .ok (.iload_n 2, 1)) ∧ (decode cX12_goes 127 = .ok (.invokestatic 180, 3)) ∧ (decode cX12_goes 130 = .ok (.ifCond .eq 20, 3)) ∧ (decode cX12_goes 133 = .ok (.aload_n 0, 1)) ∧ (decode cX12_goes 134 = .ok (.dup, 1)) ∧ (decode cX12_goes 135 = .ok (.getfield 184, 3)) := by decide +kernel
theorem dX12_goes_103 : decode cX12_goes 103 = .ok (.iload 4, 2) := dX12_goes_103_a.1
theorem dX12_goes_105 : decode cX12_goes 105 = .ok (.bipush 6, 2) := dX12_goes_103_a.2.1
theorem dX12_goes_107 : decode cX12_goes 107 = .ok (.if_icmp .ge 43, 3) := dX12_goes_103_a.2.2.1
theorem dX12_goes_110 : decode cX12_goes 110 = .ok (.aload_n 0, 1) := dX12_goes_103_a.2.2.2.1
theorem dX12_goes_111 : decode cX12_goes 111 = .ok (.getfield 167, 3) := dX12_goes_103_a.2.2.2.2.1
theorem dX12_goes_114 : decode cX12_goes 114 = .ok (.iload 4, 2) := dX12_goes_103_a.2.2.2.2.2.1
theorem dX12_goes_116 : decode cX12_goes 116 = .ok (.invokestatic 180, 3) := dX12_goes_103_a.2.2.2.2.2.2.1
theorem dX12_goes_119 : decode cX12_goes 119 = .ok (.ifCond .ne 31, 3) := dX12_goes_103_a.2.2.2.2.2.2.2.1
theorem dX12_goes_122 : decode cX12_goes 122 = .ok (.aload_n 0, 1) := dX12_goes_103_a.2.2.2.2.2.2.2.2.1
theorem dX12_goes_123 : decode cX12_goes 123 = .ok (.getfield 59, 3) := dX12_goes_103_a.2.2.2.2.2.2.2.2.2.1
theorem dX12_goes_126 : decode cX12_goes 126 = .ok (.iload_n 2, 1) := dX12_goes_103_a.2.2.2.2.2.2.2.2.2.2.1
theorem dX12_goes_127 : decode cX12_goes 127 = .ok (.invokestatic 180, 3) := dX12_goes_103_a.2.2.2.2.2.2.2.2.2.2.2.1
theorem dX12_goes_130 : decode cX12_goes 130 = .ok (.ifCond .eq 20, 3) := dX12_goes_103_a.2.2.2.2.2.2.2.2.2.2.2.2.1
theorem dX12_goes_133 : decode cX12_goes 133 = .ok (.aload_n 0, 1) := dX12_goes_103_a.2.2.2.2.2.2.2.2.2.2.2.2.2.1
theorem dX12_goes_134 : decode cX12_goes 134 = .ok (.dup, 1) := dX12_goes_103_a.2.2.2.2.2.2.2.2.2.2.2.2.2.2.1
theorem dX12_goes_135 : decode cX12_goes 135 = .ok (.getfield 184, 3) := dX12_goes_103_a.2.2.2.2.2.2.2.2.2.2.2.2.2.2.2
theorem dX12_goes_138_a : (decode cX12_goes 138 = .ok (.aload_n 0, 1)) ∧ (decode cX12_goes 139 = .ok (.iload_n 1, 1)) ∧ (decode cX12_goes 140 = .ok (.iload 4, 2)) ∧ (decode cX12_goes 142 = .ok (.iload_n 3, 1)) ∧ (decode cX12_goes 143 = .ok (.invokevirtual 187, 3)) ∧ (decode cX12_goes 146 = .ok (.iadd, 1)) ∧ (decode cX12_goes 147 = .ok (.putfield 184, 3)) ∧ (decode cX12_goes 150 = .ok (.aload_n 0, 1)) ∧ (decode cX12_goes 151 = .ok (.getfield 184, 3)) ∧ (decode cX12_goes 154 = .ok (.iconst 5, 1)) ∧ (decode cX12_goes 155 = .ok (.aload_n 0, 1)) ∧ (decode cX12_goes 156 = .ok (.getfield 31, 3)) ∧ (decode cX12_goes 159 = .ok (.iconst 4, 1)) ∧ (decode cX12_goes 160 = .ok (.iload_n 1, 1)) ∧ (decode cX12_goes 161 = .ok (.imul, 1)) ∧ (decode cX12_goes 162 = .ok (.iconst 2, 1)) := by decide +kernel
theorem dX12_goes_138 : decode cX12_goes 138 = .ok (.aload_n 0, 1) := dX12_goes_138_a.1
theorem dX12_goes_139 : decode cX12_goes 139 = .ok (.iload_n 1, 1) := dX12_goes_138_a.2.1
theorem dX12_goes_140 : decode cX12_goes 140 = .ok (.iload 4, 2) := dX12_goes_138_a.2.2.1
theorem dX12_goes_142 : decode cX12_goes 142 = .ok (.iload_n 3, 1) := dX12_goes_138_a.2.2.2.1
theorem dX12_goes_143 : decode cX12_goes 143 = .ok (.invokevirtual 187, 3) := dX12_goes_138_a.2.2.2.2.1
theorem dX12_goes_146 : decode cX12_goes 146 = .ok (.iadd, 1) := dX12_goes_138_a.2.2.2.2.2.1
theorem dX12_goes_147 : decode cX12_goes 147 = .ok (.putfield 184, 3) := dX12_goes_138_a.2.2.2.2.2.2.1
theorem dX12_goes_150 : decode cX12_goes 150 = .ok (.aload_n 0, 1) := dX12_goes_138_a.2.2.2.2.2.2.2.1
theorem dX12_goes_151 : decode cX12_goes 151 = .ok (.getfield 184, 3) := dX12_goes_138_a.2.2.2.2.2.2.2.2.1
theorem dX12_goes_154 : decode cX12_goes 154 = .ok (.iconst 5, 1) := dX12_goes_138_a.2.2.2.2.2.2.2.2.2.1
theorem dX12_goes_155 : decode cX12_goes 155 = .ok (.aload_n 0, 1) := dX12_goes_138_a.2.2.2.2.2.2.2.2.2.2.1
theorem dX12_goes_156 : decode cX12_goes 156 = .ok (.getfield 31, 3) := dX12_goes_138_a.2.2.2.2.2.2.2.2.2.2.2.1
theorem dX12_goes_159 : decode cX12_goes 159 = .ok (.iconst 4, 1) := dX12_goes_138_a.2.2.2.2.2.2.2.2.2.2.2.2.1
theorem dX12_goes_160 : decode cX12_goes 160 = .ok (.iload_n 1, 1) := dX12_goes_138_a.2.2.2.2.2.2.2.2.2.2.2.2.2.1
theorem dX12_goes_161 : decode cX12_goes 161 = .ok (.imul, 1) := dX12_goes_138_a.2.2.2.2.2.2.2.2.2.2.2.2.2.2.1
theorem dX12_goes_162 : decode cX12_goes 162 = .ok (.iconst 2, 1) := dX12_goes_138_a.2.2.2.2.2.2.2.2.2.2.2.2.2.2.2
theorem dX12_goes_163_a : (decode cX12_goes 163 = .ok (.iadd, 1)) ∧ (decode cX12_goes 164 = .ok (.iaload, 1)) ∧ (decode cX12_goes 165 = .ok (.imul, 1)) ∧ (decode cX12_goes 166 = .ok (.if_icmp .le 5, 3)) ∧ (decode cX12_goes 169 = .ok (.iconst 3, 1)) ∧ (decode cX12_goes 170 = .ok (.ireturn, 1)) ∧ (decode cX12_goes 171 = .ok (.iload 4, 2)) ∧ (decode cX12_goes 173 = .ok (.bipush 7, 2)) ∧ (decode cX12_goes 175 = .ok (.if_icmp .ne 67, 3)) ∧ (decode cX12_goes 178 = .ok (.aload_n 0, 1)) ∧ (decode cX12_goes 179 = .ok (.iconst 0, 1)) ∧ (decode cX12_goes 180 = .ok (.putfield 184, 3)) ∧ (decode cX12_goes 183 = .ok (.aload_n 0, 1)) ∧ (decode cX12_goes 184 = .ok (.iconst 0, 1)) ∧ (decode cX12_goes 185 = .ok (.putfield 177, 3)) ∧ (decode cX12_goes 188 = .ok (.iconst 0, 1)) := by decide +kernel
theorem dX12_goes_163 : decode cX12_goes 163 = .ok (.iadd, 1) := dX12_goes_163_a.1
theorem dX12_goes_164 : decode cX12_goes 164 = .ok (.iaload, 1) := dX12_goes_163_a.2.1
theorem dX12_goes_165 : decode cX12_goes 165 = .ok (.imul, 1) := dX12_goes_163_a.2.2.1
theorem dX12_goes_166 : decode cX12_goes 166 = .ok (.if_icmp .le 5, 3) := dX12_goes_163_a.2.2.2.1
theorem dX12_goes_169 : decode cX12_goes 169 = .ok (.iconst 3, 1) := dX12_goes_163_a.2.2.2.2.1
theorem dX12_goes_170 : decode cX12_goes 170 = .ok (.ireturn, 1) := dX12_goes_163_a.2.2.2.2.2.1
theorem dX12_goes_171 : decode cX12_goes 171 = .ok (.iload 4, 2) := dX12_goes_163_a.2.2.2.2.2.2.1
theorem dX12_goes_173 : decode cX12_goes 173 = .ok (.bipush 7, 2) := dX12_goes_163_a.2.2.2.2.2.2.2.1
theorem dX12_goes_175 : decode cX12_goes 175 = .ok (.if_icmp .ne 67, 3) := dX12_goes_163_a.2.2.2.2.2.2.2.2.1
theorem dX12_goes_178 : decode cX12_goes 178 = .ok (.aload_n 0, 1) := dX12_goes_163_a.2.2.2.2.2.2.2.2.2.1
theorem dX12_goes_179 : decode cX12_goes 179 = .ok (.iconst 0, 1) := dX12_goes_163_a.2.2.2.2.2.2.2.2.2.2.1
theorem dX12_goes_180 : decode cX12_goes 180 = .ok (.putfield 184, 3) := dX12_goes_163_a.2.2.2.2.2.2.2.2.2.2.2.1
theorem dX12_goes_183 : decode cX12_goes 183 = .ok (.aload_n 0, 1) := dX12_goes_163_a.2.2.2.2.2.2.2.2.2.2.2.2.1
theorem dX12_goes_184 : decode cX12_goes 184 = .ok (.iconst 0, 1) := dX12_goes_163_a.2.2.2.2.2.2.2.2.2.2.2.2.2.1
theorem dX12_goes_185 : decode cX12_goes 185 = .ok (.putfield 177, 3) := dX12_goes_163_a.2.2.2.2.2.2.2.2.2.2.2.2.2.2.1
theorem dX12_goes_188 : decode cX12_goes 188 = .ok (.iconst 0, 1) := dX12_goes_163_a.2.2.2.2.2.2.2.2.2.2.2.2.2.2.2
theorem dX12_goes_189_a : (decode cX12_goes 189 = .ok (.istore 6, 2)) ∧ (decode cX12_goes 191 = .ok (.iload 6, 2)) ∧ (decode cX12_goes 193 = .ok (.iconst 2, 1)) ∧ (decode cX12_goes 194 = .ok (.if_icmp .ge 48, 3)) ∧ (decode cX12_goes 197 = .ok (.aload_n 0, 1)) ∧ (decode cX12_goes 198 = .ok (.getfield 46, 3)) ∧ (decode cX12_goes 201 = .ok (.iload 6, 2)) ∧ (decode cX12_goes 203 = .ok (.dup2, 1)) ∧ (decode cX12_goes 204 = .ok (.iaload, 1)) ∧ (decode cX12_goes 205 = .ok (.aload_n 0, 1)) ∧ (decode cX12_goes 206 = .ok (.getfield 46, 3)) ∧ (decode cX12_goes 209 = .ok (.iload 6, 2)) ∧ (decode cX12_goes 211 = .ok (.iaload, 1)) ∧ (decode cX12_goes 212 = .ok (.aload_n 0, 1)) ∧ (decode cX12_goes 213 = .ok (.getfield 34, 3)) ∧ (decode cX12_goes 216 = .ok (.iconst 2, 1)) := by decide +kernel
theorem dX12_goes_189 : decode cX12_goes 189 = .ok (.istore 6, 2) := dX12_goes_189_a.1
theorem dX12_goes_191 : decode cX12_goes 191 = .ok (.iload 6, 2) := dX12_goes_189_a.2.1
theorem dX12_goes_193 : decode cX12_goes 193 = .ok (.iconst 2, 1) := dX12_goes_189_a.2.2.1
theorem dX12_goes_194 : decode cX12_goes 194 = .ok (.if_icmp .ge 48, 3) := dX12_goes_189_a.2.2.2.1
theorem dX12_goes_197 : decode cX12_goes 197 = .ok (.aload_n 0, 1) := dX12_goes_189_a.2.2.2.2.1
theorem dX12_goes_198 : decode cX12_goes 198 = .ok (.getfield 46, 3) := dX12_goes_189_a.2.2.2.2.2.1
theorem dX12_goes_201 : decode cX12_goes 201 = .ok (.iload 6, 2) := dX12_goes_189_a.2.2.2.2.2.2.1
theorem dX12_goes_203 : decode cX12_goes 203 = .ok (.dup2, 1) := dX12_goes_189_a.2.2.2.2.2.2.2.1
theorem dX12_goes_204 : decode cX12_goes 204 = .ok (.iaload, 1) := dX12_goes_189_a.2.2.2.2.2.2.2.2.1
theorem dX12_goes_205 : decode cX12_goes 205 = .ok (.aload_n 0, 1) := dX12_goes_189_a.2.2.2.2.2.2.2.2.2.1
theorem dX12_goes_206 : decode cX12_goes 206 = .ok (.getfield 46, 3) := dX12_goes_189_a.2.2.2.2.2.2.2.2.2.2.1
theorem dX12_goes_209 : decode cX12_goes 209 = .ok (.iload 6, 2) := dX12_goes_189_a.2.2.2.2.2.2.2.2.2.2.2.1
theorem dX12_goes_211 : decode cX12_goes 211 = .ok (.iaload, 1) := dX12_goes_189_a.2.2.2.2.2.2.2.2.2.2.2.2.1
theorem dX12_goes_212 : decode cX12_goes 212 = .ok (.aload_n 0, 1) := dX12_goes_189_a.2.2.2.2.2.2.2.2.2.2.2.2.2.1
theorem dX12_goes_213 : decode cX12_goes 213 = .ok (.getfield 34, 3) := dX12_goes_189_a.2.2.2.2.2.2.2.2.2.2.2.2.2.2.1
theorem dX12_goes_216 : decode cX12_goes 216 = .ok (.iconst 2, 1) := dX12_goes_189_a.2.2.2.2.2.2.2.2.2.2.2.2.2.2.2
theorem dX12_goes_217_a : (decode cX12_goes 217 = .ok (.aload_n 0, 1)) ∧ (decode cX12_goes 218 = .ok (.getfield 43, 3)) ∧ (decode cX12_goes 221 = .ok (.iload 6, 2)) ∧ (decode cX12_goes 223 = .ok (.iaload, 1)) ∧ (decode cX12_goes 224 = .ok (.imul, 1)) ∧ (decode cX12_goes 225 = .ok (.iaload, 1)) ∧ (decode cX12_goes 226 = .ok (.if_icmp .ge 7, 3)) ∧ (decode cX12_goes 229 = .ok (.iconst 1, 1)) ∧ (decode cX12_goes 230 = .ok (.goto 4, 3)) ∧ (decode cX12_goes 233 = .ok (.iconst 0, 1)) ∧ (decode cX12_goes 234 = .ok (.iadd, 1)) ∧ (decode cX12_goes 235 = .ok (.iastore, 1)) ∧ (decode cX12_goes 236 = .ok (.iinc 6 1, 3)) ∧ (decode cX12_goes 239 = .ok (.goto (-48), 3)) ∧ (decode cX12_goes 242 = .ok (.iconst 0, 1)) ∧ (decode cX12_goes 243 = .ok (.ireturn, 1)) := by decide +kernel
theorem dX12_goes_217 : decode cX12_goes 217 = .ok (.aload_n 0, 1) := dX12_goes_217_a.1
theorem dX12_goes_218 : decode cX12_goes 218 = .ok (.getfield 43, 3) := dX12_goes_217_a.2.1
theorem dX12_goes_221 : decode cX12_goes 221 = .ok (.iload 6, 2) := dX12_goes_217_a.2.2.1
theorem dX12_goes_223 : decode cX12_goes 223 = .ok (.iaload, 1) := dX12_goes_217_a.2.2.2.1
theorem dX12_goes_224 : decode cX12_goes 224 = .ok (.imul, 1) := dX12_goes_217_a.2.2.2.2.1
theorem dX12_goes_225 : decode cX12_goes 225 = .ok (.iaload, 1) := dX12_goes_217_a.2.2.2.2.2.1
theorem dX12_goes_226 : decode cX12_goes 226 = .ok (.if_icmp .ge 7, 3) := dX12_goes_217_a.2.2.2.2.2.2.1
theorem dX12_goes_229 : decode cX12_goes 229 = .ok (.iconst 1, 1) := dX12_goes_217_a.2.2.2.2.2.2.2.1
theorem dX12_goes_230 : decode cX12_goes 230 = .ok (.goto 4, 3) := dX12_goes_217_a.2.2.2.2.2.2.2.2.1
theorem dX12_goes_233 : decode cX12_goes 233 = .ok (.iconst 0, 1) := dX12_goes_217_a.2.2.2.2.2.2.2.2.2.1
theorem dX12_goes_234 : decode cX12_goes 234 = .ok (.iadd, 1) := dX12_goes_217_a.2.2.2.2.2.2.2.2.2.2.1
theorem dX12_goes_235 : decode cX12_goes 235 = .ok (.iastore, 1) := dX12_goes_217_a.2.2.2.2.2.2.2.2.2.2.2.1
theorem dX12_goes_236 : decode cX12_goes 236 = .ok (.iinc 6 1, 3) := dX12_goes_217_a.2.2.2.2.2.2.2.2.2.2.2.2.1
theorem dX12_goes_239 : decode cX12_goes 239 = .ok (.goto (-48), 3) := dX12_goes_217_a.2.2.2.2.2.2.2.2.2.2.2.2.2.1
theorem dX12_goes_242 : decode cX12_goes 242 = .ok (.iconst 0, 1) := dX12_goes_217_a.2.2.2.2.2.2.2.2.2.2.2.2.2.2.1
theorem dX12_goes_243 : decode cX12_goes 243 = .ok (.ireturn, 1) := dX12_goes_217_a.2.2.2.2.2.2.2.2.2.2.2.2.2.2.2
theorem dX12_flies_0_a : (decode cX12_flies 0 = .ok (.aload_n 0, 1)) ∧ (decode cX12_flies 1 = .ok (.iconst 0, 1)) ∧ (decode cX12_flies 2 = .ok (.putfield 190, 3)) ∧ (decode cX12_flies 5 = .ok (.aload_n 0, 1)) ∧ (decode cX12_flies 6 = .ok (.iconst 0, 1)) ∧ (decode cX12_flies 7 = .ok (.putfield 193, 3)) ∧ (decode cX12_flies 10 = .ok (.aload_n 0, 1)) ∧ (decode cX12_flies 11 = .ok (.iconst 1, 1)) ∧ (decode cX12_flies 12 = .ok (.putfield 196, 3)) ∧ (decode cX12_flies 15 = .ok (.aload_n 0, 1)) ∧ (decode cX12_flies 16 = .ok (.iload_n 1, 1)) ∧ (decode cX12_flies 17 = .ok (.invokevirtual 146, 3)) ∧ (decode cX12_flies 20 = .ok (.ifCond .eq 19, 3)) ∧ (decode cX12_flies 23 = .ok (.aload_n 0, 1)) ∧ (decode cX12_flies 24 = .ok (.iload_n 2, 1)) ∧ (decode cX12_flies 25 = .ok (.invokevirtual 149, 3)) := by decide +kernel
theorem dX12_flies_0 : decode cX12_flies 0 = .ok (.aload_n 0, 1) := dX12_flies_0_a.1
theorem dX12_flies_1 : decode cX12_flies 1 = .ok (.iconst 0, 1) := dX12_flies_0_a.2.1
theorem dX12_flies_2 : decode cX12_flies 2 = .ok (.putfield 190, 3) := dX12_flies_0_a.2.2.1
theorem dX12_flies_5 : decode cX12_flies 5 = .ok (.aload_n 0, 1) := dX12_flies_0_a.2.2.2.1
theorem dX12_flies_6 : decode cX12_flies 6 = .ok (.iconst 0, 1) := dX12_flies_0_a.2.2.2.2.1
theorem dX12_flies_7 : decode cX12_flies 7 = .ok (.putfield 193, 3) := dX12_flies_0_a.2.2.2.2.2.1
theorem dX12_flies_10 : decode cX12_flies 10 = .ok (.aload_n 0, 1) := dX12_flies_0_a.2.2.2.2.2.2.1
theorem dX12_flies_11 : decode cX12_flies 11 = .ok (.iconst 1, 1) := dX12_flies_0_a.2.2.2.2.2.2.2.1
theorem dX12_flies_12 : decode cX12_flies 12 = .ok (.putfield 196, 3) := dX12_flies_0_a.2.2.2.2.2.2.2.2.1
theorem dX12_flies_15 : decode cX12_flies 15 = .ok (.aload_n 0, 1) := dX12_flies_0_a.2.2.2.2.2.2.2.2.2.1
theorem dX12_flies_16 : decode cX12_flies 16 = .ok (.iload_n 1, 1) := dX12_flies_0_a.2.2.2.2.2.2.2.2.2.2.1
theorem dX12_flies_17 : decode cX12_flies 17 = .ok (.invokevirtual 146, 3) := dX12_flies_0_a.2.2.2.2.2.2.2.2.2.2.2.1
theorem dX12_flies_20 : decode cX12_flies 20 = .ok (.ifCond .eq 19, 3) := dX12_flies_0_a.2.2.2.2.2.2.2.2.2.2.2.2.1
theorem dX12_flies_23 : decode cX12_flies 23 = .ok (.aload_n 0, 1) := dX12_flies_0_a.2.2.2.2.2.2.2.2.2.2.2.2.2.1
theorem dX12_flies_24 : decode cX12_flies 24 = .ok (.iload_n 2, 1) := dX12_flies_0_a.2.2.2.2.2.2.2.2.2.2.2.2.2.2.1
theorem dX12_flies_25 : decode cX12_flies 25 = .ok (.invokevirtual 149, 3) := dX12_flies_0_a.2.2.2.2.2.2.2.2.2.2.2.2.2.2.2
theorem dX12_flies_28_a : (decode cX12_flies 28 = .ok (.ifCond .eq 11, 3)) ∧ (decode cX12_flies 31 = .ok (.aload_n 0, 1)) ∧ (decode cX12_flies 32 = .ok (.iload_n 3, 1)) ∧ (decode cX12_flies 33 = .ok (.invokevirtual 149, 3)) ∧ (decode cX12_flies 36 = .ok (.ifCond .ne 4, 3)) ∧ (decode cX12_flies 39 = .ok (.return_, 1)) ∧ (decode cX12_flies 40 = .ok (.aload_n 0, 1)) ∧ (decode cX12_flies 41 = .ok (.getfield 43, 3)) ∧ (decode cX12_flies 44 = .ok (.iconst 0, 1)) ∧ (decode cX12_flies 45 = .ok (.iload_n 2, 1)) ∧ (decode cX12_flies 46 = .ok (.iastore, 1)) ∧ (decode cX12_flies 47 = .ok (.aload_n 0, 1)) ∧ (decode cX12_flies 48 = .ok (.getfield 43, 3)) ∧ (decode cX12_flies 51 = .ok (.iconst 1, 1)) ∧ (decode cX12_flies 52 = .ok (.iload_n 3, 1)) ∧ (decode cX12_flies 53 = .ok (.iastore, 1)) := by decide +kernel
theorem dX12_flies_28 : decode cX12_flies 28 = .ok (.ifCond .eq 11, 3) := dX12_flies_28_a.1
theorem dX12_flies_31 : decode cX12_flies 31 = .ok (.aload_n 0, 1) := dX12_flies_28_a.2.1
theorem dX12_flies_32 : decode cX12_flies 32 = .ok (.iload_n 3, 1) := dX12_flies_28_a.2.2.1
theorem dX12_flies_33 : decode cX12_flies 33 = .ok (.invokevirtual 149, 3) := dX12_flies_28_a.2.2.2.1
theorem dX12_flies_36 : decode cX12_flies 36 = .ok (.ifCond .ne 4, 3) := dX12_flies_28_a.2.2.2.2.1
theorem dX12_flies_39 : decode cX12_flies 39 = .ok (.return_, 1) := dX12_flies_28_a.2.2.2.2.2.1
theorem dX12_flies_40 : decode cX12_flies 40 = .ok (.aload_n 0, 1) := dX12_flies_28_a.2.2.2.2.2.2.1
theorem dX12_flies_41 : decode cX12_flies 41 = .ok (.getfield 43, 3) := dX12_flies_28_a.2.2.2.2.2.2.2.1
theorem dX12_flies_44 : decode cX12_flies 44 = .ok (.iconst 0, 1) := dX12_flies_28_a.2.2.2.2.2.2.2.2.1
theorem dX12_flies_45 : decode cX12_flies 45 = .ok (.iload_n 2, 1) := dX12_flies_28_a.2.2.2.2.2.2.2.2.2.1
theorem dX12_flies_46 : decode cX12_flies 46 = .ok (.iastore, 1) := dX12_flies_28_a.2.2.2.2.2.2.2.2.2.2.1
theorem dX12_flies_47 : decode cX12_flies 47 = .ok (.aload_n 0, 1) := dX12_flies_28_a.2.2.2.2.2.2.2.2.2.2.2.1
theorem dX12_flies_48 : decode cX12_flies 48 = .ok (.getfield 43, 3) := dX12_flies_28_a.2.2.2.2.2.2.2.2.2.2.2.2.1
theorem dX12_flies_51 : decode cX12_flies 51 = .ok (.iconst 1, 1) := dX12_flies_28_a.2.2.2.2.2.2.2.2.2.2.2.2.2.1
theorem dX12_flies_52 : decode cX12_flies 52 = .ok (.iload_n 3, 1) := dX12_flies_28_a.2.2.2.2.2.2.2.2.2.2.2.2.2.2.1
theorem dX12_flies_53 : decode cX12_flies 53 = .ok (.iastore, 1) := dX12_flies_28_a.2.2.2.2.2.2.2.2.2.2.2.2.2.2.2
theorem dX12_flies_54_a : (decode cX12_flies 54 = .ok (.iconst 0, 1)) ∧ (decode cX12_flies 55 = .ok (.istore 7, 2)) ∧ (decode cX12_flies 57 = .ok (.iload 7, 2)) ∧ (decode cX12_flies 59 = .ok (.iconst 2, 1)) ∧ (decode cX12_flies 60 = .ok (.if_icmp .ge 38, 3)) ∧ (decode cX12_flies 63 = .ok (.aload_n 0, 1)) ∧ (decode cX12_flies 64 = .ok (.getfield 46, 3)) ∧ (decode cX12_flies 67 = .ok (.iload 7, 2)) ∧ (decode cX12_flies 69 = .ok (.aload_n 0, 1)) ∧ (decode cX12_flies 70 = .ok (.getfield 34, 3)) ∧ (decode cX12_flies 73 = .ok (.iconst 2, 1)) ∧ (decode cX12_flies 74 = .ok (.aload_n 0, 1)) ∧ (decode cX12_flies 75 = .ok (.getfield 43, 3)) ∧ (decode cX12_flies 78 = .ok (.iload 7, 2)) ∧ (decode cX12_flies 80 = .ok (.iaload, 1)) ∧ (decode cX12_flies 81 = .ok (.imul, 1)) := by decide +kernel
theorem dX12_flies_54 : decode cX12_flies 54 = .ok (.iconst 0, 1) := dX12_flies_54_a.1
theorem dX12_flies_55 : decode cX12_flies 55 = .ok (.istore 7, 2) := dX12_flies_54_a.2.1
theorem dX12_flies_57 : decode cX12_flies 57 = .ok (.iload 7, 2) := dX12_flies_54_a.2.2.1
theorem dX12_flies_59 : decode cX12_flies 59 = .ok (.iconst 2, 1) := dX12_flies_54_a.2.2.2.1
theorem dX12_flies_60 : decode cX12_flies 60 = .ok (.if_icmp .ge 38, 3) := dX12_flies_54_a.2.2.2.2.1
theorem dX12_flies_63 : decode cX12_flies 63 = .ok (.aload_n 0, 1) := dX12_flies_54_a.2.2.2.2.2.1
theorem dX12_flies_64 : decode cX12_flies 64 = .ok (.getfield 46, 3) := dX12_flies_54_a.2.2.2.2.2.2.1
theorem dX12_flies_67 : decode cX12_flies 67 = .ok (.iload 7, 2) := dX12_flies_54_a.2.2.2.2.2.2.2.1
theorem dX12_flies_69 : decode cX12_flies 69 = .ok (.aload_n 0, 1) := dX12_flies_54_a.2.2.2.2.2.2.2.2.1
theorem dX12_flies_70 : decode cX12_flies 70 = .ok (.getfield 34, 3) := dX12_flies_54_a.2.2.2.2.2.2.2.2.2.1
theorem dX12_flies_73 : decode cX12_flies 73 = .ok (.iconst 2, 1) := dX12_flies_54_a.2.2.2.2.2.2.2.2.2.2.1
theorem dX12_flies_74 : decode cX12_flies 74 = .ok (.aload_n 0, 1) := dX12_flies_54_a.2.2.2.2.2.2.2.2.2.2.2.1
theorem dX12_flies_75 : decode cX12_flies 75 = .ok (.getfield 43, 3) := dX12_flies_54_a.2.2.2.2.2.2.2.2.2.2.2.2.1
theorem dX12_flies_78 : decode cX12_flies 78 = .ok (.iload 7, 2) := dX12_flies_54_a.2.2.2.2.2.2.2.2.2.2.2.2.2.1
theorem dX12_flies_80 : decode cX12_flies 80 = .ok (.iaload, 1) := dX12_flies_54_a.2.2.2.2.2.2.2.2.2.2.2.2.2.2.1
theorem dX12_flies_81 : decode cX12_flies 81 = .ok (.imul, 1) := dX12_flies_54_a.2.2.2.2.2.2.2.2.2.2.2.2.2.2.2
theorem dX12_flies_82_a : (decode cX12_flies 82 = .ok (.iaload, 1)) ∧ (decode cX12_flies 83 = .ok (.iastore, 1)) ∧ (decode cX12_flies 84 = .ok (.aload_n 0, 1)) ∧ (decode cX12_flies 85 = .ok (.getfield 49, 3)) ∧ (decode cX12_flies 88 = .ok (.iload 7, 2)) ∧ (decode cX12_flies 90 = .ok (.iconst 0, 1)) ∧ (decode cX12_flies 91 = .ok (.iastore, 1)) ∧ (decode cX12_flies 92 = .ok (.iinc 7 1, 3)) ∧ (decode cX12_flies 95 = .ok (.goto (-38), 3)) ∧ (decode cX12_flies 98 = .ok (.aload_n 0, 1)) ∧ (decode cX12_flies 99 = .ok (.iconst 0, 1)) ∧ (decode cX12_flies 100 = .ok (.putfield 184, 3)) ∧ (decode cX12_flies 103 = .ok (.aload_n 0, 1)) ∧ (decode cX12_flies 104 = .ok (.iconst 0, 1)) ∧ (decode cX12_flies 105 = .ok (.putfield 177, 3)) ∧ (decode cX12_flies 108 = .ok (.aload_n 0, 1)) := by decide +kernel
theorem dX12_flies_82 : decode cX12_flies 82 = .ok (.iaload, 1) := dX12_flies_82_a.1
theorem dX12_flies_83 : decode cX12_flies 83 = .ok (.iastore, 1) := dX12_flies_82_a.2.1
theorem dX12_flies_84 : decode cX12_flies 84 = .ok (.aload_n 0, 1) := dX12_flies_82_a.2.2.1
theorem dX12_flies_85 : decode cX12_flies 85 = .ok (.getfield 49, 3) := dX12_flies_82_a.2.2.2.1
theorem dX12_flies_88 : decode cX12_flies 88 = .ok (.iload 7, 2) := dX12_flies_82_a.2.2.2.2.1
theorem dX12_flies_90 : decode cX12_flies 90 = .ok (.iconst 0, 1) := dX12_flies_82_a.2.2.2.2.2.1
theorem dX12_flies_91 : decode cX12_flies 91 = .ok (.iastore, 1) := dX12_flies_82_a.2.2.2.2.2.2.1
theorem dX12_flies_92 : decode cX12_flies 92 = .ok (.iinc 7 1, 3) := dX12_flies_82_a.2.2.2.2.2.2.2.1
theorem dX12_flies_95 : decode cX12_flies 95 = .ok (.goto (-38), 3) := dX12_flies_82_a.2.2.2.2.2.2.2.2.1
theorem dX12_flies_98 : decode cX12_flies 98 = .ok (.aload_n 0, 1) := dX12_flies_82_a.2.2.2.2.2.2.2.2.2.1
theorem dX12_flies_99 : decode cX12_flies 99 = .ok (.iconst 0, 1) := dX12_flies_82_a.2.2.2.2.2.2.2.2.2.2.1
theorem dX12_flies_100 : decode cX12_flies 100 = .ok (.putfield 184, 3) := dX12_flies_82_a.2.2.2.2.2.2.2.2.2.2.2.1
theorem dX12_flies_103 : decode cX12_flies 103 = .ok (.aload_n 0, 1) := dX12_flies_82_a.2.2.2.2.2.2.2.2.2.2.2.2.1
theorem dX12_flies_104 : decode cX12_flies 104 = .ok (.iconst 0, 1) := dX12_flies_82_a.2.2.2.2.2.2.2.2.2.2.2.2.2.1
theorem dX12_flies_105 : decode cX12_flies 105 = .ok (.putfield 177, 3) := dX12_flies_82_a.2.2.2.2.2.2.2.2.2.2.2.2.2.2.1
theorem dX12_flies_108 : decode cX12_flies 108 = .ok (.aload_n 0, 1) := dX12_flies_82_a.2.2.2.2.2.2.2.2.2.2.2.2.2.2.2
theorem dX12_flies_109_a : (decode cX12_flies 109 = .ok (.iconst 0, 1)) ∧ (decode cX12_flies 110 = .ok (.putfield 196, 3)) ∧ (decode cX12_flies 113 = .ok (.iconst 0, 1)) ∧ (decode cX12_flies 114 = .ok (.istore 7, 2)) ∧ (decode cX12_flies 116 = .ok (.iload 7, 2)) ∧ (decode cX12_flies 118 = .ok (.aload_n 0, 1)) ∧ (decode cX12_flies 119 = .ok (.getfield 107, 3)) ∧ (decode cX12_flies 122 = .ok (.if_icmp .ge 133, 3)) ∧ (decode cX12_flies 125 = .ok (.aload_n 0, 1)) ∧ (decode cX12_flies 126 = .ok (.getfield 196, 3)) ∧ (decode cX12_flies 129 = .ok (.ifCond .ne 126, 3)) ∧ (decode cX12_flies 132 = .ok (.aload_n 0, 1)) ∧ (decode cX12_flies 133 = .ok (.aload_n 0, 1)) ∧ (decode cX12_flies 134 = .ok (.iload_n 1, 1)) ∧ (decode cX12_flies 135 = .ok (.iload 7, 2)) ∧ (decode cX12_flies 137 = .ok (.iload 7, 2)) := by decide +kernel
theorem dX12_flies_109 : decode cX12_flies 109 = .ok (.iconst 0, 1) := dX12_flies_109_a.1
theorem dX12_flies_110 : decode cX12_flies 110 = .ok (.putfield 196, 3) := dX12_flies_109_a.2.1
theorem dX12_flies_113 : decode cX12_flies 113 = .ok (.iconst 0, 1) := dX12_flies_109_a.2.2.1
theorem dX12_flies_114 : decode cX12_flies 114 = .ok (.istore 7, 2) := dX12_flies_109_a.2.2.2.1
theorem dX12_flies_116 : decode cX12_flies 116 = .ok (.iload 7, 2) := dX12_flies_109_a.2.2.2.2.1
theorem dX12_flies_118 : decode cX12_flies 118 = .ok (.aload_n 0, 1) := dX12_flies_109_a.2.2.2.2.2.1
theorem dX12_flies_119 : decode cX12_flies 119 = .ok (.getfield 107, 3) := dX12_flies_109_a.2.2.2.2.2.2.1
theorem dX12_flies_122 : decode cX12_flies 122 = .ok (.if_icmp .ge 133, 3) := dX12_flies_109_a.2.2.2.2.2.2.2.1
theorem dX12_flies_125 : decode cX12_flies 125 = .ok (.aload_n 0, 1) := dX12_flies_109_a.2.2.2.2.2.2.2.2.1
theorem dX12_flies_126 : decode cX12_flies 126 = .ok (.getfield 196, 3) := dX12_flies_109_a.2.2.2.2.2.2.2.2.2.1
theorem dX12_flies_129 : decode cX12_flies 129 = .ok (.ifCond .ne 126, 3) := dX12_flies_109_a.2.2.2.2.2.2.2.2.2.2.1
theorem dX12_flies_132 : decode cX12_flies 132 = .ok (.aload_n 0, 1) := dX12_flies_109_a.2.2.2.2.2.2.2.2.2.2.2.1
theorem dX12_flies_133 : decode cX12_flies 133 = .ok (.aload_n 0, 1) := dX12_flies_109_a.2.2.2.2.2.2.2.2.2.2.2.2.1
theorem dX12_flies_134 : decode cX12_flies 134 = .ok (.iload_n 1, 1) := dX12_flies_109_a.2.2.2.2.2.2.2.2.2.2.2.2.2.1
theorem dX12_flies_135 : decode cX12_flies 135 = .ok (.iload 7, 2) := dX12_flies_109_a.2.2.2.2.2.2.2.2.2.2.2.2.2.2.1
theorem dX12_flies_137 : decode cX12_flies 137 = .ok (.iload 7, 2) := dX12_flies_109_a.2.2.2.2.2.2.2.2.2.2.2.2.2.2.2
theorem dX12_flies_139_a : (decode cX12_flies 139 = .ok (.iload 5, 2)) ∧ (decode cX12_flies 141 = .ok (.if_icmp .ge 8, 3)) ∧ (decode cX12_flies 144 = .ok (.iload 4, 2)) ∧ (decode cX12_flies 146 = .ok (.goto 5, 3)) ∧ (decode cX12_flies 149 = .ok (.iload 6, 2)) ∧ (decode cX12_flies 151 = .ok (.invokevirtual 199, 3)) ∧ (decode cX12_flies 154 = .ok (.putfield 196, 3)) ∧ (decode cX12_flies 157 = .ok (.aload_n 0, 1)) ∧ (decode cX12_flies 158 = .ok (.getfield 40, 3)) ∧ (decode cX12_flies 161 = .ok (.iconst 4, 1)) ∧ (decode cX12_flies 162 = .ok (.iload 7, 2)) ∧ (decode cX12_flies 164 = .ok (.imul, 1)) ∧ (decode cX12_flies 165 = .ok (.aload_n 0, 1)) ∧ (decode cX12_flies 166 = .ok (.getfield 184, 3)) ∧ (decode cX12_flies 169 = .ok (.iastore, 1)) ∧ (decode cX12_flies 170 = .ok (.aload_n 0, 1)) := by decide +kernel
theorem dX12_flies_139 : decode cX12_flies 139 = .ok (.iload 5, 2) := dX12_flies_139_a.1
theorem dX12_flies_141 : decode cX12_flies 141 = .ok (.if_icmp .ge 8, 3) := dX12_flies_139_a.2.1
theorem dX12_flies_144 : decode cX12_flies 144 = .ok (.iload 4, 2) := dX12_flies_139_a.2.2.1
theorem dX12_flies_146 : decode cX12_flies 146 = .ok (.goto 5, 3) := dX12_flies_139_a.2.2.2.1
theorem dX12_flies_149 : decode cX12_flies 149 = .ok (.iload 6, 2) := dX12_flies_139_a.2.2.2.2.1
theorem dX12_flies_151 : decode cX12_flies 151 = .ok (.invokevirtual 199, 3) := dX12_flies_139_a.2.2.2.2.2.1
theorem dX12_flies_154 : decode cX12_flies 154 = .ok (.putfield 196, 3) := dX12_flies_139_a.2.2.2.2.2.2.1
theorem dX12_flies_157 : decode cX12_flies 157 = .ok (.aload_n 0, 1) := dX12_flies_139_a.2.2.2.2.2.2.2.1
theorem dX12_flies_158 : decode cX12_flies 158 = .ok (.getfield 40, 3) := dX12_flies_139_a.2.2.2.2.2.2.2.2.1
theorem dX12_flies_161 : decode cX12_flies 161 = .ok (.iconst 4, 1) := dX12_flies_139_a.2.2.2.2.2.2.2.2.2.1
theorem dX12_flies_162 : decode cX12_flies 162 = .ok (.iload 7, 2) := dX12_flies_139_a.2.2.2.2.2.2.2.2.2.2.1
theorem dX12_flies_164 : decode cX12_flies 164 = .ok (.imul, 1) := dX12_flies_139_a.2.2.2.2.2.2.2.2.2.2.2.1
theorem dX12_flies_165 : decode cX12_flies 165 = .ok (.aload_n 0, 1) := dX12_flies_139_a.2.2.2.2.2.2.2.2.2.2.2.2.1
theorem dX12_flies_166 : decode cX12_flies 166 = .ok (.getfield 184, 3) := dX12_flies_139_a.2.2.2.2.2.2.2.2.2.2.2.2.2.1
theorem dX12_flies_169 : decode cX12_flies 169 = .ok (.iastore, 1) := dX12_flies_139_a.2.2.2.2.2.2.2.2.2.2.2.2.2.2.1
theorem dX12_flies_170 : decode cX12_flies 170 = .ok (.aload_n 0, 1) := dX12_flies_139_a.2.2.2.2.2.2.2.2.2.2.2.2.2.2.2
theorem dX12_flies_171_a : (decode cX12_flies 171 = .ok (.getfield 40, 3)) ∧ (decode cX12_flies 174 = .ok (.iconst 4, 1)) ∧ (decode cX12_flies 175 = .ok (.iload 7, 2)) ∧ (decode cX12_flies 177 = .ok (.imul, 1)) ∧ (decode cX12_flies 178 = .ok (.iconst 1, 1)) ∧ (decode cX12_flies 179 = .ok (.iadd, 1)) ∧ (decode cX12_flies 180 = .ok (.aload_n 0, 1)) ∧ (decode cX12_flies 181 = .ok (.getfield 177, 3)) ∧ (decode cX12_flies 184 = .ok (.iastore, 1)) ∧ (decode cX12_flies 185 = .ok (.aload_n 0, 1)) ∧ (decode cX12_flies 186 = .ok (.getfield 40, 3)) ∧ (decode cX12_flies 189 = .ok (.iconst 4, 1)) ∧ (decode cX12_flies 190 = .ok (.iload 7, 2)) ∧ (decode cX12_flies 192 = .ok (.imul, 1)) ∧ (decode cX12_flies 193 = .ok (.iconst 2, 1)) ∧ (decode cX12_flies 194 = .ok (.iadd, 1)) := by decide +kernel
theorem dX12_flies_171 : decode cX12_flies 171 = .ok (.getfield 40, 3) := dX12_flies_171_a.1
theorem dX12_flies_174 : decode cX12_flies 174 = .ok (.iconst 4, 1) := dX12_flies_171_a.2.1
theorem dX12_flies_175 : decode cX12_flies 175 = .ok (.iload 7, 2) := dX12_flies_171_a.2.2.1
theorem dX12_flies_177 : decode cX12_flies 177 = .ok (.imul, 1) := dX12_flies_171_a.2.2.2.1
