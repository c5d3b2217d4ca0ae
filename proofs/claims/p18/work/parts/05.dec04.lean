theorem dX11_write_34 : decode cX11_write 34 = .ok (.ireturn, 1) := by decide +kernel
theorem dX11_write_35 : decode cX11_write 35 = .ok (.aload 4, 2) := by decide +kernel
theorem dX11_write_37 : decode cX11_write 37 = .ok (.getfield 133, 3) := by decide +kernel
theorem dX11_write_40 : decode cX11_write 40 = .ok (.ifCond .eq 9, 3) := by decide +kernel
theorem dX11_write_43 : decode cX11_write 43 = .ok (.aload_n 0, 1) := by decide +kernel
theorem dX11_write_44 : decode cX11_write 44 = .ok (.iconst 1, 1) := by decide +kernel
theorem dX11_write_45 : decode cX11_write 45 = .ok (.invokevirtual 137, 3) := by decide +kernel
theorem dX11_write_48 : decode cX11_write 48 = .ok (.ireturn, 1) := by decide +kernel
theorem dX11_write_49 : decode cX11_write 49 = .ok (.aload_n 0, 1) := by decide +kernel
theorem dX11_write_50 : decode cX11_write 50 = .ok (.iload_n 1, 1) := by decide +kernel
theorem dX11_write_51 : decode cX11_write 51 = .ok (.invokevirtual 150, 3) := by decide +kernel
theorem dX11_write_54 : decode cX11_write 54 = .ok (.aload 4, 2) := by decide +kernel
theorem dX11_write_56 : decode cX11_write 56 = .ok (.getfield 140, 3) := by decide +kernel
theorem dX11_write_59 : decode cX11_write 59 = .ok (.aload_n 0, 1) := by decide +kernel
theorem dX11_write_60 : decode cX11_write 60 = .ok (.getfield 10, 3) := by decide +kernel
theorem dX11_write_63 : decode cX11_write 63 = .ok (.getfield 108, 3) := by decide +kernel
theorem dX11_write_66 : decode cX11_write 66 = .ok (.invokestatic 261, 3) := by decide +kernel
theorem dX11_write_69 : decode cX11_write 69 = .ok (.istore 5, 2) := by decide +kernel
theorem dX11_write_71 : decode cX11_write 71 = .ok (.iconst 0, 1) := by decide +kernel
theorem dX11_write_72 : decode cX11_write 72 = .ok (.istore 6, 2) := by decide +kernel
theorem dX11_write_74 : decode cX11_write 74 = .ok (.iload 6, 2) := by decide +kernel
theorem dX11_write_76 : decode cX11_write 76 = .ok (.iload 5, 2) := by decide +kernel
theorem dX11_write_78 : decode cX11_write 78 = .ok (.if_icmp .ge 24, 3) := by decide +kernel
theorem dX11_write_81 : decode cX11_write 81 = .ok (.aload 4, 2) := by decide +kernel
theorem dX11_write_83 : decode cX11_write 83 = .ok (.iload 6, 2) := by decide +kernel
theorem dX11_write_85 : decode cX11_write 85 = .ok (.aload_n 0, 1) := by decide +kernel
theorem dX11_write_86 : decode cX11_write 86 = .ok (.iload_n 1, 1) := by decide +kernel
theorem dX11_write_87 : decode cX11_write 87 = .ok (.iload 6, 2) := by decide +kernel
theorem dX11_write_89 : decode cX11_write 89 = .ok (.iload_n 2, 1) := by decide +kernel
theorem dX11_write_90 : decode cX11_write 90 = .ok (.invokevirtual 166, 3) := by decide +kernel
theorem dX11_write_93 : decode cX11_write 93 = .ok (.invokevirtual 241, 3) := by decide +kernel
theorem dX11_write_96 : decode cX11_write 96 = .ok (.iinc 6 1, 3) := by decide +kernel
theorem dX11_write_99 : decode cX11_write 99 = .ok (.goto (-25), 3) := by decide +kernel
theorem dX11_write_102 : decode cX11_write 102 = .ok (.iload 5, 2) := by decide +kernel
theorem dX11_write_104 : decode cX11_write 104 = .ok (.ireturn, 1) := by decide +kernel
theorem dX11_count_0 : decode cX11_count 0 = .ok (.iload_n 1, 1) := by decide +kernel
theorem dX11_count_1 : decode cX11_count 1 = .ok (.tableswitch 117 0 8 #[51, 59, 67, 75, 83, 91, 99, 107, 112], 51) := by decide +kernel
theorem dX11_count_52 : decode cX11_count 52 = .ok (.aload_n 0, 1) := by decide +kernel
theorem dX11_count_53 : decode cX11_count 53 = .ok (.getfield 10, 3) := by decide +kernel
theorem dX11_count_56 : decode cX11_count 56 = .ok (.getfield 108, 3) := by decide +kernel
theorem dX11_count_59 : decode cX11_count 59 = .ok (.ireturn, 1) := by decide +kernel
theorem dX11_count_60 : decode cX11_count 60 = .ok (.aload_n 0, 1) := by decide +kernel
theorem dX11_count_61 : decode cX11_count 61 = .ok (.getfield 19, 3) := by decide +kernel
theorem dX11_count_64 : decode cX11_count 64 = .ok (.getfield 223, 3) := by decide +kernel
theorem dX11_count_67 : decode cX11_count 67 = .ok (.ireturn, 1) := by decide +kernel
theorem dX11_count_68 : decode cX11_count 68 = .ok (.aload_n 0, 1) := by decide +kernel
theorem dX11_count_69 : decode cX11_count 69 = .ok (.getfield 26, 3) := by decide +kernel
theorem dX11_count_72 : decode cX11_count 72 = .ok (.getfield 185, 3) := by decide +kernel
theorem dX11_count_75 : decode cX11_count 75 = .ok (.ireturn, 1) := by decide +kernel
theorem dX11_count_76 : decode cX11_count 76 = .ok (.aload_n 0, 1) := by decide +kernel
theorem dX11_count_77 : decode cX11_count 77 = .ok (.getfield 10, 3) := by decide +kernel
theorem dX11_count_80 : decode cX11_count 80 = .ok (.getfield 266, 3) := by decide +kernel
theorem dX11_count_83 : decode cX11_count 83 = .ok (.ireturn, 1) := by decide +kernel
theorem dX11_count_84 : decode cX11_count 84 = .ok (.aload_n 0, 1) := by decide +kernel
theorem dX11_count_85 : decode cX11_count 85 = .ok (.getfield 19, 3) := by decide +kernel
theorem dX11_count_88 : decode cX11_count 88 = .ok (.getfield 267, 3) := by decide +kernel
theorem dX11_count_91 : decode cX11_count 91 = .ok (.ireturn, 1) := by decide +kernel
theorem dX11_count_92 : decode cX11_count 92 = .ok (.aload_n 0, 1) := by decide +kernel
theorem dX11_count_93 : decode cX11_count 93 = .ok (.getfield 26, 3) := by decide +kernel
theorem dX11_count_96 : decode cX11_count 96 = .ok (.getfield 268, 3) := by decide +kernel
theorem dX11_count_99 : decode cX11_count 99 = .ok (.ireturn, 1) := by decide +kernel
theorem dX11_count_100 : decode cX11_count 100 = .ok (.aload_n 0, 1) := by decide +kernel
theorem dX11_count_101 : decode cX11_count 101 = .ok (.getfield 33, 3) := by decide +kernel
theorem dX11_count_104 : decode cX11_count 104 = .ok (.getfield 128, 3) := by decide +kernel
theorem dX11_count_107 : decode cX11_count 107 = .ok (.ireturn, 1) := by decide +kernel
theorem dX11_count_108 : decode cX11_count 108 = .ok (.aload_n 0, 1) := by decide +kernel
theorem dX11_count_109 : decode cX11_count 109 = .ok (.getfield 193, 3) := by decide +kernel
theorem dX11_count_112 : decode cX11_count 112 = .ok (.ireturn, 1) := by decide +kernel
theorem dX11_count_113 : decode cX11_count 113 = .ok (.aload_n 0, 1) := by decide +kernel
theorem dX11_count_114 : decode cX11_count 114 = .ok (.getfield 269, 3) := by decide +kernel
theorem dX11_count_117 : decode cX11_count 117 = .ok (.ireturn, 1) := by decide +kernel
theorem dX11_count_118 : decode cX11_count 118 = .ok (.bipush (-2), 2) := by decide +kernel
theorem dX11_count_120 : decode cX11_count 120 = .ok (.ireturn, 1) := by decide +kernel
theorem dX11_digest_0 : decode cX11_digest 0 = .ok (.ldc2_w 272, 3) := by decide +kernel
theorem dX11_digest_3 : decode cX11_digest 3 = .ok (.lstore_n 1, 1) := by decide +kernel
theorem dX11_digest_4 : decode cX11_digest 4 = .ok (.iconst 0, 1) := by decide +kernel
theorem dX11_digest_5 : decode cX11_digest 5 = .ok (.istore_n 3, 1) := by decide +kernel
theorem dX11_digest_6 : decode cX11_digest 6 = .ok (.iload_n 3, 1) := by decide +kernel
theorem dX11_digest_7 : decode cX11_digest 7 = .ok (.bipush 7, 2) := by decide +kernel
theorem dX11_digest_9 : decode cX11_digest 9 = .ok (.if_icmp .gt 22, 3) := by decide +kernel
theorem dX11_digest_12 : decode cX11_digest 12 = .ok (.ldc2_w 274, 3) := by decide +kernel
theorem dX11_digest_15 : decode cX11_digest 15 = .ok (.lload_n 1, 1) := by decide +kernel
theorem dX11_digest_16 : decode cX11_digest 16 = .ok (.lmul, 1) := by decide +kernel
theorem dX11_digest_17 : decode cX11_digest 17 = .ok (.aload_n 0, 1) := by decide +kernel
theorem dX11_digest_18 : decode cX11_digest 18 = .ok (.iload_n 3, 1) := by decide +kernel
theorem dX11_digest_19 : decode cX11_digest 19 = .ok (.invokevirtual 276, 3) := by decide +kernel
theorem dX11_digest_22 : decode cX11_digest 22 = .ok (.i2l, 1) := by decide +kernel
theorem dX11_digest_23 : decode cX11_digest 23 = .ok (.ladd, 1) := by decide +kernel
theorem dX11_digest_24 : decode cX11_digest 24 = .ok (.lstore_n 1, 1) := by decide +kernel
theorem dX11_digest_25 : decode cX11_digest 25 = .ok (.iinc 3 1, 3) := by decide +kernel
theorem dX11_digest_28 : decode cX11_digest 28 = .ok (.goto (-22), 3) := by decide +kernel
theorem dX11_digest_31 : decode cX11_digest 31 = .ok (.iconst 0, 1) := by decide +kernel
theorem dX11_digest_32 : decode cX11_digest 32 = .ok (.istore_n 3, 1) := by decide +kernel
theorem dX11_digest_33 : decode cX11_digest 33 = .ok (.iload_n 3, 1) := by decide +kernel
theorem dX11_digest_34 : decode cX11_digest 34 = .ok (.iconst 3, 1) := by decide +kernel
theorem dX11_digest_35 : decode cX11_digest 35 = .ok (.if_icmp .ge 22, 3) := by decide +kernel
theorem dX11_digest_38 : decode cX11_digest 38 = .ok (.ldc2_w 274, 3) := by decide +kernel
theorem dX11_digest_41 : decode cX11_digest 41 = .ok (.lload_n 1, 1) := by decide +kernel
theorem dX11_digest_42 : decode cX11_digest 42 = .ok (.lmul, 1) := by decide +kernel
theorem dX11_digest_43 : decode cX11_digest 43 = .ok (.aload_n 0, 1) := by decide +kernel
theorem dX11_digest_44 : decode cX11_digest 44 = .ok (.iload_n 3, 1) := by decide +kernel
theorem dX11_digest_45 : decode cX11_digest 45 = .ok (.invokevirtual 279, 3) := by decide +kernel
theorem dX11_digest_48 : decode cX11_digest 48 = .ok (.i2l, 1) := by decide +kernel
theorem dX11_digest_49 : decode cX11_digest 49 = .ok (.ladd, 1) := by decide +kernel
theorem dX11_digest_50 : decode cX11_digest 50 = .ok (.lstore_n 1, 1) := by decide +kernel
theorem dX11_digest_51 : decode cX11_digest 51 = .ok (.iinc 3 1, 3) := by decide +kernel
theorem dX11_digest_54 : decode cX11_digest 54 = .ok (.goto (-21), 3) := by decide +kernel
theorem dX11_digest_57 : decode cX11_digest 57 = .ok (.iconst 0, 1) := by decide +kernel
theorem dX11_digest_58 : decode cX11_digest 58 = .ok (.istore_n 3, 1) := by decide +kernel
theorem dX11_digest_59 : decode cX11_digest 59 = .ok (.iload_n 3, 1) := by decide +kernel
theorem dX11_digest_60 : decode cX11_digest 60 = .ok (.aload_n 0, 1) := by decide +kernel
theorem dX11_digest_61 : decode cX11_digest 61 = .ok (.getfield 10, 3) := by decide +kernel
theorem dX11_digest_64 : decode cX11_digest 64 = .ok (.getfield 108, 3) := by decide +kernel
theorem dX11_digest_67 : decode cX11_digest 67 = .ok (.if_icmp .ge 22, 3) := by decide +kernel
theorem dX11_digest_70 : decode cX11_digest 70 = .ok (.ldc2_w 274, 3) := by decide +kernel
theorem dX11_digest_73 : decode cX11_digest 73 = .ok (.lload_n 1, 1) := by decide +kernel
theorem dX11_digest_74 : decode cX11_digest 74 = .ok (.lmul, 1) := by decide +kernel
theorem dX11_digest_75 : decode cX11_digest 75 = .ok (.aload_n 0, 1) := by decide +kernel
theorem dX11_digest_76 : decode cX11_digest 76 = .ok (.iload_n 3, 1) := by decide +kernel
theorem dX11_digest_77 : decode cX11_digest 77 = .ok (.invokevirtual 282, 3) := by decide +kernel
theorem dX11_digest_80 : decode cX11_digest 80 = .ok (.i2l, 1) := by decide +kernel
theorem dX11_digest_81 : decode cX11_digest 81 = .ok (.ladd, 1) := by decide +kernel
theorem dX11_digest_82 : decode cX11_digest 82 = .ok (.lstore_n 1, 1) := by decide +kernel
theorem dX11_digest_83 : decode cX11_digest 83 = .ok (.iinc 3 1, 3) := by decide +kernel
theorem dX11_digest_86 : decode cX11_digest 86 = .ok (.goto (-27), 3) := by decide +kernel
theorem dX11_digest_89 : decode cX11_digest 89 = .ok (.iconst 0, 1) := by decide +kernel
theorem dX11_digest_90 : decode cX11_digest 90 = .ok (.istore_n 3, 1) := by decide +kernel
theorem dX11_digest_91 : decode cX11_digest 91 = .ok (.iload_n 3, 1) := by decide +kernel
theorem dX11_digest_92 : decode cX11_digest 92 = .ok (.aload_n 0, 1) := by decide +kernel
theorem dX11_digest_93 : decode cX11_digest 93 = .ok (.getfield 19, 3) := by decide +kernel
theorem dX11_digest_96 : decode cX11_digest 96 = .ok (.getfield 223, 3) := by decide +kernel
theorem dX11_digest_99 : decode cX11_digest 99 = .ok (.if_icmp .ge 65, 3) := by decide +kernel
theorem dX11_digest_102 : decode cX11_digest 102 = .ok (.iconst 0, 1) := by decide +kernel
theorem dX11_digest_103 : decode cX11_digest 103 = .ok (.istore 4, 2) := by decide +kernel
theorem dX11_digest_105 : decode cX11_digest 105 = .ok (.iload 4, 2) := by decide +kernel
theorem dX11_digest_107 : decode cX11_digest 107 = .ok (.iconst 3, 1) := by decide +kernel
theorem dX11_digest_108 : decode cX11_digest 108 = .ok (.if_icmp .gt 24, 3) := by decide +kernel
theorem dX11_digest_111 : decode cX11_digest 111 = .ok (.ldc2_w 274, 3) := by decide +kernel
theorem dX11_digest_114 : decode cX11_digest 114 = .ok (.lload_n 1, 1) := by decide +kernel
theorem dX11_digest_115 : decode cX11_digest 115 = .ok (.lmul, 1) := by decide +kernel
theorem dX11_digest_116 : decode cX11_digest 116 = .ok (.aload_n 0, 1) := by decide +kernel
theorem dX11_digest_117 : decode cX11_digest 117 = .ok (.iload_n 3, 1) := by decide +kernel
theorem dX11_digest_118 : decode cX11_digest 118 = .ok (.iload 4, 2) := by decide +kernel
theorem dX11_digest_120 : decode cX11_digest 120 = .ok (.invokevirtual 285, 3) := by decide +kernel
theorem dX11_digest_123 : decode cX11_digest 123 = .ok (.i2l, 1) := by decide +kernel
theorem dX11_digest_124 : decode cX11_digest 124 = .ok (.ladd, 1) := by decide +kernel
theorem dX11_digest_125 : decode cX11_digest 125 = .ok (.lstore_n 1, 1) := by decide +kernel
theorem dX11_digest_126 : decode cX11_digest 126 = .ok (.iinc 4 1, 3) := by decide +kernel
theorem dX11_digest_129 : decode cX11_digest 129 = .ok (.goto (-24), 3) := by decide +kernel
theorem dX11_digest_132 : decode cX11_digest 132 = .ok (.ldc2_w 274, 3) := by decide +kernel
theorem dX11_digest_135 : decode cX11_digest 135 = .ok (.lload_n 1, 1) := by decide +kernel
theorem dX11_digest_136 : decode cX11_digest 136 = .ok (.lmul, 1) := by decide +kernel
theorem dX11_digest_137 : decode cX11_digest 137 = .ok (.aload_n 0, 1) := by decide +kernel
theorem dX11_digest_138 : decode cX11_digest 138 = .ok (.iload_n 3, 1) := by decide +kernel
theorem dX11_digest_139 : decode cX11_digest 139 = .ok (.invokevirtual 200, 3) := by decide +kernel
theorem dX11_digest_142 : decode cX11_digest 142 = .ok (.i2l, 1) := by decide +kernel
theorem dX11_digest_143 : decode cX11_digest 143 = .ok (.ladd, 1) := by decide +kernel
theorem dX11_digest_144 : decode cX11_digest 144 = .ok (.lstore_n 1, 1) := by decide +kernel
theorem dX11_digest_145 : decode cX11_digest 145 = .ok (.ldc2_w 274, 3) := by decide +kernel
theorem dX11_digest_148 : decode cX11_digest 148 = .ok (.lload_n 1, 1) := by decide +kernel
theorem dX11_digest_149 : decode cX11_digest 149 = .ok (.lmul, 1) := by decide +kernel
theorem dX11_digest_150 : decode cX11_digest 150 = .ok (.aload_n 0, 1) := by decide +kernel
theorem dX11_digest_151 : decode cX11_digest 151 = .ok (.iload_n 3, 1) := by decide +kernel
theorem dX11_digest_152 : decode cX11_digest 152 = .ok (.invokevirtual 288, 3) := by decide +kernel
theorem dX11_digest_155 : decode cX11_digest 155 = .ok (.i2l, 1) := by decide +kernel
theorem dX11_digest_156 : decode cX11_digest 156 = .ok (.ladd, 1) := by decide +kernel
theorem dX11_digest_157 : decode cX11_digest 157 = .ok (.lstore_n 1, 1) := by decide +kernel
theorem dX11_digest_158 : decode cX11_digest 158 = .ok (.iinc 3 1, 3) := by decide +kernel
theorem dX11_digest_161 : decode cX11_digest 161 = .ok (.goto (-70), 3) := by decide +kernel
theorem dX11_digest_164 : decode cX11_digest 164 = .ok (.iconst 0, 1) := by decide +kernel
theorem dX11_digest_165 : decode cX11_digest 165 = .ok (.istore_n 3, 1) := by decide +kernel
theorem dX11_digest_166 : decode cX11_digest 166 = .ok (.iload_n 3, 1) := by decide +kernel
theorem dX11_digest_167 : decode cX11_digest 167 = .ok (.aload_n 0, 1) := by decide +kernel
theorem dX11_digest_168 : decode cX11_digest 168 = .ok (.getfield 26, 3) := by decide +kernel
theorem dX11_digest_171 : decode cX11_digest 171 = .ok (.getfield 185, 3) := by decide +kernel
theorem dX11_digest_174 : decode cX11_digest 174 = .ok (.if_icmp .ge 37, 3) := by decide +kernel
theorem dX11_digest_177 : decode cX11_digest 177 = .ok (.ldc2_w 274, 3) := by decide +kernel
theorem dX11_digest_180 : decode cX11_digest 180 = .ok (.lload_n 1, 1) := by decide +kernel
theorem dX11_digest_181 : decode cX11_digest 181 = .ok (.lmul, 1) := by decide +kernel
theorem dX11_digest_182 : decode cX11_digest 182 = .ok (.aload_n 0, 1) := by decide +kernel
theorem dX11_digest_183 : decode cX11_digest 183 = .ok (.iload_n 3, 1) := by decide +kernel
theorem dX11_digest_184 : decode cX11_digest 184 = .ok (.iconst 0, 1) := by decide +kernel
theorem dX11_digest_185 : decode cX11_digest 185 = .ok (.invokevirtual 291, 3) := by decide +kernel
theorem dX11_digest_188 : decode cX11_digest 188 = .ok (.i2l, 1) := by decide +kernel
theorem dX11_digest_189 : decode cX11_digest 189 = .ok (.ladd, 1) := by decide +kernel
theorem dX11_digest_190 : decode cX11_digest 190 = .ok (.lstore_n 1, 1) := by decide +kernel
theorem dX11_digest_191 : decode cX11_digest 191 = .ok (.ldc2_w 274, 3) := by decide +kernel
theorem dX11_digest_194 : decode cX11_digest 194 = .ok (.lload_n 1, 1) := by decide +kernel
theorem dX11_digest_195 : decode cX11_digest 195 = .ok (.lmul, 1) := by decide +kernel
theorem dX11_digest_196 : decode cX11_digest 196 = .ok (.aload_n 0, 1) := by decide +kernel
theorem dX11_digest_197 : decode cX11_digest 197 = .ok (.iload_n 3, 1) := by decide +kernel
theorem dX11_digest_198 : decode cX11_digest 198 = .ok (.iconst 1, 1) := by decide +kernel
theorem dX11_digest_199 : decode cX11_digest 199 = .ok (.invokevirtual 291, 3) := by decide +kernel
theorem dX11_digest_202 : decode cX11_digest 202 = .ok (.i2l, 1) := by decide +kernel
theorem dX11_digest_203 : decode cX11_digest 203 = .ok (.ladd, 1) := by decide +kernel
theorem dX11_digest_204 : decode cX11_digest 204 = .ok (.lstore_n 1, 1) := by decide +kernel
theorem dX11_digest_205 : decode cX11_digest 205 = .ok (.iinc 3 1, 3) := by decide +kernel
theorem dX11_digest_208 : decode cX11_digest 208 = .ok (.goto (-42), 3) := by decide +kernel
theorem dX11_digest_211 : decode cX11_digest 211 = .ok (.iconst 0, 1) := by decide +kernel
theorem dX11_digest_212 : decode cX11_digest 212 = .ok (.istore_n 3, 1) := by decide +kernel
theorem dX11_digest_213 : decode cX11_digest 213 = .ok (.iload_n 3, 1) := by decide +kernel
theorem dX11_digest_214 : decode cX11_digest 214 = .ok (.aload_n 0, 1) := by decide +kernel
theorem dX11_digest_215 : decode cX11_digest 215 = .ok (.getfield 33, 3) := by decide +kernel
theorem dX11_digest_218 : decode cX11_digest 218 = .ok (.getfield 128, 3) := by decide +kernel
theorem dX11_digest_221 : decode cX11_digest 221 = .ok (.if_icmp .ge 16, 3) := by decide +kernel
theorem dX11_digest_224 : decode cX11_digest 224 = .ok (.aload_n 0, 1) := by decide +kernel
theorem dX11_digest_225 : decode cX11_digest 225 = .ok (.lload_n 1, 1) := by decide +kernel
theorem dX11_digest_226 : decode cX11_digest 226 = .ok (.iload_n 3, 1) := by decide +kernel
theorem dX11_digest_227 : decode cX11_digest 227 = .ok (.invokevirtual 294, 3) := by decide +kernel
theorem dX11_digest_230 : decode cX11_digest 230 = .ok (.lstore_n 1, 1) := by decide +kernel
theorem dX11_digest_231 : decode cX11_digest 231 = .ok (.iinc 3 1, 3) := by decide +kernel
theorem dX11_digest_234 : decode cX11_digest 234 = .ok (.goto (-21), 3) := by decide +kernel
theorem dX11_digest_237 : decode cX11_digest 237 = .ok (.ldc2_w 274, 3) := by decide +kernel
theorem dX11_digest_240 : decode cX11_digest 240 = .ok (.lload_n 1, 1) := by decide +kernel
theorem dX11_digest_241 : decode cX11_digest 241 = .ok (.lmul, 1) := by decide +kernel
theorem dX11_digest_242 : decode cX11_digest 242 = .ok (.aload_n 0, 1) := by decide +kernel
theorem dX11_digest_243 : decode cX11_digest 243 = .ok (.invokevirtual 298, 3) := by decide +kernel
theorem dX11_digest_246 : decode cX11_digest 246 = .ok (.i2l, 1) := by decide +kernel
theorem dX11_digest_247 : decode cX11_digest 247 = .ok (.ladd, 1) := by decide +kernel
theorem dX11_digest_248 : decode cX11_digest 248 = .ok (.lstore_n 1, 1) := by decide +kernel
theorem dX11_digest_249 : decode cX11_digest 249 = .ok (.ldc2_w 274, 3) := by decide +kernel
theorem dX11_digest_252 : decode cX11_digest 252 = .ok (.lload_n 1, 1) := by decide +kernel
theorem dX11_digest_253 : decode cX11_digest 253 = .ok (.lmul, 1) := by decide +kernel
theorem dX11_digest_254 : decode cX11_digest 254 = .ok (.aload_n 0, 1) := by decide +kernel
theorem dX11_digest_255 : decode cX11_digest 255 = .ok (.bipush 7, 2) := by decide +kernel
theorem dX11_digest_257 : decode cX11_digest 257 = .ok (.bipush 30, 2) := by decide +kernel
theorem dX11_digest_259 : decode cX11_digest 259 = .ok (.iconst 0, 1) := by decide +kernel
theorem dX11_digest_260 : decode cX11_digest 260 = .ok (.invokevirtual 301, 3) := by decide +kernel
theorem dX11_digest_263 : decode cX11_digest 263 = .ok (.i2l, 1) := by decide +kernel
theorem dX11_digest_264 : decode cX11_digest 264 = .ok (.ladd, 1) := by decide +kernel
theorem dX11_digest_265 : decode cX11_digest 265 = .ok (.lstore_n 1, 1) := by decide +kernel
theorem dX11_digest_266 : decode cX11_digest 266 = .ok (.ldc2_w 274, 3) := by decide +kernel
theorem dX11_digest_269 : decode cX11_digest 269 = .ok (.lload_n 1, 1) := by decide +kernel
theorem dX11_digest_270 : decode cX11_digest 270 = .ok (.lmul, 1) := by decide +kernel
theorem dX11_digest_271 : decode cX11_digest 271 = .ok (.aload_n 0, 1) := by decide +kernel
theorem dX11_digest_272 : decode cX11_digest 272 = .ok (.bipush 7, 2) := by decide +kernel
theorem dX11_digest_274 : decode cX11_digest 274 = .ok (.bipush 30, 2) := by decide +kernel
theorem dX11_digest_276 : decode cX11_digest 276 = .ok (.iconst 1, 1) := by decide +kernel
theorem dX11_digest_277 : decode cX11_digest 277 = .ok (.invokevirtual 301, 3) := by decide +kernel
theorem dX11_digest_280 : decode cX11_digest 280 = .ok (.i2l, 1) := by decide +kernel
theorem dX11_digest_281 : decode cX11_digest 281 = .ok (.ladd, 1) := by decide +kernel
theorem dX11_digest_282 : decode cX11_digest 282 = .ok (.lreturn, 1) := by decide +kernel
theorem dX11_mixFlight_0 : decode cX11_mixFlight 0 = .ok (.lload_n 1, 1) := by decide +kernel
theorem dX11_mixFlight_1 : decode cX11_mixFlight 1 = .ok (.lstore 4, 2) := by decide +kernel
theorem dX11_mixFlight_3 : decode cX11_mixFlight 3 = .ok (.iconst 0, 1) := by decide +kernel
theorem dX11_mixFlight_4 : decode cX11_mixFlight 4 = .ok (.istore 6, 2) := by decide +kernel
theorem dX11_mixFlight_6 : decode cX11_mixFlight 6 = .ok (.iload 6, 2) := by decide +kernel
theorem dX11_mixFlight_8 : decode cX11_mixFlight 8 = .ok (.iconst 2, 1) := by decide +kernel
theorem dX11_mixFlight_9 : decode cX11_mixFlight 9 = .ok (.if_icmp .gt 26, 3) := by decide +kernel
theorem dX11_mixFlight_12 : decode cX11_mixFlight 12 = .ok (.ldc2_w 274, 3) := by decide +kernel
theorem dX11_mixFlight_15 : decode cX11_mixFlight 15 = .ok (.lload 4, 2) := by decide +kernel
theorem dX11_mixFlight_17 : decode cX11_mixFlight 17 = .ok (.lmul, 1) := by decide +kernel
theorem dX11_mixFlight_18 : decode cX11_mixFlight 18 = .ok (.aload_n 0, 1) := by decide +kernel
theorem dX11_mixFlight_19 : decode cX11_mixFlight 19 = .ok (.iload_n 3, 1) := by decide +kernel
theorem dX11_mixFlight_20 : decode cX11_mixFlight 20 = .ok (.iload 6, 2) := by decide +kernel
theorem dX11_mixFlight_22 : decode cX11_mixFlight 22 = .ok (.invokevirtual 304, 3) := by decide +kernel
theorem dX11_mixFlight_25 : decode cX11_mixFlight 25 = .ok (.i2l, 1) := by decide +kernel
theorem dX11_mixFlight_26 : decode cX11_mixFlight 26 = .ok (.ladd, 1) := by decide +kernel
theorem dX11_mixFlight_27 : decode cX11_mixFlight 27 = .ok (.lstore 4, 2) := by decide +kernel
theorem dX11_mixFlight_29 : decode cX11_mixFlight 29 = .ok (.iinc 6 1, 3) := by decide +kernel
theorem dX11_mixFlight_32 : decode cX11_mixFlight 32 = .ok (.goto (-26), 3) := by decide +kernel
theorem dX11_mixFlight_35 : decode cX11_mixFlight 35 = .ok (.iconst 0, 1) := by decide +kernel
theorem dX11_mixFlight_36 : decode cX11_mixFlight 36 = .ok (.istore 6, 2) := by decide +kernel
theorem dX11_mixFlight_38 : decode cX11_mixFlight 38 = .ok (.iload 6, 2) := by decide +kernel
theorem dX11_mixFlight_40 : decode cX11_mixFlight 40 = .ok (.iconst 3, 1) := by decide +kernel
theorem dX11_mixFlight_41 : decode cX11_mixFlight 41 = .ok (.if_icmp .gt 27, 3) := by decide +kernel
theorem dX11_mixFlight_44 : decode cX11_mixFlight 44 = .ok (.ldc2_w 274, 3) := by decide +kernel
theorem dX11_mixFlight_47 : decode cX11_mixFlight 47 = .ok (.lload 4, 2) := by decide +kernel
theorem dX11_mixFlight_49 : decode cX11_mixFlight 49 = .ok (.lmul, 1) := by decide +kernel
theorem dX11_mixFlight_50 : decode cX11_mixFlight 50 = .ok (.aload_n 0, 1) := by decide +kernel
theorem dX11_mixFlight_51 : decode cX11_mixFlight 51 = .ok (.iload_n 3, 1) := by decide +kernel
theorem dX11_mixFlight_52 : decode cX11_mixFlight 52 = .ok (.iconst 3, 1) := by decide +kernel
theorem dX11_mixFlight_53 : decode cX11_mixFlight 53 = .ok (.iload 6, 2) := by decide +kernel
theorem dX11_mixFlight_55 : decode cX11_mixFlight 55 = .ok (.invokevirtual 307, 3) := by decide +kernel
theorem dX11_mixFlight_58 : decode cX11_mixFlight 58 = .ok (.i2l, 1) := by decide +kernel
theorem dX11_mixFlight_59 : decode cX11_mixFlight 59 = .ok (.ladd, 1) := by decide +kernel
theorem dX11_mixFlight_60 : decode cX11_mixFlight 60 = .ok (.lstore 4, 2) := by decide +kernel
theorem dX11_mixFlight_62 : decode cX11_mixFlight 62 = .ok (.iinc 6 1, 3) := by decide +kernel
theorem dX11_mixFlight_65 : decode cX11_mixFlight 65 = .ok (.goto (-27), 3) := by decide +kernel
theorem dX11_mixFlight_68 : decode cX11_mixFlight 68 = .ok (.ldc2_w 274, 3) := by decide +kernel
theorem dX11_mixFlight_71 : decode cX11_mixFlight 71 = .ok (.lload 4, 2) := by decide +kernel
theorem dX11_mixFlight_73 : decode cX11_mixFlight 73 = .ok (.lmul, 1) := by decide +kernel
theorem dX11_mixFlight_74 : decode cX11_mixFlight 74 = .ok (.aload_n 0, 1) := by decide +kernel
theorem dX11_mixFlight_75 : decode cX11_mixFlight 75 = .ok (.iload_n 3, 1) := by decide +kernel
theorem dX11_mixFlight_76 : decode cX11_mixFlight 76 = .ok (.iconst (-1), 1) := by decide +kernel
theorem dX11_mixFlight_77 : decode cX11_mixFlight 77 = .ok (.invokevirtual 310, 3) := by decide +kernel
theorem dX11_mixFlight_80 : decode cX11_mixFlight 80 = .ok (.i2l, 1) := by decide +kernel
theorem dX11_mixFlight_81 : decode cX11_mixFlight 81 = .ok (.ladd, 1) := by decide +kernel
theorem dX11_mixFlight_82 : decode cX11_mixFlight 82 = .ok (.lstore 4, 2) := by decide +kernel
theorem dX11_mixFlight_84 : decode cX11_mixFlight 84 = .ok (.iconst 0, 1) := by decide +kernel
theorem dX11_mixFlight_85 : decode cX11_mixFlight 85 = .ok (.istore 6, 2) := by decide +kernel
theorem dX11_mixFlight_87 : decode cX11_mixFlight 87 = .ok (.iload 6, 2) := by decide +kernel
theorem dX11_mixFlight_89 : decode cX11_mixFlight 89 = .ok (.iconst 2, 1) := by decide +kernel
theorem dX11_mixFlight_90 : decode cX11_mixFlight 90 = .ok (.if_icmp .gt 28, 3) := by decide +kernel
theorem dX11_mixFlight_93 : decode cX11_mixFlight 93 = .ok (.ldc2_w 274, 3) := by decide +kernel
theorem dX11_mixFlight_96 : decode cX11_mixFlight 96 = .ok (.lload 4, 2) := by decide +kernel
theorem dX11_mixFlight_98 : decode cX11_mixFlight 98 = .ok (.lmul, 1) := by decide +kernel
theorem dX11_mixFlight_99 : decode cX11_mixFlight 99 = .ok (.aload_n 0, 1) := by decide +kernel
theorem dX11_mixFlight_100 : decode cX11_mixFlight 100 = .ok (.getfield 49, 3) := by decide +kernel
theorem dX11_mixFlight_103 : decode cX11_mixFlight 103 = .ok (.iload 6, 2) := by decide +kernel
theorem dX11_mixFlight_105 : decode cX11_mixFlight 105 = .ok (.invokevirtual 177, 3) := by decide +kernel
theorem dX11_mixFlight_108 : decode cX11_mixFlight 108 = .ok (.i2l, 1) := by decide +kernel
theorem dX11_mixFlight_109 : decode cX11_mixFlight 109 = .ok (.ladd, 1) := by decide +kernel
theorem dX11_mixFlight_110 : decode cX11_mixFlight 110 = .ok (.lstore 4, 2) := by decide +kernel
theorem dX11_mixFlight_112 : decode cX11_mixFlight 112 = .ok (.iinc 6 1, 3) := by decide +kernel
theorem dX11_mixFlight_115 : decode cX11_mixFlight 115 = .ok (.goto (-28), 3) := by decide +kernel
theorem dX11_mixFlight_118 : decode cX11_mixFlight 118 = .ok (.iconst 0, 1) := by decide +kernel
theorem dX11_mixFlight_119 : decode cX11_mixFlight 119 = .ok (.istore 6, 2) := by decide +kernel
theorem dX11_mixFlight_121 : decode cX11_mixFlight 121 = .ok (.iload 6, 2) := by decide +kernel
theorem dX11_mixFlight_123 : decode cX11_mixFlight 123 = .ok (.iconst 1, 1) := by decide +kernel
theorem dX11_mixFlight_124 : decode cX11_mixFlight 124 = .ok (.if_icmp .gt 26, 3) := by decide +kernel
theorem dX11_mixFlight_127 : decode cX11_mixFlight 127 = .ok (.ldc2_w 274, 3) := by decide +kernel
theorem dX11_mixFlight_130 : decode cX11_mixFlight 130 = .ok (.lload 4, 2) := by decide +kernel
theorem dX11_mixFlight_132 : decode cX11_mixFlight 132 = .ok (.lmul, 1) := by decide +kernel
theorem dX11_mixFlight_133 : decode cX11_mixFlight 133 = .ok (.aload_n 0, 1) := by decide +kernel
theorem dX11_mixFlight_134 : decode cX11_mixFlight 134 = .ok (.iload_n 3, 1) := by decide +kernel
theorem dX11_mixFlight_135 : decode cX11_mixFlight 135 = .ok (.iload 6, 2) := by decide +kernel
theorem dX11_mixFlight_137 : decode cX11_mixFlight 137 = .ok (.invokevirtual 313, 3) := by decide +kernel
theorem dX11_mixFlight_140 : decode cX11_mixFlight 140 = .ok (.i2l, 1) := by decide +kernel
theorem dX11_mixFlight_141 : decode cX11_mixFlight 141 = .ok (.ladd, 1) := by decide +kernel
theorem dX11_mixFlight_142 : decode cX11_mixFlight 142 = .ok (.lstore 4, 2) := by decide +kernel
theorem dX11_mixFlight_144 : decode cX11_mixFlight 144 = .ok (.iinc 6 1, 3) := by decide +kernel
theorem dX11_mixFlight_147 : decode cX11_mixFlight 147 = .ok (.goto (-26), 3) := by decide +kernel
theorem dX11_mixFlight_150 : decode cX11_mixFlight 150 = .ok (.iconst 0, 1) := by decide +kernel
theorem dX11_mixFlight_151 : decode cX11_mixFlight 151 = .ok (.istore 6, 2) := by decide +kernel
theorem dX11_mixFlight_153 : decode cX11_mixFlight 153 = .ok (.iload 6, 2) := by decide +kernel
theorem dX11_mixFlight_155 : decode cX11_mixFlight 155 = .ok (.iconst 1, 1) := by decide +kernel
theorem dX11_mixFlight_156 : decode cX11_mixFlight 156 = .ok (.if_icmp .gt 26, 3) := by decide +kernel
theorem dX11_mixFlight_159 : decode cX11_mixFlight 159 = .ok (.ldc2_w 274, 3) := by decide +kernel
theorem dX11_mixFlight_162 : decode cX11_mixFlight 162 = .ok (.lload 4, 2) := by decide +kernel
theorem dX11_mixFlight_164 : decode cX11_mixFlight 164 = .ok (.lmul, 1) := by decide +kernel
theorem dX11_mixFlight_165 : decode cX11_mixFlight 165 = .ok (.aload_n 0, 1) := by decide +kernel
theorem dX11_mixFlight_166 : decode cX11_mixFlight 166 = .ok (.iload_n 3, 1) := by decide +kernel
theorem dX11_mixFlight_167 : decode cX11_mixFlight 167 = .ok (.iload 6, 2) := by decide +kernel
theorem dX11_mixFlight_169 : decode cX11_mixFlight 169 = .ok (.invokevirtual 316, 3) := by decide +kernel
theorem dX11_mixFlight_172 : decode cX11_mixFlight 172 = .ok (.i2l, 1) := by decide +kernel
theorem dX11_mixFlight_173 : decode cX11_mixFlight 173 = .ok (.ladd, 1) := by decide +kernel
theorem dX11_mixFlight_174 : decode cX11_mixFlight 174 = .ok (.lstore 4, 2) := by decide +kernel
theorem dX11_mixFlight_176 : decode cX11_mixFlight 176 = .ok (.iinc 6 1, 3) := by decide +kernel
theorem dX11_mixFlight_179 : decode cX11_mixFlight 179 = .ok (.goto (-26), 3) := by decide +kernel
theorem dX11_mixFlight_182 : decode cX11_mixFlight 182 = .ok (.ldc2_w 274, 3) := by decide +kernel
theorem dX11_mixFlight_185 : decode cX11_mixFlight 185 = .ok (.lload 4, 2) := by decide +kernel
theorem dX11_mixFlight_187 : decode cX11_mixFlight 187 = .ok (.lmul, 1) := by decide +kernel
theorem dX11_mixFlight_188 : decode cX11_mixFlight 188 = .ok (.aload_n 0, 1) := by decide +kernel
theorem dX11_mixFlight_189 : decode cX11_mixFlight 189 = .ok (.iload_n 3, 1) := by decide +kernel
theorem dX11_mixFlight_190 : decode cX11_mixFlight 190 = .ok (.invokevirtual 319, 3) := by decide +kernel
theorem dX11_mixFlight_193 : decode cX11_mixFlight 193 = .ok (.i2l, 1) := by decide +kernel
theorem dX11_mixFlight_194 : decode cX11_mixFlight 194 = .ok (.ladd, 1) := by decide +kernel
theorem dX11_mixFlight_195 : decode cX11_mixFlight 195 = .ok (.lstore 4, 2) := by decide +kernel
theorem dX11_mixFlight_197 : decode cX11_mixFlight 197 = .ok (.iconst 0, 1) := by decide +kernel
theorem dX11_mixFlight_198 : decode cX11_mixFlight 198 = .ok (.istore 6, 2) := by decide +kernel
theorem dX11_mixFlight_200 : decode cX11_mixFlight 200 = .ok (.iload 6, 2) := by decide +kernel
theorem dX11_mixFlight_202 : decode cX11_mixFlight 202 = .ok (.iconst 1, 1) := by decide +kernel
theorem dX11_mixFlight_203 : decode cX11_mixFlight 203 = .ok (.if_icmp .gt 26, 3) := by decide +kernel
theorem dX11_mixFlight_206 : decode cX11_mixFlight 206 = .ok (.ldc2_w 274, 3) := by decide +kernel
theorem dX11_mixFlight_209 : decode cX11_mixFlight 209 = .ok (.lload 4, 2) := by decide +kernel
theorem dX11_mixFlight_211 : decode cX11_mixFlight 211 = .ok (.lmul, 1) := by decide +kernel
theorem dX11_mixFlight_212 : decode cX11_mixFlight 212 = .ok (.aload_n 0, 1) := by decide +kernel
theorem dX11_mixFlight_213 : decode cX11_mixFlight 213 = .ok (.iconst 5, 1) := by decide +kernel
theorem dX11_mixFlight_214 : decode cX11_mixFlight 214 = .ok (.iload_n 3, 1) := by decide +kernel
theorem dX11_mixFlight_215 : decode cX11_mixFlight 215 = .ok (.iload 6, 2) := by decide +kernel
theorem dX11_mixFlight_217 : decode cX11_mixFlight 217 = .ok (.invokevirtual 322, 3) := by decide +kernel
theorem dX11_mixFlight_220 : decode cX11_mixFlight 220 = .ok (.ladd, 1) := by decide +kernel
theorem dX11_mixFlight_221 : decode cX11_mixFlight 221 = .ok (.lstore 4, 2) := by decide +kernel
theorem dX11_mixFlight_223 : decode cX11_mixFlight 223 = .ok (.iinc 6 1, 3) := by decide +kernel
theorem dX11_mixFlight_226 : decode cX11_mixFlight 226 = .ok (.goto (-26), 3) := by decide +kernel
theorem dX11_mixFlight_229 : decode cX11_mixFlight 229 = .ok (.lload 4, 2) := by decide +kernel
theorem dX11_mixFlight_231 : decode cX11_mixFlight 231 = .ok (.lreturn, 1) := by decide +kernel
theorem dX11_textOf_0 : decode cX11_textOf 0 = .ok (.iload_n 1, 1) := by decide +kernel
theorem dX11_textOf_1 : decode cX11_textOf 1 = .ok (.tableswitch 42 0 2 #[27, 32, 37], 27) := by decide +kernel
theorem dX11_textOf_28 : decode cX11_textOf 28 = .ok (.aload_n 0, 1) := by decide +kernel
theorem dX11_textOf_29 : decode cX11_textOf 29 = .ok (.getfield 10, 3) := by decide +kernel
theorem dX11_textOf_32 : decode cX11_textOf 32 = .ok (.areturn, 1) := by decide +kernel
theorem dX11_textOf_33 : decode cX11_textOf 33 = .ok (.aload_n 0, 1) := by decide +kernel
theorem dX11_textOf_34 : decode cX11_textOf 34 = .ok (.getfield 19, 3) := by decide +kernel
theorem dX11_textOf_37 : decode cX11_textOf 37 = .ok (.areturn, 1) := by decide +kernel
theorem dX11_textOf_38 : decode cX11_textOf 38 = .ok (.aload_n 0, 1) := by decide +kernel
theorem dX11_textOf_39 : decode cX11_textOf 39 = .ok (.getfield 26, 3) := by decide +kernel
theorem dX11_textOf_42 : decode cX11_textOf 42 = .ok (.areturn, 1) := by decide +kernel
theorem dX11_textOf_43 : decode cX11_textOf 43 = .ok (.aconst_null, 1) := by decide +kernel
theorem dX11_textOf_44 : decode cX11_textOf 44 = .ok (.areturn, 1) := by decide +kernel
theorem dX11_sheetOf_0 : decode cX11_sheetOf 0 = .ok (.iload_n 1, 1) := by decide +kernel
theorem dX11_sheetOf_1 : decode cX11_sheetOf 1 = .ok (.ifCond .lt 21, 3) := by decide +kernel
theorem dX11_sheetOf_4 : decode cX11_sheetOf 4 = .ok (.iload_n 1, 1) := by decide +kernel
theorem dX11_sheetOf_5 : decode cX11_sheetOf 5 = .ok (.aload_n 0, 1) := by decide +kernel
theorem dX11_sheetOf_6 : decode cX11_sheetOf 6 = .ok (.getfield 79, 3) := by decide +kernel
theorem dX11_sheetOf_9 : decode cX11_sheetOf 9 = .ok (.arraylength, 1) := by decide +kernel
theorem dX11_sheetOf_10 : decode cX11_sheetOf 10 = .ok (.if_icmp .ge 12, 3) := by decide +kernel
theorem dX11_sheetOf_13 : decode cX11_sheetOf 13 = .ok (.aload_n 0, 1) := by decide +kernel
theorem dX11_sheetOf_14 : decode cX11_sheetOf 14 = .ok (.getfield 79, 3) := by decide +kernel
theorem dX11_sheetOf_17 : decode cX11_sheetOf 17 = .ok (.iload_n 1, 1) := by decide +kernel
theorem dX11_sheetOf_18 : decode cX11_sheetOf 18 = .ok (.aaload, 1) := by decide +kernel
theorem dX11_sheetOf_19 : decode cX11_sheetOf 19 = .ok (.goto 4, 3) := by decide +kernel
theorem dX11_sheetOf_22 : decode cX11_sheetOf 22 = .ok (.aconst_null, 1) := by decide +kernel
theorem dX11_sheetOf_23 : decode cX11_sheetOf 23 = .ok (.areturn, 1) := by decide +kernel
theorem dX11_isForm_0 : decode cX11_isForm 0 = .ok (.iload_n 0, 1) := by decide +kernel
theorem dX11_isForm_1 : decode cX11_isForm 1 = .ok (.ifCond .lt 12, 3) := by decide +kernel
theorem dX11_isForm_4 : decode cX11_isForm 4 = .ok (.iload_n 0, 1) := by decide +kernel
theorem dX11_isForm_5 : decode cX11_isForm 5 = .ok (.iconst 2, 1) := by decide +kernel
theorem dX11_isForm_6 : decode cX11_isForm 6 = .ok (.if_icmp .gt 7, 3) := by decide +kernel
theorem dX11_isForm_9 : decode cX11_isForm 9 = .ok (.iconst 1, 1) := by decide +kernel
theorem dX11_isForm_10 : decode cX11_isForm 10 = .ok (.goto 4, 3) := by decide +kernel
theorem dX11_isForm_13 : decode cX11_isForm 13 = .ok (.iconst 0, 1) := by decide +kernel
theorem dX11_isForm_14 : decode cX11_isForm 14 = .ok (.ireturn, 1) := by decide +kernel
theorem dX11_found_0 : decode cX11_found 0 = .ok (.aload_n 0, 1) := by decide +kernel
theorem dX11_found_1 : decode cX11_found 1 = .ok (.iload_n 1, 1) := by decide +kernel
theorem dX11_found_2 : decode cX11_found 2 = .ok (.putfield 269, 3) := by decide +kernel
theorem dX11_found_5 : decode cX11_found 5 = .ok (.bipush (-10), 2) := by decide +kernel
theorem dX11_found_7 : decode cX11_found 7 = .ok (.iload_n 1, 1) := by decide +kernel
theorem dX11_found_8 : decode cX11_found 8 = .ok (.isub, 1) := by decide +kernel
theorem dX11_found_9 : decode cX11_found 9 = .ok (.ireturn, 1) := by decide +kernel
theorem dX11_itemRefusal_0 : decode cX11_itemRefusal 0 = .ok (.aload_n 1, 1) := by decide +kernel
theorem dX11_itemRefusal_1 : decode cX11_itemRefusal 1 = .ok (.getfield 133, 3) := by decide +kernel
theorem dX11_itemRefusal_4 : decode cX11_itemRefusal 4 = .ok (.ifCond .eq 9, 3) := by decide +kernel
theorem dX11_itemRefusal_7 : decode cX11_itemRefusal 7 = .ok (.aload_n 0, 1) := by decide +kernel
theorem dX11_itemRefusal_8 : decode cX11_itemRefusal 8 = .ok (.iconst 1, 1) := by decide +kernel
theorem dX11_itemRefusal_9 : decode cX11_itemRefusal 9 = .ok (.invokevirtual 137, 3) := by decide +kernel
theorem dX11_itemRefusal_12 : decode cX11_itemRefusal 12 = .ok (.ireturn, 1) := by decide +kernel
theorem dX11_itemRefusal_13 : decode cX11_itemRefusal 13 = .ok (.aload_n 1, 1) := by decide +kernel
theorem dX11_itemRefusal_14 : decode cX11_itemRefusal 14 = .ok (.getfield 245, 3) := by decide +kernel
theorem dX11_itemRefusal_17 : decode cX11_itemRefusal 17 = .ok (.iload_n 2, 1) := by decide +kernel
theorem dX11_itemRefusal_18 : decode cX11_itemRefusal 18 = .ok (.if_icmp .eq 9, 3) := by decide +kernel
theorem dX11_itemRefusal_21 : decode cX11_itemRefusal 21 = .ok (.aload_n 0, 1) := by decide +kernel
theorem dX11_itemRefusal_22 : decode cX11_itemRefusal 22 = .ok (.iconst 3, 1) := by decide +kernel
theorem dX11_itemRefusal_23 : decode cX11_itemRefusal 23 = .ok (.invokevirtual 137, 3) := by decide +kernel
theorem dX11_itemRefusal_26 : decode cX11_itemRefusal 26 = .ok (.ireturn, 1) := by decide +kernel
theorem dX11_itemRefusal_27 : decode cX11_itemRefusal 27 = .ok (.aload_n 1, 1) := by decide +kernel
theorem dX11_itemRefusal_28 : decode cX11_itemRefusal 28 = .ok (.iload_n 3, 1) := by decide +kernel
theorem dX11_itemRefusal_29 : decode cX11_itemRefusal 29 = .ok (.iconst 1, 1) := by decide +kernel
theorem dX11_itemRefusal_30 : decode cX11_itemRefusal 30 = .ok (.invokevirtual 248, 3) := by decide +kernel
theorem dX11_itemRefusal_33 : decode cX11_itemRefusal 33 = .ok (.ifCond .eq 7, 3) := by decide +kernel
theorem dX11_itemRefusal_36 : decode cX11_itemRefusal 36 = .ok (.iconst 0, 1) := by decide +kernel
theorem dX11_itemRefusal_37 : decode cX11_itemRefusal 37 = .ok (.goto 8, 3) := by decide +kernel
theorem dX11_itemRefusal_40 : decode cX11_itemRefusal 40 = .ok (.aload_n 0, 1) := by decide +kernel
theorem dX11_itemRefusal_41 : decode cX11_itemRefusal 41 = .ok (.iconst 2, 1) := by decide +kernel
theorem dX11_itemRefusal_42 : decode cX11_itemRefusal 42 = .ok (.invokevirtual 137, 3) := by decide +kernel
theorem dX11_itemRefusal_45 : decode cX11_itemRefusal 45 = .ok (.ireturn, 1) := by decide +kernel
theorem dX11_prepare_0 : decode cX11_prepare 0 = .ok (.aload_n 0, 1) := by decide +kernel
theorem dX11_prepare_1 : decode cX11_prepare 1 = .ok (.getfield 42, 3) := by decide +kernel
theorem dX11_prepare_4 : decode cX11_prepare 4 = .ok (.aload_n 0, 1) := by decide +kernel
theorem dX11_prepare_5 : decode cX11_prepare 5 = .ok (.getfield 146, 3) := by decide +kernel
theorem dX11_prepare_8 : decode cX11_prepare 8 = .ok (.putfield 184, 3) := by decide +kernel
theorem dX11_prepare_11 : decode cX11_prepare 11 = .ok (.aload_n 0, 1) := by decide +kernel
theorem dX11_prepare_12 : decode cX11_prepare 12 = .ok (.getfield 42, 3) := by decide +kernel
theorem dX11_prepare_15 : decode cX11_prepare 15 = .ok (.aload_n 0, 1) := by decide +kernel
theorem dX11_prepare_16 : decode cX11_prepare 16 = .ok (.getfield 33, 3) := by decide +kernel
theorem dX11_prepare_19 : decode cX11_prepare 19 = .ok (.iload_n 1, 1) := by decide +kernel
theorem dX11_prepare_20 : decode cX11_prepare 20 = .ok (.invokevirtual 186, 3) := by decide +kernel
theorem dX11_prepare_23 : decode cX11_prepare 23 = .ok (.aload_n 0, 1) := by decide +kernel
theorem dX11_prepare_24 : decode cX11_prepare 24 = .ok (.getfield 33, 3) := by decide +kernel
theorem dX11_prepare_27 : decode cX11_prepare 27 = .ok (.iload_n 1, 1) := by decide +kernel
theorem dX11_prepare_28 : decode cX11_prepare 28 = .ok (.invokevirtual 326, 3) := by decide +kernel
theorem dX11_prepare_31 : decode cX11_prepare 31 = .ok (.aload_n 0, 1) := by decide +kernel
theorem dX11_prepare_32 : decode cX11_prepare 32 = .ok (.getfield 33, 3) := by decide +kernel
theorem dX11_prepare_35 : decode cX11_prepare 35 = .ok (.iload_n 1, 1) := by decide +kernel
theorem dX11_prepare_36 : decode cX11_prepare 36 = .ok (.invokevirtual 329, 3) := by decide +kernel
theorem dX11_prepare_39 : decode cX11_prepare 39 = .ok (.invokevirtual 189, 3) := by decide +kernel
theorem dX11_prepare_42 : decode cX11_prepare 42 = .ok (.return_, 1) := by decide +kernel
theorem dX11_moodBehind_0 : decode cX11_moodBehind 0 = .ok (.aload_n 0, 1) := by decide +kernel
theorem dX11_moodBehind_1 : decode cX11_moodBehind 1 = .ok (.getfield 42, 3) := by decide +kernel
theorem dX11_moodBehind_4 : decode cX11_moodBehind 4 = .ok (.invokevirtual 332, 3) := by decide +kernel
theorem dX11_moodBehind_7 : decode cX11_moodBehind 7 = .ok (.aload_n 0, 1) := by decide +kernel
theorem dX11_moodBehind_8 : decode cX11_moodBehind 8 = .ok (.getfield 42, 3) := by decide +kernel
theorem dX11_moodBehind_11 : decode cX11_moodBehind 11 = .ok (.iconst 0, 1) := by decide +kernel
theorem dX11_moodBehind_12 : decode cX11_moodBehind 12 = .ok (.iload_n 2, 1) := by decide +kernel
theorem dX11_moodBehind_13 : decode cX11_moodBehind 13 = .ok (.iconst 1, 1) := by decide +kernel
theorem dX11_moodBehind_14 : decode cX11_moodBehind 14 = .ok (.iadd, 1) := by decide +kernel
theorem dX11_moodBehind_15 : decode cX11_moodBehind 15 = .ok (.aload_n 0, 1) := by decide +kernel
theorem dX11_moodBehind_16 : decode cX11_moodBehind 16 = .ok (.getfield 33, 3) := by decide +kernel
theorem dX11_moodBehind_19 : decode cX11_moodBehind 19 = .ok (.iload_n 1, 1) := by decide +kernel
theorem dX11_moodBehind_20 : decode cX11_moodBehind 20 = .ok (.invokevirtual 153, 3) := by decide +kernel
theorem dX11_moodBehind_23 : decode cX11_moodBehind 23 = .ok (.invokevirtual 335, 3) := by decide +kernel
theorem dX11_moodBehind_26 : decode cX11_moodBehind 26 = .ok (.istore 4, 2) := by decide +kernel
theorem dX11_moodBehind_28 : decode cX11_moodBehind 28 = .ok (.aload_n 0, 1) := by decide +kernel
theorem dX11_moodBehind_29 : decode cX11_moodBehind 29 = .ok (.getfield 42, 3) := by decide +kernel
theorem dX11_moodBehind_32 : decode cX11_moodBehind 32 = .ok (.getfield 338, 3) := by decide +kernel
theorem dX11_moodBehind_35 : decode cX11_moodBehind 35 = .ok (.ifCond .eq 9, 3) := by decide +kernel
theorem dX11_moodBehind_38 : decode cX11_moodBehind 38 = .ok (.iload 4, 2) := by decide +kernel
theorem dX11_moodBehind_40 : decode cX11_moodBehind 40 = .ok (.iload_n 2, 1) := by decide +kernel
theorem dX11_moodBehind_41 : decode cX11_moodBehind 41 = .ok (.if_icmp .ge 5, 3) := by decide +kernel
theorem dX11_moodBehind_44 : decode cX11_moodBehind 44 = .ok (.iconst (-1), 1) := by decide +kernel
theorem dX11_moodBehind_45 : decode cX11_moodBehind 45 = .ok (.ireturn, 1) := by decide +kernel
theorem dX11_moodBehind_46 : decode cX11_moodBehind 46 = .ok (.iload_n 3, 1) := by decide +kernel
theorem dX11_moodBehind_47 : decode cX11_moodBehind 47 = .ok (.ifCond .ne 13, 3) := by decide +kernel
theorem dX11_moodBehind_50 : decode cX11_moodBehind 50 = .ok (.aload_n 0, 1) := by decide +kernel
theorem dX11_moodBehind_51 : decode cX11_moodBehind 51 = .ok (.getfield 42, 3) := by decide +kernel
theorem dX11_moodBehind_54 : decode cX11_moodBehind 54 = .ok (.getfield 341, 3) := by decide +kernel
theorem dX11_moodBehind_57 : decode cX11_moodBehind 57 = .ok (.goto 10, 3) := by decide +kernel
theorem dX11_moodBehind_60 : decode cX11_moodBehind 60 = .ok (.aload_n 0, 1) := by decide +kernel
theorem dX11_moodBehind_61 : decode cX11_moodBehind 61 = .ok (.getfield 42, 3) := by decide +kernel
theorem dX11_moodBehind_64 : decode cX11_moodBehind 64 = .ok (.getfield 344, 3) := by decide +kernel
theorem dX11_moodBehind_67 : decode cX11_moodBehind 67 = .ok (.ireturn, 1) := by decide +kernel
theorem dX11_strengthBehind_0 : decode cX11_strengthBehind 0 = .ok (.aload_n 0, 1) := by decide +kernel
theorem dX11_strengthBehind_1 : decode cX11_strengthBehind 1 = .ok (.getfield 42, 3) := by decide +kernel
theorem dX11_strengthBehind_4 : decode cX11_strengthBehind 4 = .ok (.aload_n 0, 1) := by decide +kernel
theorem dX11_strengthBehind_5 : decode cX11_strengthBehind 5 = .ok (.getfield 33, 3) := by decide +kernel
theorem dX11_strengthBehind_8 : decode cX11_strengthBehind 8 = .ok (.iload_n 1, 1) := by decide +kernel
theorem dX11_strengthBehind_9 : decode cX11_strengthBehind 9 = .ok (.invokevirtual 153, 3) := by decide +kernel
theorem dX11_strengthBehind_12 : decode cX11_strengthBehind 12 = .ok (.invokevirtual 156, 3) := by decide +kernel
theorem dX11_strengthBehind_15 : decode cX11_strengthBehind 15 = .ok (.istore 4, 2) := by decide +kernel
theorem dX11_strengthBehind_17 : decode cX11_strengthBehind 17 = .ok (.aload_n 0, 1) := by decide +kernel
theorem dX11_strengthBehind_18 : decode cX11_strengthBehind 18 = .ok (.getfield 42, 3) := by decide +kernel
theorem dX11_strengthBehind_21 : decode cX11_strengthBehind 21 = .ok (.getfield 338, 3) := by decide +kernel
theorem dX11_strengthBehind_24 : decode cX11_strengthBehind 24 = .ok (.ifCond .eq 9, 3) := by decide +kernel
theorem dX11_strengthBehind_27 : decode cX11_strengthBehind 27 = .ok (.iload 4, 2) := by decide +kernel
theorem dX11_strengthBehind_29 : decode cX11_strengthBehind 29 = .ok (.iload_n 2, 1) := by decide +kernel
theorem dX11_strengthBehind_30 : decode cX11_strengthBehind 30 = .ok (.if_icmp .ge 5, 3) := by decide +kernel
theorem dX11_strengthBehind_33 : decode cX11_strengthBehind 33 = .ok (.iconst (-1), 1) := by decide +kernel
theorem dX11_strengthBehind_34 : decode cX11_strengthBehind 34 = .ok (.ireturn, 1) := by decide +kernel
theorem dX11_strengthBehind_35 : decode cX11_strengthBehind 35 = .ok (.aload_n 0, 1) := by decide +kernel
theorem dX11_strengthBehind_36 : decode cX11_strengthBehind 36 = .ok (.getfield 42, 3) := by decide +kernel
theorem dX11_strengthBehind_39 : decode cX11_strengthBehind 39 = .ok (.iload_n 2, 1) := by decide +kernel
theorem dX11_strengthBehind_40 : decode cX11_strengthBehind 40 = .ok (.iload 4, 2) := by decide +kernel
theorem dX11_strengthBehind_42 : decode cX11_strengthBehind 42 = .ok (.iload_n 2, 1) := by decide +kernel
theorem dX11_strengthBehind_43 : decode cX11_strengthBehind 43 = .ok (.if_icmp .le 7, 3) := by decide +kernel
theorem dX11_strengthBehind_46 : decode cX11_strengthBehind 46 = .ok (.iconst 1, 1) := by decide +kernel
theorem dX11_strengthBehind_47 : decode cX11_strengthBehind 47 = .ok (.goto 4, 3) := by decide +kernel
theorem dX11_strengthBehind_50 : decode cX11_strengthBehind 50 = .ok (.iconst 0, 1) := by decide +kernel
theorem dX11_strengthBehind_51 : decode cX11_strengthBehind 51 = .ok (.invokevirtual 347, 3) := by decide +kernel
theorem dX11_strengthBehind_54 : decode cX11_strengthBehind 54 = .ok (.pop, 1) := by decide +kernel
theorem dX11_strengthBehind_55 : decode cX11_strengthBehind 55 = .ok (.iload_n 3, 1) := by decide +kernel
theorem dX11_strengthBehind_56 : decode cX11_strengthBehind 56 = .ok (.iconst 2, 1) := by decide +kernel
theorem dX11_strengthBehind_57 : decode cX11_strengthBehind 57 = .ok (.if_icmp .ne 16, 3) := by decide +kernel
theorem dX11_strengthBehind_60 : decode cX11_strengthBehind 60 = .ok (.aload_n 0, 1) := by decide +kernel
theorem dX11_strengthBehind_61 : decode cX11_strengthBehind 61 = .ok (.getfield 42, 3) := by decide +kernel
theorem dX11_strengthBehind_64 : decode cX11_strengthBehind 64 = .ok (.getfield 351, 3) := by decide +kernel
theorem dX11_strengthBehind_67 : decode cX11_strengthBehind 67 = .ok (.getfield 355, 3) := by decide +kernel
theorem dX11_strengthBehind_70 : decode cX11_strengthBehind 70 = .ok (.goto 13, 3) := by decide +kernel
theorem dX11_strengthBehind_73 : decode cX11_strengthBehind 73 = .ok (.aload_n 0, 1) := by decide +kernel
theorem dX11_strengthBehind_74 : decode cX11_strengthBehind 74 = .ok (.getfield 42, 3) := by decide +kernel
theorem dX11_strengthBehind_77 : decode cX11_strengthBehind 77 = .ok (.getfield 360, 3) := by decide +kernel
theorem dX11_strengthBehind_80 : decode cX11_strengthBehind 80 = .ok (.getfield 355, 3) := by decide +kernel
theorem dX11_strengthBehind_83 : decode cX11_strengthBehind 83 = .ok (.ireturn, 1) := by decide +kernel
theorem dX11_agreesWithSeen_0 : decode cX11_agreesWithSeen 0 = .ok (.aload_n 0, 1) := by decide +kernel
theorem dX11_agreesWithSeen_1 : decode cX11_agreesWithSeen 1 = .ok (.getfield 42, 3) := by decide +kernel
theorem dX11_agreesWithSeen_4 : decode cX11_agreesWithSeen 4 = .ok (.aload_n 0, 1) := by decide +kernel
theorem dX11_agreesWithSeen_5 : decode cX11_agreesWithSeen 5 = .ok (.getfield 146, 3) := by decide +kernel
theorem dX11_agreesWithSeen_8 : decode cX11_agreesWithSeen 8 = .ok (.putfield 184, 3) := by decide +kernel
theorem dX11_agreesWithSeen_11 : decode cX11_agreesWithSeen 11 = .ok (.iconst 0, 1) := by decide +kernel
theorem dX11_agreesWithSeen_12 : decode cX11_agreesWithSeen 12 = .ok (.istore 5, 2) := by decide +kernel
theorem dX11_agreesWithSeen_14 : decode cX11_agreesWithSeen 14 = .ok (.iload 5, 2) := by decide +kernel
theorem dX11_agreesWithSeen_16 : decode cX11_agreesWithSeen 16 = .ok (.aload_n 0, 1) := by decide +kernel
theorem dX11_agreesWithSeen_17 : decode cX11_agreesWithSeen 17 = .ok (.getfield 193, 3) := by decide +kernel
theorem dX11_agreesWithSeen_20 : decode cX11_agreesWithSeen 20 = .ok (.if_icmp .ge 134, 3) := by decide +kernel
theorem dX11_agreesWithSeen_23 : decode cX11_agreesWithSeen 23 = .ok (.iload 5, 2) := by decide +kernel
theorem dX11_agreesWithSeen_25 : decode cX11_agreesWithSeen 25 = .ok (.bipush 8, 2) := by decide +kernel
theorem dX11_agreesWithSeen_27 : decode cX11_agreesWithSeen 27 = .ok (.if_icmp .ge 127, 3) := by decide +kernel
theorem dX11_agreesWithSeen_30 : decode cX11_agreesWithSeen 30 = .ok (.aload_n 0, 1) := by decide +kernel
theorem dX11_agreesWithSeen_31 : decode cX11_agreesWithSeen 31 = .ok (.getfield 67, 3) := by decide +kernel
theorem dX11_agreesWithSeen_34 : decode cX11_agreesWithSeen 34 = .ok (.iload 5, 2) := by decide +kernel
theorem dX11_agreesWithSeen_36 : decode cX11_agreesWithSeen 36 = .ok (.iaload, 1) := by decide +kernel
theorem dX11_agreesWithSeen_37 : decode cX11_agreesWithSeen 37 = .ok (.istore 6, 2) := by decide +kernel
theorem dX11_agreesWithSeen_39 : decode cX11_agreesWithSeen 39 = .ok (.aload_n 0, 1) := by decide +kernel
theorem dX11_agreesWithSeen_40 : decode cX11_agreesWithSeen 40 = .ok (.getfield 33, 3) := by decide +kernel
theorem dX11_agreesWithSeen_43 : decode cX11_agreesWithSeen 43 = .ok (.iload 6, 2) := by decide +kernel
theorem dX11_agreesWithSeen_45 : decode cX11_agreesWithSeen 45 = .ok (.invokevirtual 149, 3) := by decide +kernel
theorem dX11_agreesWithSeen_48 : decode cX11_agreesWithSeen 48 = .ok (.ifCond .ne 5, 3) := by decide +kernel
theorem dX11_agreesWithSeen_51 : decode cX11_agreesWithSeen 51 = .ok (.iconst 0, 1) := by decide +kernel
theorem dX11_agreesWithSeen_52 : decode cX11_agreesWithSeen 52 = .ok (.ireturn, 1) := by decide +kernel
theorem dX11_agreesWithSeen_53 : decode cX11_agreesWithSeen 53 = .ok (.aload_n 0, 1) := by decide +kernel
theorem dX11_agreesWithSeen_54 : decode cX11_agreesWithSeen 54 = .ok (.getfield 33, 3) := by decide +kernel
theorem dX11_agreesWithSeen_57 : decode cX11_agreesWithSeen 57 = .ok (.iload 6, 2) := by decide +kernel
theorem dX11_agreesWithSeen_59 : decode cX11_agreesWithSeen 59 = .ok (.invokevirtual 186, 3) := by decide +kernel
theorem dX11_agreesWithSeen_62 : decode cX11_agreesWithSeen 62 = .ok (.istore 7, 2) := by decide +kernel
theorem dX11_agreesWithSeen_64 : decode cX11_agreesWithSeen 64 = .ok (.aload_n 0, 1) := by decide +kernel
theorem dX11_agreesWithSeen_65 : decode cX11_agreesWithSeen 65 = .ok (.getfield 42, 3) := by decide +kernel
theorem dX11_agreesWithSeen_68 : decode cX11_agreesWithSeen 68 = .ok (.iload 7, 2) := by decide +kernel
theorem dX11_agreesWithSeen_70 : decode cX11_agreesWithSeen 70 = .ok (.aload_n 0, 1) := by decide +kernel
theorem dX11_agreesWithSeen_71 : decode cX11_agreesWithSeen 71 = .ok (.getfield 33, 3) := by decide +kernel
theorem dX11_agreesWithSeen_74 : decode cX11_agreesWithSeen 74 = .ok (.iload 6, 2) := by decide +kernel
theorem dX11_agreesWithSeen_76 : decode cX11_agreesWithSeen 76 = .ok (.invokevirtual 326, 3) := by decide +kernel
theorem dX11_agreesWithSeen_79 : decode cX11_agreesWithSeen 79 = .ok (.aload_n 0, 1) := by decide +kernel
theorem dX11_agreesWithSeen_80 : decode cX11_agreesWithSeen 80 = .ok (.getfield 33, 3) := by decide +kernel
theorem dX11_agreesWithSeen_83 : decode cX11_agreesWithSeen 83 = .ok (.iload 6, 2) := by decide +kernel
theorem dX11_agreesWithSeen_85 : decode cX11_agreesWithSeen 85 = .ok (.invokevirtual 329, 3) := by decide +kernel
theorem dX11_agreesWithSeen_88 : decode cX11_agreesWithSeen 88 = .ok (.invokevirtual 189, 3) := by decide +kernel
theorem dX11_agreesWithSeen_91 : decode cX11_agreesWithSeen 91 = .ok (.iload 7, 2) := by decide +kernel
theorem dX11_agreesWithSeen_93 : decode cX11_agreesWithSeen 93 = .ok (.iload_n 1, 1) := by decide +kernel
theorem dX11_agreesWithSeen_94 : decode cX11_agreesWithSeen 94 = .ok (.if_icmp .ne 11, 3) := by decide +kernel
theorem dX11_agreesWithSeen_97 : decode cX11_agreesWithSeen 97 = .ok (.aload_n 0, 1) := by decide +kernel
theorem dX11_agreesWithSeen_98 : decode cX11_agreesWithSeen 98 = .ok (.getfield 42, 3) := by decide +kernel
theorem dX11_agreesWithSeen_101 : decode cX11_agreesWithSeen 101 = .ok (.iload_n 2, 1) := by decide +kernel
theorem dX11_agreesWithSeen_102 : decode cX11_agreesWithSeen 102 = .ok (.putfield 363, 3) := by decide +kernel
theorem dX11_agreesWithSeen_105 : decode cX11_agreesWithSeen 105 = .ok (.aload_n 0, 1) := by decide +kernel
theorem dX11_agreesWithSeen_106 : decode cX11_agreesWithSeen 106 = .ok (.getfield 42, 3) := by decide +kernel
theorem dX11_agreesWithSeen_109 : decode cX11_agreesWithSeen 109 = .ok (.iload 6, 2) := by decide +kernel
theorem dX11_agreesWithSeen_111 : decode cX11_agreesWithSeen 111 = .ok (.iload_n 3, 1) := by decide +kernel
theorem dX11_agreesWithSeen_112 : decode cX11_agreesWithSeen 112 = .ok (.if_icmp .ne 8, 3) := by decide +kernel
theorem dX11_agreesWithSeen_115 : decode cX11_agreesWithSeen 115 = .ok (.iload 4, 2) := by decide +kernel
theorem dX11_agreesWithSeen_117 : decode cX11_agreesWithSeen 117 = .ok (.goto 12, 3) := by decide +kernel
theorem dX11_agreesWithSeen_120 : decode cX11_agreesWithSeen 120 = .ok (.aload_n 0, 1) := by decide +kernel
theorem dX11_agreesWithSeen_121 : decode cX11_agreesWithSeen 121 = .ok (.getfield 33, 3) := by decide +kernel
theorem dX11_agreesWithSeen_124 : decode cX11_agreesWithSeen 124 = .ok (.iload 6, 2) := by decide +kernel
theorem dX11_agreesWithSeen_126 : decode cX11_agreesWithSeen 126 = .ok (.invokevirtual 153, 3) := by decide +kernel
theorem dX11_agreesWithSeen_129 : decode cX11_agreesWithSeen 129 = .ok (.invokevirtual 156, 3) := by decide +kernel
theorem dX11_agreesWithSeen_132 : decode cX11_agreesWithSeen 132 = .ok (.istore 8, 2) := by decide +kernel
theorem dX11_agreesWithSeen_134 : decode cX11_agreesWithSeen 134 = .ok (.iload 8, 2) := by decide +kernel
theorem dX11_agreesWithSeen_136 : decode cX11_agreesWithSeen 136 = .ok (.aload_n 0, 1) := by decide +kernel
theorem dX11_agreesWithSeen_137 : decode cX11_agreesWithSeen 137 = .ok (.getfield 71, 3) := by decide +kernel
theorem dX11_agreesWithSeen_140 : decode cX11_agreesWithSeen 140 = .ok (.iload 5, 2) := by decide +kernel
