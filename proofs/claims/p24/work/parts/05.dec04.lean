theorem dX12_flies_178 : decode cX12_flies 178 = .ok (.iconst 1, 1) := dX12_flies_171_a.2.2.2.2.1
theorem dX12_flies_179 : decode cX12_flies 179 = .ok (.iadd, 1) := dX12_flies_171_a.2.2.2.2.2.1
theorem dX12_flies_180 : decode cX12_flies 180 = .ok (.aload_n 0, 1) := dX12_flies_171_a.2.2.2.2.2.2.1
theorem dX12_flies_181 : decode cX12_flies 181 = .ok (.getfield 177, 3) := dX12_flies_171_a.2.2.2.2.2.2.2.1
theorem dX12_flies_184 : decode cX12_flies 184 = .ok (.iastore, 1) := dX12_flies_171_a.2.2.2.2.2.2.2.2.1
theorem dX12_flies_185 : decode cX12_flies 185 = .ok (.aload_n 0, 1) := dX12_flies_171_a.2.2.2.2.2.2.2.2.2.1
theorem dX12_flies_186 : decode cX12_flies 186 = .ok (.getfield 40, 3) := dX12_flies_171_a.2.2.2.2.2.2.2.2.2.2.1
theorem dX12_flies_189 : decode cX12_flies 189 = .ok (.iconst 4, 1) := dX12_flies_171_a.2.2.2.2.2.2.2.2.2.2.2.1
theorem dX12_flies_190 : decode cX12_flies 190 = .ok (.iload 7, 2) := dX12_flies_171_a.2.2.2.2.2.2.2.2.2.2.2.2.1
theorem dX12_flies_192 : decode cX12_flies 192 = .ok (.imul, 1) := dX12_flies_171_a.2.2.2.2.2.2.2.2.2.2.2.2.2.1
theorem dX12_flies_193 : decode cX12_flies 193 = .ok (.iconst 2, 1) := dX12_flies_171_a.2.2.2.2.2.2.2.2.2.2.2.2.2.2.1
theorem dX12_flies_194 : decode cX12_flies 194 = .ok (.iadd, 1) := dX12_flies_171_a.2.2.2.2.2.2.2.2.2.2.2.2.2.2.2
theorem dX12_flies_195_a : (decode cX12_flies 195 = .ok (.aload_n 0, 1)) ∧ (decode cX12_flies 196 = .ok (.getfield 46, 3)) ∧ (decode cX12_flies 199 = .ok (.iconst 0, 1)) ∧ (decode cX12_flies 200 = .ok (.iaload, 1)) ∧ (decode cX12_flies 201 = .ok (.iastore, 1)) ∧ (decode cX12_flies 202 = .ok (.aload_n 0, 1)) ∧ (decode cX12_flies 203 = .ok (.getfield 40, 3)) ∧ (decode cX12_flies 206 = .ok (.iconst 4, 1)) ∧ (decode cX12_flies 207 = .ok (.iload 7, 2)) ∧ (decode cX12_flies 209 = .ok (.imul, 1)) ∧ (decode cX12_flies 210 = .ok (.iconst 3, 1)) ∧ (decode cX12_flies 211 = .ok (.iadd, 1)) ∧ (decode cX12_flies 212 = .ok (.aload_n 0, 1)) ∧ (decode cX12_flies 213 = .ok (.getfield 46, 3)) ∧ (decode cX12_flies 216 = .ok (.iconst 1, 1)) ∧ (decode cX12_flies 217 = .ok (.iaload, 1)) := by decide +kernel
theorem dX12_flies_195 : decode cX12_flies 195 = .ok (.aload_n 0, 1) := dX12_flies_195_a.1
theorem dX12_flies_196 : decode cX12_flies 196 = .ok (.getfield 46, 3) := dX12_flies_195_a.2.1
theorem dX12_flies_199 : decode cX12_flies 199 = .ok (.iconst 0, 1) := dX12_flies_195_a.2.2.1
theorem dX12_flies_200 : decode cX12_flies 200 = .ok (.iaload, 1) := dX12_flies_195_a.2.2.2.1
theorem dX12_flies_201 : decode cX12_flies 201 = .ok (.iastore, 1) := dX12_flies_195_a.2.2.2.2.1
theorem dX12_flies_202 : decode cX12_flies 202 = .ok (.aload_n 0, 1) := dX12_flies_195_a.2.2.2.2.2.1
theorem dX12_flies_203 : decode cX12_flies 203 = .ok (.getfield 40, 3) := dX12_flies_195_a.2.2.2.2.2.2.1
theorem dX12_flies_206 : decode cX12_flies 206 = .ok (.iconst 4, 1) := dX12_flies_195_a.2.2.2.2.2.2.2.1
theorem dX12_flies_207 : decode cX12_flies 207 = .ok (.iload 7, 2) := dX12_flies_195_a.2.2.2.2.2.2.2.2.1
theorem dX12_flies_209 : decode cX12_flies 209 = .ok (.imul, 1) := dX12_flies_195_a.2.2.2.2.2.2.2.2.2.1
theorem dX12_flies_210 : decode cX12_flies 210 = .ok (.iconst 3, 1) := dX12_flies_195_a.2.2.2.2.2.2.2.2.2.2.1
theorem dX12_flies_211 : decode cX12_flies 211 = .ok (.iadd, 1) := dX12_flies_195_a.2.2.2.2.2.2.2.2.2.2.2.1
theorem dX12_flies_212 : decode cX12_flies 212 = .ok (.aload_n 0, 1) := dX12_flies_195_a.2.2.2.2.2.2.2.2.2.2.2.2.1
theorem dX12_flies_213 : decode cX12_flies 213 = .ok (.getfield 46, 3) := dX12_flies_195_a.2.2.2.2.2.2.2.2.2.2.2.2.2.1
theorem dX12_flies_216 : decode cX12_flies 216 = .ok (.iconst 1, 1) := dX12_flies_195_a.2.2.2.2.2.2.2.2.2.2.2.2.2.2.1
theorem dX12_flies_217 : decode cX12_flies 217 = .ok (.iaload, 1) := dX12_flies_195_a.2.2.2.2.2.2.2.2.2.2.2.2.2.2.2
theorem dX12_flies_218_a : (decode cX12_flies 218 = .ok (.iastore, 1)) ∧ (decode cX12_flies 219 = .ok (.aload_n 0, 1)) ∧ (decode cX12_flies 220 = .ok (.dup, 1)) ∧ (decode cX12_flies 221 = .ok (.getfield 190, 3)) ∧ (decode cX12_flies 224 = .ok (.iconst 1, 1)) ∧ (decode cX12_flies 225 = .ok (.iadd, 1)) ∧ (decode cX12_flies 226 = .ok (.putfield 190, 3)) ∧ (decode cX12_flies 229 = .ok (.aload_n 0, 1)) ∧ (decode cX12_flies 230 = .ok (.aload_n 0, 1)) ∧ (decode cX12_flies 231 = .ok (.getfield 196, 3)) ∧ (decode cX12_flies 234 = .ok (.ifCond .ne 10, 3)) ∧ (decode cX12_flies 237 = .ok (.iload 7, 2)) ∧ (decode cX12_flies 239 = .ok (.iconst 1, 1)) ∧ (decode cX12_flies 240 = .ok (.iadd, 1)) ∧ (decode cX12_flies 241 = .ok (.goto 5, 3)) ∧ (decode cX12_flies 244 = .ok (.iload 7, 2)) := by decide +kernel
theorem dX12_flies_218 : decode cX12_flies 218 = .ok (.iastore, 1) := dX12_flies_218_a.1
theorem dX12_flies_219 : decode cX12_flies 219 = .ok (.aload_n 0, 1) := dX12_flies_218_a.2.1
theorem dX12_flies_220 : decode cX12_flies 220 = .ok (.dup, 1) := dX12_flies_218_a.2.2.1
theorem dX12_flies_221 : decode cX12_flies 221 = .ok (.getfield 190, 3) := dX12_flies_218_a.2.2.2.1
theorem dX12_flies_224 : decode cX12_flies 224 = .ok (.iconst 1, 1) := dX12_flies_218_a.2.2.2.2.1
theorem dX12_flies_225 : decode cX12_flies 225 = .ok (.iadd, 1) := dX12_flies_218_a.2.2.2.2.2.1
theorem dX12_flies_226 : decode cX12_flies 226 = .ok (.putfield 190, 3) := dX12_flies_218_a.2.2.2.2.2.2.1
theorem dX12_flies_229 : decode cX12_flies 229 = .ok (.aload_n 0, 1) := dX12_flies_218_a.2.2.2.2.2.2.2.1
theorem dX12_flies_230 : decode cX12_flies 230 = .ok (.aload_n 0, 1) := dX12_flies_218_a.2.2.2.2.2.2.2.2.1
theorem dX12_flies_231 : decode cX12_flies 231 = .ok (.getfield 196, 3) := dX12_flies_218_a.2.2.2.2.2.2.2.2.2.1
theorem dX12_flies_234 : decode cX12_flies 234 = .ok (.ifCond .ne 10, 3) := dX12_flies_218_a.2.2.2.2.2.2.2.2.2.2.1
theorem dX12_flies_237 : decode cX12_flies 237 = .ok (.iload 7, 2) := dX12_flies_218_a.2.2.2.2.2.2.2.2.2.2.2.1
theorem dX12_flies_239 : decode cX12_flies 239 = .ok (.iconst 1, 1) := dX12_flies_218_a.2.2.2.2.2.2.2.2.2.2.2.2.1
theorem dX12_flies_240 : decode cX12_flies 240 = .ok (.iadd, 1) := dX12_flies_218_a.2.2.2.2.2.2.2.2.2.2.2.2.2.1
theorem dX12_flies_241 : decode cX12_flies 241 = .ok (.goto 5, 3) := dX12_flies_218_a.2.2.2.2.2.2.2.2.2.2.2.2.2.2.1
theorem dX12_flies_244 : decode cX12_flies 244 = .ok (.iload 7, 2) := dX12_flies_218_a.2.2.2.2.2.2.2.2.2.2.2.2.2.2.2
theorem dX12_flies_246_a : (decode cX12_flies 246 = .ok (.putfield 193, 3)) ∧ (decode cX12_flies 249 = .ok (.iinc 7 1, 3)) ∧ (decode cX12_flies 252 = .ok (.goto (-136), 3)) ∧ (decode cX12_flies 255 = .ok (.return_, 1)) := by decide +kernel
theorem dX12_flies_246 : decode cX12_flies 246 = .ok (.putfield 193, 3) := dX12_flies_246_a.1
theorem dX12_flies_249 : decode cX12_flies 249 = .ok (.iinc 7 1, 3) := dX12_flies_246_a.2.1
theorem dX12_flies_252 : decode cX12_flies 252 = .ok (.goto (-136), 3) := dX12_flies_246_a.2.2.1
theorem dX12_flies_255 : decode cX12_flies 255 = .ok (.return_, 1) := dX12_flies_246_a.2.2.2
theorem dX12_fliesTold_0_a : (decode cX12_fliesTold 0 = .ok (.aload_n 0, 1)) ∧ (decode cX12_fliesTold 1 = .ok (.aload_n 0, 1)) ∧ (decode cX12_fliesTold 2 = .ok (.getfield 37, 3)) ∧ (decode cX12_fliesTold 5 = .ok (.iconst 4, 1)) ∧ (decode cX12_fliesTold 6 = .ok (.iload_n 1, 1)) ∧ (decode cX12_fliesTold 7 = .ok (.imul, 1)) ∧ (decode cX12_fliesTold 8 = .ok (.iaload, 1)) ∧ (decode cX12_fliesTold 9 = .ok (.aload_n 0, 1)) ∧ (decode cX12_fliesTold 10 = .ok (.getfield 37, 3)) ∧ (decode cX12_fliesTold 13 = .ok (.iconst 4, 1)) ∧ (decode cX12_fliesTold 14 = .ok (.iload_n 1, 1)) ∧ (decode cX12_fliesTold 15 = .ok (.imul, 1)) ∧ (decode cX12_fliesTold 16 = .ok (.iconst 1, 1)) ∧ (decode cX12_fliesTold 17 = .ok (.iadd, 1)) ∧ (decode cX12_fliesTold 18 = .ok (.iaload, 1)) ∧ (decode cX12_fliesTold 19 = .ok (.aload_n 0, 1)) := by decide +kernel
theorem dX12_fliesTold_0 : decode cX12_fliesTold 0 = .ok (.aload_n 0, 1) := dX12_fliesTold_0_a.1
theorem dX12_fliesTold_1 : decode cX12_fliesTold 1 = .ok (.aload_n 0, 1) := dX12_fliesTold_0_a.2.1
theorem dX12_fliesTold_2 : decode cX12_fliesTold 2 = .ok (.getfield 37, 3) := dX12_fliesTold_0_a.2.2.1
theorem dX12_fliesTold_5 : decode cX12_fliesTold 5 = .ok (.iconst 4, 1) := dX12_fliesTold_0_a.2.2.2.1
theorem dX12_fliesTold_6 : decode cX12_fliesTold 6 = .ok (.iload_n 1, 1) := dX12_fliesTold_0_a.2.2.2.2.1
theorem dX12_fliesTold_7 : decode cX12_fliesTold 7 = .ok (.imul, 1) := dX12_fliesTold_0_a.2.2.2.2.2.1
theorem dX12_fliesTold_8 : decode cX12_fliesTold 8 = .ok (.iaload, 1) := dX12_fliesTold_0_a.2.2.2.2.2.2.1
theorem dX12_fliesTold_9 : decode cX12_fliesTold 9 = .ok (.aload_n 0, 1) := dX12_fliesTold_0_a.2.2.2.2.2.2.2.1
theorem dX12_fliesTold_10 : decode cX12_fliesTold 10 = .ok (.getfield 37, 3) := dX12_fliesTold_0_a.2.2.2.2.2.2.2.2.1
theorem dX12_fliesTold_13 : decode cX12_fliesTold 13 = .ok (.iconst 4, 1) := dX12_fliesTold_0_a.2.2.2.2.2.2.2.2.2.1
theorem dX12_fliesTold_14 : decode cX12_fliesTold 14 = .ok (.iload_n 1, 1) := dX12_fliesTold_0_a.2.2.2.2.2.2.2.2.2.2.1
theorem dX12_fliesTold_15 : decode cX12_fliesTold 15 = .ok (.imul, 1) := dX12_fliesTold_0_a.2.2.2.2.2.2.2.2.2.2.2.1
theorem dX12_fliesTold_16 : decode cX12_fliesTold 16 = .ok (.iconst 1, 1) := dX12_fliesTold_0_a.2.2.2.2.2.2.2.2.2.2.2.2.1
theorem dX12_fliesTold_17 : decode cX12_fliesTold 17 = .ok (.iadd, 1) := dX12_fliesTold_0_a.2.2.2.2.2.2.2.2.2.2.2.2.2.1
theorem dX12_fliesTold_18 : decode cX12_fliesTold 18 = .ok (.iaload, 1) := dX12_fliesTold_0_a.2.2.2.2.2.2.2.2.2.2.2.2.2.2.1
theorem dX12_fliesTold_19 : decode cX12_fliesTold 19 = .ok (.aload_n 0, 1) := dX12_fliesTold_0_a.2.2.2.2.2.2.2.2.2.2.2.2.2.2.2
theorem dX12_fliesTold_20_a : (decode cX12_fliesTold 20 = .ok (.getfield 37, 3)) ∧ (decode cX12_fliesTold 23 = .ok (.iconst 4, 1)) ∧ (decode cX12_fliesTold 24 = .ok (.iload_n 1, 1)) ∧ (decode cX12_fliesTold 25 = .ok (.imul, 1)) ∧ (decode cX12_fliesTold 26 = .ok (.iconst 2, 1)) ∧ (decode cX12_fliesTold 27 = .ok (.iadd, 1)) ∧ (decode cX12_fliesTold 28 = .ok (.iaload, 1)) ∧ (decode cX12_fliesTold 29 = .ok (.aload_n 0, 1)) ∧ (decode cX12_fliesTold 30 = .ok (.getfield 37, 3)) ∧ (decode cX12_fliesTold 33 = .ok (.iconst 4, 1)) ∧ (decode cX12_fliesTold 34 = .ok (.iload_n 1, 1)) ∧ (decode cX12_fliesTold 35 = .ok (.imul, 1)) ∧ (decode cX12_fliesTold 36 = .ok (.iconst 3, 1)) ∧ (decode cX12_fliesTold 37 = .ok (.iadd, 1)) ∧ (decode cX12_fliesTold 38 = .ok (.iaload, 1)) ∧ (decode cX12_fliesTold 39 = .ok (.bipush 24, 2)) := by decide +kernel
theorem dX12_fliesTold_20 : decode cX12_fliesTold 20 = .ok (.getfield 37, 3) := dX12_fliesTold_20_a.1
theorem dX12_fliesTold_23 : decode cX12_fliesTold 23 = .ok (.iconst 4, 1) := dX12_fliesTold_20_a.2.1
theorem dX12_fliesTold_24 : decode cX12_fliesTold 24 = .ok (.iload_n 1, 1) := dX12_fliesTold_20_a.2.2.1
theorem dX12_fliesTold_25 : decode cX12_fliesTold 25 = .ok (.imul, 1) := dX12_fliesTold_20_a.2.2.2.1
theorem dX12_fliesTold_26 : decode cX12_fliesTold 26 = .ok (.iconst 2, 1) := dX12_fliesTold_20_a.2.2.2.2.1
theorem dX12_fliesTold_27 : decode cX12_fliesTold 27 = .ok (.iadd, 1) := dX12_fliesTold_20_a.2.2.2.2.2.1
theorem dX12_fliesTold_28 : decode cX12_fliesTold 28 = .ok (.iaload, 1) := dX12_fliesTold_20_a.2.2.2.2.2.2.1
theorem dX12_fliesTold_29 : decode cX12_fliesTold 29 = .ok (.aload_n 0, 1) := dX12_fliesTold_20_a.2.2.2.2.2.2.2.1
theorem dX12_fliesTold_30 : decode cX12_fliesTold 30 = .ok (.getfield 37, 3) := dX12_fliesTold_20_a.2.2.2.2.2.2.2.2.1
theorem dX12_fliesTold_33 : decode cX12_fliesTold 33 = .ok (.iconst 4, 1) := dX12_fliesTold_20_a.2.2.2.2.2.2.2.2.2.1
theorem dX12_fliesTold_34 : decode cX12_fliesTold 34 = .ok (.iload_n 1, 1) := dX12_fliesTold_20_a.2.2.2.2.2.2.2.2.2.2.1
theorem dX12_fliesTold_35 : decode cX12_fliesTold 35 = .ok (.imul, 1) := dX12_fliesTold_20_a.2.2.2.2.2.2.2.2.2.2.2.1
theorem dX12_fliesTold_36 : decode cX12_fliesTold 36 = .ok (.iconst 3, 1) := dX12_fliesTold_20_a.2.2.2.2.2.2.2.2.2.2.2.2.1
theorem dX12_fliesTold_37 : decode cX12_fliesTold 37 = .ok (.iadd, 1) := dX12_fliesTold_20_a.2.2.2.2.2.2.2.2.2.2.2.2.2.1
theorem dX12_fliesTold_38 : decode cX12_fliesTold 38 = .ok (.iaload, 1) := dX12_fliesTold_20_a.2.2.2.2.2.2.2.2.2.2.2.2.2.2.1
theorem dX12_fliesTold_39 : decode cX12_fliesTold 39 = .ok (.bipush 24, 2) := dX12_fliesTold_20_a.2.2.2.2.2.2.2.2.2.2.2.2.2.2.2
theorem dX12_fliesTold_41_a : (decode cX12_fliesTold 41 = .ok (.iconst 0, 1)) ∧ (decode cX12_fliesTold 42 = .ok (.invokevirtual 202, 3)) ∧ (decode cX12_fliesTold 45 = .ok (.return_, 1)) := by decide +kernel
theorem dX12_fliesTold_41 : decode cX12_fliesTold 41 = .ok (.iconst 0, 1) := dX12_fliesTold_41_a.1
theorem dX12_fliesTold_42 : decode cX12_fliesTold 42 = .ok (.invokevirtual 202, 3) := dX12_fliesTold_41_a.2.1
theorem dX12_fliesTold_45 : decode cX12_fliesTold 45 = .ok (.return_, 1) := dX12_fliesTold_41_a.2.2
theorem dX12_comesNow_0_a : (decode cX12_comesNow 0 = .ok (.aload_n 0, 1)) ∧ (decode cX12_comesNow 1 = .ok (.getfield 196, 3)) ∧ (decode cX12_comesNow 4 = .ok (.ifCond .eq 28, 3)) ∧ (decode cX12_comesNow 7 = .ok (.aload_n 0, 1)) ∧ (decode cX12_comesNow 8 = .ok (.getfield 190, 3)) ∧ (decode cX12_comesNow 11 = .ok (.ifCond .le 21, 3)) ∧ (decode cX12_comesNow 14 = .ok (.aload_n 0, 1)) ∧ (decode cX12_comesNow 15 = .ok (.getfield 28, 3)) ∧ (decode cX12_comesNow 18 = .ok (.aload_n 0, 1)) ∧ (decode cX12_comesNow 19 = .ok (.getfield 193, 3)) ∧ (decode cX12_comesNow 22 = .ok (.iaload, 1)) ∧ (decode cX12_comesNow 23 = .ok (.bipush 6, 2)) ∧ (decode cX12_comesNow 25 = .ok (.if_icmp .ge 7, 3)) ∧ (decode cX12_comesNow 28 = .ok (.iconst 1, 1)) ∧ (decode cX12_comesNow 29 = .ok (.goto 4, 3)) ∧ (decode cX12_comesNow 32 = .ok (.iconst 0, 1)) := by decide +kernel
theorem dX12_comesNow_0 : decode cX12_comesNow 0 = .ok (.aload_n 0, 1) := dX12_comesNow_0_a.1
theorem dX12_comesNow_1 : decode cX12_comesNow 1 = .ok (.getfield 196, 3) := dX12_comesNow_0_a.2.1
theorem dX12_comesNow_4 : decode cX12_comesNow 4 = .ok (.ifCond .eq 28, 3) := dX12_comesNow_0_a.2.2.1
theorem dX12_comesNow_7 : decode cX12_comesNow 7 = .ok (.aload_n 0, 1) := dX12_comesNow_0_a.2.2.2.1
theorem dX12_comesNow_8 : decode cX12_comesNow 8 = .ok (.getfield 190, 3) := dX12_comesNow_0_a.2.2.2.2.1
theorem dX12_comesNow_11 : decode cX12_comesNow 11 = .ok (.ifCond .le 21, 3) := dX12_comesNow_0_a.2.2.2.2.2.1
theorem dX12_comesNow_14 : decode cX12_comesNow 14 = .ok (.aload_n 0, 1) := dX12_comesNow_0_a.2.2.2.2.2.2.1
theorem dX12_comesNow_15 : decode cX12_comesNow 15 = .ok (.getfield 28, 3) := dX12_comesNow_0_a.2.2.2.2.2.2.2.1
theorem dX12_comesNow_18 : decode cX12_comesNow 18 = .ok (.aload_n 0, 1) := dX12_comesNow_0_a.2.2.2.2.2.2.2.2.1
theorem dX12_comesNow_19 : decode cX12_comesNow 19 = .ok (.getfield 193, 3) := dX12_comesNow_0_a.2.2.2.2.2.2.2.2.2.1
theorem dX12_comesNow_22 : decode cX12_comesNow 22 = .ok (.iaload, 1) := dX12_comesNow_0_a.2.2.2.2.2.2.2.2.2.2.1
theorem dX12_comesNow_23 : decode cX12_comesNow 23 = .ok (.bipush 6, 2) := dX12_comesNow_0_a.2.2.2.2.2.2.2.2.2.2.2.1
theorem dX12_comesNow_25 : decode cX12_comesNow 25 = .ok (.if_icmp .ge 7, 3) := dX12_comesNow_0_a.2.2.2.2.2.2.2.2.2.2.2.2.1
theorem dX12_comesNow_28 : decode cX12_comesNow 28 = .ok (.iconst 1, 1) := dX12_comesNow_0_a.2.2.2.2.2.2.2.2.2.2.2.2.2.1
theorem dX12_comesNow_29 : decode cX12_comesNow 29 = .ok (.goto 4, 3) := dX12_comesNow_0_a.2.2.2.2.2.2.2.2.2.2.2.2.2.2.1
theorem dX12_comesNow_32 : decode cX12_comesNow 32 = .ok (.iconst 0, 1) := dX12_comesNow_0_a.2.2.2.2.2.2.2.2.2.2.2.2.2.2.2
theorem dX12_comesNow_33_a : (decode cX12_comesNow 33 = .ok (.istore_n 2, 1)) ∧ (decode cX12_comesNow 34 = .ok (.iload_n 1, 1)) ∧ (decode cX12_comesNow 35 = .ok (.ifCond .ne 10, 3)) ∧ (decode cX12_comesNow 38 = .ok (.aload_n 0, 1)) ∧ (decode cX12_comesNow 39 = .ok (.getfield 193, 3)) ∧ (decode cX12_comesNow 42 = .ok (.goto 32, 3)) ∧ (decode cX12_comesNow 45 = .ok (.iload_n 1, 1)) ∧ (decode cX12_comesNow 46 = .ok (.iconst 1, 1)) ∧ (decode cX12_comesNow 47 = .ok (.if_icmp .ne 10, 3)) ∧ (decode cX12_comesNow 50 = .ok (.aload_n 0, 1)) ∧ (decode cX12_comesNow 51 = .ok (.getfield 196, 3)) ∧ (decode cX12_comesNow 54 = .ok (.goto 20, 3)) ∧ (decode cX12_comesNow 57 = .ok (.iload_n 2, 1)) ∧ (decode cX12_comesNow 58 = .ok (.ifCond .eq 15, 3)) ∧ (decode cX12_comesNow 61 = .ok (.aload_n 0, 1)) ∧ (decode cX12_comesNow 62 = .ok (.getfield 28, 3)) := by decide +kernel
theorem dX12_comesNow_33 : decode cX12_comesNow 33 = .ok (.istore_n 2, 1) := dX12_comesNow_33_a.1
theorem dX12_comesNow_34 : decode cX12_comesNow 34 = .ok (.iload_n 1, 1) := dX12_comesNow_33_a.2.1
theorem dX12_comesNow_35 : decode cX12_comesNow 35 = .ok (.ifCond .ne 10, 3) := dX12_comesNow_33_a.2.2.1
theorem dX12_comesNow_38 : decode cX12_comesNow 38 = .ok (.aload_n 0, 1) := dX12_comesNow_33_a.2.2.2.1
theorem dX12_comesNow_39 : decode cX12_comesNow 39 = .ok (.getfield 193, 3) := dX12_comesNow_33_a.2.2.2.2.1
theorem dX12_comesNow_42 : decode cX12_comesNow 42 = .ok (.goto 32, 3) := dX12_comesNow_33_a.2.2.2.2.2.1
theorem dX12_comesNow_45 : decode cX12_comesNow 45 = .ok (.iload_n 1, 1) := dX12_comesNow_33_a.2.2.2.2.2.2.1
theorem dX12_comesNow_46 : decode cX12_comesNow 46 = .ok (.iconst 1, 1) := dX12_comesNow_33_a.2.2.2.2.2.2.2.1
theorem dX12_comesNow_47 : decode cX12_comesNow 47 = .ok (.if_icmp .ne 10, 3) := dX12_comesNow_33_a.2.2.2.2.2.2.2.2.1
theorem dX12_comesNow_50 : decode cX12_comesNow 50 = .ok (.aload_n 0, 1) := dX12_comesNow_33_a.2.2.2.2.2.2.2.2.2.1
theorem dX12_comesNow_51 : decode cX12_comesNow 51 = .ok (.getfield 196, 3) := dX12_comesNow_33_a.2.2.2.2.2.2.2.2.2.2.1
theorem dX12_comesNow_54 : decode cX12_comesNow 54 = .ok (.goto 20, 3) := dX12_comesNow_33_a.2.2.2.2.2.2.2.2.2.2.2.1
theorem dX12_comesNow_57 : decode cX12_comesNow 57 = .ok (.iload_n 2, 1) := dX12_comesNow_33_a.2.2.2.2.2.2.2.2.2.2.2.2.1
theorem dX12_comesNow_58 : decode cX12_comesNow 58 = .ok (.ifCond .eq 15, 3) := dX12_comesNow_33_a.2.2.2.2.2.2.2.2.2.2.2.2.2.1
theorem dX12_comesNow_61 : decode cX12_comesNow 61 = .ok (.aload_n 0, 1) := dX12_comesNow_33_a.2.2.2.2.2.2.2.2.2.2.2.2.2.2.1
theorem dX12_comesNow_62 : decode cX12_comesNow 62 = .ok (.getfield 28, 3) := dX12_comesNow_33_a.2.2.2.2.2.2.2.2.2.2.2.2.2.2.2
theorem dX12_comesNow_65_a : (decode cX12_comesNow 65 = .ok (.aload_n 0, 1)) ∧ (decode cX12_comesNow 66 = .ok (.getfield 193, 3)) ∧ (decode cX12_comesNow 69 = .ok (.iaload, 1)) ∧ (decode cX12_comesNow 70 = .ok (.goto 4, 3)) ∧ (decode cX12_comesNow 73 = .ok (.iconst (-1), 1)) ∧ (decode cX12_comesNow 74 = .ok (.ireturn, 1)) := by decide +kernel
theorem dX12_comesNow_65 : decode cX12_comesNow 65 = .ok (.aload_n 0, 1) := dX12_comesNow_65_a.1
theorem dX12_comesNow_66 : decode cX12_comesNow 66 = .ok (.getfield 193, 3) := dX12_comesNow_65_a.2.1
theorem dX12_comesNow_69 : decode cX12_comesNow 69 = .ok (.iaload, 1) := dX12_comesNow_65_a.2.2.1
theorem dX12_comesNow_70 : decode cX12_comesNow 70 = .ok (.goto 4, 3) := dX12_comesNow_65_a.2.2.2.1
theorem dX12_comesNow_73 : decode cX12_comesNow 73 = .ok (.iconst (-1), 1) := dX12_comesNow_65_a.2.2.2.2.1
theorem dX12_comesNow_74 : decode cX12_comesNow 74 = .ok (.ireturn, 1) := dX12_comesNow_65_a.2.2.2.2.2
theorem dX12_comesOf_0_a : (decode cX12_comesOf 0 = .ok (.aload_n 0, 1)) ∧ (decode cX12_comesOf 1 = .ok (.iload_n 1, 1)) ∧ (decode cX12_comesOf 2 = .ok (.invokevirtual 206, 3)) ∧ (decode cX12_comesOf 5 = .ok (.aload_n 0, 1)) ∧ (decode cX12_comesOf 6 = .ok (.iload_n 2, 1)) ∧ (decode cX12_comesOf 7 = .ok (.invokevirtual 209, 3)) ∧ (decode cX12_comesOf 10 = .ok (.ireturn, 1)) := by decide +kernel
theorem dX12_comesOf_0 : decode cX12_comesOf 0 = .ok (.aload_n 0, 1) := dX12_comesOf_0_a.1
theorem dX12_comesOf_1 : decode cX12_comesOf 1 = .ok (.iload_n 1, 1) := dX12_comesOf_0_a.2.1
theorem dX12_comesOf_2 : decode cX12_comesOf 2 = .ok (.invokevirtual 206, 3) := dX12_comesOf_0_a.2.2.1
theorem dX12_comesOf_5 : decode cX12_comesOf 5 = .ok (.aload_n 0, 1) := dX12_comesOf_0_a.2.2.2.1
theorem dX12_comesOf_6 : decode cX12_comesOf 6 = .ok (.iload_n 2, 1) := dX12_comesOf_0_a.2.2.2.2.1
theorem dX12_comesOf_7 : decode cX12_comesOf 7 = .ok (.invokevirtual 209, 3) := dX12_comesOf_0_a.2.2.2.2.2.1
theorem dX12_comesOf_10 : decode cX12_comesOf 10 = .ok (.ireturn, 1) := dX12_comesOf_0_a.2.2.2.2.2.2
theorem dX12_comes_0_a : (decode cX12_comes 0 = .ok (.aload_n 0, 1)) ∧ (decode cX12_comes 1 = .ok (.invokevirtual 141, 3)) ∧ (decode cX12_comes 4 = .ok (.aload_n 0, 1)) ∧ (decode cX12_comes 5 = .ok (.iload_n 1, 1)) ∧ (decode cX12_comes 6 = .ok (.invokevirtual 212, 3)) ∧ (decode cX12_comes 9 = .ok (.ifCond .eq 24, 3)) ∧ (decode cX12_comes 12 = .ok (.iload_n 2, 1)) ∧ (decode cX12_comes 13 = .ok (.i2l, 1)) ∧ (decode cX12_comes 14 = .ok (.lconst 0, 1)) ∧ (decode cX12_comes 15 = .ok (.ldc2_w 78, 3)) ∧ (decode cX12_comes 18 = .ok (.invokestatic 65, 3)) ∧ (decode cX12_comes 21 = .ok (.ifCond .eq 12, 3)) ∧ (decode cX12_comes 24 = .ok (.aload_n 0, 1)) ∧ (decode cX12_comes 25 = .ok (.iload_n 1, 1)) ∧ (decode cX12_comes 26 = .ok (.iload_n 2, 1)) ∧ (decode cX12_comes 27 = .ok (.invokevirtual 215, 3)) := by decide +kernel
theorem dX12_comes_0 : decode cX12_comes 0 = .ok (.aload_n 0, 1) := dX12_comes_0_a.1
theorem dX12_comes_1 : decode cX12_comes 1 = .ok (.invokevirtual 141, 3) := dX12_comes_0_a.2.1
theorem dX12_comes_4 : decode cX12_comes 4 = .ok (.aload_n 0, 1) := dX12_comes_0_a.2.2.1
theorem dX12_comes_5 : decode cX12_comes 5 = .ok (.iload_n 1, 1) := dX12_comes_0_a.2.2.2.1
theorem dX12_comes_6 : decode cX12_comes 6 = .ok (.invokevirtual 212, 3) := dX12_comes_0_a.2.2.2.2.1
theorem dX12_comes_9 : decode cX12_comes 9 = .ok (.ifCond .eq 24, 3) := dX12_comes_0_a.2.2.2.2.2.1
theorem dX12_comes_12 : decode cX12_comes 12 = .ok (.iload_n 2, 1) := dX12_comes_0_a.2.2.2.2.2.2.1
theorem dX12_comes_13 : decode cX12_comes 13 = .ok (.i2l, 1) := dX12_comes_0_a.2.2.2.2.2.2.2.1
theorem dX12_comes_14 : decode cX12_comes 14 = .ok (.lconst 0, 1) := dX12_comes_0_a.2.2.2.2.2.2.2.2.1
theorem dX12_comes_15 : decode cX12_comes 15 = .ok (.ldc2_w 78, 3) := dX12_comes_0_a.2.2.2.2.2.2.2.2.2.1
theorem dX12_comes_18 : decode cX12_comes 18 = .ok (.invokestatic 65, 3) := dX12_comes_0_a.2.2.2.2.2.2.2.2.2.2.1
theorem dX12_comes_21 : decode cX12_comes 21 = .ok (.ifCond .eq 12, 3) := dX12_comes_0_a.2.2.2.2.2.2.2.2.2.2.2.1
theorem dX12_comes_24 : decode cX12_comes 24 = .ok (.aload_n 0, 1) := dX12_comes_0_a.2.2.2.2.2.2.2.2.2.2.2.2.1
theorem dX12_comes_25 : decode cX12_comes 25 = .ok (.iload_n 1, 1) := dX12_comes_0_a.2.2.2.2.2.2.2.2.2.2.2.2.2.1
theorem dX12_comes_26 : decode cX12_comes 26 = .ok (.iload_n 2, 1) := dX12_comes_0_a.2.2.2.2.2.2.2.2.2.2.2.2.2.2.1
theorem dX12_comes_27 : decode cX12_comes 27 = .ok (.invokevirtual 215, 3) := dX12_comes_0_a.2.2.2.2.2.2.2.2.2.2.2.2.2.2.2
theorem dX12_comes_30_a : (decode cX12_comes 30 = .ok (.goto 5, 3)) ∧ (decode cX12_comes 33 = .ok (.bipush (-2), 2)) ∧ (decode cX12_comes 35 = .ok (.ireturn, 1)) := by decide +kernel
theorem dX12_comes_30 : decode cX12_comes 30 = .ok (.goto 5, 3) := dX12_comes_30_a.1
theorem dX12_comes_33 : decode cX12_comes 33 = .ok (.bipush (-2), 2) := dX12_comes_30_a.2.1
theorem dX12_comes_35 : decode cX12_comes 35 = .ok (.ireturn, 1) := dX12_comes_30_a.2.2
theorem dX12_behindOf_0_a : (decode cX12_behindOf 0 = .ok (.aload_n 0, 1)) ∧ (decode cX12_behindOf 1 = .ok (.iload_n 1, 1)) ∧ (decode cX12_behindOf 2 = .ok (.invokevirtual 206, 3)) ∧ (decode cX12_behindOf 5 = .ok (.iload_n 2, 1)) ∧ (decode cX12_behindOf 6 = .ok (.aload_n 0, 1)) ∧ (decode cX12_behindOf 7 = .ok (.getfield 190, 3)) ∧ (decode cX12_behindOf 10 = .ok (.if_icmp .ge 16, 3)) ∧ (decode cX12_behindOf 13 = .ok (.aload_n 0, 1)) ∧ (decode cX12_behindOf 14 = .ok (.getfield 40, 3)) ∧ (decode cX12_behindOf 17 = .ok (.iconst 4, 1)) ∧ (decode cX12_behindOf 18 = .ok (.iload_n 2, 1)) ∧ (decode cX12_behindOf 19 = .ok (.imul, 1)) ∧ (decode cX12_behindOf 20 = .ok (.iload_n 3, 1)) ∧ (decode cX12_behindOf 21 = .ok (.iadd, 1)) ∧ (decode cX12_behindOf 22 = .ok (.iaload, 1)) ∧ (decode cX12_behindOf 23 = .ok (.goto 4, 3)) := by decide +kernel
theorem dX12_behindOf_0 : decode cX12_behindOf 0 = .ok (.aload_n 0, 1) := dX12_behindOf_0_a.1
theorem dX12_behindOf_1 : decode cX12_behindOf 1 = .ok (.iload_n 1, 1) := dX12_behindOf_0_a.2.1
theorem dX12_behindOf_2 : decode cX12_behindOf 2 = .ok (.invokevirtual 206, 3) := dX12_behindOf_0_a.2.2.1
theorem dX12_behindOf_5 : decode cX12_behindOf 5 = .ok (.iload_n 2, 1) := dX12_behindOf_0_a.2.2.2.1
theorem dX12_behindOf_6 : decode cX12_behindOf 6 = .ok (.aload_n 0, 1) := dX12_behindOf_0_a.2.2.2.2.1
theorem dX12_behindOf_7 : decode cX12_behindOf 7 = .ok (.getfield 190, 3) := dX12_behindOf_0_a.2.2.2.2.2.1
theorem dX12_behindOf_10 : decode cX12_behindOf 10 = .ok (.if_icmp .ge 16, 3) := dX12_behindOf_0_a.2.2.2.2.2.2.1
theorem dX12_behindOf_13 : decode cX12_behindOf 13 = .ok (.aload_n 0, 1) := dX12_behindOf_0_a.2.2.2.2.2.2.2.1
theorem dX12_behindOf_14 : decode cX12_behindOf 14 = .ok (.getfield 40, 3) := dX12_behindOf_0_a.2.2.2.2.2.2.2.2.1
theorem dX12_behindOf_17 : decode cX12_behindOf 17 = .ok (.iconst 4, 1) := dX12_behindOf_0_a.2.2.2.2.2.2.2.2.2.1
theorem dX12_behindOf_18 : decode cX12_behindOf 18 = .ok (.iload_n 2, 1) := dX12_behindOf_0_a.2.2.2.2.2.2.2.2.2.2.1
theorem dX12_behindOf_19 : decode cX12_behindOf 19 = .ok (.imul, 1) := dX12_behindOf_0_a.2.2.2.2.2.2.2.2.2.2.2.1
theorem dX12_behindOf_20 : decode cX12_behindOf 20 = .ok (.iload_n 3, 1) := dX12_behindOf_0_a.2.2.2.2.2.2.2.2.2.2.2.2.1
theorem dX12_behindOf_21 : decode cX12_behindOf 21 = .ok (.iadd, 1) := dX12_behindOf_0_a.2.2.2.2.2.2.2.2.2.2.2.2.2.1
theorem dX12_behindOf_22 : decode cX12_behindOf 22 = .ok (.iaload, 1) := dX12_behindOf_0_a.2.2.2.2.2.2.2.2.2.2.2.2.2.2.1
theorem dX12_behindOf_23 : decode cX12_behindOf 23 = .ok (.goto 4, 3) := dX12_behindOf_0_a.2.2.2.2.2.2.2.2.2.2.2.2.2.2.2
theorem dX12_behindOf_26_a : (decode cX12_behindOf 26 = .ok (.iconst (-1), 1)) ∧ (decode cX12_behindOf 27 = .ok (.ireturn, 1)) := by decide +kernel
theorem dX12_behindOf_26 : decode cX12_behindOf 26 = .ok (.iconst (-1), 1) := dX12_behindOf_26_a.1
theorem dX12_behindOf_27 : decode cX12_behindOf 27 = .ok (.ireturn, 1) := dX12_behindOf_26_a.2
theorem dX12_behind_0_a : (decode cX12_behind 0 = .ok (.aload_n 0, 1)) ∧ (decode cX12_behind 1 = .ok (.invokevirtual 141, 3)) ∧ (decode cX12_behind 4 = .ok (.aload_n 0, 1)) ∧ (decode cX12_behind 5 = .ok (.iload_n 1, 1)) ∧ (decode cX12_behind 6 = .ok (.invokevirtual 212, 3)) ∧ (decode cX12_behind 9 = .ok (.ifCond .eq 41, 3)) ∧ (decode cX12_behind 12 = .ok (.iload_n 2, 1)) ∧ (decode cX12_behind 13 = .ok (.i2l, 1)) ∧ (decode cX12_behind 14 = .ok (.lconst 0, 1)) ∧ (decode cX12_behind 15 = .ok (.aload_n 0, 1)) ∧ (decode cX12_behind 16 = .ok (.getfield 107, 3)) ∧ (decode cX12_behind 19 = .ok (.iconst 1, 1)) ∧ (decode cX12_behind 20 = .ok (.isub, 1)) ∧ (decode cX12_behind 21 = .ok (.i2l, 1)) ∧ (decode cX12_behind 22 = .ok (.invokestatic 65, 3)) ∧ (decode cX12_behind 25 = .ok (.ifCond .eq 25, 3)) := by decide +kernel
theorem dX12_behind_0 : decode cX12_behind 0 = .ok (.aload_n 0, 1) := dX12_behind_0_a.1
theorem dX12_behind_1 : decode cX12_behind 1 = .ok (.invokevirtual 141, 3) := dX12_behind_0_a.2.1
theorem dX12_behind_4 : decode cX12_behind 4 = .ok (.aload_n 0, 1) := dX12_behind_0_a.2.2.1
theorem dX12_behind_5 : decode cX12_behind 5 = .ok (.iload_n 1, 1) := dX12_behind_0_a.2.2.2.1
theorem dX12_behind_6 : decode cX12_behind 6 = .ok (.invokevirtual 212, 3) := dX12_behind_0_a.2.2.2.2.1
theorem dX12_behind_9 : decode cX12_behind 9 = .ok (.ifCond .eq 41, 3) := dX12_behind_0_a.2.2.2.2.2.1
theorem dX12_behind_12 : decode cX12_behind 12 = .ok (.iload_n 2, 1) := dX12_behind_0_a.2.2.2.2.2.2.1
theorem dX12_behind_13 : decode cX12_behind 13 = .ok (.i2l, 1) := dX12_behind_0_a.2.2.2.2.2.2.2.1
theorem dX12_behind_14 : decode cX12_behind 14 = .ok (.lconst 0, 1) := dX12_behind_0_a.2.2.2.2.2.2.2.2.1
theorem dX12_behind_15 : decode cX12_behind 15 = .ok (.aload_n 0, 1) := dX12_behind_0_a.2.2.2.2.2.2.2.2.2.1
theorem dX12_behind_16 : decode cX12_behind 16 = .ok (.getfield 107, 3) := dX12_behind_0_a.2.2.2.2.2.2.2.2.2.2.1
theorem dX12_behind_19 : decode cX12_behind 19 = .ok (.iconst 1, 1) := dX12_behind_0_a.2.2.2.2.2.2.2.2.2.2.2.1
theorem dX12_behind_20 : decode cX12_behind 20 = .ok (.isub, 1) := dX12_behind_0_a.2.2.2.2.2.2.2.2.2.2.2.2.1
theorem dX12_behind_21 : decode cX12_behind 21 = .ok (.i2l, 1) := dX12_behind_0_a.2.2.2.2.2.2.2.2.2.2.2.2.2.1
theorem dX12_behind_22 : decode cX12_behind 22 = .ok (.invokestatic 65, 3) := dX12_behind_0_a.2.2.2.2.2.2.2.2.2.2.2.2.2.2.1
theorem dX12_behind_25 : decode cX12_behind 25 = .ok (.ifCond .eq 25, 3) := dX12_behind_0_a.2.2.2.2.2.2.2.2.2.2.2.2.2.2.2
theorem dX12_behind_28_a : (decode cX12_behind 28 = .ok (.iload_n 3, 1)) ∧ (decode cX12_behind 29 = .ok (.i2l, 1)) ∧ (decode cX12_behind 30 = .ok (.lconst 0, 1)) ∧ (decode cX12_behind 31 = .ok (.ldc2_w 72, 3)) ∧ (decode cX12_behind 34 = .ok (.invokestatic 65, 3)) ∧ (decode cX12_behind 37 = .ok (.ifCond .eq 13, 3)) ∧ (decode cX12_behind 40 = .ok (.aload_n 0, 1)) ∧ (decode cX12_behind 41 = .ok (.iload_n 1, 1)) ∧ (decode cX12_behind 42 = .ok (.iload_n 2, 1)) ∧ (decode cX12_behind 43 = .ok (.iload_n 3, 1)) ∧ (decode cX12_behind 44 = .ok (.invokevirtual 218, 3)) ∧ (decode cX12_behind 47 = .ok (.goto 5, 3)) ∧ (decode cX12_behind 50 = .ok (.bipush (-2), 2)) ∧ (decode cX12_behind 52 = .ok (.ireturn, 1)) := by decide +kernel
theorem dX12_behind_28 : decode cX12_behind 28 = .ok (.iload_n 3, 1) := dX12_behind_28_a.1
theorem dX12_behind_29 : decode cX12_behind 29 = .ok (.i2l, 1) := dX12_behind_28_a.2.1
theorem dX12_behind_30 : decode cX12_behind 30 = .ok (.lconst 0, 1) := dX12_behind_28_a.2.2.1
theorem dX12_behind_31 : decode cX12_behind 31 = .ok (.ldc2_w 72, 3) := dX12_behind_28_a.2.2.2.1
theorem dX12_behind_34 : decode cX12_behind 34 = .ok (.invokestatic 65, 3) := dX12_behind_28_a.2.2.2.2.1
theorem dX12_behind_37 : decode cX12_behind 37 = .ok (.ifCond .eq 13, 3) := dX12_behind_28_a.2.2.2.2.2.1
theorem dX12_behind_40 : decode cX12_behind 40 = .ok (.aload_n 0, 1) := dX12_behind_28_a.2.2.2.2.2.2.1
theorem dX12_behind_41 : decode cX12_behind 41 = .ok (.iload_n 1, 1) := dX12_behind_28_a.2.2.2.2.2.2.2.1
theorem dX12_behind_42 : decode cX12_behind 42 = .ok (.iload_n 2, 1) := dX12_behind_28_a.2.2.2.2.2.2.2.2.1
theorem dX12_behind_43 : decode cX12_behind 43 = .ok (.iload_n 3, 1) := dX12_behind_28_a.2.2.2.2.2.2.2.2.2.1
theorem dX12_behind_44 : decode cX12_behind 44 = .ok (.invokevirtual 218, 3) := dX12_behind_28_a.2.2.2.2.2.2.2.2.2.2.1
theorem dX12_behind_47 : decode cX12_behind 47 = .ok (.goto 5, 3) := dX12_behind_28_a.2.2.2.2.2.2.2.2.2.2.2.1
theorem dX12_behind_50 : decode cX12_behind 50 = .ok (.bipush (-2), 2) := dX12_behind_28_a.2.2.2.2.2.2.2.2.2.2.2.2.1
theorem dX12_behind_52 : decode cX12_behind 52 = .ok (.ireturn, 1) := dX12_behind_28_a.2.2.2.2.2.2.2.2.2.2.2.2.2
theorem dX12_farthestNow_0_a : (decode cX12_farthestNow 0 = .ok (.iconst (-1), 1)) ∧ (decode cX12_farthestNow 1 = .ok (.istore_n 1, 1)) ∧ (decode cX12_farthestNow 2 = .ok (.iconst 0, 1)) ∧ (decode cX12_farthestNow 3 = .ok (.istore_n 2, 1)) ∧ (decode cX12_farthestNow 4 = .ok (.iconst 0, 1)) ∧ (decode cX12_farthestNow 5 = .ok (.istore_n 3, 1)) ∧ (decode cX12_farthestNow 6 = .ok (.iload_n 3, 1)) ∧ (decode cX12_farthestNow 7 = .ok (.aload_n 0, 1)) ∧ (decode cX12_farthestNow 8 = .ok (.getfield 159, 3)) ∧ (decode cX12_farthestNow 11 = .ok (.if_icmp .ge 76, 3)) ∧ (decode cX12_farthestNow 14 = .ok (.aload_n 0, 1)) ∧ (decode cX12_farthestNow 15 = .ok (.iload_n 3, 1)) ∧ (decode cX12_farthestNow 16 = .ok (.invokevirtual 206, 3)) ∧ (decode cX12_farthestNow 19 = .ok (.iconst 2, 1)) ∧ (decode cX12_farthestNow 20 = .ok (.aload_n 0, 1)) ∧ (decode cX12_farthestNow 21 = .ok (.getfield 193, 3)) := by decide +kernel
theorem dX12_farthestNow_0 : decode cX12_farthestNow 0 = .ok (.iconst (-1), 1) := dX12_farthestNow_0_a.1
theorem dX12_farthestNow_1 : decode cX12_farthestNow 1 = .ok (.istore_n 1, 1) := dX12_farthestNow_0_a.2.1
theorem dX12_farthestNow_2 : decode cX12_farthestNow 2 = .ok (.iconst 0, 1) := dX12_farthestNow_0_a.2.2.1
theorem dX12_farthestNow_3 : decode cX12_farthestNow 3 = .ok (.istore_n 2, 1) := dX12_farthestNow_0_a.2.2.2.1
theorem dX12_farthestNow_4 : decode cX12_farthestNow 4 = .ok (.iconst 0, 1) := dX12_farthestNow_0_a.2.2.2.2.1
theorem dX12_farthestNow_5 : decode cX12_farthestNow 5 = .ok (.istore_n 3, 1) := dX12_farthestNow_0_a.2.2.2.2.2.1
theorem dX12_farthestNow_6 : decode cX12_farthestNow 6 = .ok (.iload_n 3, 1) := dX12_farthestNow_0_a.2.2.2.2.2.2.1
theorem dX12_farthestNow_7 : decode cX12_farthestNow 7 = .ok (.aload_n 0, 1) := dX12_farthestNow_0_a.2.2.2.2.2.2.2.1
theorem dX12_farthestNow_8 : decode cX12_farthestNow 8 = .ok (.getfield 159, 3) := dX12_farthestNow_0_a.2.2.2.2.2.2.2.2.1
theorem dX12_farthestNow_11 : decode cX12_farthestNow 11 = .ok (.if_icmp .ge 76, 3) := dX12_farthestNow_0_a.2.2.2.2.2.2.2.2.2.1
theorem dX12_farthestNow_14 : decode cX12_farthestNow 14 = .ok (.aload_n 0, 1) := dX12_farthestNow_0_a.2.2.2.2.2.2.2.2.2.2.1
theorem dX12_farthestNow_15 : decode cX12_farthestNow 15 = .ok (.iload_n 3, 1) := dX12_farthestNow_0_a.2.2.2.2.2.2.2.2.2.2.2.1
theorem dX12_farthestNow_16 : decode cX12_farthestNow 16 = .ok (.invokevirtual 206, 3) := dX12_farthestNow_0_a.2.2.2.2.2.2.2.2.2.2.2.2.1
theorem dX12_farthestNow_19 : decode cX12_farthestNow 19 = .ok (.iconst 2, 1) := dX12_farthestNow_0_a.2.2.2.2.2.2.2.2.2.2.2.2.2.1
theorem dX12_farthestNow_20 : decode cX12_farthestNow 20 = .ok (.aload_n 0, 1) := dX12_farthestNow_0_a.2.2.2.2.2.2.2.2.2.2.2.2.2.2.1
theorem dX12_farthestNow_21 : decode cX12_farthestNow 21 = .ok (.getfield 193, 3) := dX12_farthestNow_0_a.2.2.2.2.2.2.2.2.2.2.2.2.2.2.2
theorem dX12_farthestNow_24_a : (decode cX12_farthestNow 24 = .ok (.imul, 1)) ∧ (decode cX12_farthestNow 25 = .ok (.aload_n 0, 1)) ∧ (decode cX12_farthestNow 26 = .ok (.getfield 196, 3)) ∧ (decode cX12_farthestNow 29 = .ok (.ifCond .ne 7, 3)) ∧ (decode cX12_farthestNow 32 = .ok (.iconst 1, 1)) ∧ (decode cX12_farthestNow 33 = .ok (.goto 4, 3)) ∧ (decode cX12_farthestNow 36 = .ok (.iconst 0, 1)) ∧ (decode cX12_farthestNow 37 = .ok (.iadd, 1)) ∧ (decode cX12_farthestNow 38 = .ok (.istore 4, 2)) ∧ (decode cX12_farthestNow 40 = .ok (.iload_n 1, 1)) ∧ (decode cX12_farthestNow 41 = .ok (.iconst (-1), 1)) ∧ (decode cX12_farthestNow 42 = .ok (.if_icmp .eq 9, 3)) ∧ (decode cX12_farthestNow 45 = .ok (.iload 4, 2)) ∧ (decode cX12_farthestNow 47 = .ok (.iload_n 2, 1)) ∧ (decode cX12_farthestNow 48 = .ok (.if_icmp .le 7, 3)) ∧ (decode cX12_farthestNow 51 = .ok (.iconst 1, 1)) := by decide +kernel
theorem dX12_farthestNow_24 : decode cX12_farthestNow 24 = .ok (.imul, 1) := dX12_farthestNow_24_a.1
theorem dX12_farthestNow_25 : decode cX12_farthestNow 25 = .ok (.aload_n 0, 1) := dX12_farthestNow_24_a.2.1
theorem dX12_farthestNow_26 : decode cX12_farthestNow 26 = .ok (.getfield 196, 3) := dX12_farthestNow_24_a.2.2.1
theorem dX12_farthestNow_29 : decode cX12_farthestNow 29 = .ok (.ifCond .ne 7, 3) := dX12_farthestNow_24_a.2.2.2.1
theorem dX12_farthestNow_32 : decode cX12_farthestNow 32 = .ok (.iconst 1, 1) := dX12_farthestNow_24_a.2.2.2.2.1
theorem dX12_farthestNow_33 : decode cX12_farthestNow 33 = .ok (.goto 4, 3) := dX12_farthestNow_24_a.2.2.2.2.2.1
theorem dX12_farthestNow_36 : decode cX12_farthestNow 36 = .ok (.iconst 0, 1) := dX12_farthestNow_24_a.2.2.2.2.2.2.1
theorem dX12_farthestNow_37 : decode cX12_farthestNow 37 = .ok (.iadd, 1) := dX12_farthestNow_24_a.2.2.2.2.2.2.2.1
theorem dX12_farthestNow_38 : decode cX12_farthestNow 38 = .ok (.istore 4, 2) := dX12_farthestNow_24_a.2.2.2.2.2.2.2.2.1
theorem dX12_farthestNow_40 : decode cX12_farthestNow 40 = .ok (.iload_n 1, 1) := dX12_farthestNow_24_a.2.2.2.2.2.2.2.2.2.1
theorem dX12_farthestNow_41 : decode cX12_farthestNow 41 = .ok (.iconst (-1), 1) := dX12_farthestNow_24_a.2.2.2.2.2.2.2.2.2.2.1
theorem dX12_farthestNow_42 : decode cX12_farthestNow 42 = .ok (.if_icmp .eq 9, 3) := dX12_farthestNow_24_a.2.2.2.2.2.2.2.2.2.2.2.1
theorem dX12_farthestNow_45 : decode cX12_farthestNow 45 = .ok (.iload 4, 2) := dX12_farthestNow_24_a.2.2.2.2.2.2.2.2.2.2.2.2.1
theorem dX12_farthestNow_47 : decode cX12_farthestNow 47 = .ok (.iload_n 2, 1) := dX12_farthestNow_24_a.2.2.2.2.2.2.2.2.2.2.2.2.2.1
theorem dX12_farthestNow_48 : decode cX12_farthestNow 48 = .ok (.if_icmp .le 7, 3) := dX12_farthestNow_24_a.2.2.2.2.2.2.2.2.2.2.2.2.2.2.1
theorem dX12_farthestNow_51 : decode cX12_farthestNow 51 = .ok (.iconst 1, 1) := dX12_farthestNow_24_a.2.2.2.2.2.2.2.2.2.2.2.2.2.2.2
theorem dX12_farthestNow_52_a : (decode cX12_farthestNow 52 = .ok (.goto 4, 3)) ∧ (decode cX12_farthestNow 55 = .ok (.iconst 0, 1)) ∧ (decode cX12_farthestNow 56 = .ok (.istore 5, 2)) ∧ (decode cX12_farthestNow 58 = .ok (.iload 5, 2)) ∧ (decode cX12_farthestNow 60 = .ok (.ifCond .eq 7, 3)) ∧ (decode cX12_farthestNow 63 = .ok (.iload_n 3, 1)) ∧ (decode cX12_farthestNow 64 = .ok (.goto 4, 3)) ∧ (decode cX12_farthestNow 67 = .ok (.iload_n 1, 1)) ∧ (decode cX12_farthestNow 68 = .ok (.istore_n 1, 1)) ∧ (decode cX12_farthestNow 69 = .ok (.iload 5, 2)) ∧ (decode cX12_farthestNow 71 = .ok (.ifCond .eq 8, 3)) ∧ (decode cX12_farthestNow 74 = .ok (.iload 4, 2)) ∧ (decode cX12_farthestNow 76 = .ok (.goto 4, 3)) ∧ (decode cX12_farthestNow 79 = .ok (.iload_n 2, 1)) ∧ (decode cX12_farthestNow 80 = .ok (.istore_n 2, 1)) ∧ (decode cX12_farthestNow 81 = .ok (.iinc 3 1, 3)) := by decide +kernel
theorem dX12_farthestNow_52 : decode cX12_farthestNow 52 = .ok (.goto 4, 3) := dX12_farthestNow_52_a.1
theorem dX12_farthestNow_55 : decode cX12_farthestNow 55 = .ok (.iconst 0, 1) := dX12_farthestNow_52_a.2.1
theorem dX12_farthestNow_56 : decode cX12_farthestNow 56 = .ok (.istore 5, 2) := dX12_farthestNow_52_a.2.2.1
theorem dX12_farthestNow_58 : decode cX12_farthestNow 58 = .ok (.iload 5, 2) := dX12_farthestNow_52_a.2.2.2.1
theorem dX12_farthestNow_60 : decode cX12_farthestNow 60 = .ok (.ifCond .eq 7, 3) := dX12_farthestNow_52_a.2.2.2.2.1
theorem dX12_farthestNow_63 : decode cX12_farthestNow 63 = .ok (.iload_n 3, 1) := dX12_farthestNow_52_a.2.2.2.2.2.1
theorem dX12_farthestNow_64 : decode cX12_farthestNow 64 = .ok (.goto 4, 3) := dX12_farthestNow_52_a.2.2.2.2.2.2.1
theorem dX12_farthestNow_67 : decode cX12_farthestNow 67 = .ok (.iload_n 1, 1) := dX12_farthestNow_52_a.2.2.2.2.2.2.2.1
theorem dX12_farthestNow_68 : decode cX12_farthestNow 68 = .ok (.istore_n 1, 1) := dX12_farthestNow_52_a.2.2.2.2.2.2.2.2.1
theorem dX12_farthestNow_69 : decode cX12_farthestNow 69 = .ok (.iload 5, 2) := dX12_farthestNow_52_a.2.2.2.2.2.2.2.2.2.1
theorem dX12_farthestNow_71 : decode cX12_farthestNow 71 = .ok (.ifCond .eq 8, 3) := dX12_farthestNow_52_a.2.2.2.2.2.2.2.2.2.2.1
theorem dX12_farthestNow_74 : decode cX12_farthestNow 74 = .ok (.iload 4, 2) := dX12_farthestNow_52_a.2.2.2.2.2.2.2.2.2.2.2.1
theorem dX12_farthestNow_76 : decode cX12_farthestNow 76 = .ok (.goto 4, 3) := dX12_farthestNow_52_a.2.2.2.2.2.2.2.2.2.2.2.2.1
theorem dX12_farthestNow_79 : decode cX12_farthestNow 79 = .ok (.iload_n 2, 1) := dX12_farthestNow_52_a.2.2.2.2.2.2.2.2.2.2.2.2.2.1
theorem dX12_farthestNow_80 : decode cX12_farthestNow 80 = .ok (.istore_n 2, 1) := dX12_farthestNow_52_a.2.2.2.2.2.2.2.2.2.2.2.2.2.2.1
theorem dX12_farthestNow_81 : decode cX12_farthestNow 81 = .ok (.iinc 3 1, 3) := dX12_farthestNow_52_a.2.2.2.2.2.2.2.2.2.2.2.2.2.2.2
theorem dX12_farthestNow_84_a : (decode cX12_farthestNow 84 = .ok (.goto (-78), 3)) ∧ (decode cX12_farthestNow 87 = .ok (.iload_n 1, 1)) ∧ (decode cX12_farthestNow 88 = .ok (.ireturn, 1)) := by decide +kernel
theorem dX12_farthestNow_84 : decode cX12_farthestNow 84 = .ok (.goto (-78), 3) := dX12_farthestNow_84_a.1
theorem dX12_farthestNow_87 : decode cX12_farthestNow 87 = .ok (.iload_n 1, 1) := dX12_farthestNow_84_a.2.1
theorem dX12_farthestNow_88 : decode cX12_farthestNow 88 = .ok (.ireturn, 1) := dX12_farthestNow_84_a.2.2
theorem dX12_farthest_0_a : (decode cX12_farthest 0 = .ok (.aload_n 0, 1)) ∧ (decode cX12_farthest 1 = .ok (.invokevirtual 141, 3)) ∧ (decode cX12_farthest 4 = .ok (.aload_n 0, 1)) ∧ (decode cX12_farthest 5 = .ok (.invokevirtual 221, 3)) ∧ (decode cX12_farthest 8 = .ok (.ireturn, 1)) := by decide +kernel
theorem dX12_farthest_0 : decode cX12_farthest 0 = .ok (.aload_n 0, 1) := dX12_farthest_0_a.1
theorem dX12_farthest_1 : decode cX12_farthest 1 = .ok (.invokevirtual 141, 3) := dX12_farthest_0_a.2.1
theorem dX12_farthest_4 : decode cX12_farthest 4 = .ok (.aload_n 0, 1) := dX12_farthest_0_a.2.2.1
theorem dX12_farthest_5 : decode cX12_farthest 5 = .ok (.invokevirtual 221, 3) := dX12_farthest_0_a.2.2.2.1
theorem dX12_farthest_8 : decode cX12_farthest 8 = .ok (.ireturn, 1) := dX12_farthest_0_a.2.2.2.2
theorem dX12_climbOf_0_a : (decode cX12_climbOf 0 = .ok (.iconst (-1), 1)) ∧ (decode cX12_climbOf 1 = .ok (.istore_n 3, 1)) ∧ (decode cX12_climbOf 2 = .ok (.iconst 0, 1)) ∧ (decode cX12_climbOf 3 = .ok (.istore 4, 2)) ∧ (decode cX12_climbOf 5 = .ok (.iconst 0, 1)) ∧ (decode cX12_climbOf 6 = .ok (.istore 5, 2)) ∧ (decode cX12_climbOf 8 = .ok (.iload 5, 2)) ∧ (decode cX12_climbOf 10 = .ok (.sipush 1863, 3)) ∧ (decode cX12_climbOf 13 = .ok (.if_icmp .ge 108, 3)) ∧ (decode cX12_climbOf 16 = .ok (.iload 5, 2)) ∧ (decode cX12_climbOf 18 = .ok (.sipush 207, 3)) ∧ (decode cX12_climbOf 21 = .ok (.idiv, 1)) ∧ (decode cX12_climbOf 22 = .ok (.iconst 1, 1)) ∧ (decode cX12_climbOf 23 = .ok (.iadd, 1)) ∧ (decode cX12_climbOf 24 = .ok (.istore 6, 2)) ∧ (decode cX12_climbOf 26 = .ok (.iload 5, 2)) := by decide +kernel
theorem dX12_climbOf_0 : decode cX12_climbOf 0 = .ok (.iconst (-1), 1) := dX12_climbOf_0_a.1
theorem dX12_climbOf_1 : decode cX12_climbOf 1 = .ok (.istore_n 3, 1) := dX12_climbOf_0_a.2.1
theorem dX12_climbOf_2 : decode cX12_climbOf 2 = .ok (.iconst 0, 1) := dX12_climbOf_0_a.2.2.1
theorem dX12_climbOf_3 : decode cX12_climbOf 3 = .ok (.istore 4, 2) := dX12_climbOf_0_a.2.2.2.1
theorem dX12_climbOf_5 : decode cX12_climbOf 5 = .ok (.iconst 0, 1) := dX12_climbOf_0_a.2.2.2.2.1
theorem dX12_climbOf_6 : decode cX12_climbOf 6 = .ok (.istore 5, 2) := dX12_climbOf_0_a.2.2.2.2.2.1
theorem dX12_climbOf_8 : decode cX12_climbOf 8 = .ok (.iload 5, 2) := dX12_climbOf_0_a.2.2.2.2.2.2.1
theorem dX12_climbOf_10 : decode cX12_climbOf 10 = .ok (.sipush 1863, 3) := dX12_climbOf_0_a.2.2.2.2.2.2.2.1
theorem dX12_climbOf_13 : decode cX12_climbOf 13 = .ok (.if_icmp .ge 108, 3) := dX12_climbOf_0_a.2.2.2.2.2.2.2.2.1
theorem dX12_climbOf_16 : decode cX12_climbOf 16 = .ok (.iload 5, 2) := dX12_climbOf_0_a.2.2.2.2.2.2.2.2.2.1
theorem dX12_climbOf_18 : decode cX12_climbOf 18 = .ok (.sipush 207, 3) := dX12_climbOf_0_a.2.2.2.2.2.2.2.2.2.2.1
theorem dX12_climbOf_21 : decode cX12_climbOf 21 = .ok (.idiv, 1) := dX12_climbOf_0_a.2.2.2.2.2.2.2.2.2.2.2.1
theorem dX12_climbOf_22 : decode cX12_climbOf 22 = .ok (.iconst 1, 1) := dX12_climbOf_0_a.2.2.2.2.2.2.2.2.2.2.2.2.1
theorem dX12_climbOf_23 : decode cX12_climbOf 23 = .ok (.iadd, 1) := dX12_climbOf_0_a.2.2.2.2.2.2.2.2.2.2.2.2.2.1
theorem dX12_climbOf_24 : decode cX12_climbOf 24 = .ok (.istore 6, 2) := dX12_climbOf_0_a.2.2.2.2.2.2.2.2.2.2.2.2.2.2.1
theorem dX12_climbOf_26 : decode cX12_climbOf 26 = .ok (.iload 5, 2) := dX12_climbOf_0_a.2.2.2.2.2.2.2.2.2.2.2.2.2.2.2
theorem dX12_climbOf_28_a : (decode cX12_climbOf 28 = .ok (.bipush 9, 2)) ∧ (decode cX12_climbOf 30 = .ok (.idiv, 1)) ∧ (decode cX12_climbOf 31 = .ok (.bipush 23, 2)) ∧ (decode cX12_climbOf 33 = .ok (.irem, 1)) ∧ (decode cX12_climbOf 34 = .ok (.iconst 1, 1)) ∧ (decode cX12_climbOf 35 = .ok (.iadd, 1)) ∧ (decode cX12_climbOf 36 = .ok (.istore 7, 2)) ∧ (decode cX12_climbOf 38 = .ok (.aload_n 0, 1)) ∧ (decode cX12_climbOf 39 = .ok (.aload_n 0, 1)) ∧ (decode cX12_climbOf 40 = .ok (.getfield 37, 3)) ∧ (decode cX12_climbOf 43 = .ok (.iconst 4, 1)) ∧ (decode cX12_climbOf 44 = .ok (.iload_n 1, 1)) ∧ (decode cX12_climbOf 45 = .ok (.imul, 1)) ∧ (decode cX12_climbOf 46 = .ok (.iaload, 1)) ∧ (decode cX12_climbOf 47 = .ok (.aload_n 0, 1)) ∧ (decode cX12_climbOf 48 = .ok (.getfield 37, 3)) := by decide +kernel
theorem dX12_climbOf_28 : decode cX12_climbOf 28 = .ok (.bipush 9, 2) := dX12_climbOf_28_a.1
theorem dX12_climbOf_30 : decode cX12_climbOf 30 = .ok (.idiv, 1) := dX12_climbOf_28_a.2.1
theorem dX12_climbOf_31 : decode cX12_climbOf 31 = .ok (.bipush 23, 2) := dX12_climbOf_28_a.2.2.1
theorem dX12_climbOf_33 : decode cX12_climbOf 33 = .ok (.irem, 1) := dX12_climbOf_28_a.2.2.2.1
theorem dX12_climbOf_34 : decode cX12_climbOf 34 = .ok (.iconst 1, 1) := dX12_climbOf_28_a.2.2.2.2.1
theorem dX12_climbOf_35 : decode cX12_climbOf 35 = .ok (.iadd, 1) := dX12_climbOf_28_a.2.2.2.2.2.1
theorem dX12_climbOf_36 : decode cX12_climbOf 36 = .ok (.istore 7, 2) := dX12_climbOf_28_a.2.2.2.2.2.2.1
theorem dX12_climbOf_38 : decode cX12_climbOf 38 = .ok (.aload_n 0, 1) := dX12_climbOf_28_a.2.2.2.2.2.2.2.1
theorem dX12_climbOf_39 : decode cX12_climbOf 39 = .ok (.aload_n 0, 1) := dX12_climbOf_28_a.2.2.2.2.2.2.2.2.1
theorem dX12_climbOf_40 : decode cX12_climbOf 40 = .ok (.getfield 37, 3) := dX12_climbOf_28_a.2.2.2.2.2.2.2.2.2.1
theorem dX12_climbOf_43 : decode cX12_climbOf 43 = .ok (.iconst 4, 1) := dX12_climbOf_28_a.2.2.2.2.2.2.2.2.2.2.1
theorem dX12_climbOf_44 : decode cX12_climbOf 44 = .ok (.iload_n 1, 1) := dX12_climbOf_28_a.2.2.2.2.2.2.2.2.2.2.2.1
theorem dX12_climbOf_45 : decode cX12_climbOf 45 = .ok (.imul, 1) := dX12_climbOf_28_a.2.2.2.2.2.2.2.2.2.2.2.2.1
theorem dX12_climbOf_46 : decode cX12_climbOf 46 = .ok (.iaload, 1) := dX12_climbOf_28_a.2.2.2.2.2.2.2.2.2.2.2.2.2.1
theorem dX12_climbOf_47 : decode cX12_climbOf 47 = .ok (.aload_n 0, 1) := dX12_climbOf_28_a.2.2.2.2.2.2.2.2.2.2.2.2.2.2.1
theorem dX12_climbOf_48 : decode cX12_climbOf 48 = .ok (.getfield 37, 3) := dX12_climbOf_28_a.2.2.2.2.2.2.2.2.2.2.2.2.2.2.2
theorem dX12_climbOf_51_a : (decode cX12_climbOf 51 = .ok (.iconst 4, 1)) ∧ (decode cX12_climbOf 52 = .ok (.iload_n 1, 1)) ∧ (decode cX12_climbOf 53 = .ok (.imul, 1)) ∧ (decode cX12_climbOf 54 = .ok (.iconst 1, 1)) ∧ (decode cX12_climbOf 55 = .ok (.iadd, 1)) ∧ (decode cX12_climbOf 56 = .ok (.iaload, 1)) ∧ (decode cX12_climbOf 57 = .ok (.aload_n 0, 1)) ∧ (decode cX12_climbOf 58 = .ok (.getfield 37, 3)) ∧ (decode cX12_climbOf 61 = .ok (.iconst 4, 1)) ∧ (decode cX12_climbOf 62 = .ok (.iload_n 1, 1)) ∧ (decode cX12_climbOf 63 = .ok (.imul, 1)) ∧ (decode cX12_climbOf 64 = .ok (.iconst 2, 1)) ∧ (decode cX12_climbOf 65 = .ok (.iadd, 1)) ∧ (decode cX12_climbOf 66 = .ok (.iaload, 1)) ∧ (decode cX12_climbOf 67 = .ok (.iload 6, 2)) ∧ (decode cX12_climbOf 69 = .ok (.iload 7, 2)) := by decide +kernel
theorem dX12_climbOf_51 : decode cX12_climbOf 51 = .ok (.iconst 4, 1) := dX12_climbOf_51_a.1
theorem dX12_climbOf_52 : decode cX12_climbOf 52 = .ok (.iload_n 1, 1) := dX12_climbOf_51_a.2.1
theorem dX12_climbOf_53 : decode cX12_climbOf 53 = .ok (.imul, 1) := dX12_climbOf_51_a.2.2.1
theorem dX12_climbOf_54 : decode cX12_climbOf 54 = .ok (.iconst 1, 1) := dX12_climbOf_51_a.2.2.2.1
theorem dX12_climbOf_55 : decode cX12_climbOf 55 = .ok (.iadd, 1) := dX12_climbOf_51_a.2.2.2.2.1
theorem dX12_climbOf_56 : decode cX12_climbOf 56 = .ok (.iaload, 1) := dX12_climbOf_51_a.2.2.2.2.2.1
theorem dX12_climbOf_57 : decode cX12_climbOf 57 = .ok (.aload_n 0, 1) := dX12_climbOf_51_a.2.2.2.2.2.2.1
theorem dX12_climbOf_58 : decode cX12_climbOf 58 = .ok (.getfield 37, 3) := dX12_climbOf_51_a.2.2.2.2.2.2.2.1
theorem dX12_climbOf_61 : decode cX12_climbOf 61 = .ok (.iconst 4, 1) := dX12_climbOf_51_a.2.2.2.2.2.2.2.2.1
theorem dX12_climbOf_62 : decode cX12_climbOf 62 = .ok (.iload_n 1, 1) := dX12_climbOf_51_a.2.2.2.2.2.2.2.2.2.1
theorem dX12_climbOf_63 : decode cX12_climbOf 63 = .ok (.imul, 1) := dX12_climbOf_51_a.2.2.2.2.2.2.2.2.2.2.1
theorem dX12_climbOf_64 : decode cX12_climbOf 64 = .ok (.iconst 2, 1) := dX12_climbOf_51_a.2.2.2.2.2.2.2.2.2.2.2.1
theorem dX12_climbOf_65 : decode cX12_climbOf 65 = .ok (.iadd, 1) := dX12_climbOf_51_a.2.2.2.2.2.2.2.2.2.2.2.2.1
theorem dX12_climbOf_66 : decode cX12_climbOf 66 = .ok (.iaload, 1) := dX12_climbOf_51_a.2.2.2.2.2.2.2.2.2.2.2.2.2.1
theorem dX12_climbOf_67 : decode cX12_climbOf 67 = .ok (.iload 6, 2) := dX12_climbOf_51_a.2.2.2.2.2.2.2.2.2.2.2.2.2.2.1
theorem dX12_climbOf_69 : decode cX12_climbOf 69 = .ok (.iload 7, 2) := dX12_climbOf_51_a.2.2.2.2.2.2.2.2.2.2.2.2.2.2.2
theorem dX12_climbOf_71_a : (decode cX12_climbOf 71 = .ok (.iload 5, 2)) ∧ (decode cX12_climbOf 73 = .ok (.bipush 9, 2)) ∧ (decode cX12_climbOf 75 = .ok (.irem, 1)) ∧ (decode cX12_climbOf 76 = .ok (.iconst 1, 1)) ∧ (decode cX12_climbOf 77 = .ok (.iadd, 1)) ∧ (decode cX12_climbOf 78 = .ok (.invokevirtual 202, 3)) ∧ (decode cX12_climbOf 81 = .ok (.aload_n 0, 1)) ∧ (decode cX12_climbOf 82 = .ok (.getfield 193, 3)) ∧ (decode cX12_climbOf 85 = .ok (.iload_n 3, 1)) ∧ (decode cX12_climbOf 86 = .ok (.if_icmp .le 8, 3)) ∧ (decode cX12_climbOf 89 = .ok (.iload 5, 2)) ∧ (decode cX12_climbOf 91 = .ok (.goto 5, 3)) ∧ (decode cX12_climbOf 94 = .ok (.iload 4, 2)) ∧ (decode cX12_climbOf 96 = .ok (.istore 4, 2)) ∧ (decode cX12_climbOf 98 = .ok (.aload_n 0, 1)) ∧ (decode cX12_climbOf 99 = .ok (.getfield 193, 3)) := by decide +kernel
theorem dX12_climbOf_71 : decode cX12_climbOf 71 = .ok (.iload 5, 2) := dX12_climbOf_71_a.1
theorem dX12_climbOf_73 : decode cX12_climbOf 73 = .ok (.bipush 9, 2) := dX12_climbOf_71_a.2.1
theorem dX12_climbOf_75 : decode cX12_climbOf 75 = .ok (.irem, 1) := dX12_climbOf_71_a.2.2.1
theorem dX12_climbOf_76 : decode cX12_climbOf 76 = .ok (.iconst 1, 1) := dX12_climbOf_71_a.2.2.2.1
theorem dX12_climbOf_77 : decode cX12_climbOf 77 = .ok (.iadd, 1) := dX12_climbOf_71_a.2.2.2.2.1
theorem dX12_climbOf_78 : decode cX12_climbOf 78 = .ok (.invokevirtual 202, 3) := dX12_climbOf_71_a.2.2.2.2.2.1
theorem dX12_climbOf_81 : decode cX12_climbOf 81 = .ok (.aload_n 0, 1) := dX12_climbOf_71_a.2.2.2.2.2.2.1
theorem dX12_climbOf_82 : decode cX12_climbOf 82 = .ok (.getfield 193, 3) := dX12_climbOf_71_a.2.2.2.2.2.2.2.1
theorem dX12_climbOf_85 : decode cX12_climbOf 85 = .ok (.iload_n 3, 1) := dX12_climbOf_71_a.2.2.2.2.2.2.2.2.1
theorem dX12_climbOf_86 : decode cX12_climbOf 86 = .ok (.if_icmp .le 8, 3) := dX12_climbOf_71_a.2.2.2.2.2.2.2.2.2.1
theorem dX12_climbOf_89 : decode cX12_climbOf 89 = .ok (.iload 5, 2) := dX12_climbOf_71_a.2.2.2.2.2.2.2.2.2.2.1
theorem dX12_climbOf_91 : decode cX12_climbOf 91 = .ok (.goto 5, 3) := dX12_climbOf_71_a.2.2.2.2.2.2.2.2.2.2.2.1
theorem dX12_climbOf_94 : decode cX12_climbOf 94 = .ok (.iload 4, 2) := dX12_climbOf_71_a.2.2.2.2.2.2.2.2.2.2.2.2.1
theorem dX12_climbOf_96 : decode cX12_climbOf 96 = .ok (.istore 4, 2) := dX12_climbOf_71_a.2.2.2.2.2.2.2.2.2.2.2.2.2.1
theorem dX12_climbOf_98 : decode cX12_climbOf 98 = .ok (.aload_n 0, 1) := dX12_climbOf_71_a.2.2.2.2.2.2.2.2.2.2.2.2.2.2.1
theorem dX12_climbOf_99 : decode cX12_climbOf 99 = .ok (.getfield 193, 3) := dX12_climbOf_71_a.2.2.2.2.2.2.2.2.2.2.2.2.2.2.2
theorem dX12_climbOf_102_a : (decode cX12_climbOf 102 = .ok (.iload_n 3, 1)) ∧ (decode cX12_climbOf 103 = .ok (.if_icmp .le 10, 3)) ∧ (decode cX12_climbOf 106 = .ok (.aload_n 0, 1)) ∧ (decode cX12_climbOf 107 = .ok (.getfield 193, 3)) ∧ (decode cX12_climbOf 110 = .ok (.goto 4, 3)) ∧ (decode cX12_climbOf 113 = .ok (.iload_n 3, 1)) ∧ (decode cX12_climbOf 114 = .ok (.istore_n 3, 1)) ∧ (decode cX12_climbOf 115 = .ok (.iinc 5 1, 3)) ∧ (decode cX12_climbOf 118 = .ok (.goto (-110), 3)) ∧ (decode cX12_climbOf 121 = .ok (.iload_n 2, 1)) ∧ (decode cX12_climbOf 122 = .ok (.iconst (-1), 1)) ∧ (decode cX12_climbOf 123 = .ok (.if_icmp .ne 7, 3)) ∧ (decode cX12_climbOf 126 = .ok (.iload_n 3, 1)) ∧ (decode cX12_climbOf 127 = .ok (.goto 43, 3)) ∧ (decode cX12_climbOf 130 = .ok (.iload_n 2, 1)) ∧ (decode cX12_climbOf 131 = .ok (.ifCond .ne 14, 3)) := by decide +kernel
theorem dX12_climbOf_102 : decode cX12_climbOf 102 = .ok (.iload_n 3, 1) := dX12_climbOf_102_a.1
theorem dX12_climbOf_103 : decode cX12_climbOf 103 = .ok (.if_icmp .le 10, 3) := dX12_climbOf_102_a.2.1
theorem dX12_climbOf_106 : decode cX12_climbOf 106 = .ok (.aload_n 0, 1) := dX12_climbOf_102_a.2.2.1
theorem dX12_climbOf_107 : decode cX12_climbOf 107 = .ok (.getfield 193, 3) := dX12_climbOf_102_a.2.2.2.1
theorem dX12_climbOf_110 : decode cX12_climbOf 110 = .ok (.goto 4, 3) := dX12_climbOf_102_a.2.2.2.2.1
theorem dX12_climbOf_113 : decode cX12_climbOf 113 = .ok (.iload_n 3, 1) := dX12_climbOf_102_a.2.2.2.2.2.1
theorem dX12_climbOf_114 : decode cX12_climbOf 114 = .ok (.istore_n 3, 1) := dX12_climbOf_102_a.2.2.2.2.2.2.1
theorem dX12_climbOf_115 : decode cX12_climbOf 115 = .ok (.iinc 5 1, 3) := dX12_climbOf_102_a.2.2.2.2.2.2.2.1
theorem dX12_climbOf_118 : decode cX12_climbOf 118 = .ok (.goto (-110), 3) := dX12_climbOf_102_a.2.2.2.2.2.2.2.2.1
theorem dX12_climbOf_121 : decode cX12_climbOf 121 = .ok (.iload_n 2, 1) := dX12_climbOf_102_a.2.2.2.2.2.2.2.2.2.1
theorem dX12_climbOf_122 : decode cX12_climbOf 122 = .ok (.iconst (-1), 1) := dX12_climbOf_102_a.2.2.2.2.2.2.2.2.2.2.1
theorem dX12_climbOf_123 : decode cX12_climbOf 123 = .ok (.if_icmp .ne 7, 3) := dX12_climbOf_102_a.2.2.2.2.2.2.2.2.2.2.2.1
theorem dX12_climbOf_126 : decode cX12_climbOf 126 = .ok (.iload_n 3, 1) := dX12_climbOf_102_a.2.2.2.2.2.2.2.2.2.2.2.2.1
theorem dX12_climbOf_127 : decode cX12_climbOf 127 = .ok (.goto 43, 3) := dX12_climbOf_102_a.2.2.2.2.2.2.2.2.2.2.2.2.2.1
theorem dX12_climbOf_130 : decode cX12_climbOf 130 = .ok (.iload_n 2, 1) := dX12_climbOf_102_a.2.2.2.2.2.2.2.2.2.2.2.2.2.2.1
theorem dX12_climbOf_131 : decode cX12_climbOf 131 = .ok (.ifCond .ne 14, 3) := dX12_climbOf_102_a.2.2.2.2.2.2.2.2.2.2.2.2.2.2.2
theorem dX12_climbOf_134_a : (decode cX12_climbOf 134 = .ok (.iload 4, 2)) ∧ (decode cX12_climbOf 136 = .ok (.sipush 207, 3)) ∧ (decode cX12_climbOf 139 = .ok (.idiv, 1)) ∧ (decode cX12_climbOf 140 = .ok (.iconst 1, 1)) ∧ (decode cX12_climbOf 141 = .ok (.iadd, 1)) ∧ (decode cX12_climbOf 142 = .ok (.goto 28, 3)) ∧ (decode cX12_climbOf 145 = .ok (.iload_n 2, 1)) ∧ (decode cX12_climbOf 146 = .ok (.iconst 1, 1)) ∧ (decode cX12_climbOf 147 = .ok (.if_icmp .ne 16, 3)) ∧ (decode cX12_climbOf 150 = .ok (.iload 4, 2)) ∧ (decode cX12_climbOf 152 = .ok (.bipush 9, 2)) ∧ (decode cX12_climbOf 154 = .ok (.idiv, 1)) ∧ (decode cX12_climbOf 155 = .ok (.bipush 23, 2)) ∧ (decode cX12_climbOf 157 = .ok (.irem, 1)) ∧ (decode cX12_climbOf 158 = .ok (.iconst 1, 1)) ∧ (decode cX12_climbOf 159 = .ok (.iadd, 1)) := by decide +kernel
theorem dX12_climbOf_134 : decode cX12_climbOf 134 = .ok (.iload 4, 2) := dX12_climbOf_134_a.1
theorem dX12_climbOf_136 : decode cX12_climbOf 136 = .ok (.sipush 207, 3) := dX12_climbOf_134_a.2.1
theorem dX12_climbOf_139 : decode cX12_climbOf 139 = .ok (.idiv, 1) := dX12_climbOf_134_a.2.2.1
theorem dX12_climbOf_140 : decode cX12_climbOf 140 = .ok (.iconst 1, 1) := dX12_climbOf_134_a.2.2.2.1
theorem dX12_climbOf_141 : decode cX12_climbOf 141 = .ok (.iadd, 1) := dX12_climbOf_134_a.2.2.2.2.1
theorem dX12_climbOf_142 : decode cX12_climbOf 142 = .ok (.goto 28, 3) := dX12_climbOf_134_a.2.2.2.2.2.1
theorem dX12_climbOf_145 : decode cX12_climbOf 145 = .ok (.iload_n 2, 1) := dX12_climbOf_134_a.2.2.2.2.2.2.1
theorem dX12_climbOf_146 : decode cX12_climbOf 146 = .ok (.iconst 1, 1) := dX12_climbOf_134_a.2.2.2.2.2.2.2.1
theorem dX12_climbOf_147 : decode cX12_climbOf 147 = .ok (.if_icmp .ne 16, 3) := dX12_climbOf_134_a.2.2.2.2.2.2.2.2.1
theorem dX12_climbOf_150 : decode cX12_climbOf 150 = .ok (.iload 4, 2) := dX12_climbOf_134_a.2.2.2.2.2.2.2.2.2.1
theorem dX12_climbOf_152 : decode cX12_climbOf 152 = .ok (.bipush 9, 2) := dX12_climbOf_134_a.2.2.2.2.2.2.2.2.2.2.1
theorem dX12_climbOf_154 : decode cX12_climbOf 154 = .ok (.idiv, 1) := dX12_climbOf_134_a.2.2.2.2.2.2.2.2.2.2.2.1
theorem dX12_climbOf_155 : decode cX12_climbOf 155 = .ok (.bipush 23, 2) := dX12_climbOf_134_a.2.2.2.2.2.2.2.2.2.2.2.2.1
theorem dX12_climbOf_157 : decode cX12_climbOf 157 = .ok (.irem, 1) := dX12_climbOf_134_a.2.2.2.2.2.2.2.2.2.2.2.2.2.1
theorem dX12_climbOf_158 : decode cX12_climbOf 158 = .ok (.iconst 1, 1) := dX12_climbOf_134_a.2.2.2.2.2.2.2.2.2.2.2.2.2.2.1
theorem dX12_climbOf_159 : decode cX12_climbOf 159 = .ok (.iadd, 1) := dX12_climbOf_134_a.2.2.2.2.2.2.2.2.2.2.2.2.2.2.2
theorem dX12_climbOf_160_a : (decode cX12_climbOf 160 = .ok (.goto 10, 3)) ∧ (decode cX12_climbOf 163 = .ok (.iload 4, 2)) ∧ (decode cX12_climbOf 165 = .ok (.bipush 9, 2)) ∧ (decode cX12_climbOf 167 = .ok (.irem, 1)) ∧ (decode cX12_climbOf 168 = .ok (.iconst 1, 1)) ∧ (decode cX12_climbOf 169 = .ok (.iadd, 1)) ∧ (decode cX12_climbOf 170 = .ok (.ireturn, 1)) := by decide +kernel
theorem dX12_climbOf_160 : decode cX12_climbOf 160 = .ok (.goto 10, 3) := dX12_climbOf_160_a.1
theorem dX12_climbOf_163 : decode cX12_climbOf 163 = .ok (.iload 4, 2) := dX12_climbOf_160_a.2.1
theorem dX12_climbOf_165 : decode cX12_climbOf 165 = .ok (.bipush 9, 2) := dX12_climbOf_160_a.2.2.1
theorem dX12_climbOf_167 : decode cX12_climbOf 167 = .ok (.irem, 1) := dX12_climbOf_160_a.2.2.2.1
theorem dX12_climbOf_168 : decode cX12_climbOf 168 = .ok (.iconst 1, 1) := dX12_climbOf_160_a.2.2.2.2.1
theorem dX12_climbOf_169 : decode cX12_climbOf 169 = .ok (.iadd, 1) := dX12_climbOf_160_a.2.2.2.2.2.1
theorem dX12_climbOf_170 : decode cX12_climbOf 170 = .ok (.ireturn, 1) := dX12_climbOf_160_a.2.2.2.2.2.2
theorem dX12_climb_0_a : (decode cX12_climb 0 = .ok (.aload_n 0, 1)) ∧ (decode cX12_climb 1 = .ok (.invokevirtual 141, 3)) ∧ (decode cX12_climb 4 = .ok (.aload_n 0, 1)) ∧ (decode cX12_climb 5 = .ok (.iload_n 1, 1)) ∧ (decode cX12_climb 6 = .ok (.invokevirtual 212, 3)) ∧ (decode cX12_climb 9 = .ok (.ifCond .eq 26, 3)) ∧ (decode cX12_climb 12 = .ok (.iload_n 2, 1)) ∧ (decode cX12_climb 13 = .ok (.i2l, 1)) ∧ (decode cX12_climb 14 = .ok (.ldc2_w 224, 3)) ∧ (decode cX12_climb 17 = .ok (.ldc2_w 78, 3)) ∧ (decode cX12_climb 20 = .ok (.invokestatic 65, 3)) ∧ (decode cX12_climb 23 = .ok (.ifCond .eq 12, 3)) ∧ (decode cX12_climb 26 = .ok (.aload_n 0, 1)) ∧ (decode cX12_climb 27 = .ok (.iload_n 1, 1)) ∧ (decode cX12_climb 28 = .ok (.iload_n 2, 1)) ∧ (decode cX12_climb 29 = .ok (.invokevirtual 226, 3)) := by decide +kernel
theorem dX12_climb_0 : decode cX12_climb 0 = .ok (.aload_n 0, 1) := dX12_climb_0_a.1
theorem dX12_climb_1 : decode cX12_climb 1 = .ok (.invokevirtual 141, 3) := dX12_climb_0_a.2.1
theorem dX12_climb_4 : decode cX12_climb 4 = .ok (.aload_n 0, 1) := dX12_climb_0_a.2.2.1
theorem dX12_climb_5 : decode cX12_climb 5 = .ok (.iload_n 1, 1) := dX12_climb_0_a.2.2.2.1
theorem dX12_climb_6 : decode cX12_climb 6 = .ok (.invokevirtual 212, 3) := dX12_climb_0_a.2.2.2.2.1
theorem dX12_climb_9 : decode cX12_climb 9 = .ok (.ifCond .eq 26, 3) := dX12_climb_0_a.2.2.2.2.2.1
theorem dX12_climb_12 : decode cX12_climb 12 = .ok (.iload_n 2, 1) := dX12_climb_0_a.2.2.2.2.2.2.1
theorem dX12_climb_13 : decode cX12_climb 13 = .ok (.i2l, 1) := dX12_climb_0_a.2.2.2.2.2.2.2.1
theorem dX12_climb_14 : decode cX12_climb 14 = .ok (.ldc2_w 224, 3) := dX12_climb_0_a.2.2.2.2.2.2.2.2.1
theorem dX12_climb_17 : decode cX12_climb 17 = .ok (.ldc2_w 78, 3) := dX12_climb_0_a.2.2.2.2.2.2.2.2.2.1
theorem dX12_climb_20 : decode cX12_climb 20 = .ok (.invokestatic 65, 3) := dX12_climb_0_a.2.2.2.2.2.2.2.2.2.2.1
theorem dX12_climb_23 : decode cX12_climb 23 = .ok (.ifCond .eq 12, 3) := dX12_climb_0_a.2.2.2.2.2.2.2.2.2.2.2.1
theorem dX12_climb_26 : decode cX12_climb 26 = .ok (.aload_n 0, 1) := dX12_climb_0_a.2.2.2.2.2.2.2.2.2.2.2.2.1
theorem dX12_climb_27 : decode cX12_climb 27 = .ok (.iload_n 1, 1) := dX12_climb_0_a.2.2.2.2.2.2.2.2.2.2.2.2.2.1
theorem dX12_climb_28 : decode cX12_climb 28 = .ok (.iload_n 2, 1) := dX12_climb_0_a.2.2.2.2.2.2.2.2.2.2.2.2.2.2.1
theorem dX12_climb_29 : decode cX12_climb 29 = .ok (.invokevirtual 226, 3) := dX12_climb_0_a.2.2.2.2.2.2.2.2.2.2.2.2.2.2.2
theorem dX12_climb_32_a : (decode cX12_climb 32 = .ok (.goto 5, 3)) ∧ (decode cX12_climb 35 = .ok (.bipush (-2), 2)) ∧ (decode cX12_climb 37 = .ok (.ireturn, 1)) := by decide +kernel
theorem dX12_climb_32 : decode cX12_climb 32 = .ok (.goto 5, 3) := dX12_climb_32_a.1
theorem dX12_climb_35 : decode cX12_climb 35 = .ok (.bipush (-2), 2) := dX12_climb_32_a.2.1
theorem dX12_climb_37 : decode cX12_climb 37 = .ok (.ireturn, 1) := dX12_climb_32_a.2.2
theorem dX12_practiceOf_0_a : (decode cX12_practiceOf 0 = .ok (.aload_n 0, 1)) ∧ (decode cX12_practiceOf 1 = .ok (.getfield 167, 3)) ∧ (decode cX12_practiceOf 4 = .ok (.istore_n 3, 1)) ∧ (decode cX12_practiceOf 5 = .ok (.iconst (-1), 1)) ∧ (decode cX12_practiceOf 6 = .ok (.istore 4, 2)) ∧ (decode cX12_practiceOf 8 = .ok (.iconst 0, 1)) ∧ (decode cX12_practiceOf 9 = .ok (.istore 5, 2)) ∧ (decode cX12_practiceOf 11 = .ok (.iload 5, 2)) ∧ (decode cX12_practiceOf 13 = .ok (.bipush 64, 2)) ∧ (decode cX12_practiceOf 15 = .ok (.if_icmp .ge 55, 3)) ∧ (decode cX12_practiceOf 18 = .ok (.aload_n 0, 1)) ∧ (decode cX12_practiceOf 19 = .ok (.iload 5, 2)) ∧ (decode cX12_practiceOf 21 = .ok (.putfield 167, 3)) ∧ (decode cX12_practiceOf 24 = .ok (.aload_n 0, 1)) ∧ (decode cX12_practiceOf 25 = .ok (.iload_n 1, 1)) ∧ (decode cX12_practiceOf 26 = .ok (.invokevirtual 206, 3)) := by decide +kernel
theorem dX12_practiceOf_0 : decode cX12_practiceOf 0 = .ok (.aload_n 0, 1) := dX12_practiceOf_0_a.1
theorem dX12_practiceOf_1 : decode cX12_practiceOf 1 = .ok (.getfield 167, 3) := dX12_practiceOf_0_a.2.1
theorem dX12_practiceOf_4 : decode cX12_practiceOf 4 = .ok (.istore_n 3, 1) := dX12_practiceOf_0_a.2.2.1
theorem dX12_practiceOf_5 : decode cX12_practiceOf 5 = .ok (.iconst (-1), 1) := dX12_practiceOf_0_a.2.2.2.1
theorem dX12_practiceOf_6 : decode cX12_practiceOf 6 = .ok (.istore 4, 2) := dX12_practiceOf_0_a.2.2.2.2.1
theorem dX12_practiceOf_8 : decode cX12_practiceOf 8 = .ok (.iconst 0, 1) := dX12_practiceOf_0_a.2.2.2.2.2.1
theorem dX12_practiceOf_9 : decode cX12_practiceOf 9 = .ok (.istore 5, 2) := dX12_practiceOf_0_a.2.2.2.2.2.2.1
theorem dX12_practiceOf_11 : decode cX12_practiceOf 11 = .ok (.iload 5, 2) := dX12_practiceOf_0_a.2.2.2.2.2.2.2.1
theorem dX12_practiceOf_13 : decode cX12_practiceOf 13 = .ok (.bipush 64, 2) := dX12_practiceOf_0_a.2.2.2.2.2.2.2.2.1
theorem dX12_practiceOf_15 : decode cX12_practiceOf 15 = .ok (.if_icmp .ge 55, 3) := dX12_practiceOf_0_a.2.2.2.2.2.2.2.2.2.1
theorem dX12_practiceOf_18 : decode cX12_practiceOf 18 = .ok (.aload_n 0, 1) := dX12_practiceOf_0_a.2.2.2.2.2.2.2.2.2.2.1
theorem dX12_practiceOf_19 : decode cX12_practiceOf 19 = .ok (.iload 5, 2) := dX12_practiceOf_0_a.2.2.2.2.2.2.2.2.2.2.2.1
theorem dX12_practiceOf_21 : decode cX12_practiceOf 21 = .ok (.putfield 167, 3) := dX12_practiceOf_0_a.2.2.2.2.2.2.2.2.2.2.2.2.1
theorem dX12_practiceOf_24 : decode cX12_practiceOf 24 = .ok (.aload_n 0, 1) := dX12_practiceOf_0_a.2.2.2.2.2.2.2.2.2.2.2.2.2.1
theorem dX12_practiceOf_25 : decode cX12_practiceOf 25 = .ok (.iload_n 1, 1) := dX12_practiceOf_0_a.2.2.2.2.2.2.2.2.2.2.2.2.2.2.1
theorem dX12_practiceOf_26 : decode cX12_practiceOf 26 = .ok (.invokevirtual 206, 3) := dX12_practiceOf_0_a.2.2.2.2.2.2.2.2.2.2.2.2.2.2.2
theorem dX12_practiceOf_29_a : (decode cX12_practiceOf 29 = .ok (.aload_n 0, 1)) ∧ (decode cX12_practiceOf 30 = .ok (.getfield 196, 3)) ∧ (decode cX12_practiceOf 33 = .ok (.ifCond .ne 27, 3)) ∧ (decode cX12_practiceOf 36 = .ok (.iload 4, 2)) ∧ (decode cX12_practiceOf 38 = .ok (.iconst (-1), 1)) ∧ (decode cX12_practiceOf 39 = .ok (.if_icmp .eq 16, 3)) ∧ (decode cX12_practiceOf 42 = .ok (.iload 5, 2)) ∧ (decode cX12_practiceOf 44 = .ok (.invokestatic 229, 3)) ∧ (decode cX12_practiceOf 47 = .ok (.iload 4, 2)) ∧ (decode cX12_practiceOf 49 = .ok (.invokestatic 229, 3)) ∧ (decode cX12_practiceOf 52 = .ok (.if_icmp .ge 8, 3)) ∧ (decode cX12_practiceOf 55 = .ok (.iload 5, 2)) ∧ (decode cX12_practiceOf 57 = .ok (.goto 5, 3)) ∧ (decode cX12_practiceOf 60 = .ok (.iload 4, 2)) ∧ (decode cX12_practiceOf 62 = .ok (.istore 4, 2)) ∧ (decode cX12_practiceOf 64 = .ok (.iinc 5 1, 3)) := by decide +kernel
theorem dX12_practiceOf_29 : decode cX12_practiceOf 29 = .ok (.aload_n 0, 1) := dX12_practiceOf_29_a.1
theorem dX12_practiceOf_30 : decode cX12_practiceOf 30 = .ok (.getfield 196, 3) := dX12_practiceOf_29_a.2.1
theorem dX12_practiceOf_33 : decode cX12_practiceOf 33 = .ok (.ifCond .ne 27, 3) := dX12_practiceOf_29_a.2.2.1
theorem dX12_practiceOf_36 : decode cX12_practiceOf 36 = .ok (.iload 4, 2) := dX12_practiceOf_29_a.2.2.2.1
theorem dX12_practiceOf_38 : decode cX12_practiceOf 38 = .ok (.iconst (-1), 1) := dX12_practiceOf_29_a.2.2.2.2.1
theorem dX12_practiceOf_39 : decode cX12_practiceOf 39 = .ok (.if_icmp .eq 16, 3) := dX12_practiceOf_29_a.2.2.2.2.2.1
theorem dX12_practiceOf_42 : decode cX12_practiceOf 42 = .ok (.iload 5, 2) := dX12_practiceOf_29_a.2.2.2.2.2.2.1
theorem dX12_practiceOf_44 : decode cX12_practiceOf 44 = .ok (.invokestatic 229, 3) := dX12_practiceOf_29_a.2.2.2.2.2.2.2.1
theorem dX12_practiceOf_47 : decode cX12_practiceOf 47 = .ok (.iload 4, 2) := dX12_practiceOf_29_a.2.2.2.2.2.2.2.2.1
theorem dX12_practiceOf_49 : decode cX12_practiceOf 49 = .ok (.invokestatic 229, 3) := dX12_practiceOf_29_a.2.2.2.2.2.2.2.2.2.1
theorem dX12_practiceOf_52 : decode cX12_practiceOf 52 = .ok (.if_icmp .ge 8, 3) := dX12_practiceOf_29_a.2.2.2.2.2.2.2.2.2.2.1
theorem dX12_practiceOf_55 : decode cX12_practiceOf 55 = .ok (.iload 5, 2) := dX12_practiceOf_29_a.2.2.2.2.2.2.2.2.2.2.2.1
theorem dX12_practiceOf_57 : decode cX12_practiceOf 57 = .ok (.goto 5, 3) := dX12_practiceOf_29_a.2.2.2.2.2.2.2.2.2.2.2.2.1
theorem dX12_practiceOf_60 : decode cX12_practiceOf 60 = .ok (.iload 4, 2) := dX12_practiceOf_29_a.2.2.2.2.2.2.2.2.2.2.2.2.2.1
theorem dX12_practiceOf_62 : decode cX12_practiceOf 62 = .ok (.istore 4, 2) := dX12_practiceOf_29_a.2.2.2.2.2.2.2.2.2.2.2.2.2.2.1
theorem dX12_practiceOf_64 : decode cX12_practiceOf 64 = .ok (.iinc 5 1, 3) := dX12_practiceOf_29_a.2.2.2.2.2.2.2.2.2.2.2.2.2.2.2
theorem dX12_practiceOf_67_a : (decode cX12_practiceOf 67 = .ok (.goto (-56), 3)) ∧ (decode cX12_practiceOf 70 = .ok (.aload_n 0, 1)) ∧ (decode cX12_practiceOf 71 = .ok (.iload_n 3, 1)) ∧ (decode cX12_practiceOf 72 = .ok (.putfield 167, 3)) ∧ (decode cX12_practiceOf 75 = .ok (.iload 4, 2)) ∧ (decode cX12_practiceOf 77 = .ok (.iconst (-1), 1)) ∧ (decode cX12_practiceOf 78 = .ok (.if_icmp .eq 8, 3)) ∧ (decode cX12_practiceOf 81 = .ok (.iload_n 2, 1)) ∧ (decode cX12_practiceOf 82 = .ok (.iconst 1, 1)) ∧ (decode cX12_practiceOf 83 = .ok (.if_icmp .ne 8, 3)) ∧ (decode cX12_practiceOf 86 = .ok (.iload 4, 2)) ∧ (decode cX12_practiceOf 88 = .ok (.goto 8, 3)) ∧ (decode cX12_practiceOf 91 = .ok (.iload 4, 2)) ∧ (decode cX12_practiceOf 93 = .ok (.invokestatic 229, 3)) ∧ (decode cX12_practiceOf 96 = .ok (.ireturn, 1)) := by decide +kernel
theorem dX12_practiceOf_67 : decode cX12_practiceOf 67 = .ok (.goto (-56), 3) := dX12_practiceOf_67_a.1
theorem dX12_practiceOf_70 : decode cX12_practiceOf 70 = .ok (.aload_n 0, 1) := dX12_practiceOf_67_a.2.1
theorem dX12_practiceOf_71 : decode cX12_practiceOf 71 = .ok (.iload_n 3, 1) := dX12_practiceOf_67_a.2.2.1
theorem dX12_practiceOf_72 : decode cX12_practiceOf 72 = .ok (.putfield 167, 3) := dX12_practiceOf_67_a.2.2.2.1
theorem dX12_practiceOf_75 : decode cX12_practiceOf 75 = .ok (.iload 4, 2) := dX12_practiceOf_67_a.2.2.2.2.1
theorem dX12_practiceOf_77 : decode cX12_practiceOf 77 = .ok (.iconst (-1), 1) := dX12_practiceOf_67_a.2.2.2.2.2.1
theorem dX12_practiceOf_78 : decode cX12_practiceOf 78 = .ok (.if_icmp .eq 8, 3) := dX12_practiceOf_67_a.2.2.2.2.2.2.1
theorem dX12_practiceOf_81 : decode cX12_practiceOf 81 = .ok (.iload_n 2, 1) := dX12_practiceOf_67_a.2.2.2.2.2.2.2.1
theorem dX12_practiceOf_82 : decode cX12_practiceOf 82 = .ok (.iconst 1, 1) := dX12_practiceOf_67_a.2.2.2.2.2.2.2.2.1
theorem dX12_practiceOf_83 : decode cX12_practiceOf 83 = .ok (.if_icmp .ne 8, 3) := dX12_practiceOf_67_a.2.2.2.2.2.2.2.2.2.1
theorem dX12_practiceOf_86 : decode cX12_practiceOf 86 = .ok (.iload 4, 2) := dX12_practiceOf_67_a.2.2.2.2.2.2.2.2.2.2.1
theorem dX12_practiceOf_88 : decode cX12_practiceOf 88 = .ok (.goto 8, 3) := dX12_practiceOf_67_a.2.2.2.2.2.2.2.2.2.2.2.1
theorem dX12_practiceOf_91 : decode cX12_practiceOf 91 = .ok (.iload 4, 2) := dX12_practiceOf_67_a.2.2.2.2.2.2.2.2.2.2.2.2.1
theorem dX12_practiceOf_93 : decode cX12_practiceOf 93 = .ok (.invokestatic 229, 3) := dX12_practiceOf_67_a.2.2.2.2.2.2.2.2.2.2.2.2.2.1
theorem dX12_practiceOf_96 : decode cX12_practiceOf 96 = .ok (.ireturn, 1) := dX12_practiceOf_67_a.2.2.2.2.2.2.2.2.2.2.2.2.2.2
theorem dX12_practice_0_a : (decode cX12_practice 0 = .ok (.aload_n 0, 1)) ∧ (decode cX12_practice 1 = .ok (.invokevirtual 141, 3)) ∧ (decode cX12_practice 4 = .ok (.aload_n 0, 1)) ∧ (decode cX12_practice 5 = .ok (.iload_n 1, 1)) ∧ (decode cX12_practice 6 = .ok (.invokevirtual 212, 3)) ∧ (decode cX12_practice 9 = .ok (.ifCond .eq 19, 3)) ∧ (decode cX12_practice 12 = .ok (.iload_n 2, 1)) ∧ (decode cX12_practice 13 = .ok (.invokestatic 152, 3)) ∧ (decode cX12_practice 16 = .ok (.ifCond .eq 12, 3)) ∧ (decode cX12_practice 19 = .ok (.aload_n 0, 1)) ∧ (decode cX12_practice 20 = .ok (.iload_n 1, 1)) ∧ (decode cX12_practice 21 = .ok (.iload_n 2, 1)) ∧ (decode cX12_practice 22 = .ok (.invokevirtual 232, 3)) ∧ (decode cX12_practice 25 = .ok (.goto 5, 3)) ∧ (decode cX12_practice 28 = .ok (.bipush (-2), 2)) ∧ (decode cX12_practice 30 = .ok (.ireturn, 1)) := by decide +kernel
theorem dX12_practice_0 : decode cX12_practice 0 = .ok (.aload_n 0, 1) := dX12_practice_0_a.1
theorem dX12_practice_1 : decode cX12_practice 1 = .ok (.invokevirtual 141, 3) := dX12_practice_0_a.2.1
theorem dX12_practice_4 : decode cX12_practice 4 = .ok (.aload_n 0, 1) := dX12_practice_0_a.2.2.1
theorem dX12_practice_5 : decode cX12_practice 5 = .ok (.iload_n 1, 1) := dX12_practice_0_a.2.2.2.1
theorem dX12_practice_6 : decode cX12_practice 6 = .ok (.invokevirtual 212, 3) := dX12_practice_0_a.2.2.2.2.1
theorem dX12_practice_9 : decode cX12_practice 9 = .ok (.ifCond .eq 19, 3) := dX12_practice_0_a.2.2.2.2.2.1
theorem dX12_practice_12 : decode cX12_practice 12 = .ok (.iload_n 2, 1) := dX12_practice_0_a.2.2.2.2.2.2.1
theorem dX12_practice_13 : decode cX12_practice 13 = .ok (.invokestatic 152, 3) := dX12_practice_0_a.2.2.2.2.2.2.2.1
theorem dX12_practice_16 : decode cX12_practice 16 = .ok (.ifCond .eq 12, 3) := dX12_practice_0_a.2.2.2.2.2.2.2.2.1
theorem dX12_practice_19 : decode cX12_practice 19 = .ok (.aload_n 0, 1) := dX12_practice_0_a.2.2.2.2.2.2.2.2.2.1
theorem dX12_practice_20 : decode cX12_practice 20 = .ok (.iload_n 1, 1) := dX12_practice_0_a.2.2.2.2.2.2.2.2.2.2.1
theorem dX12_practice_21 : decode cX12_practice 21 = .ok (.iload_n 2, 1) := dX12_practice_0_a.2.2.2.2.2.2.2.2.2.2.2.1
theorem dX12_practice_22 : decode cX12_practice 22 = .ok (.invokevirtual 232, 3) := dX12_practice_0_a.2.2.2.2.2.2.2.2.2.2.2.2.1
theorem dX12_practice_25 : decode cX12_practice 25 = .ok (.goto 5, 3) := dX12_practice_0_a.2.2.2.2.2.2.2.2.2.2.2.2.2.1
theorem dX12_practice_28 : decode cX12_practice 28 = .ok (.bipush (-2), 2) := dX12_practice_0_a.2.2.2.2.2.2.2.2.2.2.2.2.2.2.1
theorem dX12_practice_30 : decode cX12_practice 30 = .ok (.ireturn, 1) := dX12_practice_0_a.2.2.2.2.2.2.2.2.2.2.2.2.2.2.2
theorem dX12_pairOf_0_a : (decode cX12_pairOf 0 = .ok (.iconst (-1), 1)) ∧ (decode cX12_pairOf 1 = .ok (.istore_n 3, 1)) ∧ (decode cX12_pairOf 2 = .ok (.iconst (-1), 1)) ∧ (decode cX12_pairOf 3 = .ok (.istore 4, 2)) ∧ (decode cX12_pairOf 5 = .ok (.iconst 0, 1)) ∧ (decode cX12_pairOf 6 = .ok (.istore 5, 2)) ∧ (decode cX12_pairOf 8 = .ok (.iload 5, 2)) ∧ (decode cX12_pairOf 10 = .ok (.bipush 64, 2)) ∧ (decode cX12_pairOf 12 = .ok (.if_icmp .ge 113, 3)) ∧ (decode cX12_pairOf 15 = .ok (.iload 5, 2)) ∧ (decode cX12_pairOf 17 = .ok (.bipush 8, 2)) ∧ (decode cX12_pairOf 19 = .ok (.idiv, 1)) ∧ (decode cX12_pairOf 20 = .ok (.istore 6, 2)) ∧ (decode cX12_pairOf 22 = .ok (.iload 5, 2)) ∧ (decode cX12_pairOf 24 = .ok (.bipush 8, 2)) ∧ (decode cX12_pairOf 26 = .ok (.irem, 1)) := by decide +kernel
theorem dX12_pairOf_0 : decode cX12_pairOf 0 = .ok (.iconst (-1), 1) := dX12_pairOf_0_a.1
theorem dX12_pairOf_1 : decode cX12_pairOf 1 = .ok (.istore_n 3, 1) := dX12_pairOf_0_a.2.1
theorem dX12_pairOf_2 : decode cX12_pairOf 2 = .ok (.iconst (-1), 1) := dX12_pairOf_0_a.2.2.1
theorem dX12_pairOf_3 : decode cX12_pairOf 3 = .ok (.istore 4, 2) := dX12_pairOf_0_a.2.2.2.1
theorem dX12_pairOf_5 : decode cX12_pairOf 5 = .ok (.iconst 0, 1) := dX12_pairOf_0_a.2.2.2.2.1
theorem dX12_pairOf_6 : decode cX12_pairOf 6 = .ok (.istore 5, 2) := dX12_pairOf_0_a.2.2.2.2.2.1
theorem dX12_pairOf_8 : decode cX12_pairOf 8 = .ok (.iload 5, 2) := dX12_pairOf_0_a.2.2.2.2.2.2.1
theorem dX12_pairOf_10 : decode cX12_pairOf 10 = .ok (.bipush 64, 2) := dX12_pairOf_0_a.2.2.2.2.2.2.2.1
theorem dX12_pairOf_12 : decode cX12_pairOf 12 = .ok (.if_icmp .ge 113, 3) := dX12_pairOf_0_a.2.2.2.2.2.2.2.2.1
theorem dX12_pairOf_15 : decode cX12_pairOf 15 = .ok (.iload 5, 2) := dX12_pairOf_0_a.2.2.2.2.2.2.2.2.2.1
theorem dX12_pairOf_17 : decode cX12_pairOf 17 = .ok (.bipush 8, 2) := dX12_pairOf_0_a.2.2.2.2.2.2.2.2.2.2.1
theorem dX12_pairOf_19 : decode cX12_pairOf 19 = .ok (.idiv, 1) := dX12_pairOf_0_a.2.2.2.2.2.2.2.2.2.2.2.1
theorem dX12_pairOf_20 : decode cX12_pairOf 20 = .ok (.istore 6, 2) := dX12_pairOf_0_a.2.2.2.2.2.2.2.2.2.2.2.2.1
theorem dX12_pairOf_22 : decode cX12_pairOf 22 = .ok (.iload 5, 2) := dX12_pairOf_0_a.2.2.2.2.2.2.2.2.2.2.2.2.2.1
theorem dX12_pairOf_24 : decode cX12_pairOf 24 = .ok (.bipush 8, 2) := dX12_pairOf_0_a.2.2.2.2.2.2.2.2.2.2.2.2.2.2.1
theorem dX12_pairOf_26 : decode cX12_pairOf 26 = .ok (.irem, 1) := dX12_pairOf_0_a.2.2.2.2.2.2.2.2.2.2.2.2.2.2.2
theorem dX12_pairOf_27_a : (decode cX12_pairOf 27 = .ok (.istore 7, 2)) ∧ (decode cX12_pairOf 29 = .ok (.iload 6, 2)) ∧ (decode cX12_pairOf 31 = .ok (.iload 7, 2)) ∧ (decode cX12_pairOf 33 = .ok (.if_icmp .eq 86, 3)) ∧ (decode cX12_pairOf 36 = .ok (.iload 6, 2)) ∧ (decode cX12_pairOf 38 = .ok (.aload_n 0, 1)) ∧ (decode cX12_pairOf 39 = .ok (.getfield 122, 3)) ∧ (decode cX12_pairOf 42 = .ok (.if_icmp .ge 77, 3)) ∧ (decode cX12_pairOf 45 = .ok (.iload 7, 2)) ∧ (decode cX12_pairOf 47 = .ok (.aload_n 0, 1)) ∧ (decode cX12_pairOf 48 = .ok (.getfield 122, 3)) ∧ (decode cX12_pairOf 51 = .ok (.if_icmp .ge 68, 3)) ∧ (decode cX12_pairOf 54 = .ok (.aload_n 0, 1)) ∧ (decode cX12_pairOf 55 = .ok (.aload_n 0, 1)) ∧ (decode cX12_pairOf 56 = .ok (.getfield 37, 3)) ∧ (decode cX12_pairOf 59 = .ok (.iconst 4, 1)) := by decide +kernel
theorem dX12_pairOf_27 : decode cX12_pairOf 27 = .ok (.istore 7, 2) := dX12_pairOf_27_a.1
theorem dX12_pairOf_29 : decode cX12_pairOf 29 = .ok (.iload 6, 2) := dX12_pairOf_27_a.2.1
theorem dX12_pairOf_31 : decode cX12_pairOf 31 = .ok (.iload 7, 2) := dX12_pairOf_27_a.2.2.1
theorem dX12_pairOf_33 : decode cX12_pairOf 33 = .ok (.if_icmp .eq 86, 3) := dX12_pairOf_27_a.2.2.2.1
theorem dX12_pairOf_36 : decode cX12_pairOf 36 = .ok (.iload 6, 2) := dX12_pairOf_27_a.2.2.2.2.1
theorem dX12_pairOf_38 : decode cX12_pairOf 38 = .ok (.aload_n 0, 1) := dX12_pairOf_27_a.2.2.2.2.2.1
theorem dX12_pairOf_39 : decode cX12_pairOf 39 = .ok (.getfield 122, 3) := dX12_pairOf_27_a.2.2.2.2.2.2.1
theorem dX12_pairOf_42 : decode cX12_pairOf 42 = .ok (.if_icmp .ge 77, 3) := dX12_pairOf_27_a.2.2.2.2.2.2.2.1
theorem dX12_pairOf_45 : decode cX12_pairOf 45 = .ok (.iload 7, 2) := dX12_pairOf_27_a.2.2.2.2.2.2.2.2.1
theorem dX12_pairOf_47 : decode cX12_pairOf 47 = .ok (.aload_n 0, 1) := dX12_pairOf_27_a.2.2.2.2.2.2.2.2.2.1
theorem dX12_pairOf_48 : decode cX12_pairOf 48 = .ok (.getfield 122, 3) := dX12_pairOf_27_a.2.2.2.2.2.2.2.2.2.2.1
theorem dX12_pairOf_51 : decode cX12_pairOf 51 = .ok (.if_icmp .ge 68, 3) := dX12_pairOf_27_a.2.2.2.2.2.2.2.2.2.2.2.1
theorem dX12_pairOf_54 : decode cX12_pairOf 54 = .ok (.aload_n 0, 1) := dX12_pairOf_27_a.2.2.2.2.2.2.2.2.2.2.2.2.1
theorem dX12_pairOf_55 : decode cX12_pairOf 55 = .ok (.aload_n 0, 1) := dX12_pairOf_27_a.2.2.2.2.2.2.2.2.2.2.2.2.2.1
theorem dX12_pairOf_56 : decode cX12_pairOf 56 = .ok (.getfield 37, 3) := dX12_pairOf_27_a.2.2.2.2.2.2.2.2.2.2.2.2.2.2.1
theorem dX12_pairOf_59 : decode cX12_pairOf 59 = .ok (.iconst 4, 1) := dX12_pairOf_27_a.2.2.2.2.2.2.2.2.2.2.2.2.2.2.2
theorem dX12_pairOf_60_a : (decode cX12_pairOf 60 = .ok (.iload_n 1, 1)) ∧ (decode cX12_pairOf 61 = .ok (.imul, 1)) ∧ (decode cX12_pairOf 62 = .ok (.iaload, 1)) ∧ (decode cX12_pairOf 63 = .ok (.iload 6, 2)) ∧ (decode cX12_pairOf 65 = .ok (.iload 7, 2)) ∧ (decode cX12_pairOf 67 = .ok (.aload_n 0, 1)) ∧ (decode cX12_pairOf 68 = .ok (.getfield 37, 3)) ∧ (decode cX12_pairOf 71 = .ok (.iconst 4, 1)) ∧ (decode cX12_pairOf 72 = .ok (.iload_n 1, 1)) ∧ (decode cX12_pairOf 73 = .ok (.imul, 1)) ∧ (decode cX12_pairOf 74 = .ok (.iconst 3, 1)) ∧ (decode cX12_pairOf 75 = .ok (.iadd, 1)) ∧ (decode cX12_pairOf 76 = .ok (.iaload, 1)) ∧ (decode cX12_pairOf 77 = .ok (.bipush 24, 2)) ∧ (decode cX12_pairOf 79 = .ok (.iconst 0, 1)) ∧ (decode cX12_pairOf 80 = .ok (.invokevirtual 202, 3)) := by decide +kernel
theorem dX12_pairOf_60 : decode cX12_pairOf 60 = .ok (.iload_n 1, 1) := dX12_pairOf_60_a.1
theorem dX12_pairOf_61 : decode cX12_pairOf 61 = .ok (.imul, 1) := dX12_pairOf_60_a.2.1
theorem dX12_pairOf_62 : decode cX12_pairOf 62 = .ok (.iaload, 1) := dX12_pairOf_60_a.2.2.1
theorem dX12_pairOf_63 : decode cX12_pairOf 63 = .ok (.iload 6, 2) := dX12_pairOf_60_a.2.2.2.1
theorem dX12_pairOf_65 : decode cX12_pairOf 65 = .ok (.iload 7, 2) := dX12_pairOf_60_a.2.2.2.2.1
theorem dX12_pairOf_67 : decode cX12_pairOf 67 = .ok (.aload_n 0, 1) := dX12_pairOf_60_a.2.2.2.2.2.1
theorem dX12_pairOf_68 : decode cX12_pairOf 68 = .ok (.getfield 37, 3) := dX12_pairOf_60_a.2.2.2.2.2.2.1
theorem dX12_pairOf_71 : decode cX12_pairOf 71 = .ok (.iconst 4, 1) := dX12_pairOf_60_a.2.2.2.2.2.2.2.1
theorem dX12_pairOf_72 : decode cX12_pairOf 72 = .ok (.iload_n 1, 1) := dX12_pairOf_60_a.2.2.2.2.2.2.2.2.1
theorem dX12_pairOf_73 : decode cX12_pairOf 73 = .ok (.imul, 1) := dX12_pairOf_60_a.2.2.2.2.2.2.2.2.2.1
theorem dX12_pairOf_74 : decode cX12_pairOf 74 = .ok (.iconst 3, 1) := dX12_pairOf_60_a.2.2.2.2.2.2.2.2.2.2.1
theorem dX12_pairOf_75 : decode cX12_pairOf 75 = .ok (.iadd, 1) := dX12_pairOf_60_a.2.2.2.2.2.2.2.2.2.2.2.1
theorem dX12_pairOf_76 : decode cX12_pairOf 76 = .ok (.iaload, 1) := dX12_pairOf_60_a.2.2.2.2.2.2.2.2.2.2.2.2.1
theorem dX12_pairOf_77 : decode cX12_pairOf 77 = .ok (.bipush 24, 2) := dX12_pairOf_60_a.2.2.2.2.2.2.2.2.2.2.2.2.2.1
theorem dX12_pairOf_79 : decode cX12_pairOf 79 = .ok (.iconst 0, 1) := dX12_pairOf_60_a.2.2.2.2.2.2.2.2.2.2.2.2.2.2.1
theorem dX12_pairOf_80 : decode cX12_pairOf 80 = .ok (.invokevirtual 202, 3) := dX12_pairOf_60_a.2.2.2.2.2.2.2.2.2.2.2.2.2.2.2
theorem dX12_pairOf_83_a : (decode cX12_pairOf 83 = .ok (.aload_n 0, 1)) ∧ (decode cX12_pairOf 84 = .ok (.getfield 193, 3)) ∧ (decode cX12_pairOf 87 = .ok (.iload 4, 2)) ∧ (decode cX12_pairOf 89 = .ok (.if_icmp .le 8, 3)) ∧ (decode cX12_pairOf 92 = .ok (.iload 5, 2)) ∧ (decode cX12_pairOf 94 = .ok (.goto 4, 3)) ∧ (decode cX12_pairOf 97 = .ok (.iload_n 3, 1)) ∧ (decode cX12_pairOf 98 = .ok (.istore_n 3, 1)) ∧ (decode cX12_pairOf 99 = .ok (.aload_n 0, 1)) ∧ (decode cX12_pairOf 100 = .ok (.getfield 193, 3)) ∧ (decode cX12_pairOf 103 = .ok (.iload 4, 2)) ∧ (decode cX12_pairOf 105 = .ok (.if_icmp .le 10, 3)) ∧ (decode cX12_pairOf 108 = .ok (.aload_n 0, 1)) ∧ (decode cX12_pairOf 109 = .ok (.getfield 193, 3)) ∧ (decode cX12_pairOf 112 = .ok (.goto 5, 3)) ∧ (decode cX12_pairOf 115 = .ok (.iload 4, 2)) := by decide +kernel
theorem dX12_pairOf_83 : decode cX12_pairOf 83 = .ok (.aload_n 0, 1) := dX12_pairOf_83_a.1
theorem dX12_pairOf_84 : decode cX12_pairOf 84 = .ok (.getfield 193, 3) := dX12_pairOf_83_a.2.1
theorem dX12_pairOf_87 : decode cX12_pairOf 87 = .ok (.iload 4, 2) := dX12_pairOf_83_a.2.2.1
theorem dX12_pairOf_89 : decode cX12_pairOf 89 = .ok (.if_icmp .le 8, 3) := dX12_pairOf_83_a.2.2.2.1
theorem dX12_pairOf_92 : decode cX12_pairOf 92 = .ok (.iload 5, 2) := dX12_pairOf_83_a.2.2.2.2.1
theorem dX12_pairOf_94 : decode cX12_pairOf 94 = .ok (.goto 4, 3) := dX12_pairOf_83_a.2.2.2.2.2.1
theorem dX12_pairOf_97 : decode cX12_pairOf 97 = .ok (.iload_n 3, 1) := dX12_pairOf_83_a.2.2.2.2.2.2.1
theorem dX12_pairOf_98 : decode cX12_pairOf 98 = .ok (.istore_n 3, 1) := dX12_pairOf_83_a.2.2.2.2.2.2.2.1
theorem dX12_pairOf_99 : decode cX12_pairOf 99 = .ok (.aload_n 0, 1) := dX12_pairOf_83_a.2.2.2.2.2.2.2.2.1
theorem dX12_pairOf_100 : decode cX12_pairOf 100 = .ok (.getfield 193, 3) := dX12_pairOf_83_a.2.2.2.2.2.2.2.2.2.1
theorem dX12_pairOf_103 : decode cX12_pairOf 103 = .ok (.iload 4, 2) := dX12_pairOf_83_a.2.2.2.2.2.2.2.2.2.2.1
theorem dX12_pairOf_105 : decode cX12_pairOf 105 = .ok (.if_icmp .le 10, 3) := dX12_pairOf_83_a.2.2.2.2.2.2.2.2.2.2.2.1
theorem dX12_pairOf_108 : decode cX12_pairOf 108 = .ok (.aload_n 0, 1) := dX12_pairOf_83_a.2.2.2.2.2.2.2.2.2.2.2.2.1
theorem dX12_pairOf_109 : decode cX12_pairOf 109 = .ok (.getfield 193, 3) := dX12_pairOf_83_a.2.2.2.2.2.2.2.2.2.2.2.2.2.1
theorem dX12_pairOf_112 : decode cX12_pairOf 112 = .ok (.goto 5, 3) := dX12_pairOf_83_a.2.2.2.2.2.2.2.2.2.2.2.2.2.2.1
theorem dX12_pairOf_115 : decode cX12_pairOf 115 = .ok (.iload 4, 2) := dX12_pairOf_83_a.2.2.2.2.2.2.2.2.2.2.2.2.2.2.2
theorem dX12_pairOf_117_a : (decode cX12_pairOf 117 = .ok (.istore 4, 2)) ∧ (decode cX12_pairOf 119 = .ok (.iinc 5 1, 3)) ∧ (decode cX12_pairOf 122 = .ok (.goto (-114), 3)) ∧ (decode cX12_pairOf 125 = .ok (.iload_n 2, 1)) ∧ (decode cX12_pairOf 126 = .ok (.ifCond .ne 7, 3)) ∧ (decode cX12_pairOf 129 = .ok (.iload_n 3, 1)) ∧ (decode cX12_pairOf 130 = .ok (.goto 5, 3)) ∧ (decode cX12_pairOf 133 = .ok (.iload 4, 2)) ∧ (decode cX12_pairOf 135 = .ok (.ireturn, 1)) := by decide +kernel
theorem dX12_pairOf_117 : decode cX12_pairOf 117 = .ok (.istore 4, 2) := dX12_pairOf_117_a.1
theorem dX12_pairOf_119 : decode cX12_pairOf 119 = .ok (.iinc 5 1, 3) := dX12_pairOf_117_a.2.1
theorem dX12_pairOf_122 : decode cX12_pairOf 122 = .ok (.goto (-114), 3) := dX12_pairOf_117_a.2.2.1
theorem dX12_pairOf_125 : decode cX12_pairOf 125 = .ok (.iload_n 2, 1) := dX12_pairOf_117_a.2.2.2.1
theorem dX12_pairOf_126 : decode cX12_pairOf 126 = .ok (.ifCond .ne 7, 3) := dX12_pairOf_117_a.2.2.2.2.1
theorem dX12_pairOf_129 : decode cX12_pairOf 129 = .ok (.iload_n 3, 1) := dX12_pairOf_117_a.2.2.2.2.2.1
theorem dX12_pairOf_130 : decode cX12_pairOf 130 = .ok (.goto 5, 3) := dX12_pairOf_117_a.2.2.2.2.2.2.1
theorem dX12_pairOf_133 : decode cX12_pairOf 133 = .ok (.iload 4, 2) := dX12_pairOf_117_a.2.2.2.2.2.2.2.1
theorem dX12_pairOf_135 : decode cX12_pairOf 135 = .ok (.ireturn, 1) := dX12_pairOf_117_a.2.2.2.2.2.2.2.2
theorem dX12_pair_0_a : (decode cX12_pair 0 = .ok (.aload_n 0, 1)) ∧ (decode cX12_pair 1 = .ok (.invokevirtual 141, 3)) ∧ (decode cX12_pair 4 = .ok (.aload_n 0, 1)) ∧ (decode cX12_pair 5 = .ok (.iload_n 1, 1)) ∧ (decode cX12_pair 6 = .ok (.invokevirtual 212, 3)) ∧ (decode cX12_pair 9 = .ok (.ifCond .eq 19, 3)) ∧ (decode cX12_pair 12 = .ok (.iload_n 2, 1)) ∧ (decode cX12_pair 13 = .ok (.invokestatic 152, 3)) ∧ (decode cX12_pair 16 = .ok (.ifCond .eq 12, 3)) ∧ (decode cX12_pair 19 = .ok (.aload_n 0, 1)) ∧ (decode cX12_pair 20 = .ok (.iload_n 1, 1)) ∧ (decode cX12_pair 21 = .ok (.iload_n 2, 1)) ∧ (decode cX12_pair 22 = .ok (.invokevirtual 235, 3)) ∧ (decode cX12_pair 25 = .ok (.goto 5, 3)) ∧ (decode cX12_pair 28 = .ok (.bipush (-2), 2)) ∧ (decode cX12_pair 30 = .ok (.ireturn, 1)) := by decide +kernel
theorem dX12_pair_0 : decode cX12_pair 0 = .ok (.aload_n 0, 1) := dX12_pair_0_a.1
theorem dX12_pair_1 : decode cX12_pair 1 = .ok (.invokevirtual 141, 3) := dX12_pair_0_a.2.1
theorem dX12_pair_4 : decode cX12_pair 4 = .ok (.aload_n 0, 1) := dX12_pair_0_a.2.2.1
theorem dX12_pair_5 : decode cX12_pair 5 = .ok (.iload_n 1, 1) := dX12_pair_0_a.2.2.2.1
theorem dX12_pair_6 : decode cX12_pair 6 = .ok (.invokevirtual 212, 3) := dX12_pair_0_a.2.2.2.2.1
theorem dX12_pair_9 : decode cX12_pair 9 = .ok (.ifCond .eq 19, 3) := dX12_pair_0_a.2.2.2.2.2.1
theorem dX12_pair_12 : decode cX12_pair 12 = .ok (.iload_n 2, 1) := dX12_pair_0_a.2.2.2.2.2.2.1
theorem dX12_pair_13 : decode cX12_pair 13 = .ok (.invokestatic 152, 3) := dX12_pair_0_a.2.2.2.2.2.2.2.1
theorem dX12_pair_16 : decode cX12_pair 16 = .ok (.ifCond .eq 12, 3) := dX12_pair_0_a.2.2.2.2.2.2.2.2.1
theorem dX12_pair_19 : decode cX12_pair 19 = .ok (.aload_n 0, 1) := dX12_pair_0_a.2.2.2.2.2.2.2.2.2.1
theorem dX12_pair_20 : decode cX12_pair 20 = .ok (.iload_n 1, 1) := dX12_pair_0_a.2.2.2.2.2.2.2.2.2.2.1
theorem dX12_pair_21 : decode cX12_pair 21 = .ok (.iload_n 2, 1) := dX12_pair_0_a.2.2.2.2.2.2.2.2.2.2.2.1
theorem dX12_pair_22 : decode cX12_pair 22 = .ok (.invokevirtual 235, 3) := dX12_pair_0_a.2.2.2.2.2.2.2.2.2.2.2.2.1
theorem dX12_pair_25 : decode cX12_pair 25 = .ok (.goto 5, 3) := dX12_pair_0_a.2.2.2.2.2.2.2.2.2.2.2.2.2.1
theorem dX12_pair_28 : decode cX12_pair 28 = .ok (.bipush (-2), 2) := dX12_pair_0_a.2.2.2.2.2.2.2.2.2.2.2.2.2.2.1
theorem dX12_pair_30 : decode cX12_pair 30 = .ok (.ireturn, 1) := dX12_pair_0_a.2.2.2.2.2.2.2.2.2.2.2.2.2.2.2
theorem dX12_seen_0_a : (decode cX12_seen 0 = .ok (.iload_n 1, 1)) ∧ (decode cX12_seen 1 = .ok (.i2l, 1)) ∧ (decode cX12_seen 2 = .ok (.lconst 0, 1)) ∧ (decode cX12_seen 3 = .ok (.ldc2_w 155, 3)) ∧ (decode cX12_seen 6 = .ok (.invokestatic 65, 3)) ∧ (decode cX12_seen 9 = .ok (.ifCond .eq 15, 3)) ∧ (decode cX12_seen 12 = .ok (.iload_n 2, 1)) ∧ (decode cX12_seen 13 = .ok (.i2l, 1)) ∧ (decode cX12_seen 14 = .ok (.lconst 0, 1)) ∧ (decode cX12_seen 15 = .ok (.ldc2_w 238, 3)) ∧ (decode cX12_seen 18 = .ok (.invokestatic 65, 3)) ∧ (decode cX12_seen 21 = .ok (.ifCond .ne 6, 3)) ∧ (decode cX12_seen 24 = .ok (.bipush (-2), 2)) ∧ (decode cX12_seen 26 = .ok (.ireturn, 1)) ∧ (decode cX12_seen 27 = .ok (.aload_n 0, 1)) ∧ (decode cX12_seen 28 = .ok (.getfield 240, 3)) := by decide +kernel
theorem dX12_seen_0 : decode cX12_seen 0 = .ok (.iload_n 1, 1) := dX12_seen_0_a.1
theorem dX12_seen_1 : decode cX12_seen 1 = .ok (.i2l, 1) := dX12_seen_0_a.2.1
theorem dX12_seen_2 : decode cX12_seen 2 = .ok (.lconst 0, 1) := dX12_seen_0_a.2.2.1
theorem dX12_seen_3 : decode cX12_seen 3 = .ok (.ldc2_w 155, 3) := dX12_seen_0_a.2.2.2.1
theorem dX12_seen_6 : decode cX12_seen 6 = .ok (.invokestatic 65, 3) := dX12_seen_0_a.2.2.2.2.1
theorem dX12_seen_9 : decode cX12_seen 9 = .ok (.ifCond .eq 15, 3) := dX12_seen_0_a.2.2.2.2.2.1
theorem dX12_seen_12 : decode cX12_seen 12 = .ok (.iload_n 2, 1) := dX12_seen_0_a.2.2.2.2.2.2.1
theorem dX12_seen_13 : decode cX12_seen 13 = .ok (.i2l, 1) := dX12_seen_0_a.2.2.2.2.2.2.2.1
theorem dX12_seen_14 : decode cX12_seen 14 = .ok (.lconst 0, 1) := dX12_seen_0_a.2.2.2.2.2.2.2.2.1
theorem dX12_seen_15 : decode cX12_seen 15 = .ok (.ldc2_w 238, 3) := dX12_seen_0_a.2.2.2.2.2.2.2.2.2.1
theorem dX12_seen_18 : decode cX12_seen 18 = .ok (.invokestatic 65, 3) := dX12_seen_0_a.2.2.2.2.2.2.2.2.2.2.1
theorem dX12_seen_21 : decode cX12_seen 21 = .ok (.ifCond .ne 6, 3) := dX12_seen_0_a.2.2.2.2.2.2.2.2.2.2.2.1
theorem dX12_seen_24 : decode cX12_seen 24 = .ok (.bipush (-2), 2) := dX12_seen_0_a.2.2.2.2.2.2.2.2.2.2.2.2.1
theorem dX12_seen_26 : decode cX12_seen 26 = .ok (.ireturn, 1) := dX12_seen_0_a.2.2.2.2.2.2.2.2.2.2.2.2.2.1
theorem dX12_seen_27 : decode cX12_seen 27 = .ok (.aload_n 0, 1) := dX12_seen_0_a.2.2.2.2.2.2.2.2.2.2.2.2.2.2.1
theorem dX12_seen_28 : decode cX12_seen 28 = .ok (.getfield 240, 3) := dX12_seen_0_a.2.2.2.2.2.2.2.2.2.2.2.2.2.2.2
theorem dX12_seen_31_a : (decode cX12_seen 31 = .ok (.bipush 8, 2)) ∧ (decode cX12_seen 33 = .ok (.if_icmp .ne 6, 3)) ∧ (decode cX12_seen 36 = .ok (.bipush (-4), 2)) ∧ (decode cX12_seen 38 = .ok (.ireturn, 1)) ∧ (decode cX12_seen 39 = .ok (.aload_n 0, 1)) ∧ (decode cX12_seen 40 = .ok (.getfield 52, 3)) ∧ (decode cX12_seen 43 = .ok (.iconst 2, 1)) ∧ (decode cX12_seen 44 = .ok (.aload_n 0, 1)) ∧ (decode cX12_seen 45 = .ok (.getfield 240, 3)) ∧ (decode cX12_seen 48 = .ok (.imul, 1)) ∧ (decode cX12_seen 49 = .ok (.iload_n 1, 1)) ∧ (decode cX12_seen 50 = .ok (.iastore, 1)) ∧ (decode cX12_seen 51 = .ok (.aload_n 0, 1)) ∧ (decode cX12_seen 52 = .ok (.getfield 52, 3)) ∧ (decode cX12_seen 55 = .ok (.iconst 2, 1)) ∧ (decode cX12_seen 56 = .ok (.aload_n 0, 1)) := by decide +kernel
theorem dX12_seen_31 : decode cX12_seen 31 = .ok (.bipush 8, 2) := dX12_seen_31_a.1
theorem dX12_seen_33 : decode cX12_seen 33 = .ok (.if_icmp .ne 6, 3) := dX12_seen_31_a.2.1
theorem dX12_seen_36 : decode cX12_seen 36 = .ok (.bipush (-4), 2) := dX12_seen_31_a.2.2.1
theorem dX12_seen_38 : decode cX12_seen 38 = .ok (.ireturn, 1) := dX12_seen_31_a.2.2.2.1
theorem dX12_seen_39 : decode cX12_seen 39 = .ok (.aload_n 0, 1) := dX12_seen_31_a.2.2.2.2.1
theorem dX12_seen_40 : decode cX12_seen 40 = .ok (.getfield 52, 3) := dX12_seen_31_a.2.2.2.2.2.1
theorem dX12_seen_43 : decode cX12_seen 43 = .ok (.iconst 2, 1) := dX12_seen_31_a.2.2.2.2.2.2.1
theorem dX12_seen_44 : decode cX12_seen 44 = .ok (.aload_n 0, 1) := dX12_seen_31_a.2.2.2.2.2.2.2.1
theorem dX12_seen_45 : decode cX12_seen 45 = .ok (.getfield 240, 3) := dX12_seen_31_a.2.2.2.2.2.2.2.2.1
theorem dX12_seen_48 : decode cX12_seen 48 = .ok (.imul, 1) := dX12_seen_31_a.2.2.2.2.2.2.2.2.2.1
theorem dX12_seen_49 : decode cX12_seen 49 = .ok (.iload_n 1, 1) := dX12_seen_31_a.2.2.2.2.2.2.2.2.2.2.1
theorem dX12_seen_50 : decode cX12_seen 50 = .ok (.iastore, 1) := dX12_seen_31_a.2.2.2.2.2.2.2.2.2.2.2.1
theorem dX12_seen_51 : decode cX12_seen 51 = .ok (.aload_n 0, 1) := dX12_seen_31_a.2.2.2.2.2.2.2.2.2.2.2.2.1
theorem dX12_seen_52 : decode cX12_seen 52 = .ok (.getfield 52, 3) := dX12_seen_31_a.2.2.2.2.2.2.2.2.2.2.2.2.2.1
theorem dX12_seen_55 : decode cX12_seen 55 = .ok (.iconst 2, 1) := dX12_seen_31_a.2.2.2.2.2.2.2.2.2.2.2.2.2.2.1
theorem dX12_seen_56 : decode cX12_seen 56 = .ok (.aload_n 0, 1) := dX12_seen_31_a.2.2.2.2.2.2.2.2.2.2.2.2.2.2.2
theorem dX12_seen_57_a : (decode cX12_seen 57 = .ok (.getfield 240, 3)) ∧ (decode cX12_seen 60 = .ok (.imul, 1)) ∧ (decode cX12_seen 61 = .ok (.iconst 1, 1)) ∧ (decode cX12_seen 62 = .ok (.iadd, 1)) ∧ (decode cX12_seen 63 = .ok (.iload_n 2, 1)) ∧ (decode cX12_seen 64 = .ok (.iastore, 1)) ∧ (decode cX12_seen 65 = .ok (.aload_n 0, 1)) ∧ (decode cX12_seen 66 = .ok (.dup, 1)) ∧ (decode cX12_seen 67 = .ok (.getfield 240, 3)) ∧ (decode cX12_seen 70 = .ok (.iconst 1, 1)) ∧ (decode cX12_seen 71 = .ok (.iadd, 1)) ∧ (decode cX12_seen 72 = .ok (.putfield 240, 3)) ∧ (decode cX12_seen 75 = .ok (.aload_n 0, 1)) ∧ (decode cX12_seen 76 = .ok (.getfield 240, 3)) ∧ (decode cX12_seen 79 = .ok (.ireturn, 1)) := by decide +kernel
theorem dX12_seen_57 : decode cX12_seen 57 = .ok (.getfield 240, 3) := dX12_seen_57_a.1
theorem dX12_seen_60 : decode cX12_seen 60 = .ok (.imul, 1) := dX12_seen_57_a.2.1
theorem dX12_seen_61 : decode cX12_seen 61 = .ok (.iconst 1, 1) := dX12_seen_57_a.2.2.1
theorem dX12_seen_62 : decode cX12_seen 62 = .ok (.iadd, 1) := dX12_seen_57_a.2.2.2.1
theorem dX12_seen_63 : decode cX12_seen 63 = .ok (.iload_n 2, 1) := dX12_seen_57_a.2.2.2.2.1
theorem dX12_seen_64 : decode cX12_seen 64 = .ok (.iastore, 1) := dX12_seen_57_a.2.2.2.2.2.1
theorem dX12_seen_65 : decode cX12_seen 65 = .ok (.aload_n 0, 1) := dX12_seen_57_a.2.2.2.2.2.2.1
theorem dX12_seen_66 : decode cX12_seen 66 = .ok (.dup, 1) := dX12_seen_57_a.2.2.2.2.2.2.2.1
theorem dX12_seen_67 : decode cX12_seen 67 = .ok (.getfield 240, 3) := dX12_seen_57_a.2.2.2.2.2.2.2.2.1
theorem dX12_seen_70 : decode cX12_seen 70 = .ok (.iconst 1, 1) := dX12_seen_57_a.2.2.2.2.2.2.2.2.2.1
theorem dX12_seen_71 : decode cX12_seen 71 = .ok (.iadd, 1) := dX12_seen_57_a.2.2.2.2.2.2.2.2.2.2.1
theorem dX12_seen_72 : decode cX12_seen 72 = .ok (.putfield 240, 3) := dX12_seen_57_a.2.2.2.2.2.2.2.2.2.2.2.1
theorem dX12_seen_75 : decode cX12_seen 75 = .ok (.aload_n 0, 1) := dX12_seen_57_a.2.2.2.2.2.2.2.2.2.2.2.2.1
theorem dX12_seen_76 : decode cX12_seen 76 = .ok (.getfield 240, 3) := dX12_seen_57_a.2.2.2.2.2.2.2.2.2.2.2.2.2.1
theorem dX12_seen_79 : decode cX12_seen 79 = .ok (.ireturn, 1) := dX12_seen_57_a.2.2.2.2.2.2.2.2.2.2.2.2.2.2
theorem dX12_forget_0_a : (decode cX12_forget 0 = .ok (.aload_n 0, 1)) ∧ (decode cX12_forget 1 = .ok (.getfield 240, 3)) ∧ (decode cX12_forget 4 = .ok (.istore_n 1, 1)) ∧ (decode cX12_forget 5 = .ok (.aload_n 0, 1)) ∧ (decode cX12_forget 6 = .ok (.iconst 0, 1)) ∧ (decode cX12_forget 7 = .ok (.putfield 240, 3)) ∧ (decode cX12_forget 10 = .ok (.iload_n 1, 1)) ∧ (decode cX12_forget 11 = .ok (.ireturn, 1)) := by decide +kernel
theorem dX12_forget_0 : decode cX12_forget 0 = .ok (.aload_n 0, 1) := dX12_forget_0_a.1
theorem dX12_forget_1 : decode cX12_forget 1 = .ok (.getfield 240, 3) := dX12_forget_0_a.2.1
theorem dX12_forget_4 : decode cX12_forget 4 = .ok (.istore_n 1, 1) := dX12_forget_0_a.2.2.1
theorem dX12_forget_5 : decode cX12_forget 5 = .ok (.aload_n 0, 1) := dX12_forget_0_a.2.2.2.1
theorem dX12_forget_6 : decode cX12_forget 6 = .ok (.iconst 0, 1) := dX12_forget_0_a.2.2.2.2.1
theorem dX12_forget_7 : decode cX12_forget 7 = .ok (.putfield 240, 3) := dX12_forget_0_a.2.2.2.2.2.1
theorem dX12_forget_10 : decode cX12_forget 10 = .ok (.iload_n 1, 1) := dX12_forget_0_a.2.2.2.2.2.2.1
theorem dX12_forget_11 : decode cX12_forget 11 = .ok (.ireturn, 1) := dX12_forget_0_a.2.2.2.2.2.2.2
theorem dX12_isSeen_0_a : (decode cX12_isSeen 0 = .ok (.iconst 1, 1)) ∧ (decode cX12_isSeen 1 = .ok (.istore_n 1, 1)) ∧ (decode cX12_isSeen 2 = .ok (.iconst 0, 1)) ∧ (decode cX12_isSeen 3 = .ok (.istore_n 2, 1)) ∧ (decode cX12_isSeen 4 = .ok (.iload_n 2, 1)) ∧ (decode cX12_isSeen 5 = .ok (.aload_n 0, 1)) ∧ (decode cX12_isSeen 6 = .ok (.getfield 240, 3)) ∧ (decode cX12_isSeen 9 = .ok (.if_icmp .ge 60, 3)) ∧ (decode cX12_isSeen 12 = .ok (.iload_n 1, 1)) ∧ (decode cX12_isSeen 13 = .ok (.ifCond .eq 56, 3)) ∧ (decode cX12_isSeen 16 = .ok (.aload_n 0, 1)) ∧ (decode cX12_isSeen 17 = .ok (.aload_n 0, 1)) ∧ (decode cX12_isSeen 18 = .ok (.getfield 52, 3)) ∧ (decode cX12_isSeen 21 = .ok (.iconst 2, 1)) ∧ (decode cX12_isSeen 22 = .ok (.iload_n 2, 1)) ∧ (decode cX12_isSeen 23 = .ok (.imul, 1)) := by decide +kernel
theorem dX12_isSeen_0 : decode cX12_isSeen 0 = .ok (.iconst 1, 1) := dX12_isSeen_0_a.1
theorem dX12_isSeen_1 : decode cX12_isSeen 1 = .ok (.istore_n 1, 1) := dX12_isSeen_0_a.2.1
theorem dX12_isSeen_2 : decode cX12_isSeen 2 = .ok (.iconst 0, 1) := dX12_isSeen_0_a.2.2.1
theorem dX12_isSeen_3 : decode cX12_isSeen 3 = .ok (.istore_n 2, 1) := dX12_isSeen_0_a.2.2.2.1
theorem dX12_isSeen_4 : decode cX12_isSeen 4 = .ok (.iload_n 2, 1) := dX12_isSeen_0_a.2.2.2.2.1
theorem dX12_isSeen_5 : decode cX12_isSeen 5 = .ok (.aload_n 0, 1) := dX12_isSeen_0_a.2.2.2.2.2.1
theorem dX12_isSeen_6 : decode cX12_isSeen 6 = .ok (.getfield 240, 3) := dX12_isSeen_0_a.2.2.2.2.2.2.1
theorem dX12_isSeen_9 : decode cX12_isSeen 9 = .ok (.if_icmp .ge 60, 3) := dX12_isSeen_0_a.2.2.2.2.2.2.2.1
theorem dX12_isSeen_12 : decode cX12_isSeen 12 = .ok (.iload_n 1, 1) := dX12_isSeen_0_a.2.2.2.2.2.2.2.2.1
theorem dX12_isSeen_13 : decode cX12_isSeen 13 = .ok (.ifCond .eq 56, 3) := dX12_isSeen_0_a.2.2.2.2.2.2.2.2.2.1
theorem dX12_isSeen_16 : decode cX12_isSeen 16 = .ok (.aload_n 0, 1) := dX12_isSeen_0_a.2.2.2.2.2.2.2.2.2.2.1
theorem dX12_isSeen_17 : decode cX12_isSeen 17 = .ok (.aload_n 0, 1) := dX12_isSeen_0_a.2.2.2.2.2.2.2.2.2.2.2.1
theorem dX12_isSeen_18 : decode cX12_isSeen 18 = .ok (.getfield 52, 3) := dX12_isSeen_0_a.2.2.2.2.2.2.2.2.2.2.2.2.1
theorem dX12_isSeen_21 : decode cX12_isSeen 21 = .ok (.iconst 2, 1) := dX12_isSeen_0_a.2.2.2.2.2.2.2.2.2.2.2.2.2.1
theorem dX12_isSeen_22 : decode cX12_isSeen 22 = .ok (.iload_n 2, 1) := dX12_isSeen_0_a.2.2.2.2.2.2.2.2.2.2.2.2.2.2.1
theorem dX12_isSeen_23 : decode cX12_isSeen 23 = .ok (.imul, 1) := dX12_isSeen_0_a.2.2.2.2.2.2.2.2.2.2.2.2.2.2.2
theorem dX12_isSeen_24_a : (decode cX12_isSeen 24 = .ok (.iaload, 1)) ∧ (decode cX12_isSeen 25 = .ok (.invokevirtual 212, 3)) ∧ (decode cX12_isSeen 28 = .ok (.ifCond .eq 33, 3)) ∧ (decode cX12_isSeen 31 = .ok (.aload_n 0, 1)) ∧ (decode cX12_isSeen 32 = .ok (.aload_n 0, 1)) ∧ (decode cX12_isSeen 33 = .ok (.getfield 52, 3)) ∧ (decode cX12_isSeen 36 = .ok (.iconst 2, 1)) ∧ (decode cX12_isSeen 37 = .ok (.iload_n 2, 1)) ∧ (decode cX12_isSeen 38 = .ok (.imul, 1)) ∧ (decode cX12_isSeen 39 = .ok (.iaload, 1)) ∧ (decode cX12_isSeen 40 = .ok (.iconst 0, 1)) ∧ (decode cX12_isSeen 41 = .ok (.invokevirtual 215, 3)) ∧ (decode cX12_isSeen 44 = .ok (.aload_n 0, 1)) ∧ (decode cX12_isSeen 45 = .ok (.getfield 52, 3)) ∧ (decode cX12_isSeen 48 = .ok (.iconst 2, 1)) ∧ (decode cX12_isSeen 49 = .ok (.iload_n 2, 1)) := by decide +kernel
theorem dX12_isSeen_24 : decode cX12_isSeen 24 = .ok (.iaload, 1) := dX12_isSeen_24_a.1
theorem dX12_isSeen_25 : decode cX12_isSeen 25 = .ok (.invokevirtual 212, 3) := dX12_isSeen_24_a.2.1
theorem dX12_isSeen_28 : decode cX12_isSeen 28 = .ok (.ifCond .eq 33, 3) := dX12_isSeen_24_a.2.2.1
theorem dX12_isSeen_31 : decode cX12_isSeen 31 = .ok (.aload_n 0, 1) := dX12_isSeen_24_a.2.2.2.1
theorem dX12_isSeen_32 : decode cX12_isSeen 32 = .ok (.aload_n 0, 1) := dX12_isSeen_24_a.2.2.2.2.1
theorem dX12_isSeen_33 : decode cX12_isSeen 33 = .ok (.getfield 52, 3) := dX12_isSeen_24_a.2.2.2.2.2.1
theorem dX12_isSeen_36 : decode cX12_isSeen 36 = .ok (.iconst 2, 1) := dX12_isSeen_24_a.2.2.2.2.2.2.1
theorem dX12_isSeen_37 : decode cX12_isSeen 37 = .ok (.iload_n 2, 1) := dX12_isSeen_24_a.2.2.2.2.2.2.2.1
theorem dX12_isSeen_38 : decode cX12_isSeen 38 = .ok (.imul, 1) := dX12_isSeen_24_a.2.2.2.2.2.2.2.2.1
theorem dX12_isSeen_39 : decode cX12_isSeen 39 = .ok (.iaload, 1) := dX12_isSeen_24_a.2.2.2.2.2.2.2.2.2.1
theorem dX12_isSeen_40 : decode cX12_isSeen 40 = .ok (.iconst 0, 1) := dX12_isSeen_24_a.2.2.2.2.2.2.2.2.2.2.1
theorem dX12_isSeen_41 : decode cX12_isSeen 41 = .ok (.invokevirtual 215, 3) := dX12_isSeen_24_a.2.2.2.2.2.2.2.2.2.2.2.1
theorem dX12_isSeen_44 : decode cX12_isSeen 44 = .ok (.aload_n 0, 1) := dX12_isSeen_24_a.2.2.2.2.2.2.2.2.2.2.2.2.1
theorem dX12_isSeen_45 : decode cX12_isSeen 45 = .ok (.getfield 52, 3) := dX12_isSeen_24_a.2.2.2.2.2.2.2.2.2.2.2.2.2.1
theorem dX12_isSeen_48 : decode cX12_isSeen 48 = .ok (.iconst 2, 1) := dX12_isSeen_24_a.2.2.2.2.2.2.2.2.2.2.2.2.2.2.1
theorem dX12_isSeen_49 : decode cX12_isSeen 49 = .ok (.iload_n 2, 1) := dX12_isSeen_24_a.2.2.2.2.2.2.2.2.2.2.2.2.2.2.2
theorem dX12_isSeen_50_a : (decode cX12_isSeen 50 = .ok (.imul, 1)) ∧ (decode cX12_isSeen 51 = .ok (.iconst 1, 1)) ∧ (decode cX12_isSeen 52 = .ok (.iadd, 1)) ∧ (decode cX12_isSeen 53 = .ok (.iaload, 1)) ∧ (decode cX12_isSeen 54 = .ok (.if_icmp .ne 7, 3)) ∧ (decode cX12_isSeen 57 = .ok (.iconst 1, 1)) ∧ (decode cX12_isSeen 58 = .ok (.goto 4, 3)) ∧ (decode cX12_isSeen 61 = .ok (.iconst 0, 1)) ∧ (decode cX12_isSeen 62 = .ok (.istore_n 1, 1)) ∧ (decode cX12_isSeen 63 = .ok (.iinc 2 1, 3)) ∧ (decode cX12_isSeen 66 = .ok (.goto (-62), 3)) ∧ (decode cX12_isSeen 69 = .ok (.iload_n 1, 1)) ∧ (decode cX12_isSeen 70 = .ok (.ireturn, 1)) := by decide +kernel
theorem dX12_isSeen_50 : decode cX12_isSeen 50 = .ok (.imul, 1) := dX12_isSeen_50_a.1
theorem dX12_isSeen_51 : decode cX12_isSeen 51 = .ok (.iconst 1, 1) := dX12_isSeen_50_a.2.1
theorem dX12_isSeen_52 : decode cX12_isSeen 52 = .ok (.iadd, 1) := dX12_isSeen_50_a.2.2.1
theorem dX12_isSeen_53 : decode cX12_isSeen 53 = .ok (.iaload, 1) := dX12_isSeen_50_a.2.2.2.1
theorem dX12_isSeen_54 : decode cX12_isSeen 54 = .ok (.if_icmp .ne 7, 3) := dX12_isSeen_50_a.2.2.2.2.1
theorem dX12_isSeen_57 : decode cX12_isSeen 57 = .ok (.iconst 1, 1) := dX12_isSeen_50_a.2.2.2.2.2.1
theorem dX12_isSeen_58 : decode cX12_isSeen 58 = .ok (.goto 4, 3) := dX12_isSeen_50_a.2.2.2.2.2.2.1
theorem dX12_isSeen_61 : decode cX12_isSeen 61 = .ok (.iconst 0, 1) := dX12_isSeen_50_a.2.2.2.2.2.2.2.1
theorem dX12_isSeen_62 : decode cX12_isSeen 62 = .ok (.istore_n 1, 1) := dX12_isSeen_50_a.2.2.2.2.2.2.2.2.1
theorem dX12_isSeen_63 : decode cX12_isSeen 63 = .ok (.iinc 2 1, 3) := dX12_isSeen_50_a.2.2.2.2.2.2.2.2.2.1
theorem dX12_isSeen_66 : decode cX12_isSeen 66 = .ok (.goto (-62), 3) := dX12_isSeen_50_a.2.2.2.2.2.2.2.2.2.2.1
theorem dX12_isSeen_69 : decode cX12_isSeen 69 = .ok (.iload_n 1, 1) := dX12_isSeen_50_a.2.2.2.2.2.2.2.2.2.2.2.1
theorem dX12_isSeen_70 : decode cX12_isSeen 70 = .ok (.ireturn, 1) := dX12_isSeen_50_a.2.2.2.2.2.2.2.2.2.2.2.2
theorem dX12_soresOf_0_a : (decode cX12_soresOf 0 = .ok (.aload_n 0, 1)) ∧ (decode cX12_soresOf 1 = .ok (.getfield 31, 3)) ∧ (decode cX12_soresOf 4 = .ok (.iconst 4, 1)) ∧ (decode cX12_soresOf 5 = .ok (.iload_n 1, 1)) ∧ (decode cX12_soresOf 6 = .ok (.imul, 1)) ∧ (decode cX12_soresOf 7 = .ok (.iconst 1, 1)) ∧ (decode cX12_soresOf 8 = .ok (.iadd, 1)) ∧ (decode cX12_soresOf 9 = .ok (.iaload, 1)) ∧ (decode cX12_soresOf 10 = .ok (.istore_n 2, 1)) ∧ (decode cX12_soresOf 11 = .ok (.iconst 0, 1)) ∧ (decode cX12_soresOf 12 = .ok (.istore_n 3, 1)) ∧ (decode cX12_soresOf 13 = .ok (.iconst 0, 1)) ∧ (decode cX12_soresOf 14 = .ok (.istore 4, 2)) ∧ (decode cX12_soresOf 16 = .ok (.iload 4, 2)) ∧ (decode cX12_soresOf 18 = .ok (.bipush 6, 2)) ∧ (decode cX12_soresOf 20 = .ok (.if_icmp .ge 39, 3)) := by decide +kernel
theorem dX12_soresOf_0 : decode cX12_soresOf 0 = .ok (.aload_n 0, 1) := dX12_soresOf_0_a.1
theorem dX12_soresOf_1 : decode cX12_soresOf 1 = .ok (.getfield 31, 3) := dX12_soresOf_0_a.2.1
theorem dX12_soresOf_4 : decode cX12_soresOf 4 = .ok (.iconst 4, 1) := dX12_soresOf_0_a.2.2.1
theorem dX12_soresOf_5 : decode cX12_soresOf 5 = .ok (.iload_n 1, 1) := dX12_soresOf_0_a.2.2.2.1
theorem dX12_soresOf_6 : decode cX12_soresOf 6 = .ok (.imul, 1) := dX12_soresOf_0_a.2.2.2.2.1
theorem dX12_soresOf_7 : decode cX12_soresOf 7 = .ok (.iconst 1, 1) := dX12_soresOf_0_a.2.2.2.2.2.1
theorem dX12_soresOf_8 : decode cX12_soresOf 8 = .ok (.iadd, 1) := dX12_soresOf_0_a.2.2.2.2.2.2.1
theorem dX12_soresOf_9 : decode cX12_soresOf 9 = .ok (.iaload, 1) := dX12_soresOf_0_a.2.2.2.2.2.2.2.1
theorem dX12_soresOf_10 : decode cX12_soresOf 10 = .ok (.istore_n 2, 1) := dX12_soresOf_0_a.2.2.2.2.2.2.2.2.1
theorem dX12_soresOf_11 : decode cX12_soresOf 11 = .ok (.iconst 0, 1) := dX12_soresOf_0_a.2.2.2.2.2.2.2.2.2.1
theorem dX12_soresOf_12 : decode cX12_soresOf 12 = .ok (.istore_n 3, 1) := dX12_soresOf_0_a.2.2.2.2.2.2.2.2.2.2.1
theorem dX12_soresOf_13 : decode cX12_soresOf 13 = .ok (.iconst 0, 1) := dX12_soresOf_0_a.2.2.2.2.2.2.2.2.2.2.2.1
theorem dX12_soresOf_14 : decode cX12_soresOf 14 = .ok (.istore 4, 2) := dX12_soresOf_0_a.2.2.2.2.2.2.2.2.2.2.2.2.1
theorem dX12_soresOf_16 : decode cX12_soresOf 16 = .ok (.iload 4, 2) := dX12_soresOf_0_a.2.2.2.2.2.2.2.2.2.2.2.2.2.1
theorem dX12_soresOf_18 : decode cX12_soresOf 18 = .ok (.bipush 6, 2) := dX12_soresOf_0_a.2.2.2.2.2.2.2.2.2.2.2.2.2.2.1
theorem dX12_soresOf_20 : decode cX12_soresOf 20 = .ok (.if_icmp .ge 39, 3) := dX12_soresOf_0_a.2.2.2.2.2.2.2.2.2.2.2.2.2.2.2
theorem dX12_soresOf_23_a : (decode cX12_soresOf 23 = .ok (.aload_n 0, 1)) ∧ (decode cX12_soresOf 24 = .ok (.getfield 31, 3)) ∧ (decode cX12_soresOf 27 = .ok (.iconst 4, 1)) ∧ (decode cX12_soresOf 28 = .ok (.iload_n 1, 1)) ∧ (decode cX12_soresOf 29 = .ok (.imul, 1)) ∧ (decode cX12_soresOf 30 = .ok (.iconst 1, 1)) ∧ (decode cX12_soresOf 31 = .ok (.iadd, 1)) ∧ (decode cX12_soresOf 32 = .ok (.iload 4, 2)) ∧ (decode cX12_soresOf 34 = .ok (.iastore, 1)) ∧ (decode cX12_soresOf 35 = .ok (.iload_n 3, 1)) ∧ (decode cX12_soresOf 36 = .ok (.aload_n 0, 1)) ∧ (decode cX12_soresOf 37 = .ok (.invokevirtual 243, 3)) ∧ (decode cX12_soresOf 40 = .ok (.ifCond .eq 10, 3)) ∧ (decode cX12_soresOf 43 = .ok (.iconst 1, 1)) ∧ (decode cX12_soresOf 44 = .ok (.iload 4, 2)) ∧ (decode cX12_soresOf 46 = .ok (.ishl, 1)) := by decide +kernel
theorem dX12_soresOf_23 : decode cX12_soresOf 23 = .ok (.aload_n 0, 1) := dX12_soresOf_23_a.1
theorem dX12_soresOf_24 : decode cX12_soresOf 24 = .ok (.getfield 31, 3) := dX12_soresOf_23_a.2.1
theorem dX12_soresOf_27 : decode cX12_soresOf 27 = .ok (.iconst 4, 1) := dX12_soresOf_23_a.2.2.1
theorem dX12_soresOf_28 : decode cX12_soresOf 28 = .ok (.iload_n 1, 1) := dX12_soresOf_23_a.2.2.2.1
theorem dX12_soresOf_29 : decode cX12_soresOf 29 = .ok (.imul, 1) := dX12_soresOf_23_a.2.2.2.2.1
theorem dX12_soresOf_30 : decode cX12_soresOf 30 = .ok (.iconst 1, 1) := dX12_soresOf_23_a.2.2.2.2.2.1
theorem dX12_soresOf_31 : decode cX12_soresOf 31 = .ok (.iadd, 1) := dX12_soresOf_23_a.2.2.2.2.2.2.1
theorem dX12_soresOf_32 : decode cX12_soresOf 32 = .ok (.iload 4, 2) := dX12_soresOf_23_a.2.2.2.2.2.2.2.1
theorem dX12_soresOf_34 : decode cX12_soresOf 34 = .ok (.iastore, 1) := dX12_soresOf_23_a.2.2.2.2.2.2.2.2.1
theorem dX12_soresOf_35 : decode cX12_soresOf 35 = .ok (.iload_n 3, 1) := dX12_soresOf_23_a.2.2.2.2.2.2.2.2.2.1
theorem dX12_soresOf_36 : decode cX12_soresOf 36 = .ok (.aload_n 0, 1) := dX12_soresOf_23_a.2.2.2.2.2.2.2.2.2.2.1
theorem dX12_soresOf_37 : decode cX12_soresOf 37 = .ok (.invokevirtual 243, 3) := dX12_soresOf_23_a.2.2.2.2.2.2.2.2.2.2.2.1
theorem dX12_soresOf_40 : decode cX12_soresOf 40 = .ok (.ifCond .eq 10, 3) := dX12_soresOf_23_a.2.2.2.2.2.2.2.2.2.2.2.2.1
theorem dX12_soresOf_43 : decode cX12_soresOf 43 = .ok (.iconst 1, 1) := dX12_soresOf_23_a.2.2.2.2.2.2.2.2.2.2.2.2.2.1
theorem dX12_soresOf_44 : decode cX12_soresOf 44 = .ok (.iload 4, 2) := dX12_soresOf_23_a.2.2.2.2.2.2.2.2.2.2.2.2.2.2.1
theorem dX12_soresOf_46 : decode cX12_soresOf 46 = .ok (.ishl, 1) := dX12_soresOf_23_a.2.2.2.2.2.2.2.2.2.2.2.2.2.2.2
theorem dX12_soresOf_47_a : (decode cX12_soresOf 47 = .ok (.goto 4, 3)) ∧ (decode cX12_soresOf 50 = .ok (.iconst 0, 1)) ∧ (decode cX12_soresOf 51 = .ok (.ior, 1)) ∧ (decode cX12_soresOf 52 = .ok (.istore_n 3, 1)) ∧ (decode cX12_soresOf 53 = .ok (.iinc 4 1, 3)) ∧ (decode cX12_soresOf 56 = .ok (.goto (-40), 3)) ∧ (decode cX12_soresOf 59 = .ok (.aload_n 0, 1)) ∧ (decode cX12_soresOf 60 = .ok (.getfield 31, 3)) ∧ (decode cX12_soresOf 63 = .ok (.iconst 4, 1)) ∧ (decode cX12_soresOf 64 = .ok (.iload_n 1, 1)) ∧ (decode cX12_soresOf 65 = .ok (.imul, 1)) ∧ (decode cX12_soresOf 66 = .ok (.iconst 1, 1)) ∧ (decode cX12_soresOf 67 = .ok (.iadd, 1)) ∧ (decode cX12_soresOf 68 = .ok (.iload_n 2, 1)) ∧ (decode cX12_soresOf 69 = .ok (.iastore, 1)) ∧ (decode cX12_soresOf 70 = .ok (.iload_n 3, 1)) := by decide +kernel
theorem dX12_soresOf_47 : decode cX12_soresOf 47 = .ok (.goto 4, 3) := dX12_soresOf_47_a.1
theorem dX12_soresOf_50 : decode cX12_soresOf 50 = .ok (.iconst 0, 1) := dX12_soresOf_47_a.2.1
theorem dX12_soresOf_51 : decode cX12_soresOf 51 = .ok (.ior, 1) := dX12_soresOf_47_a.2.2.1
theorem dX12_soresOf_52 : decode cX12_soresOf 52 = .ok (.istore_n 3, 1) := dX12_soresOf_47_a.2.2.2.1
theorem dX12_soresOf_53 : decode cX12_soresOf 53 = .ok (.iinc 4 1, 3) := dX12_soresOf_47_a.2.2.2.2.1
theorem dX12_soresOf_56 : decode cX12_soresOf 56 = .ok (.goto (-40), 3) := dX12_soresOf_47_a.2.2.2.2.2.1
theorem dX12_soresOf_59 : decode cX12_soresOf 59 = .ok (.aload_n 0, 1) := dX12_soresOf_47_a.2.2.2.2.2.2.1
theorem dX12_soresOf_60 : decode cX12_soresOf 60 = .ok (.getfield 31, 3) := dX12_soresOf_47_a.2.2.2.2.2.2.2.1
theorem dX12_soresOf_63 : decode cX12_soresOf 63 = .ok (.iconst 4, 1) := dX12_soresOf_47_a.2.2.2.2.2.2.2.2.1
theorem dX12_soresOf_64 : decode cX12_soresOf 64 = .ok (.iload_n 1, 1) := dX12_soresOf_47_a.2.2.2.2.2.2.2.2.2.1
theorem dX12_soresOf_65 : decode cX12_soresOf 65 = .ok (.imul, 1) := dX12_soresOf_47_a.2.2.2.2.2.2.2.2.2.2.1
theorem dX12_soresOf_66 : decode cX12_soresOf 66 = .ok (.iconst 1, 1) := dX12_soresOf_47_a.2.2.2.2.2.2.2.2.2.2.2.1
theorem dX12_soresOf_67 : decode cX12_soresOf 67 = .ok (.iadd, 1) := dX12_soresOf_47_a.2.2.2.2.2.2.2.2.2.2.2.2.1
theorem dX12_soresOf_68 : decode cX12_soresOf 68 = .ok (.iload_n 2, 1) := dX12_soresOf_47_a.2.2.2.2.2.2.2.2.2.2.2.2.2.1
theorem dX12_soresOf_69 : decode cX12_soresOf 69 = .ok (.iastore, 1) := dX12_soresOf_47_a.2.2.2.2.2.2.2.2.2.2.2.2.2.2.1
theorem dX12_soresOf_70 : decode cX12_soresOf 70 = .ok (.iload_n 3, 1) := dX12_soresOf_47_a.2.2.2.2.2.2.2.2.2.2.2.2.2.2.2
theorem dX12_soresOf_71 : decode cX12_soresOf 71 = .ok (.ireturn, 1) := by decide +kernel
theorem dX12_sores_0_a : (decode cX12_sores 0 = .ok (.aload_n 0, 1)) ∧ (decode cX12_sores 1 = .ok (.invokevirtual 141, 3)) ∧ (decode cX12_sores 4 = .ok (.aload_n 0, 1)) ∧ (decode cX12_sores 5 = .ok (.iload_n 1, 1)) ∧ (decode cX12_sores 6 = .ok (.invokevirtual 146, 3)) ∧ (decode cX12_sores 9 = .ok (.ifCond .eq 11, 3)) ∧ (decode cX12_sores 12 = .ok (.aload_n 0, 1)) ∧ (decode cX12_sores 13 = .ok (.iload_n 1, 1)) ∧ (decode cX12_sores 14 = .ok (.invokevirtual 247, 3)) ∧ (decode cX12_sores 17 = .ok (.goto 5, 3)) ∧ (decode cX12_sores 20 = .ok (.bipush (-2), 2)) ∧ (decode cX12_sores 22 = .ok (.ireturn, 1)) := by decide +kernel
theorem dX12_sores_0 : decode cX12_sores 0 = .ok (.aload_n 0, 1) := dX12_sores_0_a.1
theorem dX12_sores_1 : decode cX12_sores 1 = .ok (.invokevirtual 141, 3) := dX12_sores_0_a.2.1
theorem dX12_sores_4 : decode cX12_sores 4 = .ok (.aload_n 0, 1) := dX12_sores_0_a.2.2.1
theorem dX12_sores_5 : decode cX12_sores 5 = .ok (.iload_n 1, 1) := dX12_sores_0_a.2.2.2.1
theorem dX12_sores_6 : decode cX12_sores 6 = .ok (.invokevirtual 146, 3) := dX12_sores_0_a.2.2.2.2.1
theorem dX12_sores_9 : decode cX12_sores 9 = .ok (.ifCond .eq 11, 3) := dX12_sores_0_a.2.2.2.2.2.1
theorem dX12_sores_12 : decode cX12_sores 12 = .ok (.aload_n 0, 1) := dX12_sores_0_a.2.2.2.2.2.2.1
theorem dX12_sores_13 : decode cX12_sores 13 = .ok (.iload_n 1, 1) := dX12_sores_0_a.2.2.2.2.2.2.2.1
theorem dX12_sores_14 : decode cX12_sores 14 = .ok (.invokevirtual 247, 3) := dX12_sores_0_a.2.2.2.2.2.2.2.2.1
theorem dX12_sores_17 : decode cX12_sores 17 = .ok (.goto 5, 3) := dX12_sores_0_a.2.2.2.2.2.2.2.2.2.1
theorem dX12_sores_20 : decode cX12_sores 20 = .ok (.bipush (-2), 2) := dX12_sores_0_a.2.2.2.2.2.2.2.2.2.2.1
theorem dX12_sores_22 : decode cX12_sores 22 = .ok (.ireturn, 1) := dX12_sores_0_a.2.2.2.2.2.2.2.2.2.2.2
theorem dX12_highOf_0_a : (decode cX12_highOf 0 = .ok (.aload_n 0, 1)) ∧ (decode cX12_highOf 1 = .ok (.getfield 37, 3)) ∧ (decode cX12_highOf 4 = .ok (.iconst 4, 1)) ∧ (decode cX12_highOf 5 = .ok (.iload_n 1, 1)) ∧ (decode cX12_highOf 6 = .ok (.imul, 1)) ∧ (decode cX12_highOf 7 = .ok (.iconst 3, 1)) ∧ (decode cX12_highOf 8 = .ok (.iadd, 1)) ∧ (decode cX12_highOf 9 = .ok (.iaload, 1)) ∧ (decode cX12_highOf 10 = .ok (.istore_n 2, 1)) ∧ (decode cX12_highOf 11 = .ok (.iconst 0, 1)) ∧ (decode cX12_highOf 12 = .ok (.istore_n 3, 1)) ∧ (decode cX12_highOf 13 = .ok (.iconst 1, 1)) ∧ (decode cX12_highOf 14 = .ok (.istore 4, 2)) ∧ (decode cX12_highOf 16 = .ok (.iload 4, 2)) ∧ (decode cX12_highOf 18 = .ok (.bipush 10, 2)) ∧ (decode cX12_highOf 20 = .ok (.if_icmp .ge 39, 3)) := by decide +kernel
theorem dX12_highOf_0 : decode cX12_highOf 0 = .ok (.aload_n 0, 1) := dX12_highOf_0_a.1
theorem dX12_highOf_1 : decode cX12_highOf 1 = .ok (.getfield 37, 3) := dX12_highOf_0_a.2.1
theorem dX12_highOf_4 : decode cX12_highOf 4 = .ok (.iconst 4, 1) := dX12_highOf_0_a.2.2.1
theorem dX12_highOf_5 : decode cX12_highOf 5 = .ok (.iload_n 1, 1) := dX12_highOf_0_a.2.2.2.1
theorem dX12_highOf_6 : decode cX12_highOf 6 = .ok (.imul, 1) := dX12_highOf_0_a.2.2.2.2.1
theorem dX12_highOf_7 : decode cX12_highOf 7 = .ok (.iconst 3, 1) := dX12_highOf_0_a.2.2.2.2.2.1
theorem dX12_highOf_8 : decode cX12_highOf 8 = .ok (.iadd, 1) := dX12_highOf_0_a.2.2.2.2.2.2.1
theorem dX12_highOf_9 : decode cX12_highOf 9 = .ok (.iaload, 1) := dX12_highOf_0_a.2.2.2.2.2.2.2.1
theorem dX12_highOf_10 : decode cX12_highOf 10 = .ok (.istore_n 2, 1) := dX12_highOf_0_a.2.2.2.2.2.2.2.2.1
theorem dX12_highOf_11 : decode cX12_highOf 11 = .ok (.iconst 0, 1) := dX12_highOf_0_a.2.2.2.2.2.2.2.2.2.1
theorem dX12_highOf_12 : decode cX12_highOf 12 = .ok (.istore_n 3, 1) := dX12_highOf_0_a.2.2.2.2.2.2.2.2.2.2.1
theorem dX12_highOf_13 : decode cX12_highOf 13 = .ok (.iconst 1, 1) := dX12_highOf_0_a.2.2.2.2.2.2.2.2.2.2.2.1
theorem dX12_highOf_14 : decode cX12_highOf 14 = .ok (.istore 4, 2) := dX12_highOf_0_a.2.2.2.2.2.2.2.2.2.2.2.2.1
theorem dX12_highOf_16 : decode cX12_highOf 16 = .ok (.iload 4, 2) := dX12_highOf_0_a.2.2.2.2.2.2.2.2.2.2.2.2.2.1
theorem dX12_highOf_18 : decode cX12_highOf 18 = .ok (.bipush 10, 2) := dX12_highOf_0_a.2.2.2.2.2.2.2.2.2.2.2.2.2.2.1
theorem dX12_highOf_20 : decode cX12_highOf 20 = .ok (.if_icmp .ge 39, 3) := dX12_highOf_0_a.2.2.2.2.2.2.2.2.2.2.2.2.2.2.2
theorem dX12_highOf_23_a : (decode cX12_highOf 23 = .ok (.aload_n 0, 1)) ∧ (decode cX12_highOf 24 = .ok (.getfield 37, 3)) ∧ (decode cX12_highOf 27 = .ok (.iconst 4, 1)) ∧ (decode cX12_highOf 28 = .ok (.iload_n 1, 1)) ∧ (decode cX12_highOf 29 = .ok (.imul, 1)) ∧ (decode cX12_highOf 30 = .ok (.iconst 3, 1)) ∧ (decode cX12_highOf 31 = .ok (.iadd, 1)) ∧ (decode cX12_highOf 32 = .ok (.iload 4, 2)) ∧ (decode cX12_highOf 34 = .ok (.iastore, 1)) ∧ (decode cX12_highOf 35 = .ok (.iload_n 3, 1)) ∧ (decode cX12_highOf 36 = .ok (.aload_n 0, 1)) ∧ (decode cX12_highOf 37 = .ok (.invokevirtual 243, 3)) ∧ (decode cX12_highOf 40 = .ok (.ifCond .eq 10, 3)) ∧ (decode cX12_highOf 43 = .ok (.iconst 1, 1)) ∧ (decode cX12_highOf 44 = .ok (.iload 4, 2)) ∧ (decode cX12_highOf 46 = .ok (.ishl, 1)) := by decide +kernel
theorem dX12_highOf_23 : decode cX12_highOf 23 = .ok (.aload_n 0, 1) := dX12_highOf_23_a.1
theorem dX12_highOf_24 : decode cX12_highOf 24 = .ok (.getfield 37, 3) := dX12_highOf_23_a.2.1
theorem dX12_highOf_27 : decode cX12_highOf 27 = .ok (.iconst 4, 1) := dX12_highOf_23_a.2.2.1
theorem dX12_highOf_28 : decode cX12_highOf 28 = .ok (.iload_n 1, 1) := dX12_highOf_23_a.2.2.2.1
theorem dX12_highOf_29 : decode cX12_highOf 29 = .ok (.imul, 1) := dX12_highOf_23_a.2.2.2.2.1
theorem dX12_highOf_30 : decode cX12_highOf 30 = .ok (.iconst 3, 1) := dX12_highOf_23_a.2.2.2.2.2.1
theorem dX12_highOf_31 : decode cX12_highOf 31 = .ok (.iadd, 1) := dX12_highOf_23_a.2.2.2.2.2.2.1
theorem dX12_highOf_32 : decode cX12_highOf 32 = .ok (.iload 4, 2) := dX12_highOf_23_a.2.2.2.2.2.2.2.1
theorem dX12_highOf_34 : decode cX12_highOf 34 = .ok (.iastore, 1) := dX12_highOf_23_a.2.2.2.2.2.2.2.2.1
theorem dX12_highOf_35 : decode cX12_highOf 35 = .ok (.iload_n 3, 1) := dX12_highOf_23_a.2.2.2.2.2.2.2.2.2.1
theorem dX12_highOf_36 : decode cX12_highOf 36 = .ok (.aload_n 0, 1) := dX12_highOf_23_a.2.2.2.2.2.2.2.2.2.2.1
theorem dX12_highOf_37 : decode cX12_highOf 37 = .ok (.invokevirtual 243, 3) := dX12_highOf_23_a.2.2.2.2.2.2.2.2.2.2.2.1
theorem dX12_highOf_40 : decode cX12_highOf 40 = .ok (.ifCond .eq 10, 3) := dX12_highOf_23_a.2.2.2.2.2.2.2.2.2.2.2.2.1
theorem dX12_highOf_43 : decode cX12_highOf 43 = .ok (.iconst 1, 1) := dX12_highOf_23_a.2.2.2.2.2.2.2.2.2.2.2.2.2.1
theorem dX12_highOf_44 : decode cX12_highOf 44 = .ok (.iload 4, 2) := dX12_highOf_23_a.2.2.2.2.2.2.2.2.2.2.2.2.2.2.1
theorem dX12_highOf_46 : decode cX12_highOf 46 = .ok (.ishl, 1) := dX12_highOf_23_a.2.2.2.2.2.2.2.2.2.2.2.2.2.2.2
theorem dX12_highOf_47_a : (decode cX12_highOf 47 = .ok (.goto 4, 3)) ∧ (decode cX12_highOf 50 = .ok (.iconst 0, 1)) ∧ (decode cX12_highOf 51 = .ok (.ior, 1)) ∧ (decode cX12_highOf 52 = .ok (.istore_n 3, 1)) ∧ (decode cX12_highOf 53 = .ok (.iinc 4 1, 3)) ∧ (decode cX12_highOf 56 = .ok (.goto (-40), 3)) ∧ (decode cX12_highOf 59 = .ok (.aload_n 0, 1)) ∧ (decode cX12_highOf 60 = .ok (.getfield 37, 3)) ∧ (decode cX12_highOf 63 = .ok (.iconst 4, 1)) ∧ (decode cX12_highOf 64 = .ok (.iload_n 1, 1)) ∧ (decode cX12_highOf 65 = .ok (.imul, 1)) ∧ (decode cX12_highOf 66 = .ok (.iconst 3, 1)) ∧ (decode cX12_highOf 67 = .ok (.iadd, 1)) ∧ (decode cX12_highOf 68 = .ok (.iload_n 2, 1)) ∧ (decode cX12_highOf 69 = .ok (.iastore, 1)) ∧ (decode cX12_highOf 70 = .ok (.iload_n 3, 1)) := by decide +kernel
theorem dX12_highOf_47 : decode cX12_highOf 47 = .ok (.goto 4, 3) := dX12_highOf_47_a.1
theorem dX12_highOf_50 : decode cX12_highOf 50 = .ok (.iconst 0, 1) := dX12_highOf_47_a.2.1
theorem dX12_highOf_51 : decode cX12_highOf 51 = .ok (.ior, 1) := dX12_highOf_47_a.2.2.1
theorem dX12_highOf_52 : decode cX12_highOf 52 = .ok (.istore_n 3, 1) := dX12_highOf_47_a.2.2.2.1
theorem dX12_highOf_53 : decode cX12_highOf 53 = .ok (.iinc 4 1, 3) := dX12_highOf_47_a.2.2.2.2.1
theorem dX12_highOf_56 : decode cX12_highOf 56 = .ok (.goto (-40), 3) := dX12_highOf_47_a.2.2.2.2.2.1
theorem dX12_highOf_59 : decode cX12_highOf 59 = .ok (.aload_n 0, 1) := dX12_highOf_47_a.2.2.2.2.2.2.1
theorem dX12_highOf_60 : decode cX12_highOf 60 = .ok (.getfield 37, 3) := dX12_highOf_47_a.2.2.2.2.2.2.2.1
theorem dX12_highOf_63 : decode cX12_highOf 63 = .ok (.iconst 4, 1) := dX12_highOf_47_a.2.2.2.2.2.2.2.2.1
theorem dX12_highOf_64 : decode cX12_highOf 64 = .ok (.iload_n 1, 1) := dX12_highOf_47_a.2.2.2.2.2.2.2.2.2.1
theorem dX12_highOf_65 : decode cX12_highOf 65 = .ok (.imul, 1) := dX12_highOf_47_a.2.2.2.2.2.2.2.2.2.2.1
theorem dX12_highOf_66 : decode cX12_highOf 66 = .ok (.iconst 3, 1) := dX12_highOf_47_a.2.2.2.2.2.2.2.2.2.2.2.1
theorem dX12_highOf_67 : decode cX12_highOf 67 = .ok (.iadd, 1) := dX12_highOf_47_a.2.2.2.2.2.2.2.2.2.2.2.2.1
theorem dX12_highOf_68 : decode cX12_highOf 68 = .ok (.iload_n 2, 1) := dX12_highOf_47_a.2.2.2.2.2.2.2.2.2.2.2.2.2.1
theorem dX12_highOf_69 : decode cX12_highOf 69 = .ok (.iastore, 1) := dX12_highOf_47_a.2.2.2.2.2.2.2.2.2.2.2.2.2.2.1
theorem dX12_highOf_70 : decode cX12_highOf 70 = .ok (.iload_n 3, 1) := dX12_highOf_47_a.2.2.2.2.2.2.2.2.2.2.2.2.2.2.2
theorem dX12_highOf_71 : decode cX12_highOf 71 = .ok (.ireturn, 1) := by decide +kernel
theorem dX12_high_0_a : (decode cX12_high 0 = .ok (.aload_n 0, 1)) ∧ (decode cX12_high 1 = .ok (.invokevirtual 141, 3)) ∧ (decode cX12_high 4 = .ok (.aload_n 0, 1)) ∧ (decode cX12_high 5 = .ok (.iload_n 1, 1)) ∧ (decode cX12_high 6 = .ok (.invokevirtual 212, 3)) ∧ (decode cX12_high 9 = .ok (.ifCond .eq 11, 3)) ∧ (decode cX12_high 12 = .ok (.aload_n 0, 1)) ∧ (decode cX12_high 13 = .ok (.iload_n 1, 1)) ∧ (decode cX12_high 14 = .ok (.invokevirtual 250, 3)) ∧ (decode cX12_high 17 = .ok (.goto 5, 3)) ∧ (decode cX12_high 20 = .ok (.bipush (-2), 2)) ∧ (decode cX12_high 22 = .ok (.ireturn, 1)) := by decide +kernel
theorem dX12_high_0 : decode cX12_high 0 = .ok (.aload_n 0, 1) := dX12_high_0_a.1
theorem dX12_high_1 : decode cX12_high 1 = .ok (.invokevirtual 141, 3) := dX12_high_0_a.2.1
theorem dX12_high_4 : decode cX12_high 4 = .ok (.aload_n 0, 1) := dX12_high_0_a.2.2.1
theorem dX12_high_5 : decode cX12_high 5 = .ok (.iload_n 1, 1) := dX12_high_0_a.2.2.2.1
theorem dX12_high_6 : decode cX12_high 6 = .ok (.invokevirtual 212, 3) := dX12_high_0_a.2.2.2.2.1
theorem dX12_high_9 : decode cX12_high 9 = .ok (.ifCond .eq 11, 3) := dX12_high_0_a.2.2.2.2.2.1
theorem dX12_high_12 : decode cX12_high 12 = .ok (.aload_n 0, 1) := dX12_high_0_a.2.2.2.2.2.2.1
theorem dX12_high_13 : decode cX12_high 13 = .ok (.iload_n 1, 1) := dX12_high_0_a.2.2.2.2.2.2.2.1
theorem dX12_high_14 : decode cX12_high 14 = .ok (.invokevirtual 250, 3) := dX12_high_0_a.2.2.2.2.2.2.2.2.1
theorem dX12_high_17 : decode cX12_high 17 = .ok (.goto 5, 3) := dX12_high_0_a.2.2.2.2.2.2.2.2.2.1
theorem dX12_high_20 : decode cX12_high 20 = .ok (.bipush (-2), 2) := dX12_high_0_a.2.2.2.2.2.2.2.2.2.2.1
theorem dX12_high_22 : decode cX12_high 22 = .ok (.ireturn, 1) := dX12_high_0_a.2.2.2.2.2.2.2.2.2.2.2
theorem dX12_mostAlike_0_a : (decode cX12_mostAlike 0 = .ok (.aload_n 0, 1)) ∧ (decode cX12_mostAlike 1 = .ok (.getfield 31, 3)) ∧ (decode cX12_mostAlike 4 = .ok (.iconst 4, 1)) ∧ (decode cX12_mostAlike 5 = .ok (.iload_n 1, 1)) ∧ (decode cX12_mostAlike 6 = .ok (.imul, 1)) ∧ (decode cX12_mostAlike 7 = .ok (.iconst 1, 1)) ∧ (decode cX12_mostAlike 8 = .ok (.iadd, 1)) ∧ (decode cX12_mostAlike 9 = .ok (.iaload, 1)) ∧ (decode cX12_mostAlike 10 = .ok (.istore 4, 2)) ∧ (decode cX12_mostAlike 12 = .ok (.iconst 0, 1)) ∧ (decode cX12_mostAlike 13 = .ok (.istore 5, 2)) ∧ (decode cX12_mostAlike 15 = .ok (.iconst 0, 1)) ∧ (decode cX12_mostAlike 16 = .ok (.istore 6, 2)) ∧ (decode cX12_mostAlike 18 = .ok (.iload 6, 2)) ∧ (decode cX12_mostAlike 20 = .ok (.bipush 25, 2)) ∧ (decode cX12_mostAlike 22 = .ok (.if_icmp .ge 17, 3)) := by decide +kernel
theorem dX12_mostAlike_0 : decode cX12_mostAlike 0 = .ok (.aload_n 0, 1) := dX12_mostAlike_0_a.1
theorem dX12_mostAlike_1 : decode cX12_mostAlike 1 = .ok (.getfield 31, 3) := dX12_mostAlike_0_a.2.1
theorem dX12_mostAlike_4 : decode cX12_mostAlike 4 = .ok (.iconst 4, 1) := dX12_mostAlike_0_a.2.2.1
theorem dX12_mostAlike_5 : decode cX12_mostAlike 5 = .ok (.iload_n 1, 1) := dX12_mostAlike_0_a.2.2.2.1
theorem dX12_mostAlike_6 : decode cX12_mostAlike 6 = .ok (.imul, 1) := dX12_mostAlike_0_a.2.2.2.2.1
theorem dX12_mostAlike_7 : decode cX12_mostAlike 7 = .ok (.iconst 1, 1) := dX12_mostAlike_0_a.2.2.2.2.2.1
theorem dX12_mostAlike_8 : decode cX12_mostAlike 8 = .ok (.iadd, 1) := dX12_mostAlike_0_a.2.2.2.2.2.2.1
theorem dX12_mostAlike_9 : decode cX12_mostAlike 9 = .ok (.iaload, 1) := dX12_mostAlike_0_a.2.2.2.2.2.2.2.1
theorem dX12_mostAlike_10 : decode cX12_mostAlike 10 = .ok (.istore 4, 2) := dX12_mostAlike_0_a.2.2.2.2.2.2.2.2.1
theorem dX12_mostAlike_12 : decode cX12_mostAlike 12 = .ok (.iconst 0, 1) := dX12_mostAlike_0_a.2.2.2.2.2.2.2.2.2.1
theorem dX12_mostAlike_13 : decode cX12_mostAlike 13 = .ok (.istore 5, 2) := dX12_mostAlike_0_a.2.2.2.2.2.2.2.2.2.2.1
theorem dX12_mostAlike_15 : decode cX12_mostAlike 15 = .ok (.iconst 0, 1) := dX12_mostAlike_0_a.2.2.2.2.2.2.2.2.2.2.2.1
theorem dX12_mostAlike_16 : decode cX12_mostAlike 16 = .ok (.istore 6, 2) := dX12_mostAlike_0_a.2.2.2.2.2.2.2.2.2.2.2.2.1
theorem dX12_mostAlike_18 : decode cX12_mostAlike 18 = .ok (.iload 6, 2) := dX12_mostAlike_0_a.2.2.2.2.2.2.2.2.2.2.2.2.2.1
theorem dX12_mostAlike_20 : decode cX12_mostAlike 20 = .ok (.bipush 25, 2) := dX12_mostAlike_0_a.2.2.2.2.2.2.2.2.2.2.2.2.2.2.1
theorem dX12_mostAlike_22 : decode cX12_mostAlike 22 = .ok (.if_icmp .ge 17, 3) := dX12_mostAlike_0_a.2.2.2.2.2.2.2.2.2.2.2.2.2.2.2
theorem dX12_mostAlike_25_a : (decode cX12_mostAlike 25 = .ok (.aload_n 0, 1)) ∧ (decode cX12_mostAlike 26 = .ok (.getfield 55, 3)) ∧ (decode cX12_mostAlike 29 = .ok (.iload 6, 2)) ∧ (decode cX12_mostAlike 31 = .ok (.iconst 0, 1)) ∧ (decode cX12_mostAlike 32 = .ok (.iastore, 1)) ∧ (decode cX12_mostAlike 33 = .ok (.iinc 6 1, 3)) ∧ (decode cX12_mostAlike 36 = .ok (.goto (-18), 3)) ∧ (decode cX12_mostAlike 39 = .ok (.iconst 0, 1)) ∧ (decode cX12_mostAlike 40 = .ok (.istore 6, 2)) ∧ (decode cX12_mostAlike 42 = .ok (.iload 6, 2)) ∧ (decode cX12_mostAlike 44 = .ok (.bipush 6, 2)) ∧ (decode cX12_mostAlike 46 = .ok (.if_icmp .ge 78, 3)) ∧ (decode cX12_mostAlike 49 = .ok (.iload_n 3, 1)) ∧ (decode cX12_mostAlike 50 = .ok (.iload 6, 2)) ∧ (decode cX12_mostAlike 52 = .ok (.invokestatic 180, 3)) ∧ (decode cX12_mostAlike 55 = .ok (.ifCond .eq 63, 3)) := by decide +kernel
theorem dX12_mostAlike_25 : decode cX12_mostAlike 25 = .ok (.aload_n 0, 1) := dX12_mostAlike_25_a.1
theorem dX12_mostAlike_26 : decode cX12_mostAlike 26 = .ok (.getfield 55, 3) := dX12_mostAlike_25_a.2.1
theorem dX12_mostAlike_29 : decode cX12_mostAlike 29 = .ok (.iload 6, 2) := dX12_mostAlike_25_a.2.2.1
theorem dX12_mostAlike_31 : decode cX12_mostAlike 31 = .ok (.iconst 0, 1) := dX12_mostAlike_25_a.2.2.2.1
theorem dX12_mostAlike_32 : decode cX12_mostAlike 32 = .ok (.iastore, 1) := dX12_mostAlike_25_a.2.2.2.2.1
theorem dX12_mostAlike_33 : decode cX12_mostAlike 33 = .ok (.iinc 6 1, 3) := dX12_mostAlike_25_a.2.2.2.2.2.1
theorem dX12_mostAlike_36 : decode cX12_mostAlike 36 = .ok (.goto (-18), 3) := dX12_mostAlike_25_a.2.2.2.2.2.2.1
theorem dX12_mostAlike_39 : decode cX12_mostAlike 39 = .ok (.iconst 0, 1) := dX12_mostAlike_25_a.2.2.2.2.2.2.2.1
theorem dX12_mostAlike_40 : decode cX12_mostAlike 40 = .ok (.istore 6, 2) := dX12_mostAlike_25_a.2.2.2.2.2.2.2.2.1
theorem dX12_mostAlike_42 : decode cX12_mostAlike 42 = .ok (.iload 6, 2) := dX12_mostAlike_25_a.2.2.2.2.2.2.2.2.2.1
theorem dX12_mostAlike_44 : decode cX12_mostAlike 44 = .ok (.bipush 6, 2) := dX12_mostAlike_25_a.2.2.2.2.2.2.2.2.2.2.1
theorem dX12_mostAlike_46 : decode cX12_mostAlike 46 = .ok (.if_icmp .ge 78, 3) := dX12_mostAlike_25_a.2.2.2.2.2.2.2.2.2.2.2.1
theorem dX12_mostAlike_49 : decode cX12_mostAlike 49 = .ok (.iload_n 3, 1) := dX12_mostAlike_25_a.2.2.2.2.2.2.2.2.2.2.2.2.1
theorem dX12_mostAlike_50 : decode cX12_mostAlike 50 = .ok (.iload 6, 2) := dX12_mostAlike_25_a.2.2.2.2.2.2.2.2.2.2.2.2.2.1
theorem dX12_mostAlike_52 : decode cX12_mostAlike 52 = .ok (.invokestatic 180, 3) := dX12_mostAlike_25_a.2.2.2.2.2.2.2.2.2.2.2.2.2.2.1
theorem dX12_mostAlike_55 : decode cX12_mostAlike 55 = .ok (.ifCond .eq 63, 3) := dX12_mostAlike_25_a.2.2.2.2.2.2.2.2.2.2.2.2.2.2.2
theorem dX12_mostAlike_58_a : (decode cX12_mostAlike 58 = .ok (.aload_n 0, 1)) ∧ (decode cX12_mostAlike 59 = .ok (.getfield 31, 3)) ∧ (decode cX12_mostAlike 62 = .ok (.iconst 4, 1)) ∧ (decode cX12_mostAlike 63 = .ok (.iload_n 1, 1)) ∧ (decode cX12_mostAlike 64 = .ok (.imul, 1)) ∧ (decode cX12_mostAlike 65 = .ok (.iconst 1, 1)) ∧ (decode cX12_mostAlike 66 = .ok (.iadd, 1)) ∧ (decode cX12_mostAlike 67 = .ok (.iload 6, 2)) ∧ (decode cX12_mostAlike 69 = .ok (.iastore, 1)) ∧ (decode cX12_mostAlike 70 = .ok (.aload_n 0, 1)) ∧ (decode cX12_mostAlike 71 = .ok (.iload_n 2, 1)) ∧ (decode cX12_mostAlike 72 = .ok (.invokevirtual 206, 3)) ∧ (decode cX12_mostAlike 75 = .ok (.aload_n 0, 1)) ∧ (decode cX12_mostAlike 76 = .ok (.getfield 55, 3)) ∧ (decode cX12_mostAlike 79 = .ok (.aload_n 0, 1)) ∧ (decode cX12_mostAlike 80 = .ok (.getfield 193, 3)) := by decide +kernel
theorem dX12_mostAlike_58 : decode cX12_mostAlike 58 = .ok (.aload_n 0, 1) := dX12_mostAlike_58_a.1
theorem dX12_mostAlike_59 : decode cX12_mostAlike 59 = .ok (.getfield 31, 3) := dX12_mostAlike_58_a.2.1
theorem dX12_mostAlike_62 : decode cX12_mostAlike 62 = .ok (.iconst 4, 1) := dX12_mostAlike_58_a.2.2.1
theorem dX12_mostAlike_63 : decode cX12_mostAlike 63 = .ok (.iload_n 1, 1) := dX12_mostAlike_58_a.2.2.2.1
theorem dX12_mostAlike_64 : decode cX12_mostAlike 64 = .ok (.imul, 1) := dX12_mostAlike_58_a.2.2.2.2.1
theorem dX12_mostAlike_65 : decode cX12_mostAlike 65 = .ok (.iconst 1, 1) := dX12_mostAlike_58_a.2.2.2.2.2.1
theorem dX12_mostAlike_66 : decode cX12_mostAlike 66 = .ok (.iadd, 1) := dX12_mostAlike_58_a.2.2.2.2.2.2.1
theorem dX12_mostAlike_67 : decode cX12_mostAlike 67 = .ok (.iload 6, 2) := dX12_mostAlike_58_a.2.2.2.2.2.2.2.1
theorem dX12_mostAlike_69 : decode cX12_mostAlike 69 = .ok (.iastore, 1) := dX12_mostAlike_58_a.2.2.2.2.2.2.2.2.1
theorem dX12_mostAlike_70 : decode cX12_mostAlike 70 = .ok (.aload_n 0, 1) := dX12_mostAlike_58_a.2.2.2.2.2.2.2.2.2.1
theorem dX12_mostAlike_71 : decode cX12_mostAlike 71 = .ok (.iload_n 2, 1) := dX12_mostAlike_58_a.2.2.2.2.2.2.2.2.2.2.1
theorem dX12_mostAlike_72 : decode cX12_mostAlike 72 = .ok (.invokevirtual 206, 3) := dX12_mostAlike_58_a.2.2.2.2.2.2.2.2.2.2.2.1
theorem dX12_mostAlike_75 : decode cX12_mostAlike 75 = .ok (.aload_n 0, 1) := dX12_mostAlike_58_a.2.2.2.2.2.2.2.2.2.2.2.2.1
theorem dX12_mostAlike_76 : decode cX12_mostAlike 76 = .ok (.getfield 55, 3) := dX12_mostAlike_58_a.2.2.2.2.2.2.2.2.2.2.2.2.2.1
theorem dX12_mostAlike_79 : decode cX12_mostAlike 79 = .ok (.aload_n 0, 1) := dX12_mostAlike_58_a.2.2.2.2.2.2.2.2.2.2.2.2.2.2.1
theorem dX12_mostAlike_80 : decode cX12_mostAlike 80 = .ok (.getfield 193, 3) := dX12_mostAlike_58_a.2.2.2.2.2.2.2.2.2.2.2.2.2.2.2
theorem dX12_mostAlike_83_a : (decode cX12_mostAlike 83 = .ok (.dup2, 1)) ∧ (decode cX12_mostAlike 84 = .ok (.iaload, 1)) ∧ (decode cX12_mostAlike 85 = .ok (.iconst 1, 1)) ∧ (decode cX12_mostAlike 86 = .ok (.iadd, 1)) ∧ (decode cX12_mostAlike 87 = .ok (.iastore, 1)) ∧ (decode cX12_mostAlike 88 = .ok (.aload_n 0, 1)) ∧ (decode cX12_mostAlike 89 = .ok (.getfield 55, 3)) ∧ (decode cX12_mostAlike 92 = .ok (.aload_n 0, 1)) ∧ (decode cX12_mostAlike 93 = .ok (.getfield 193, 3)) ∧ (decode cX12_mostAlike 96 = .ok (.iaload, 1)) ∧ (decode cX12_mostAlike 97 = .ok (.iload 5, 2)) ∧ (decode cX12_mostAlike 99 = .ok (.if_icmp .le 15, 3)) ∧ (decode cX12_mostAlike 102 = .ok (.aload_n 0, 1)) ∧ (decode cX12_mostAlike 103 = .ok (.getfield 55, 3)) ∧ (decode cX12_mostAlike 106 = .ok (.aload_n 0, 1)) ∧ (decode cX12_mostAlike 107 = .ok (.getfield 193, 3)) := by decide +kernel
theorem dX12_mostAlike_83 : decode cX12_mostAlike 83 = .ok (.dup2, 1) := dX12_mostAlike_83_a.1
theorem dX12_mostAlike_84 : decode cX12_mostAlike 84 = .ok (.iaload, 1) := dX12_mostAlike_83_a.2.1
theorem dX12_mostAlike_85 : decode cX12_mostAlike 85 = .ok (.iconst 1, 1) := dX12_mostAlike_83_a.2.2.1
theorem dX12_mostAlike_86 : decode cX12_mostAlike 86 = .ok (.iadd, 1) := dX12_mostAlike_83_a.2.2.2.1
theorem dX12_mostAlike_87 : decode cX12_mostAlike 87 = .ok (.iastore, 1) := dX12_mostAlike_83_a.2.2.2.2.1
theorem dX12_mostAlike_88 : decode cX12_mostAlike 88 = .ok (.aload_n 0, 1) := dX12_mostAlike_83_a.2.2.2.2.2.1
theorem dX12_mostAlike_89 : decode cX12_mostAlike 89 = .ok (.getfield 55, 3) := dX12_mostAlike_83_a.2.2.2.2.2.2.1
theorem dX12_mostAlike_92 : decode cX12_mostAlike 92 = .ok (.aload_n 0, 1) := dX12_mostAlike_83_a.2.2.2.2.2.2.2.1
theorem dX12_mostAlike_93 : decode cX12_mostAlike 93 = .ok (.getfield 193, 3) := dX12_mostAlike_83_a.2.2.2.2.2.2.2.2.1
theorem dX12_mostAlike_96 : decode cX12_mostAlike 96 = .ok (.iaload, 1) := dX12_mostAlike_83_a.2.2.2.2.2.2.2.2.2.1
theorem dX12_mostAlike_97 : decode cX12_mostAlike 97 = .ok (.iload 5, 2) := dX12_mostAlike_83_a.2.2.2.2.2.2.2.2.2.2.1
theorem dX12_mostAlike_99 : decode cX12_mostAlike 99 = .ok (.if_icmp .le 15, 3) := dX12_mostAlike_83_a.2.2.2.2.2.2.2.2.2.2.2.1
theorem dX12_mostAlike_102 : decode cX12_mostAlike 102 = .ok (.aload_n 0, 1) := dX12_mostAlike_83_a.2.2.2.2.2.2.2.2.2.2.2.2.1
theorem dX12_mostAlike_103 : decode cX12_mostAlike 103 = .ok (.getfield 55, 3) := dX12_mostAlike_83_a.2.2.2.2.2.2.2.2.2.2.2.2.2.1
theorem dX12_mostAlike_106 : decode cX12_mostAlike 106 = .ok (.aload_n 0, 1) := dX12_mostAlike_83_a.2.2.2.2.2.2.2.2.2.2.2.2.2.2.1
theorem dX12_mostAlike_107 : decode cX12_mostAlike 107 = .ok (.getfield 193, 3) := dX12_mostAlike_83_a.2.2.2.2.2.2.2.2.2.2.2.2.2.2.2
theorem dX12_mostAlike_110_a : (decode cX12_mostAlike 110 = .ok (.iaload, 1)) ∧ (decode cX12_mostAlike 111 = .ok (.goto 5, 3)) ∧ (decode cX12_mostAlike 114 = .ok (.iload 5, 2)) ∧ (decode cX12_mostAlike 116 = .ok (.istore 5, 2)) ∧ (decode cX12_mostAlike 118 = .ok (.iinc 6 1, 3)) ∧ (decode cX12_mostAlike 121 = .ok (.goto (-79), 3)) ∧ (decode cX12_mostAlike 124 = .ok (.aload_n 0, 1)) ∧ (decode cX12_mostAlike 125 = .ok (.getfield 31, 3)) ∧ (decode cX12_mostAlike 128 = .ok (.iconst 4, 1)) ∧ (decode cX12_mostAlike 129 = .ok (.iload_n 1, 1)) ∧ (decode cX12_mostAlike 130 = .ok (.imul, 1)) ∧ (decode cX12_mostAlike 131 = .ok (.iconst 1, 1)) ∧ (decode cX12_mostAlike 132 = .ok (.iadd, 1)) ∧ (decode cX12_mostAlike 133 = .ok (.iload 4, 2)) ∧ (decode cX12_mostAlike 135 = .ok (.iastore, 1)) ∧ (decode cX12_mostAlike 136 = .ok (.iload 5, 2)) := by decide +kernel
theorem dX12_mostAlike_110 : decode cX12_mostAlike 110 = .ok (.iaload, 1) := dX12_mostAlike_110_a.1
theorem dX12_mostAlike_111 : decode cX12_mostAlike 111 = .ok (.goto 5, 3) := dX12_mostAlike_110_a.2.1
theorem dX12_mostAlike_114 : decode cX12_mostAlike 114 = .ok (.iload 5, 2) := dX12_mostAlike_110_a.2.2.1
theorem dX12_mostAlike_116 : decode cX12_mostAlike 116 = .ok (.istore 5, 2) := dX12_mostAlike_110_a.2.2.2.1
theorem dX12_mostAlike_118 : decode cX12_mostAlike 118 = .ok (.iinc 6 1, 3) := dX12_mostAlike_110_a.2.2.2.2.1
theorem dX12_mostAlike_121 : decode cX12_mostAlike 121 = .ok (.goto (-79), 3) := dX12_mostAlike_110_a.2.2.2.2.2.1
theorem dX12_mostAlike_124 : decode cX12_mostAlike 124 = .ok (.aload_n 0, 1) := dX12_mostAlike_110_a.2.2.2.2.2.2.1
theorem dX12_mostAlike_125 : decode cX12_mostAlike 125 = .ok (.getfield 31, 3) := dX12_mostAlike_110_a.2.2.2.2.2.2.2.1
theorem dX12_mostAlike_128 : decode cX12_mostAlike 128 = .ok (.iconst 4, 1) := dX12_mostAlike_110_a.2.2.2.2.2.2.2.2.1
theorem dX12_mostAlike_129 : decode cX12_mostAlike 129 = .ok (.iload_n 1, 1) := dX12_mostAlike_110_a.2.2.2.2.2.2.2.2.2.1
theorem dX12_mostAlike_130 : decode cX12_mostAlike 130 = .ok (.imul, 1) := dX12_mostAlike_110_a.2.2.2.2.2.2.2.2.2.2.1
theorem dX12_mostAlike_131 : decode cX12_mostAlike 131 = .ok (.iconst 1, 1) := dX12_mostAlike_110_a.2.2.2.2.2.2.2.2.2.2.2.1
theorem dX12_mostAlike_132 : decode cX12_mostAlike 132 = .ok (.iadd, 1) := dX12_mostAlike_110_a.2.2.2.2.2.2.2.2.2.2.2.2.1
theorem dX12_mostAlike_133 : decode cX12_mostAlike 133 = .ok (.iload 4, 2) := dX12_mostAlike_110_a.2.2.2.2.2.2.2.2.2.2.2.2.2.1
theorem dX12_mostAlike_135 : decode cX12_mostAlike 135 = .ok (.iastore, 1) := dX12_mostAlike_110_a.2.2.2.2.2.2.2.2.2.2.2.2.2.2.1
theorem dX12_mostAlike_136 : decode cX12_mostAlike 136 = .ok (.iload 5, 2) := dX12_mostAlike_110_a.2.2.2.2.2.2.2.2.2.2.2.2.2.2.2
theorem dX12_mostAlike_138 : decode cX12_mostAlike 138 = .ok (.ireturn, 1) := by decide +kernel
theorem dX12_askOf_0_a : (decode cX12_askOf 0 = .ok (.aload_n 0, 1)) ∧ (decode cX12_askOf 1 = .ok (.iload_n 1, 1)) ∧ (decode cX12_askOf 2 = .ok (.invokevirtual 247, 3)) ∧ (decode cX12_askOf 5 = .ok (.istore_n 2, 1)) ∧ (decode cX12_askOf 6 = .ok (.iconst (-1), 1)) ∧ (decode cX12_askOf 7 = .ok (.istore_n 3, 1)) ∧ (decode cX12_askOf 8 = .ok (.iconst 0, 1)) ∧ (decode cX12_askOf 9 = .ok (.istore 4, 2)) ∧ (decode cX12_askOf 11 = .ok (.iconst 0, 1)) ∧ (decode cX12_askOf 12 = .ok (.istore 5, 2)) ∧ (decode cX12_askOf 14 = .ok (.iload 5, 2)) ∧ (decode cX12_askOf 16 = .ok (.aload_n 0, 1)) ∧ (decode cX12_askOf 17 = .ok (.getfield 159, 3)) ∧ (decode cX12_askOf 20 = .ok (.if_icmp .ge 64, 3)) ∧ (decode cX12_askOf 23 = .ok (.aload_n 0, 1)) ∧ (decode cX12_askOf 24 = .ok (.iload_n 1, 1)) := by decide +kernel
theorem dX12_askOf_0 : decode cX12_askOf 0 = .ok (.aload_n 0, 1) := dX12_askOf_0_a.1
theorem dX12_askOf_1 : decode cX12_askOf 1 = .ok (.iload_n 1, 1) := dX12_askOf_0_a.2.1
theorem dX12_askOf_2 : decode cX12_askOf 2 = .ok (.invokevirtual 247, 3) := dX12_askOf_0_a.2.2.1
theorem dX12_askOf_5 : decode cX12_askOf 5 = .ok (.istore_n 2, 1) := dX12_askOf_0_a.2.2.2.1
theorem dX12_askOf_6 : decode cX12_askOf 6 = .ok (.iconst (-1), 1) := dX12_askOf_0_a.2.2.2.2.1
theorem dX12_askOf_7 : decode cX12_askOf 7 = .ok (.istore_n 3, 1) := dX12_askOf_0_a.2.2.2.2.2.1
theorem dX12_askOf_8 : decode cX12_askOf 8 = .ok (.iconst 0, 1) := dX12_askOf_0_a.2.2.2.2.2.2.1
theorem dX12_askOf_9 : decode cX12_askOf 9 = .ok (.istore 4, 2) := dX12_askOf_0_a.2.2.2.2.2.2.2.1
theorem dX12_askOf_11 : decode cX12_askOf 11 = .ok (.iconst 0, 1) := dX12_askOf_0_a.2.2.2.2.2.2.2.2.1
theorem dX12_askOf_12 : decode cX12_askOf 12 = .ok (.istore 5, 2) := dX12_askOf_0_a.2.2.2.2.2.2.2.2.2.1
theorem dX12_askOf_14 : decode cX12_askOf 14 = .ok (.iload 5, 2) := dX12_askOf_0_a.2.2.2.2.2.2.2.2.2.2.1
theorem dX12_askOf_16 : decode cX12_askOf 16 = .ok (.aload_n 0, 1) := dX12_askOf_0_a.2.2.2.2.2.2.2.2.2.2.2.1
theorem dX12_askOf_17 : decode cX12_askOf 17 = .ok (.getfield 159, 3) := dX12_askOf_0_a.2.2.2.2.2.2.2.2.2.2.2.2.1
theorem dX12_askOf_20 : decode cX12_askOf 20 = .ok (.if_icmp .ge 64, 3) := dX12_askOf_0_a.2.2.2.2.2.2.2.2.2.2.2.2.2.1
theorem dX12_askOf_23 : decode cX12_askOf 23 = .ok (.aload_n 0, 1) := dX12_askOf_0_a.2.2.2.2.2.2.2.2.2.2.2.2.2.2.1
theorem dX12_askOf_24 : decode cX12_askOf 24 = .ok (.iload_n 1, 1) := dX12_askOf_0_a.2.2.2.2.2.2.2.2.2.2.2.2.2.2.2
theorem dX12_askOf_25_a : (decode cX12_askOf 25 = .ok (.iload 5, 2)) ∧ (decode cX12_askOf 27 = .ok (.iload_n 2, 1)) ∧ (decode cX12_askOf 28 = .ok (.invokevirtual 253, 3)) ∧ (decode cX12_askOf 31 = .ok (.istore 6, 2)) ∧ (decode cX12_askOf 33 = .ok (.iload_n 3, 1)) ∧ (decode cX12_askOf 34 = .ok (.iconst (-1), 1)) ∧ (decode cX12_askOf 35 = .ok (.if_icmp .eq 10, 3)) ∧ (decode cX12_askOf 38 = .ok (.iload 6, 2)) ∧ (decode cX12_askOf 40 = .ok (.iload 4, 2)) ∧ (decode cX12_askOf 42 = .ok (.if_icmp .ge 7, 3)) ∧ (decode cX12_askOf 45 = .ok (.iconst 1, 1)) ∧ (decode cX12_askOf 46 = .ok (.goto 4, 3)) ∧ (decode cX12_askOf 49 = .ok (.iconst 0, 1)) ∧ (decode cX12_askOf 50 = .ok (.istore 7, 2)) ∧ (decode cX12_askOf 52 = .ok (.iload 7, 2)) ∧ (decode cX12_askOf 54 = .ok (.ifCond .eq 8, 3)) := by decide +kernel
theorem dX12_askOf_25 : decode cX12_askOf 25 = .ok (.iload 5, 2) := dX12_askOf_25_a.1
theorem dX12_askOf_27 : decode cX12_askOf 27 = .ok (.iload_n 2, 1) := dX12_askOf_25_a.2.1
theorem dX12_askOf_28 : decode cX12_askOf 28 = .ok (.invokevirtual 253, 3) := dX12_askOf_25_a.2.2.1
theorem dX12_askOf_31 : decode cX12_askOf 31 = .ok (.istore 6, 2) := dX12_askOf_25_a.2.2.2.1
theorem dX12_askOf_33 : decode cX12_askOf 33 = .ok (.iload_n 3, 1) := dX12_askOf_25_a.2.2.2.2.1
theorem dX12_askOf_34 : decode cX12_askOf 34 = .ok (.iconst (-1), 1) := dX12_askOf_25_a.2.2.2.2.2.1
theorem dX12_askOf_35 : decode cX12_askOf 35 = .ok (.if_icmp .eq 10, 3) := dX12_askOf_25_a.2.2.2.2.2.2.1
theorem dX12_askOf_38 : decode cX12_askOf 38 = .ok (.iload 6, 2) := dX12_askOf_25_a.2.2.2.2.2.2.2.1
theorem dX12_askOf_40 : decode cX12_askOf 40 = .ok (.iload 4, 2) := dX12_askOf_25_a.2.2.2.2.2.2.2.2.1
theorem dX12_askOf_42 : decode cX12_askOf 42 = .ok (.if_icmp .ge 7, 3) := dX12_askOf_25_a.2.2.2.2.2.2.2.2.2.1
theorem dX12_askOf_45 : decode cX12_askOf 45 = .ok (.iconst 1, 1) := dX12_askOf_25_a.2.2.2.2.2.2.2.2.2.2.1
theorem dX12_askOf_46 : decode cX12_askOf 46 = .ok (.goto 4, 3) := dX12_askOf_25_a.2.2.2.2.2.2.2.2.2.2.2.1
theorem dX12_askOf_49 : decode cX12_askOf 49 = .ok (.iconst 0, 1) := dX12_askOf_25_a.2.2.2.2.2.2.2.2.2.2.2.2.1
theorem dX12_askOf_50 : decode cX12_askOf 50 = .ok (.istore 7, 2) := dX12_askOf_25_a.2.2.2.2.2.2.2.2.2.2.2.2.2.1
theorem dX12_askOf_52 : decode cX12_askOf 52 = .ok (.iload 7, 2) := dX12_askOf_25_a.2.2.2.2.2.2.2.2.2.2.2.2.2.2.1
theorem dX12_askOf_54 : decode cX12_askOf 54 = .ok (.ifCond .eq 8, 3) := dX12_askOf_25_a.2.2.2.2.2.2.2.2.2.2.2.2.2.2.2
theorem dX12_askOf_57_a : (decode cX12_askOf 57 = .ok (.iload 5, 2)) ∧ (decode cX12_askOf 59 = .ok (.goto 4, 3)) ∧ (decode cX12_askOf 62 = .ok (.iload_n 3, 1)) ∧ (decode cX12_askOf 63 = .ok (.istore_n 3, 1)) ∧ (decode cX12_askOf 64 = .ok (.iload 7, 2)) ∧ (decode cX12_askOf 66 = .ok (.ifCond .eq 8, 3)) ∧ (decode cX12_askOf 69 = .ok (.iload 6, 2)) ∧ (decode cX12_askOf 71 = .ok (.goto 5, 3)) ∧ (decode cX12_askOf 74 = .ok (.iload 4, 2)) ∧ (decode cX12_askOf 76 = .ok (.istore 4, 2)) ∧ (decode cX12_askOf 78 = .ok (.iinc 5 1, 3)) ∧ (decode cX12_askOf 81 = .ok (.goto (-67), 3)) ∧ (decode cX12_askOf 84 = .ok (.iload_n 3, 1)) ∧ (decode cX12_askOf 85 = .ok (.ireturn, 1)) := by decide +kernel
theorem dX12_askOf_57 : decode cX12_askOf 57 = .ok (.iload 5, 2) := dX12_askOf_57_a.1
theorem dX12_askOf_59 : decode cX12_askOf 59 = .ok (.goto 4, 3) := dX12_askOf_57_a.2.1
theorem dX12_askOf_62 : decode cX12_askOf 62 = .ok (.iload_n 3, 1) := dX12_askOf_57_a.2.2.1
theorem dX12_askOf_63 : decode cX12_askOf 63 = .ok (.istore_n 3, 1) := dX12_askOf_57_a.2.2.2.1
theorem dX12_askOf_64 : decode cX12_askOf 64 = .ok (.iload 7, 2) := dX12_askOf_57_a.2.2.2.2.1
theorem dX12_askOf_66 : decode cX12_askOf 66 = .ok (.ifCond .eq 8, 3) := dX12_askOf_57_a.2.2.2.2.2.1
theorem dX12_askOf_69 : decode cX12_askOf 69 = .ok (.iload 6, 2) := dX12_askOf_57_a.2.2.2.2.2.2.1
theorem dX12_askOf_71 : decode cX12_askOf 71 = .ok (.goto 5, 3) := dX12_askOf_57_a.2.2.2.2.2.2.2.1
theorem dX12_askOf_74 : decode cX12_askOf 74 = .ok (.iload 4, 2) := dX12_askOf_57_a.2.2.2.2.2.2.2.2.1
theorem dX12_askOf_76 : decode cX12_askOf 76 = .ok (.istore 4, 2) := dX12_askOf_57_a.2.2.2.2.2.2.2.2.2.1
theorem dX12_askOf_78 : decode cX12_askOf 78 = .ok (.iinc 5 1, 3) := dX12_askOf_57_a.2.2.2.2.2.2.2.2.2.2.1
theorem dX12_askOf_81 : decode cX12_askOf 81 = .ok (.goto (-67), 3) := dX12_askOf_57_a.2.2.2.2.2.2.2.2.2.2.2.1
theorem dX12_askOf_84 : decode cX12_askOf 84 = .ok (.iload_n 3, 1) := dX12_askOf_57_a.2.2.2.2.2.2.2.2.2.2.2.2.1
theorem dX12_askOf_85 : decode cX12_askOf 85 = .ok (.ireturn, 1) := dX12_askOf_57_a.2.2.2.2.2.2.2.2.2.2.2.2.2
theorem dX12_ask_0_a : (decode cX12_ask 0 = .ok (.aload_n 0, 1)) ∧ (decode cX12_ask 1 = .ok (.invokevirtual 141, 3)) ∧ (decode cX12_ask 4 = .ok (.aload_n 0, 1)) ∧ (decode cX12_ask 5 = .ok (.iload_n 1, 1)) ∧ (decode cX12_ask 6 = .ok (.invokevirtual 146, 3)) ∧ (decode cX12_ask 9 = .ok (.ifCond .eq 11, 3)) ∧ (decode cX12_ask 12 = .ok (.aload_n 0, 1)) ∧ (decode cX12_ask 13 = .ok (.iload_n 1, 1)) ∧ (decode cX12_ask 14 = .ok (.invokevirtual 256, 3)) ∧ (decode cX12_ask 17 = .ok (.goto 5, 3)) ∧ (decode cX12_ask 20 = .ok (.bipush (-2), 2)) ∧ (decode cX12_ask 22 = .ok (.ireturn, 1)) := by decide +kernel
theorem dX12_ask_0 : decode cX12_ask 0 = .ok (.aload_n 0, 1) := dX12_ask_0_a.1
theorem dX12_ask_1 : decode cX12_ask 1 = .ok (.invokevirtual 141, 3) := dX12_ask_0_a.2.1
theorem dX12_ask_4 : decode cX12_ask 4 = .ok (.aload_n 0, 1) := dX12_ask_0_a.2.2.1
theorem dX12_ask_5 : decode cX12_ask 5 = .ok (.iload_n 1, 1) := dX12_ask_0_a.2.2.2.1
theorem dX12_ask_6 : decode cX12_ask 6 = .ok (.invokevirtual 146, 3) := dX12_ask_0_a.2.2.2.2.1
theorem dX12_ask_9 : decode cX12_ask 9 = .ok (.ifCond .eq 11, 3) := dX12_ask_0_a.2.2.2.2.2.1
theorem dX12_ask_12 : decode cX12_ask 12 = .ok (.aload_n 0, 1) := dX12_ask_0_a.2.2.2.2.2.2.1
theorem dX12_ask_13 : decode cX12_ask 13 = .ok (.iload_n 1, 1) := dX12_ask_0_a.2.2.2.2.2.2.2.1
theorem dX12_ask_14 : decode cX12_ask 14 = .ok (.invokevirtual 256, 3) := dX12_ask_0_a.2.2.2.2.2.2.2.2.1
theorem dX12_ask_17 : decode cX12_ask 17 = .ok (.goto 5, 3) := dX12_ask_0_a.2.2.2.2.2.2.2.2.2.1
theorem dX12_ask_20 : decode cX12_ask 20 = .ok (.bipush (-2), 2) := dX12_ask_0_a.2.2.2.2.2.2.2.2.2.2.1
theorem dX12_ask_22 : decode cX12_ask 22 = .ok (.ireturn, 1) := dX12_ask_0_a.2.2.2.2.2.2.2.2.2.2.2
theorem dX12_towns_0_a : (decode cX12_towns 0 = .ok (.iconst 0, 1)) ∧ (decode cX12_towns 1 = .ok (.istore_n 1, 1)) ∧ (decode cX12_towns 2 = .ok (.iconst 0, 1)) ∧ (decode cX12_towns 3 = .ok (.istore_n 2, 1)) ∧ (decode cX12_towns 4 = .ok (.iload_n 2, 1)) ∧ (decode cX12_towns 5 = .ok (.aload_n 0, 1)) ∧ (decode cX12_towns 6 = .ok (.getfield 107, 3)) ∧ (decode cX12_towns 9 = .ok (.if_icmp .ge 28, 3)) ∧ (decode cX12_towns 12 = .ok (.iload_n 1, 1)) ∧ (decode cX12_towns 13 = .ok (.aload_n 0, 1)) ∧ (decode cX12_towns 14 = .ok (.getfield 28, 3)) ∧ (decode cX12_towns 17 = .ok (.iload_n 2, 1)) ∧ (decode cX12_towns 18 = .ok (.iaload, 1)) ∧ (decode cX12_towns 19 = .ok (.bipush 6, 2)) ∧ (decode cX12_towns 21 = .ok (.if_icmp .ge 7, 3)) ∧ (decode cX12_towns 24 = .ok (.iconst 1, 1)) := by decide +kernel
theorem dX12_towns_0 : decode cX12_towns 0 = .ok (.iconst 0, 1) := dX12_towns_0_a.1
theorem dX12_towns_1 : decode cX12_towns 1 = .ok (.istore_n 1, 1) := dX12_towns_0_a.2.1
theorem dX12_towns_2 : decode cX12_towns 2 = .ok (.iconst 0, 1) := dX12_towns_0_a.2.2.1
theorem dX12_towns_3 : decode cX12_towns 3 = .ok (.istore_n 2, 1) := dX12_towns_0_a.2.2.2.1
theorem dX12_towns_4 : decode cX12_towns 4 = .ok (.iload_n 2, 1) := dX12_towns_0_a.2.2.2.2.1
theorem dX12_towns_5 : decode cX12_towns 5 = .ok (.aload_n 0, 1) := dX12_towns_0_a.2.2.2.2.2.1
theorem dX12_towns_6 : decode cX12_towns 6 = .ok (.getfield 107, 3) := dX12_towns_0_a.2.2.2.2.2.2.1
theorem dX12_towns_9 : decode cX12_towns 9 = .ok (.if_icmp .ge 28, 3) := dX12_towns_0_a.2.2.2.2.2.2.2.1
theorem dX12_towns_12 : decode cX12_towns 12 = .ok (.iload_n 1, 1) := dX12_towns_0_a.2.2.2.2.2.2.2.2.1
theorem dX12_towns_13 : decode cX12_towns 13 = .ok (.aload_n 0, 1) := dX12_towns_0_a.2.2.2.2.2.2.2.2.2.1
theorem dX12_towns_14 : decode cX12_towns 14 = .ok (.getfield 28, 3) := dX12_towns_0_a.2.2.2.2.2.2.2.2.2.2.1
theorem dX12_towns_17 : decode cX12_towns 17 = .ok (.iload_n 2, 1) := dX12_towns_0_a.2.2.2.2.2.2.2.2.2.2.2.1
theorem dX12_towns_18 : decode cX12_towns 18 = .ok (.iaload, 1) := dX12_towns_0_a.2.2.2.2.2.2.2.2.2.2.2.2.1
theorem dX12_towns_19 : decode cX12_towns 19 = .ok (.bipush 6, 2) := dX12_towns_0_a.2.2.2.2.2.2.2.2.2.2.2.2.2.1
theorem dX12_towns_21 : decode cX12_towns 21 = .ok (.if_icmp .ge 7, 3) := dX12_towns_0_a.2.2.2.2.2.2.2.2.2.2.2.2.2.2.1
theorem dX12_towns_24 : decode cX12_towns 24 = .ok (.iconst 1, 1) := dX12_towns_0_a.2.2.2.2.2.2.2.2.2.2.2.2.2.2.2
theorem dX12_towns_25_a : (decode cX12_towns 25 = .ok (.goto 4, 3)) ∧ (decode cX12_towns 28 = .ok (.iconst 0, 1)) ∧ (decode cX12_towns 29 = .ok (.iadd, 1)) ∧ (decode cX12_towns 30 = .ok (.istore_n 1, 1)) ∧ (decode cX12_towns 31 = .ok (.iinc 2 1, 3)) ∧ (decode cX12_towns 34 = .ok (.goto (-30), 3)) ∧ (decode cX12_towns 37 = .ok (.iload_n 1, 1)) ∧ (decode cX12_towns 38 = .ok (.ireturn, 1)) := by decide +kernel
theorem dX12_towns_25 : decode cX12_towns 25 = .ok (.goto 4, 3) := dX12_towns_25_a.1
theorem dX12_towns_28 : decode cX12_towns 28 = .ok (.iconst 0, 1) := dX12_towns_25_a.2.1
theorem dX12_towns_29 : decode cX12_towns 29 = .ok (.iadd, 1) := dX12_towns_25_a.2.2.1
theorem dX12_towns_30 : decode cX12_towns 30 = .ok (.istore_n 1, 1) := dX12_towns_25_a.2.2.2.1
theorem dX12_towns_31 : decode cX12_towns 31 = .ok (.iinc 2 1, 3) := dX12_towns_25_a.2.2.2.2.1
theorem dX12_towns_34 : decode cX12_towns 34 = .ok (.goto (-30), 3) := dX12_towns_25_a.2.2.2.2.2.1
theorem dX12_towns_37 : decode cX12_towns 37 = .ok (.iload_n 1, 1) := dX12_towns_25_a.2.2.2.2.2.2.1
theorem dX12_towns_38 : decode cX12_towns 38 = .ok (.ireturn, 1) := dX12_towns_25_a.2.2.2.2.2.2.2
theorem dX12_calls_0_a : (decode cX12_calls 0 = .ok (.iconst 0, 1)) ∧ (decode cX12_calls 1 = .ok (.istore_n 2, 1)) ∧ (decode cX12_calls 2 = .ok (.iconst 0, 1)) ∧ (decode cX12_calls 3 = .ok (.istore_n 3, 1)) ∧ (decode cX12_calls 4 = .ok (.iconst 0, 1)) ∧ (decode cX12_calls 5 = .ok (.istore 4, 2)) ∧ (decode cX12_calls 7 = .ok (.iload 4, 2)) ∧ (decode cX12_calls 9 = .ok (.aload_n 0, 1)) ∧ (decode cX12_calls 10 = .ok (.getfield 107, 3)) ∧ (decode cX12_calls 13 = .ok (.if_icmp .ge 43, 3)) ∧ (decode cX12_calls 16 = .ok (.aload_n 0, 1)) ∧ (decode cX12_calls 17 = .ok (.getfield 28, 3)) ∧ (decode cX12_calls 20 = .ok (.iload 4, 2)) ∧ (decode cX12_calls 22 = .ok (.iaload, 1)) ∧ (decode cX12_calls 23 = .ok (.bipush 6, 2)) ∧ (decode cX12_calls 25 = .ok (.if_icmp .ge 25, 3)) := by decide +kernel
theorem dX12_calls_0 : decode cX12_calls 0 = .ok (.iconst 0, 1) := dX12_calls_0_a.1
theorem dX12_calls_1 : decode cX12_calls 1 = .ok (.istore_n 2, 1) := dX12_calls_0_a.2.1
theorem dX12_calls_2 : decode cX12_calls 2 = .ok (.iconst 0, 1) := dX12_calls_0_a.2.2.1
theorem dX12_calls_3 : decode cX12_calls 3 = .ok (.istore_n 3, 1) := dX12_calls_0_a.2.2.2.1
theorem dX12_calls_4 : decode cX12_calls 4 = .ok (.iconst 0, 1) := dX12_calls_0_a.2.2.2.2.1
theorem dX12_calls_5 : decode cX12_calls 5 = .ok (.istore 4, 2) := dX12_calls_0_a.2.2.2.2.2.1
theorem dX12_calls_7 : decode cX12_calls 7 = .ok (.iload 4, 2) := dX12_calls_0_a.2.2.2.2.2.2.1
theorem dX12_calls_9 : decode cX12_calls 9 = .ok (.aload_n 0, 1) := dX12_calls_0_a.2.2.2.2.2.2.2.1
theorem dX12_calls_10 : decode cX12_calls 10 = .ok (.getfield 107, 3) := dX12_calls_0_a.2.2.2.2.2.2.2.2.1
theorem dX12_calls_13 : decode cX12_calls 13 = .ok (.if_icmp .ge 43, 3) := dX12_calls_0_a.2.2.2.2.2.2.2.2.2.1
theorem dX12_calls_16 : decode cX12_calls 16 = .ok (.aload_n 0, 1) := dX12_calls_0_a.2.2.2.2.2.2.2.2.2.2.1
theorem dX12_calls_17 : decode cX12_calls 17 = .ok (.getfield 28, 3) := dX12_calls_0_a.2.2.2.2.2.2.2.2.2.2.2.1
theorem dX12_calls_20 : decode cX12_calls 20 = .ok (.iload 4, 2) := dX12_calls_0_a.2.2.2.2.2.2.2.2.2.2.2.2.1
theorem dX12_calls_22 : decode cX12_calls 22 = .ok (.iaload, 1) := dX12_calls_0_a.2.2.2.2.2.2.2.2.2.2.2.2.2.1
theorem dX12_calls_23 : decode cX12_calls 23 = .ok (.bipush 6, 2) := dX12_calls_0_a.2.2.2.2.2.2.2.2.2.2.2.2.2.2.1
theorem dX12_calls_25 : decode cX12_calls 25 = .ok (.if_icmp .ge 25, 3) := dX12_calls_0_a.2.2.2.2.2.2.2.2.2.2.2.2.2.2.2
theorem dX12_calls_28_a : (decode cX12_calls 28 = .ok (.iload_n 2, 1)) ∧ (decode cX12_calls 29 = .ok (.iload_n 1, 1)) ∧ (decode cX12_calls 30 = .ok (.iload_n 3, 1)) ∧ (decode cX12_calls 31 = .ok (.invokestatic 180, 3)) ∧ (decode cX12_calls 34 = .ok (.ifCond .eq 10, 3)) ∧ (decode cX12_calls 37 = .ok (.iconst 1, 1)) ∧ (decode cX12_calls 38 = .ok (.iload 4, 2)) ∧ (decode cX12_calls 40 = .ok (.ishl, 1)) ∧ (decode cX12_calls 41 = .ok (.goto 4, 3)) ∧ (decode cX12_calls 44 = .ok (.iconst 0, 1)) ∧ (decode cX12_calls 45 = .ok (.ior, 1)) ∧ (decode cX12_calls 46 = .ok (.istore_n 2, 1)) ∧ (decode cX12_calls 47 = .ok (.iinc 3 1, 3)) ∧ (decode cX12_calls 50 = .ok (.iinc 4 1, 3)) ∧ (decode cX12_calls 53 = .ok (.goto (-46), 3)) ∧ (decode cX12_calls 56 = .ok (.iload_n 2, 1)) := by decide +kernel
theorem dX12_calls_28 : decode cX12_calls 28 = .ok (.iload_n 2, 1) := dX12_calls_28_a.1
theorem dX12_calls_29 : decode cX12_calls 29 = .ok (.iload_n 1, 1) := dX12_calls_28_a.2.1
theorem dX12_calls_30 : decode cX12_calls 30 = .ok (.iload_n 3, 1) := dX12_calls_28_a.2.2.1
theorem dX12_calls_31 : decode cX12_calls 31 = .ok (.invokestatic 180, 3) := dX12_calls_28_a.2.2.2.1
theorem dX12_calls_34 : decode cX12_calls 34 = .ok (.ifCond .eq 10, 3) := dX12_calls_28_a.2.2.2.2.1
theorem dX12_calls_37 : decode cX12_calls 37 = .ok (.iconst 1, 1) := dX12_calls_28_a.2.2.2.2.2.1
theorem dX12_calls_38 : decode cX12_calls 38 = .ok (.iload 4, 2) := dX12_calls_28_a.2.2.2.2.2.2.1
theorem dX12_calls_40 : decode cX12_calls 40 = .ok (.ishl, 1) := dX12_calls_28_a.2.2.2.2.2.2.2.1
theorem dX12_calls_41 : decode cX12_calls 41 = .ok (.goto 4, 3) := dX12_calls_28_a.2.2.2.2.2.2.2.2.1
theorem dX12_calls_44 : decode cX12_calls 44 = .ok (.iconst 0, 1) := dX12_calls_28_a.2.2.2.2.2.2.2.2.2.1
theorem dX12_calls_45 : decode cX12_calls 45 = .ok (.ior, 1) := dX12_calls_28_a.2.2.2.2.2.2.2.2.2.2.1
theorem dX12_calls_46 : decode cX12_calls 46 = .ok (.istore_n 2, 1) := dX12_calls_28_a.2.2.2.2.2.2.2.2.2.2.2.1
theorem dX12_calls_47 : decode cX12_calls 47 = .ok (.iinc 3 1, 3) := dX12_calls_28_a.2.2.2.2.2.2.2.2.2.2.2.2.1
theorem dX12_calls_50 : decode cX12_calls 50 = .ok (.iinc 4 1, 3) := dX12_calls_28_a.2.2.2.2.2.2.2.2.2.2.2.2.2.1
theorem dX12_calls_53 : decode cX12_calls 53 = .ok (.goto (-46), 3) := dX12_calls_28_a.2.2.2.2.2.2.2.2.2.2.2.2.2.2.1
theorem dX12_calls_56 : decode cX12_calls 56 = .ok (.iload_n 2, 1) := dX12_calls_28_a.2.2.2.2.2.2.2.2.2.2.2.2.2.2.2
theorem dX12_calls_57 : decode cX12_calls 57 = .ok (.ireturn, 1) := by decide +kernel
theorem dX12_laughOf_0_a : (decode cX12_laughOf 0 = .ok (.lconst 0, 1)) ∧ (decode cX12_laughOf 1 = .ok (.lstore 5, 2)) ∧ (decode cX12_laughOf 3 = .ok (.iconst 0, 1)) ∧ (decode cX12_laughOf 4 = .ok (.istore 7, 2)) ∧ (decode cX12_laughOf 6 = .ok (.iload 7, 2)) ∧ (decode cX12_laughOf 8 = .ok (.iconst 1, 1)) ∧ (decode cX12_laughOf 9 = .ok (.iload_n 3, 1)) ∧ (decode cX12_laughOf 10 = .ok (.ishl, 1)) ∧ (decode cX12_laughOf 11 = .ok (.if_icmp .ge 81, 3)) ∧ (decode cX12_laughOf 14 = .ok (.aload_n 0, 1)) ∧ (decode cX12_laughOf 15 = .ok (.aload_n 0, 1)) ∧ (decode cX12_laughOf 16 = .ok (.iload 7, 2)) ∧ (decode cX12_laughOf 18 = .ok (.invokevirtual 259, 3)) ∧ (decode cX12_laughOf 21 = .ok (.putfield 59, 3)) ∧ (decode cX12_laughOf 24 = .ok (.aload_n 0, 1)) ∧ (decode cX12_laughOf 25 = .ok (.iload_n 2, 1)) := by decide +kernel
theorem dX12_laughOf_0 : decode cX12_laughOf 0 = .ok (.lconst 0, 1) := dX12_laughOf_0_a.1
theorem dX12_laughOf_1 : decode cX12_laughOf 1 = .ok (.lstore 5, 2) := dX12_laughOf_0_a.2.1
theorem dX12_laughOf_3 : decode cX12_laughOf 3 = .ok (.iconst 0, 1) := dX12_laughOf_0_a.2.2.1
theorem dX12_laughOf_4 : decode cX12_laughOf 4 = .ok (.istore 7, 2) := dX12_laughOf_0_a.2.2.2.1
theorem dX12_laughOf_6 : decode cX12_laughOf 6 = .ok (.iload 7, 2) := dX12_laughOf_0_a.2.2.2.2.1
theorem dX12_laughOf_8 : decode cX12_laughOf 8 = .ok (.iconst 1, 1) := dX12_laughOf_0_a.2.2.2.2.2.1
theorem dX12_laughOf_9 : decode cX12_laughOf 9 = .ok (.iload_n 3, 1) := dX12_laughOf_0_a.2.2.2.2.2.2.1
theorem dX12_laughOf_10 : decode cX12_laughOf 10 = .ok (.ishl, 1) := dX12_laughOf_0_a.2.2.2.2.2.2.2.1
theorem dX12_laughOf_11 : decode cX12_laughOf 11 = .ok (.if_icmp .ge 81, 3) := dX12_laughOf_0_a.2.2.2.2.2.2.2.2.1
theorem dX12_laughOf_14 : decode cX12_laughOf 14 = .ok (.aload_n 0, 1) := dX12_laughOf_0_a.2.2.2.2.2.2.2.2.2.1
theorem dX12_laughOf_15 : decode cX12_laughOf 15 = .ok (.aload_n 0, 1) := dX12_laughOf_0_a.2.2.2.2.2.2.2.2.2.2.1
theorem dX12_laughOf_16 : decode cX12_laughOf 16 = .ok (.iload 7, 2) := dX12_laughOf_0_a.2.2.2.2.2.2.2.2.2.2.2.1
theorem dX12_laughOf_18 : decode cX12_laughOf 18 = .ok (.invokevirtual 259, 3) := dX12_laughOf_0_a.2.2.2.2.2.2.2.2.2.2.2.2.1
theorem dX12_laughOf_21 : decode cX12_laughOf 21 = .ok (.putfield 59, 3) := dX12_laughOf_0_a.2.2.2.2.2.2.2.2.2.2.2.2.2.1
theorem dX12_laughOf_24 : decode cX12_laughOf 24 = .ok (.aload_n 0, 1) := dX12_laughOf_0_a.2.2.2.2.2.2.2.2.2.2.2.2.2.2.1
theorem dX12_laughOf_25 : decode cX12_laughOf 25 = .ok (.iload_n 2, 1) := dX12_laughOf_0_a.2.2.2.2.2.2.2.2.2.2.2.2.2.2.2
theorem dX12_laughOf_26_a : (decode cX12_laughOf 26 = .ok (.invokevirtual 206, 3)) ∧ (decode cX12_laughOf 29 = .ok (.aload_n 0, 1)) ∧ (decode cX12_laughOf 30 = .ok (.getfield 196, 3)) ∧ (decode cX12_laughOf 33 = .ok (.ifCond .ne 53, 3)) ∧ (decode cX12_laughOf 36 = .ok (.lconst 1, 1)) ∧ (decode cX12_laughOf 37 = .ok (.lstore 8, 2)) ∧ (decode cX12_laughOf 39 = .ok (.iconst 0, 1)) ∧ (decode cX12_laughOf 40 = .ok (.istore 10, 2)) ∧ (decode cX12_laughOf 42 = .ok (.iload 10, 2)) ∧ (decode cX12_laughOf 44 = .ok (.iload_n 3, 1)) ∧ (decode cX12_laughOf 45 = .ok (.if_icmp .ge 34, 3)) ∧ (decode cX12_laughOf 48 = .ok (.lload 8, 2)) ∧ (decode cX12_laughOf 50 = .ok (.iload 7, 2)) ∧ (decode cX12_laughOf 52 = .ok (.iload 10, 2)) ∧ (decode cX12_laughOf 54 = .ok (.invokestatic 180, 3)) ∧ (decode cX12_laughOf 57 = .ok (.ifCond .eq 8, 3)) := by decide +kernel
theorem dX12_laughOf_26 : decode cX12_laughOf 26 = .ok (.invokevirtual 206, 3) := dX12_laughOf_26_a.1
theorem dX12_laughOf_29 : decode cX12_laughOf 29 = .ok (.aload_n 0, 1) := dX12_laughOf_26_a.2.1
theorem dX12_laughOf_30 : decode cX12_laughOf 30 = .ok (.getfield 196, 3) := dX12_laughOf_26_a.2.2.1
theorem dX12_laughOf_33 : decode cX12_laughOf 33 = .ok (.ifCond .ne 53, 3) := dX12_laughOf_26_a.2.2.2.1
theorem dX12_laughOf_36 : decode cX12_laughOf 36 = .ok (.lconst 1, 1) := dX12_laughOf_26_a.2.2.2.2.1
theorem dX12_laughOf_37 : decode cX12_laughOf 37 = .ok (.lstore 8, 2) := dX12_laughOf_26_a.2.2.2.2.2.1
theorem dX12_laughOf_39 : decode cX12_laughOf 39 = .ok (.iconst 0, 1) := dX12_laughOf_26_a.2.2.2.2.2.2.1
theorem dX12_laughOf_40 : decode cX12_laughOf 40 = .ok (.istore 10, 2) := dX12_laughOf_26_a.2.2.2.2.2.2.2.1
theorem dX12_laughOf_42 : decode cX12_laughOf 42 = .ok (.iload 10, 2) := dX12_laughOf_26_a.2.2.2.2.2.2.2.2.1
theorem dX12_laughOf_44 : decode cX12_laughOf 44 = .ok (.iload_n 3, 1) := dX12_laughOf_26_a.2.2.2.2.2.2.2.2.2.1
theorem dX12_laughOf_45 : decode cX12_laughOf 45 = .ok (.if_icmp .ge 34, 3) := dX12_laughOf_26_a.2.2.2.2.2.2.2.2.2.2.1
theorem dX12_laughOf_48 : decode cX12_laughOf 48 = .ok (.lload 8, 2) := dX12_laughOf_26_a.2.2.2.2.2.2.2.2.2.2.2.1
theorem dX12_laughOf_50 : decode cX12_laughOf 50 = .ok (.iload 7, 2) := dX12_laughOf_26_a.2.2.2.2.2.2.2.2.2.2.2.2.1
theorem dX12_laughOf_52 : decode cX12_laughOf 52 = .ok (.iload 10, 2) := dX12_laughOf_26_a.2.2.2.2.2.2.2.2.2.2.2.2.2.1
theorem dX12_laughOf_54 : decode cX12_laughOf 54 = .ok (.invokestatic 180, 3) := dX12_laughOf_26_a.2.2.2.2.2.2.2.2.2.2.2.2.2.2.1
theorem dX12_laughOf_57 : decode cX12_laughOf 57 = .ok (.ifCond .eq 8, 3) := dX12_laughOf_26_a.2.2.2.2.2.2.2.2.2.2.2.2.2.2.2
theorem dX12_laughOf_60_a : (decode cX12_laughOf 60 = .ok (.iload_n 1, 1)) ∧ (decode cX12_laughOf 61 = .ok (.i2l, 1)) ∧ (decode cX12_laughOf 62 = .ok (.goto 8, 3)) ∧ (decode cX12_laughOf 65 = .ok (.bipush 16, 2)) ∧ (decode cX12_laughOf 67 = .ok (.iload_n 1, 1)) ∧ (decode cX12_laughOf 68 = .ok (.isub, 1)) ∧ (decode cX12_laughOf 69 = .ok (.i2l, 1)) ∧ (decode cX12_laughOf 70 = .ok (.lmul, 1)) ∧ (decode cX12_laughOf 71 = .ok (.lstore 8, 2)) ∧ (decode cX12_laughOf 73 = .ok (.iinc 10 1, 3)) ∧ (decode cX12_laughOf 76 = .ok (.goto (-34), 3)) ∧ (decode cX12_laughOf 79 = .ok (.lload 5, 2)) ∧ (decode cX12_laughOf 81 = .ok (.lload 8, 2)) ∧ (decode cX12_laughOf 83 = .ok (.ladd, 1)) ∧ (decode cX12_laughOf 84 = .ok (.lstore 5, 2)) ∧ (decode cX12_laughOf 86 = .ok (.iinc 7 1, 3)) := by decide +kernel
theorem dX12_laughOf_60 : decode cX12_laughOf 60 = .ok (.iload_n 1, 1) := dX12_laughOf_60_a.1
theorem dX12_laughOf_61 : decode cX12_laughOf 61 = .ok (.i2l, 1) := dX12_laughOf_60_a.2.1
theorem dX12_laughOf_62 : decode cX12_laughOf 62 = .ok (.goto 8, 3) := dX12_laughOf_60_a.2.2.1
theorem dX12_laughOf_65 : decode cX12_laughOf 65 = .ok (.bipush 16, 2) := dX12_laughOf_60_a.2.2.2.1
theorem dX12_laughOf_67 : decode cX12_laughOf 67 = .ok (.iload_n 1, 1) := dX12_laughOf_60_a.2.2.2.2.1
theorem dX12_laughOf_68 : decode cX12_laughOf 68 = .ok (.isub, 1) := dX12_laughOf_60_a.2.2.2.2.2.1
theorem dX12_laughOf_69 : decode cX12_laughOf 69 = .ok (.i2l, 1) := dX12_laughOf_60_a.2.2.2.2.2.2.1
theorem dX12_laughOf_70 : decode cX12_laughOf 70 = .ok (.lmul, 1) := dX12_laughOf_60_a.2.2.2.2.2.2.2.1
theorem dX12_laughOf_71 : decode cX12_laughOf 71 = .ok (.lstore 8, 2) := dX12_laughOf_60_a.2.2.2.2.2.2.2.2.1
theorem dX12_laughOf_73 : decode cX12_laughOf 73 = .ok (.iinc 10 1, 3) := dX12_laughOf_60_a.2.2.2.2.2.2.2.2.2.1
theorem dX12_laughOf_76 : decode cX12_laughOf 76 = .ok (.goto (-34), 3) := dX12_laughOf_60_a.2.2.2.2.2.2.2.2.2.2.1
theorem dX12_laughOf_79 : decode cX12_laughOf 79 = .ok (.lload 5, 2) := dX12_laughOf_60_a.2.2.2.2.2.2.2.2.2.2.2.1
theorem dX12_laughOf_81 : decode cX12_laughOf 81 = .ok (.lload 8, 2) := dX12_laughOf_60_a.2.2.2.2.2.2.2.2.2.2.2.2.1
theorem dX12_laughOf_83 : decode cX12_laughOf 83 = .ok (.ladd, 1) := dX12_laughOf_60_a.2.2.2.2.2.2.2.2.2.2.2.2.2.1
theorem dX12_laughOf_84 : decode cX12_laughOf 84 = .ok (.lstore 5, 2) := dX12_laughOf_60_a.2.2.2.2.2.2.2.2.2.2.2.2.2.2.1
theorem dX12_laughOf_86 : decode cX12_laughOf 86 = .ok (.iinc 7 1, 3) := dX12_laughOf_60_a.2.2.2.2.2.2.2.2.2.2.2.2.2.2.2
theorem dX12_laughOf_89_a : (decode cX12_laughOf 89 = .ok (.goto (-83), 3)) ∧ (decode cX12_laughOf 92 = .ok (.aload_n 0, 1)) ∧ (decode cX12_laughOf 93 = .ok (.ldc 58, 2)) ∧ (decode cX12_laughOf 95 = .ok (.putfield 59, 3)) ∧ (decode cX12_laughOf 98 = .ok (.lload 5, 2)) ∧ (decode cX12_laughOf 100 = .ok (.lconst 1, 1)) ∧ (decode cX12_laughOf 101 = .ok (.iconst 4, 1)) ∧ (decode cX12_laughOf 102 = .ok (.iload_n 3, 1)) ∧ (decode cX12_laughOf 103 = .ok (.imul, 1)) ∧ (decode cX12_laughOf 104 = .ok (.lshl, 1)) ∧ (decode cX12_laughOf 105 = .ok (.iload 4, 2)) ∧ (decode cX12_laughOf 107 = .ok (.invokestatic 262, 3)) ∧ (decode cX12_laughOf 110 = .ok (.lreturn, 1)) := by decide +kernel
theorem dX12_laughOf_89 : decode cX12_laughOf 89 = .ok (.goto (-83), 3) := dX12_laughOf_89_a.1
theorem dX12_laughOf_92 : decode cX12_laughOf 92 = .ok (.aload_n 0, 1) := dX12_laughOf_89_a.2.1
theorem dX12_laughOf_93 : decode cX12_laughOf 93 = .ok (.ldc 58, 2) := dX12_laughOf_89_a.2.2.1
theorem dX12_laughOf_95 : decode cX12_laughOf 95 = .ok (.putfield 59, 3) := dX12_laughOf_89_a.2.2.2.1
theorem dX12_laughOf_98 : decode cX12_laughOf 98 = .ok (.lload 5, 2) := dX12_laughOf_89_a.2.2.2.2.1
theorem dX12_laughOf_100 : decode cX12_laughOf 100 = .ok (.lconst 1, 1) := dX12_laughOf_89_a.2.2.2.2.2.1
theorem dX12_laughOf_101 : decode cX12_laughOf 101 = .ok (.iconst 4, 1) := dX12_laughOf_89_a.2.2.2.2.2.2.1
theorem dX12_laughOf_102 : decode cX12_laughOf 102 = .ok (.iload_n 3, 1) := dX12_laughOf_89_a.2.2.2.2.2.2.2.1
theorem dX12_laughOf_103 : decode cX12_laughOf 103 = .ok (.imul, 1) := dX12_laughOf_89_a.2.2.2.2.2.2.2.2.1
theorem dX12_laughOf_104 : decode cX12_laughOf 104 = .ok (.lshl, 1) := dX12_laughOf_89_a.2.2.2.2.2.2.2.2.2.1
theorem dX12_laughOf_105 : decode cX12_laughOf 105 = .ok (.iload 4, 2) := dX12_laughOf_89_a.2.2.2.2.2.2.2.2.2.2.1
theorem dX12_laughOf_107 : decode cX12_laughOf 107 = .ok (.invokestatic 262, 3) := dX12_laughOf_89_a.2.2.2.2.2.2.2.2.2.2.2.1
theorem dX12_laughOf_110 : decode cX12_laughOf 110 = .ok (.lreturn, 1) := dX12_laughOf_89_a.2.2.2.2.2.2.2.2.2.2.2.2
theorem dX12_laugh_0_a : (decode cX12_laugh 0 = .ok (.aload_n 0, 1)) ∧ (decode cX12_laugh 1 = .ok (.invokevirtual 141, 3)) ∧ (decode cX12_laugh 4 = .ok (.aload_n 0, 1)) ∧ (decode cX12_laugh 5 = .ok (.invokevirtual 266, 3)) ∧ (decode cX12_laugh 8 = .ok (.istore 4, 2)) ∧ (decode cX12_laugh 10 = .ok (.iload_n 1, 1)) ∧ (decode cX12_laugh 11 = .ok (.i2l, 1)) ∧ (decode cX12_laugh 12 = .ok (.lconst 0, 1)) ∧ (decode cX12_laugh 13 = .ok (.ldc2_w 269, 3)) ∧ (decode cX12_laugh 16 = .ok (.invokestatic 65, 3)) ∧ (decode cX12_laugh 19 = .ok (.ifCond .eq 37, 3)) ∧ (decode cX12_laugh 22 = .ok (.aload_n 0, 1)) ∧ (decode cX12_laugh 23 = .ok (.iload_n 2, 1)) ∧ (decode cX12_laugh 24 = .ok (.invokevirtual 212, 3)) ∧ (decode cX12_laugh 27 = .ok (.ifCond .eq 29, 3)) ∧ (decode cX12_laugh 30 = .ok (.iload_n 3, 1)) := by decide +kernel
theorem dX12_laugh_0 : decode cX12_laugh 0 = .ok (.aload_n 0, 1) := dX12_laugh_0_a.1
theorem dX12_laugh_1 : decode cX12_laugh 1 = .ok (.invokevirtual 141, 3) := dX12_laugh_0_a.2.1
theorem dX12_laugh_4 : decode cX12_laugh 4 = .ok (.aload_n 0, 1) := dX12_laugh_0_a.2.2.1
theorem dX12_laugh_5 : decode cX12_laugh 5 = .ok (.invokevirtual 266, 3) := dX12_laugh_0_a.2.2.2.1
theorem dX12_laugh_8 : decode cX12_laugh 8 = .ok (.istore 4, 2) := dX12_laugh_0_a.2.2.2.2.1
theorem dX12_laugh_10 : decode cX12_laugh 10 = .ok (.iload_n 1, 1) := dX12_laugh_0_a.2.2.2.2.2.1
theorem dX12_laugh_11 : decode cX12_laugh 11 = .ok (.i2l, 1) := dX12_laugh_0_a.2.2.2.2.2.2.1
theorem dX12_laugh_12 : decode cX12_laugh 12 = .ok (.lconst 0, 1) := dX12_laugh_0_a.2.2.2.2.2.2.2.1
theorem dX12_laugh_13 : decode cX12_laugh 13 = .ok (.ldc2_w 269, 3) := dX12_laugh_0_a.2.2.2.2.2.2.2.2.1
theorem dX12_laugh_16 : decode cX12_laugh 16 = .ok (.invokestatic 65, 3) := dX12_laugh_0_a.2.2.2.2.2.2.2.2.2.1
theorem dX12_laugh_19 : decode cX12_laugh 19 = .ok (.ifCond .eq 37, 3) := dX12_laugh_0_a.2.2.2.2.2.2.2.2.2.2.1
theorem dX12_laugh_22 : decode cX12_laugh 22 = .ok (.aload_n 0, 1) := dX12_laugh_0_a.2.2.2.2.2.2.2.2.2.2.2.1
theorem dX12_laugh_23 : decode cX12_laugh 23 = .ok (.iload_n 2, 1) := dX12_laugh_0_a.2.2.2.2.2.2.2.2.2.2.2.2.1
theorem dX12_laugh_24 : decode cX12_laugh 24 = .ok (.invokevirtual 212, 3) := dX12_laugh_0_a.2.2.2.2.2.2.2.2.2.2.2.2.2.1
theorem dX12_laugh_27 : decode cX12_laugh 27 = .ok (.ifCond .eq 29, 3) := dX12_laugh_0_a.2.2.2.2.2.2.2.2.2.2.2.2.2.2.1
theorem dX12_laugh_30 : decode cX12_laugh 30 = .ok (.iload_n 3, 1) := dX12_laugh_0_a.2.2.2.2.2.2.2.2.2.2.2.2.2.2.2
theorem dX12_laugh_31_a : (decode cX12_laugh 31 = .ok (.invokestatic 152, 3)) ∧ (decode cX12_laugh 34 = .ok (.ifCond .eq 22, 3)) ∧ (decode cX12_laugh 37 = .ok (.iload 4, 2)) ∧ (decode cX12_laugh 39 = .ok (.bipush 10, 2)) ∧ (decode cX12_laugh 41 = .ok (.if_icmp .gt 15, 3)) ∧ (decode cX12_laugh 44 = .ok (.aload_n 0, 1)) ∧ (decode cX12_laugh 45 = .ok (.iload_n 1, 1)) ∧ (decode cX12_laugh 46 = .ok (.iload_n 2, 1)) ∧ (decode cX12_laugh 47 = .ok (.iload 4, 2)) ∧ (decode cX12_laugh 49 = .ok (.iload_n 3, 1)) ∧ (decode cX12_laugh 50 = .ok (.invokevirtual 271, 3)) ∧ (decode cX12_laugh 53 = .ok (.goto 8, 3)) ∧ (decode cX12_laugh 56 = .ok (.bipush (-2), 2)) ∧ (decode cX12_laugh 58 = .ok (.invokestatic 275, 3)) ∧ (decode cX12_laugh 61 = .ok (.lreturn, 1)) := by decide +kernel
theorem dX12_laugh_31 : decode cX12_laugh 31 = .ok (.invokestatic 152, 3) := dX12_laugh_31_a.1
theorem dX12_laugh_34 : decode cX12_laugh 34 = .ok (.ifCond .eq 22, 3) := dX12_laugh_31_a.2.1
theorem dX12_laugh_37 : decode cX12_laugh 37 = .ok (.iload 4, 2) := dX12_laugh_31_a.2.2.1
theorem dX12_laugh_39 : decode cX12_laugh 39 = .ok (.bipush 10, 2) := dX12_laugh_31_a.2.2.2.1
theorem dX12_laugh_41 : decode cX12_laugh 41 = .ok (.if_icmp .gt 15, 3) := dX12_laugh_31_a.2.2.2.2.1
theorem dX12_laugh_44 : decode cX12_laugh 44 = .ok (.aload_n 0, 1) := dX12_laugh_31_a.2.2.2.2.2.1
theorem dX12_laugh_45 : decode cX12_laugh 45 = .ok (.iload_n 1, 1) := dX12_laugh_31_a.2.2.2.2.2.2.1
theorem dX12_laugh_46 : decode cX12_laugh 46 = .ok (.iload_n 2, 1) := dX12_laugh_31_a.2.2.2.2.2.2.2.1
theorem dX12_laugh_47 : decode cX12_laugh 47 = .ok (.iload 4, 2) := dX12_laugh_31_a.2.2.2.2.2.2.2.2.1
theorem dX12_laugh_49 : decode cX12_laugh 49 = .ok (.iload_n 3, 1) := dX12_laugh_31_a.2.2.2.2.2.2.2.2.2.1
theorem dX12_laugh_50 : decode cX12_laugh 50 = .ok (.invokevirtual 271, 3) := dX12_laugh_31_a.2.2.2.2.2.2.2.2.2.2.1
theorem dX12_laugh_53 : decode cX12_laugh 53 = .ok (.goto 8, 3) := dX12_laugh_31_a.2.2.2.2.2.2.2.2.2.2.2.1
theorem dX12_laugh_56 : decode cX12_laugh 56 = .ok (.bipush (-2), 2) := dX12_laugh_31_a.2.2.2.2.2.2.2.2.2.2.2.2.1
theorem dX12_laugh_58 : decode cX12_laugh 58 = .ok (.invokestatic 275, 3) := dX12_laugh_31_a.2.2.2.2.2.2.2.2.2.2.2.2.2.1
theorem dX12_laugh_61 : decode cX12_laugh 61 = .ok (.lreturn, 1) := dX12_laugh_31_a.2.2.2.2.2.2.2.2.2.2.2.2.2.2
theorem dX12_lot_0_a : (decode cX12_lot 0 = .ok (.aload_n 0, 1)) ∧ (decode cX12_lot 1 = .ok (.ldc_w 279, 3)) ∧ (decode cX12_lot 4 = .ok (.aload_n 0, 1)) ∧ (decode cX12_lot 5 = .ok (.getfield 280, 3)) ∧ (decode cX12_lot 8 = .ok (.imul, 1)) ∧ (decode cX12_lot 9 = .ok (.sipush 12345, 3)) ∧ (decode cX12_lot 12 = .ok (.iadd, 1)) ∧ (decode cX12_lot 13 = .ok (.putfield 280, 3)) ∧ (decode cX12_lot 16 = .ok (.aload_n 0, 1)) ∧ (decode cX12_lot 17 = .ok (.getfield 280, 3)) ∧ (decode cX12_lot 20 = .ok (.bipush 16, 2)) ∧ (decode cX12_lot 22 = .ok (.iushr, 1)) ∧ (decode cX12_lot 23 = .ok (.iload_n 1, 1)) ∧ (decode cX12_lot 24 = .ok (.irem, 1)) ∧ (decode cX12_lot 25 = .ok (.ireturn, 1)) := by decide +kernel
theorem dX12_lot_0 : decode cX12_lot 0 = .ok (.aload_n 0, 1) := dX12_lot_0_a.1
theorem dX12_lot_1 : decode cX12_lot 1 = .ok (.ldc_w 279, 3) := dX12_lot_0_a.2.1
theorem dX12_lot_4 : decode cX12_lot 4 = .ok (.aload_n 0, 1) := dX12_lot_0_a.2.2.1
theorem dX12_lot_5 : decode cX12_lot 5 = .ok (.getfield 280, 3) := dX12_lot_0_a.2.2.2.1
theorem dX12_lot_8 : decode cX12_lot 8 = .ok (.imul, 1) := dX12_lot_0_a.2.2.2.2.1
theorem dX12_lot_9 : decode cX12_lot 9 = .ok (.sipush 12345, 3) := dX12_lot_0_a.2.2.2.2.2.1
theorem dX12_lot_12 : decode cX12_lot 12 = .ok (.iadd, 1) := dX12_lot_0_a.2.2.2.2.2.2.1
theorem dX12_lot_13 : decode cX12_lot 13 = .ok (.putfield 280, 3) := dX12_lot_0_a.2.2.2.2.2.2.2.1
theorem dX12_lot_16 : decode cX12_lot 16 = .ok (.aload_n 0, 1) := dX12_lot_0_a.2.2.2.2.2.2.2.2.1
theorem dX12_lot_17 : decode cX12_lot 17 = .ok (.getfield 280, 3) := dX12_lot_0_a.2.2.2.2.2.2.2.2.2.1
theorem dX12_lot_20 : decode cX12_lot 20 = .ok (.bipush 16, 2) := dX12_lot_0_a.2.2.2.2.2.2.2.2.2.2.1
theorem dX12_lot_22 : decode cX12_lot 22 = .ok (.iushr, 1) := dX12_lot_0_a.2.2.2.2.2.2.2.2.2.2.2.1
theorem dX12_lot_23 : decode cX12_lot 23 = .ok (.iload_n 1, 1) := dX12_lot_0_a.2.2.2.2.2.2.2.2.2.2.2.2.1
theorem dX12_lot_24 : decode cX12_lot 24 = .ok (.irem, 1) := dX12_lot_0_a.2.2.2.2.2.2.2.2.2.2.2.2.2.1
theorem dX12_lot_25 : decode cX12_lot 25 = .ok (.ireturn, 1) := dX12_lot_0_a.2.2.2.2.2.2.2.2.2.2.2.2.2.2
theorem dX12_lakesOf_0_a : (decode cX12_lakesOf 0 = .ok (.aload_n 0, 1)) ∧ (decode cX12_lakesOf 1 = .ok (.iload_n 1, 1)) ∧ (decode cX12_lakesOf 2 = .ok (.putfield 280, 3)) ∧ (decode cX12_lakesOf 5 = .ok (.iconst 0, 1)) ∧ (decode cX12_lakesOf 6 = .ok (.istore 4, 2)) ∧ (decode cX12_lakesOf 8 = .ok (.iconst 0, 1)) ∧ (decode cX12_lakesOf 9 = .ok (.istore 5, 2)) ∧ (decode cX12_lakesOf 11 = .ok (.iload 5, 2)) ∧ (decode cX12_lakesOf 13 = .ok (.iload_n 2, 1)) ∧ (decode cX12_lakesOf 14 = .ok (.if_icmp .ge 120, 3)) ∧ (decode cX12_lakesOf 17 = .ok (.aload_n 0, 1)) ∧ (decode cX12_lakesOf 18 = .ok (.getfield 116, 3)) ∧ (decode cX12_lakesOf 21 = .ok (.ifCond .le 113, 3)) ∧ (decode cX12_lakesOf 24 = .ok (.aload_n 0, 1)) ∧ (decode cX12_lakesOf 25 = .ok (.getfield 122, 3)) ∧ (decode cX12_lakesOf 28 = .ok (.iconst 1, 1)) := by decide +kernel
theorem dX12_lakesOf_0 : decode cX12_lakesOf 0 = .ok (.aload_n 0, 1) := dX12_lakesOf_0_a.1
theorem dX12_lakesOf_1 : decode cX12_lakesOf 1 = .ok (.iload_n 1, 1) := dX12_lakesOf_0_a.2.1
theorem dX12_lakesOf_2 : decode cX12_lakesOf 2 = .ok (.putfield 280, 3) := dX12_lakesOf_0_a.2.2.1
theorem dX12_lakesOf_5 : decode cX12_lakesOf 5 = .ok (.iconst 0, 1) := dX12_lakesOf_0_a.2.2.2.1
theorem dX12_lakesOf_6 : decode cX12_lakesOf 6 = .ok (.istore 4, 2) := dX12_lakesOf_0_a.2.2.2.2.1
theorem dX12_lakesOf_8 : decode cX12_lakesOf 8 = .ok (.iconst 0, 1) := dX12_lakesOf_0_a.2.2.2.2.2.1
theorem dX12_lakesOf_9 : decode cX12_lakesOf 9 = .ok (.istore 5, 2) := dX12_lakesOf_0_a.2.2.2.2.2.2.1
theorem dX12_lakesOf_11 : decode cX12_lakesOf 11 = .ok (.iload 5, 2) := dX12_lakesOf_0_a.2.2.2.2.2.2.2.1
theorem dX12_lakesOf_13 : decode cX12_lakesOf 13 = .ok (.iload_n 2, 1) := dX12_lakesOf_0_a.2.2.2.2.2.2.2.2.1
theorem dX12_lakesOf_14 : decode cX12_lakesOf 14 = .ok (.if_icmp .ge 120, 3) := dX12_lakesOf_0_a.2.2.2.2.2.2.2.2.2.1
theorem dX12_lakesOf_17 : decode cX12_lakesOf 17 = .ok (.aload_n 0, 1) := dX12_lakesOf_0_a.2.2.2.2.2.2.2.2.2.2.1
theorem dX12_lakesOf_18 : decode cX12_lakesOf 18 = .ok (.getfield 116, 3) := dX12_lakesOf_0_a.2.2.2.2.2.2.2.2.2.2.2.1
theorem dX12_lakesOf_21 : decode cX12_lakesOf 21 = .ok (.ifCond .le 113, 3) := dX12_lakesOf_0_a.2.2.2.2.2.2.2.2.2.2.2.2.1
theorem dX12_lakesOf_24 : decode cX12_lakesOf 24 = .ok (.aload_n 0, 1) := dX12_lakesOf_0_a.2.2.2.2.2.2.2.2.2.2.2.2.2.1
theorem dX12_lakesOf_25 : decode cX12_lakesOf 25 = .ok (.getfield 122, 3) := dX12_lakesOf_0_a.2.2.2.2.2.2.2.2.2.2.2.2.2.2.1
theorem dX12_lakesOf_28 : decode cX12_lakesOf 28 = .ok (.iconst 1, 1) := dX12_lakesOf_0_a.2.2.2.2.2.2.2.2.2.2.2.2.2.2.2
theorem dX12_lakesOf_29_a : (decode cX12_lakesOf 29 = .ok (.if_icmp .le 105, 3)) ∧ (decode cX12_lakesOf 32 = .ok (.aload_n 0, 1)) ∧ (decode cX12_lakesOf 33 = .ok (.aload_n 0, 1)) ∧ (decode cX12_lakesOf 34 = .ok (.getfield 116, 3)) ∧ (decode cX12_lakesOf 37 = .ok (.invokevirtual 283, 3)) ∧ (decode cX12_lakesOf 40 = .ok (.istore 6, 2)) ∧ (decode cX12_lakesOf 42 = .ok (.aload_n 0, 1)) ∧ (decode cX12_lakesOf 43 = .ok (.aload_n 0, 1)) ∧ (decode cX12_lakesOf 44 = .ok (.getfield 122, 3)) ∧ (decode cX12_lakesOf 47 = .ok (.invokevirtual 283, 3)) ∧ (decode cX12_lakesOf 50 = .ok (.istore 7, 2)) ∧ (decode cX12_lakesOf 52 = .ok (.aload_n 0, 1)) ∧ (decode cX12_lakesOf 53 = .ok (.aload_n 0, 1)) ∧ (decode cX12_lakesOf 54 = .ok (.getfield 122, 3)) ∧ (decode cX12_lakesOf 57 = .ok (.iconst 1, 1)) ∧ (decode cX12_lakesOf 58 = .ok (.isub, 1)) := by decide +kernel
theorem dX12_lakesOf_29 : decode cX12_lakesOf 29 = .ok (.if_icmp .le 105, 3) := dX12_lakesOf_29_a.1
theorem dX12_lakesOf_32 : decode cX12_lakesOf 32 = .ok (.aload_n 0, 1) := dX12_lakesOf_29_a.2.1
theorem dX12_lakesOf_33 : decode cX12_lakesOf 33 = .ok (.aload_n 0, 1) := dX12_lakesOf_29_a.2.2.1
theorem dX12_lakesOf_34 : decode cX12_lakesOf 34 = .ok (.getfield 116, 3) := dX12_lakesOf_29_a.2.2.2.1
theorem dX12_lakesOf_37 : decode cX12_lakesOf 37 = .ok (.invokevirtual 283, 3) := dX12_lakesOf_29_a.2.2.2.2.1
theorem dX12_lakesOf_40 : decode cX12_lakesOf 40 = .ok (.istore 6, 2) := dX12_lakesOf_29_a.2.2.2.2.2.1
theorem dX12_lakesOf_42 : decode cX12_lakesOf 42 = .ok (.aload_n 0, 1) := dX12_lakesOf_29_a.2.2.2.2.2.2.1
theorem dX12_lakesOf_43 : decode cX12_lakesOf 43 = .ok (.aload_n 0, 1) := dX12_lakesOf_29_a.2.2.2.2.2.2.2.1
theorem dX12_lakesOf_44 : decode cX12_lakesOf 44 = .ok (.getfield 122, 3) := dX12_lakesOf_29_a.2.2.2.2.2.2.2.2.1
theorem dX12_lakesOf_47 : decode cX12_lakesOf 47 = .ok (.invokevirtual 283, 3) := dX12_lakesOf_29_a.2.2.2.2.2.2.2.2.2.1
theorem dX12_lakesOf_50 : decode cX12_lakesOf 50 = .ok (.istore 7, 2) := dX12_lakesOf_29_a.2.2.2.2.2.2.2.2.2.2.1
theorem dX12_lakesOf_52 : decode cX12_lakesOf 52 = .ok (.aload_n 0, 1) := dX12_lakesOf_29_a.2.2.2.2.2.2.2.2.2.2.2.1
theorem dX12_lakesOf_53 : decode cX12_lakesOf 53 = .ok (.aload_n 0, 1) := dX12_lakesOf_29_a.2.2.2.2.2.2.2.2.2.2.2.2.1
theorem dX12_lakesOf_54 : decode cX12_lakesOf 54 = .ok (.getfield 122, 3) := dX12_lakesOf_29_a.2.2.2.2.2.2.2.2.2.2.2.2.2.1
theorem dX12_lakesOf_57 : decode cX12_lakesOf 57 = .ok (.iconst 1, 1) := dX12_lakesOf_29_a.2.2.2.2.2.2.2.2.2.2.2.2.2.2.1
theorem dX12_lakesOf_58 : decode cX12_lakesOf 58 = .ok (.isub, 1) := dX12_lakesOf_29_a.2.2.2.2.2.2.2.2.2.2.2.2.2.2.2
theorem dX12_lakesOf_59_a : (decode cX12_lakesOf 59 = .ok (.invokevirtual 283, 3)) ∧ (decode cX12_lakesOf 62 = .ok (.istore 8, 2)) ∧ (decode cX12_lakesOf 64 = .ok (.iload 8, 2)) ∧ (decode cX12_lakesOf 66 = .ok (.iload 8, 2)) ∧ (decode cX12_lakesOf 68 = .ok (.iload 7, 2)) ∧ (decode cX12_lakesOf 70 = .ok (.if_icmp .lt 7, 3)) ∧ (decode cX12_lakesOf 73 = .ok (.iconst 1, 1)) ∧ (decode cX12_lakesOf 74 = .ok (.goto 4, 3)) ∧ (decode cX12_lakesOf 77 = .ok (.iconst 0, 1)) ∧ (decode cX12_lakesOf 78 = .ok (.iadd, 1)) ∧ (decode cX12_lakesOf 79 = .ok (.istore 8, 2)) ∧ (decode cX12_lakesOf 81 = .ok (.aload_n 0, 1)) ∧ (decode cX12_lakesOf 82 = .ok (.iload 6, 2)) ∧ (decode cX12_lakesOf 84 = .ok (.iload 7, 2)) ∧ (decode cX12_lakesOf 86 = .ok (.iload 8, 2)) ∧ (decode cX12_lakesOf 88 = .ok (.aload_n 0, 1)) := by decide +kernel
theorem dX12_lakesOf_59 : decode cX12_lakesOf 59 = .ok (.invokevirtual 283, 3) := dX12_lakesOf_59_a.1
theorem dX12_lakesOf_62 : decode cX12_lakesOf 62 = .ok (.istore 8, 2) := dX12_lakesOf_59_a.2.1
theorem dX12_lakesOf_64 : decode cX12_lakesOf 64 = .ok (.iload 8, 2) := dX12_lakesOf_59_a.2.2.1
theorem dX12_lakesOf_66 : decode cX12_lakesOf 66 = .ok (.iload 8, 2) := dX12_lakesOf_59_a.2.2.2.1
theorem dX12_lakesOf_68 : decode cX12_lakesOf 68 = .ok (.iload 7, 2) := dX12_lakesOf_59_a.2.2.2.2.1
theorem dX12_lakesOf_70 : decode cX12_lakesOf 70 = .ok (.if_icmp .lt 7, 3) := dX12_lakesOf_59_a.2.2.2.2.2.1
theorem dX12_lakesOf_73 : decode cX12_lakesOf 73 = .ok (.iconst 1, 1) := dX12_lakesOf_59_a.2.2.2.2.2.2.1
theorem dX12_lakesOf_74 : decode cX12_lakesOf 74 = .ok (.goto 4, 3) := dX12_lakesOf_59_a.2.2.2.2.2.2.2.1
theorem dX12_lakesOf_77 : decode cX12_lakesOf 77 = .ok (.iconst 0, 1) := dX12_lakesOf_59_a.2.2.2.2.2.2.2.2.1
theorem dX12_lakesOf_78 : decode cX12_lakesOf 78 = .ok (.iadd, 1) := dX12_lakesOf_59_a.2.2.2.2.2.2.2.2.2.1
theorem dX12_lakesOf_79 : decode cX12_lakesOf 79 = .ok (.istore 8, 2) := dX12_lakesOf_59_a.2.2.2.2.2.2.2.2.2.2.1
theorem dX12_lakesOf_81 : decode cX12_lakesOf 81 = .ok (.aload_n 0, 1) := dX12_lakesOf_59_a.2.2.2.2.2.2.2.2.2.2.2.1
theorem dX12_lakesOf_82 : decode cX12_lakesOf 82 = .ok (.iload 6, 2) := dX12_lakesOf_59_a.2.2.2.2.2.2.2.2.2.2.2.2.1
theorem dX12_lakesOf_84 : decode cX12_lakesOf 84 = .ok (.iload 7, 2) := dX12_lakesOf_59_a.2.2.2.2.2.2.2.2.2.2.2.2.2.1
theorem dX12_lakesOf_86 : decode cX12_lakesOf 86 = .ok (.iload 8, 2) := dX12_lakesOf_59_a.2.2.2.2.2.2.2.2.2.2.2.2.2.2.1
theorem dX12_lakesOf_88 : decode cX12_lakesOf 88 = .ok (.aload_n 0, 1) := dX12_lakesOf_59_a.2.2.2.2.2.2.2.2.2.2.2.2.2.2.2
theorem dX12_lakesOf_89_a : (decode cX12_lakesOf 89 = .ok (.bipush 9, 2)) ∧ (decode cX12_lakesOf 91 = .ok (.invokevirtual 283, 3)) ∧ (decode cX12_lakesOf 94 = .ok (.iconst 1, 1)) ∧ (decode cX12_lakesOf 95 = .ok (.iadd, 1)) ∧ (decode cX12_lakesOf 96 = .ok (.bipush 24, 2)) ∧ (decode cX12_lakesOf 98 = .ok (.iconst 0, 1)) ∧ (decode cX12_lakesOf 99 = .ok (.invokevirtual 202, 3)) ∧ (decode cX12_lakesOf 102 = .ok (.iload 4, 2)) ∧ (decode cX12_lakesOf 104 = .ok (.aload_n 0, 1)) ∧ (decode cX12_lakesOf 105 = .ok (.getfield 196, 3)) ∧ (decode cX12_lakesOf 108 = .ok (.iload_n 3, 1)) ∧ (decode cX12_lakesOf 109 = .ok (.ifCond .ne 7, 3)) ∧ (decode cX12_lakesOf 112 = .ok (.iconst 0, 1)) ∧ (decode cX12_lakesOf 113 = .ok (.goto 4, 3)) ∧ (decode cX12_lakesOf 116 = .ok (.iconst 3, 1)) ∧ (decode cX12_lakesOf 117 = .ok (.if_icmp .ne 7, 3)) := by decide +kernel
theorem dX12_lakesOf_89 : decode cX12_lakesOf 89 = .ok (.bipush 9, 2) := dX12_lakesOf_89_a.1
theorem dX12_lakesOf_91 : decode cX12_lakesOf 91 = .ok (.invokevirtual 283, 3) := dX12_lakesOf_89_a.2.1
theorem dX12_lakesOf_94 : decode cX12_lakesOf 94 = .ok (.iconst 1, 1) := dX12_lakesOf_89_a.2.2.1
theorem dX12_lakesOf_95 : decode cX12_lakesOf 95 = .ok (.iadd, 1) := dX12_lakesOf_89_a.2.2.2.1
theorem dX12_lakesOf_96 : decode cX12_lakesOf 96 = .ok (.bipush 24, 2) := dX12_lakesOf_89_a.2.2.2.2.1
theorem dX12_lakesOf_98 : decode cX12_lakesOf 98 = .ok (.iconst 0, 1) := dX12_lakesOf_89_a.2.2.2.2.2.1
theorem dX12_lakesOf_99 : decode cX12_lakesOf 99 = .ok (.invokevirtual 202, 3) := dX12_lakesOf_89_a.2.2.2.2.2.2.1
theorem dX12_lakesOf_102 : decode cX12_lakesOf 102 = .ok (.iload 4, 2) := dX12_lakesOf_89_a.2.2.2.2.2.2.2.1
theorem dX12_lakesOf_104 : decode cX12_lakesOf 104 = .ok (.aload_n 0, 1) := dX12_lakesOf_89_a.2.2.2.2.2.2.2.2.1
theorem dX12_lakesOf_105 : decode cX12_lakesOf 105 = .ok (.getfield 196, 3) := dX12_lakesOf_89_a.2.2.2.2.2.2.2.2.2.1
theorem dX12_lakesOf_108 : decode cX12_lakesOf 108 = .ok (.iload_n 3, 1) := dX12_lakesOf_89_a.2.2.2.2.2.2.2.2.2.2.1
theorem dX12_lakesOf_109 : decode cX12_lakesOf 109 = .ok (.ifCond .ne 7, 3) := dX12_lakesOf_89_a.2.2.2.2.2.2.2.2.2.2.2.1
theorem dX12_lakesOf_112 : decode cX12_lakesOf 112 = .ok (.iconst 0, 1) := dX12_lakesOf_89_a.2.2.2.2.2.2.2.2.2.2.2.2.1
theorem dX12_lakesOf_113 : decode cX12_lakesOf 113 = .ok (.goto 4, 3) := dX12_lakesOf_89_a.2.2.2.2.2.2.2.2.2.2.2.2.2.1
theorem dX12_lakesOf_116 : decode cX12_lakesOf 116 = .ok (.iconst 3, 1) := dX12_lakesOf_89_a.2.2.2.2.2.2.2.2.2.2.2.2.2.2.1
theorem dX12_lakesOf_117 : decode cX12_lakesOf 117 = .ok (.if_icmp .ne 7, 3) := dX12_lakesOf_89_a.2.2.2.2.2.2.2.2.2.2.2.2.2.2.2
theorem dX12_lakesOf_120_a : (decode cX12_lakesOf 120 = .ok (.iconst 1, 1)) ∧ (decode cX12_lakesOf 121 = .ok (.goto 4, 3)) ∧ (decode cX12_lakesOf 124 = .ok (.iconst 0, 1)) ∧ (decode cX12_lakesOf 125 = .ok (.iadd, 1)) ∧ (decode cX12_lakesOf 126 = .ok (.istore 4, 2)) ∧ (decode cX12_lakesOf 128 = .ok (.iinc 5 1, 3)) ∧ (decode cX12_lakesOf 131 = .ok (.goto (-120), 3)) ∧ (decode cX12_lakesOf 134 = .ok (.iload 4, 2)) ∧ (decode cX12_lakesOf 136 = .ok (.ireturn, 1)) := by decide +kernel
theorem dX12_lakesOf_120 : decode cX12_lakesOf 120 = .ok (.iconst 1, 1) := dX12_lakesOf_120_a.1
theorem dX12_lakesOf_121 : decode cX12_lakesOf 121 = .ok (.goto 4, 3) := dX12_lakesOf_120_a.2.1
theorem dX12_lakesOf_124 : decode cX12_lakesOf 124 = .ok (.iconst 0, 1) := dX12_lakesOf_120_a.2.2.1
theorem dX12_lakesOf_125 : decode cX12_lakesOf 125 = .ok (.iadd, 1) := dX12_lakesOf_120_a.2.2.2.1
theorem dX12_lakesOf_126 : decode cX12_lakesOf 126 = .ok (.istore 4, 2) := dX12_lakesOf_120_a.2.2.2.2.1
theorem dX12_lakesOf_128 : decode cX12_lakesOf 128 = .ok (.iinc 5 1, 3) := dX12_lakesOf_120_a.2.2.2.2.2.1
theorem dX12_lakesOf_131 : decode cX12_lakesOf 131 = .ok (.goto (-120), 3) := dX12_lakesOf_120_a.2.2.2.2.2.2.1
theorem dX12_lakesOf_134 : decode cX12_lakesOf 134 = .ok (.iload 4, 2) := dX12_lakesOf_120_a.2.2.2.2.2.2.2.1
theorem dX12_lakesOf_136 : decode cX12_lakesOf 136 = .ok (.ireturn, 1) := dX12_lakesOf_120_a.2.2.2.2.2.2.2.2
theorem dX12_lakes_0_a : (decode cX12_lakes 0 = .ok (.aload_n 0, 1)) ∧ (decode cX12_lakes 1 = .ok (.invokevirtual 141, 3)) ∧ (decode cX12_lakes 4 = .ok (.iload_n 2, 1)) ∧ (decode cX12_lakes 5 = .ok (.i2l, 1)) ∧ (decode cX12_lakes 6 = .ok (.lconst 1, 1)) ∧ (decode cX12_lakes 7 = .ok (.ldc2_w 286, 3)) ∧ (decode cX12_lakes 10 = .ok (.invokestatic 65, 3)) ∧ (decode cX12_lakes 13 = .ok (.ifCond .eq 20, 3)) ∧ (decode cX12_lakes 16 = .ok (.iload_n 3, 1)) ∧ (decode cX12_lakes 17 = .ok (.invokestatic 152, 3)) ∧ (decode cX12_lakes 20 = .ok (.ifCond .eq 13, 3)) ∧ (decode cX12_lakes 23 = .ok (.aload_n 0, 1)) ∧ (decode cX12_lakes 24 = .ok (.iload_n 1, 1)) ∧ (decode cX12_lakes 25 = .ok (.iload_n 2, 1)) ∧ (decode cX12_lakes 26 = .ok (.iload_n 3, 1)) ∧ (decode cX12_lakes 27 = .ok (.invokevirtual 288, 3)) := by decide +kernel
theorem dX12_lakes_0 : decode cX12_lakes 0 = .ok (.aload_n 0, 1) := dX12_lakes_0_a.1
theorem dX12_lakes_1 : decode cX12_lakes 1 = .ok (.invokevirtual 141, 3) := dX12_lakes_0_a.2.1
theorem dX12_lakes_4 : decode cX12_lakes 4 = .ok (.iload_n 2, 1) := dX12_lakes_0_a.2.2.1
theorem dX12_lakes_5 : decode cX12_lakes 5 = .ok (.i2l, 1) := dX12_lakes_0_a.2.2.2.1
theorem dX12_lakes_6 : decode cX12_lakes 6 = .ok (.lconst 1, 1) := dX12_lakes_0_a.2.2.2.2.1
theorem dX12_lakes_7 : decode cX12_lakes 7 = .ok (.ldc2_w 286, 3) := dX12_lakes_0_a.2.2.2.2.2.1
theorem dX12_lakes_10 : decode cX12_lakes 10 = .ok (.invokestatic 65, 3) := dX12_lakes_0_a.2.2.2.2.2.2.1
theorem dX12_lakes_13 : decode cX12_lakes 13 = .ok (.ifCond .eq 20, 3) := dX12_lakes_0_a.2.2.2.2.2.2.2.1
theorem dX12_lakes_16 : decode cX12_lakes 16 = .ok (.iload_n 3, 1) := dX12_lakes_0_a.2.2.2.2.2.2.2.2.1
theorem dX12_lakes_17 : decode cX12_lakes 17 = .ok (.invokestatic 152, 3) := dX12_lakes_0_a.2.2.2.2.2.2.2.2.2.1
theorem dX12_lakes_20 : decode cX12_lakes 20 = .ok (.ifCond .eq 13, 3) := dX12_lakes_0_a.2.2.2.2.2.2.2.2.2.2.1
theorem dX12_lakes_23 : decode cX12_lakes 23 = .ok (.aload_n 0, 1) := dX12_lakes_0_a.2.2.2.2.2.2.2.2.2.2.2.1
theorem dX12_lakes_24 : decode cX12_lakes 24 = .ok (.iload_n 1, 1) := dX12_lakes_0_a.2.2.2.2.2.2.2.2.2.2.2.2.1
theorem dX12_lakes_25 : decode cX12_lakes 25 = .ok (.iload_n 2, 1) := dX12_lakes_0_a.2.2.2.2.2.2.2.2.2.2.2.2.2.1
theorem dX12_lakes_26 : decode cX12_lakes 26 = .ok (.iload_n 3, 1) := dX12_lakes_0_a.2.2.2.2.2.2.2.2.2.2.2.2.2.2.1
theorem dX12_lakes_27 : decode cX12_lakes 27 = .ok (.invokevirtual 288, 3) := dX12_lakes_0_a.2.2.2.2.2.2.2.2.2.2.2.2.2.2.2
theorem dX12_lakes_30_a : (decode cX12_lakes 30 = .ok (.goto 5, 3)) ∧ (decode cX12_lakes 33 = .ok (.bipush (-2), 2)) ∧ (decode cX12_lakes 35 = .ok (.ireturn, 1)) := by decide +kernel
theorem dX12_lakes_30 : decode cX12_lakes 30 = .ok (.goto 5, 3) := dX12_lakes_30_a.1
theorem dX12_lakes_33 : decode cX12_lakes 33 = .ok (.bipush (-2), 2) := dX12_lakes_30_a.2.1
theorem dX12_lakes_35 : decode cX12_lakes 35 = .ok (.ireturn, 1) := dX12_lakes_30_a.2.2
theorem dX12_write_0_a : (decode cX12_write 0 = .ok (.aload_n 0, 1)) ∧ (decode cX12_write 1 = .ok (.iload_n 1, 1)) ∧ (decode cX12_write 2 = .ok (.invokevirtual 212, 3)) ∧ (decode cX12_write 5 = .ok (.ifCond .eq 17, 3)) ∧ (decode cX12_write 8 = .ok (.iload_n 2, 1)) ∧ (decode cX12_write 9 = .ok (.invokestatic 152, 3)) ∧ (decode cX12_write 12 = .ok (.ifCond .eq 10, 3)) ∧ (decode cX12_write 15 = .ok (.iload_n 3, 1)) ∧ (decode cX12_write 16 = .ok (.invokestatic 74, 3)) ∧ (decode cX12_write 19 = .ok (.ifCond .ne 6, 3)) ∧ (decode cX12_write 22 = .ok (.bipush (-2), 2)) ∧ (decode cX12_write 24 = .ok (.ireturn, 1)) ∧ (decode cX12_write 25 = .ok (.aload_n 0, 1)) ∧ (decode cX12_write 26 = .ok (.getfield 7, 3)) ∧ (decode cX12_write 29 = .ok (.iload_n 3, 1)) ∧ (decode cX12_write 30 = .ok (.iaload, 1)) := by decide +kernel
theorem dX12_write_0 : decode cX12_write 0 = .ok (.aload_n 0, 1) := dX12_write_0_a.1
theorem dX12_write_1 : decode cX12_write 1 = .ok (.iload_n 1, 1) := dX12_write_0_a.2.1
theorem dX12_write_2 : decode cX12_write 2 = .ok (.invokevirtual 212, 3) := dX12_write_0_a.2.2.1
theorem dX12_write_5 : decode cX12_write 5 = .ok (.ifCond .eq 17, 3) := dX12_write_0_a.2.2.2.1
theorem dX12_write_8 : decode cX12_write 8 = .ok (.iload_n 2, 1) := dX12_write_0_a.2.2.2.2.1
theorem dX12_write_9 : decode cX12_write 9 = .ok (.invokestatic 152, 3) := dX12_write_0_a.2.2.2.2.2.1
theorem dX12_write_12 : decode cX12_write 12 = .ok (.ifCond .eq 10, 3) := dX12_write_0_a.2.2.2.2.2.2.1
theorem dX12_write_15 : decode cX12_write 15 = .ok (.iload_n 3, 1) := dX12_write_0_a.2.2.2.2.2.2.2.1
theorem dX12_write_16 : decode cX12_write 16 = .ok (.invokestatic 74, 3) := dX12_write_0_a.2.2.2.2.2.2.2.2.1
theorem dX12_write_19 : decode cX12_write 19 = .ok (.ifCond .ne 6, 3) := dX12_write_0_a.2.2.2.2.2.2.2.2.2.1
theorem dX12_write_22 : decode cX12_write 22 = .ok (.bipush (-2), 2) := dX12_write_0_a.2.2.2.2.2.2.2.2.2.2.1
theorem dX12_write_24 : decode cX12_write 24 = .ok (.ireturn, 1) := dX12_write_0_a.2.2.2.2.2.2.2.2.2.2.2.1
theorem dX12_write_25 : decode cX12_write 25 = .ok (.aload_n 0, 1) := dX12_write_0_a.2.2.2.2.2.2.2.2.2.2.2.2.1
theorem dX12_write_26 : decode cX12_write 26 = .ok (.getfield 7, 3) := dX12_write_0_a.2.2.2.2.2.2.2.2.2.2.2.2.2.1
theorem dX12_write_29 : decode cX12_write 29 = .ok (.iload_n 3, 1) := dX12_write_0_a.2.2.2.2.2.2.2.2.2.2.2.2.2.2.1
theorem dX12_write_30 : decode cX12_write 30 = .ok (.iaload, 1) := dX12_write_0_a.2.2.2.2.2.2.2.2.2.2.2.2.2.2.2
theorem dX12_write_31_a : (decode cX12_write 31 = .ok (.ifCond .ge 9, 3)) ∧ (decode cX12_write 34 = .ok (.aload_n 0, 1)) ∧ (decode cX12_write 35 = .ok (.iconst 1, 1)) ∧ (decode cX12_write 36 = .ok (.invokevirtual 80, 3)) ∧ (decode cX12_write 39 = .ok (.ireturn, 1)) ∧ (decode cX12_write 40 = .ok (.aload_n 0, 1)) ∧ (decode cX12_write 41 = .ok (.invokevirtual 141, 3)) ∧ (decode cX12_write 44 = .ok (.aload_n 0, 1)) ∧ (decode cX12_write 45 = .ok (.iload_n 1, 1)) ∧ (decode cX12_write 46 = .ok (.invokevirtual 206, 3)) ∧ (decode cX12_write 49 = .ok (.aload_n 0, 1)) ∧ (decode cX12_write 50 = .ok (.getfield 13, 3)) ∧ (decode cX12_write 53 = .ok (.iload_n 3, 1)) ∧ (decode cX12_write 54 = .ok (.iaload, 1)) ∧ (decode cX12_write 55 = .ok (.aload_n 0, 1)) ∧ (decode cX12_write 56 = .ok (.getfield 107, 3)) := by decide +kernel
theorem dX12_write_31 : decode cX12_write 31 = .ok (.ifCond .ge 9, 3) := dX12_write_31_a.1
theorem dX12_write_34 : decode cX12_write 34 = .ok (.aload_n 0, 1) := dX12_write_31_a.2.1
theorem dX12_write_35 : decode cX12_write 35 = .ok (.iconst 1, 1) := dX12_write_31_a.2.2.1
theorem dX12_write_36 : decode cX12_write 36 = .ok (.invokevirtual 80, 3) := dX12_write_31_a.2.2.2.1
theorem dX12_write_39 : decode cX12_write 39 = .ok (.ireturn, 1) := dX12_write_31_a.2.2.2.2.1
theorem dX12_write_40 : decode cX12_write 40 = .ok (.aload_n 0, 1) := dX12_write_31_a.2.2.2.2.2.1
theorem dX12_write_41 : decode cX12_write 41 = .ok (.invokevirtual 141, 3) := dX12_write_31_a.2.2.2.2.2.2.1
theorem dX12_write_44 : decode cX12_write 44 = .ok (.aload_n 0, 1) := dX12_write_31_a.2.2.2.2.2.2.2.1
