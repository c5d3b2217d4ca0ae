theorem dL_law_0_a : (decode cL_law 0 = .ok (.new 7, 3)) ∧ (decode cL_law 3 = .ok (.dup, 1)) ∧ (decode cL_law 4 = .ok (.invokespecial 9, 3)) ∧ (decode cL_law 7 = .ok (.astore_n 1, 1)) ∧ (decode cL_law 8 = .ok (.new 10, 3)) ∧ (decode cL_law 11 = .ok (.dup, 1)) ∧ (decode cL_law 12 = .ok (.invokespecial 12, 3)) ∧ (decode cL_law 15 = .ok (.astore_n 2, 1)) ∧ (decode cL_law 16 = .ok (.iconst 0, 1)) ∧ (decode cL_law 17 = .ok (.istore_n 3, 1)) ∧ (decode cL_law 18 = .ok (.iload_n 3, 1)) ∧ (decode cL_law 19 = .ok (.aload_n 0, 1)) ∧ (decode cL_law 20 = .ok (.arraylength, 1)) ∧ (decode cL_law 21 = .ok (.bipush 6, 2)) ∧ (decode cL_law 23 = .ok (.isub, 1)) ∧ (decode cL_law 24 = .ok (.if_icmp .gt 1155, 3)) := by decide +kernel
theorem dL_law_0 : decode cL_law 0 = .ok (.new 7, 3) := dL_law_0_a.1
theorem dL_law_3 : decode cL_law 3 = .ok (.dup, 1) := dL_law_0_a.2.1
theorem dL_law_4 : decode cL_law 4 = .ok (.invokespecial 9, 3) := dL_law_0_a.2.2.1
theorem dL_law_7 : decode cL_law 7 = .ok (.astore_n 1, 1) := dL_law_0_a.2.2.2.1
theorem dL_law_8 : decode cL_law 8 = .ok (.new 10, 3) := dL_law_0_a.2.2.2.2.1
theorem dL_law_11 : decode cL_law 11 = .ok (.dup, 1) := dL_law_0_a.2.2.2.2.2.1
theorem dL_law_12 : decode cL_law 12 = .ok (.invokespecial 12, 3) := dL_law_0_a.2.2.2.2.2.2.1
theorem dL_law_15 : decode cL_law 15 = .ok (.astore_n 2, 1) := dL_law_0_a.2.2.2.2.2.2.2.1
theorem dL_law_16 : decode cL_law 16 = .ok (.iconst 0, 1) := dL_law_0_a.2.2.2.2.2.2.2.2.1
theorem dL_law_17 : decode cL_law 17 = .ok (.istore_n 3, 1) := dL_law_0_a.2.2.2.2.2.2.2.2.2.1
theorem dL_law_18 : decode cL_law 18 = .ok (.iload_n 3, 1) := dL_law_0_a.2.2.2.2.2.2.2.2.2.2.1
theorem dL_law_19 : decode cL_law 19 = .ok (.aload_n 0, 1) := dL_law_0_a.2.2.2.2.2.2.2.2.2.2.2.1
theorem dL_law_20 : decode cL_law 20 = .ok (.arraylength, 1) := dL_law_0_a.2.2.2.2.2.2.2.2.2.2.2.2.1
theorem dL_law_21 : decode cL_law 21 = .ok (.bipush 6, 2) := dL_law_0_a.2.2.2.2.2.2.2.2.2.2.2.2.2.1
theorem dL_law_23 : decode cL_law 23 = .ok (.isub, 1) := dL_law_0_a.2.2.2.2.2.2.2.2.2.2.2.2.2.2.1
theorem dL_law_24 : decode cL_law 24 = .ok (.if_icmp .gt 1155, 3) := dL_law_0_a.2.2.2.2.2.2.2.2.2.2.2.2.2.2.2
theorem dL_law_27_a : (decode cL_law 27 = .ok (.aload_n 0, 1)) ∧ (decode cL_law 28 = .ok (.iload_n 3, 1)) ∧ (decode cL_law 29 = .ok (.iaload, 1)) ∧ (decode cL_law 30 = .ok (.bipush 31, 2)) ∧ (decode cL_law 32 = .ok (.iand, 1)) ∧ (decode cL_law 33 = .ok (.tableswitch 1140 0 31 #[143, 176, 199, 222, 245, 268, 301, 334, 387, 400, 423, 446, 479, 522, 535, 568, 601, 634, 667, 680, 703, 726, 749, 793, 836, 879, 902, 955, 998, 1061, 1104, 1127], 143)) ∧ (decode cL_law 176 = .ok (.aload_n 1, 1)) ∧ (decode cL_law 177 = .ok (.aload_n 0, 1)) ∧ (decode cL_law 178 = .ok (.iload_n 3, 1)) ∧ (decode cL_law 179 = .ok (.iconst 1, 1)) ∧ (decode cL_law 180 = .ok (.iadd, 1)) ∧ (decode cL_law 181 = .ok (.iaload, 1)) ∧ (decode cL_law 182 = .ok (.aload_n 0, 1)) ∧ (decode cL_law 183 = .ok (.iload_n 3, 1)) ∧ (decode cL_law 184 = .ok (.iconst 2, 1)) ∧ (decode cL_law 185 = .ok (.iadd, 1)) := by decide +kernel
theorem dL_law_27 : decode cL_law 27 = .ok (.aload_n 0, 1) := dL_law_27_a.1
theorem dL_law_28 : decode cL_law 28 = .ok (.iload_n 3, 1) := dL_law_27_a.2.1
theorem dL_law_29 : decode cL_law 29 = .ok (.iaload, 1) := dL_law_27_a.2.2.1
theorem dL_law_30 : decode cL_law 30 = .ok (.bipush 31, 2) := dL_law_27_a.2.2.2.1
theorem dL_law_32 : decode cL_law 32 = .ok (.iand, 1) := dL_law_27_a.2.2.2.2.1
theorem dL_law_33 : decode cL_law 33 = .ok (.tableswitch 1140 0 31 #[143, 176, 199, 222, 245, 268, 301, 334, 387, 400, 423, 446, 479, 522, 535, 568, 601, 634, 667, 680, 703, 726, 749, 793, 836, 879, 902, 955, 998, 1061, 1104, 1127], 143) := dL_law_27_a.2.2.2.2.2.1
theorem dL_law_176 : decode cL_law 176 = .ok (.aload_n 1, 1) := dL_law_27_a.2.2.2.2.2.2.1
theorem dL_law_177 : decode cL_law 177 = .ok (.aload_n 0, 1) := dL_law_27_a.2.2.2.2.2.2.2.1
theorem dL_law_178 : decode cL_law 178 = .ok (.iload_n 3, 1) := dL_law_27_a.2.2.2.2.2.2.2.2.1
theorem dL_law_179 : decode cL_law 179 = .ok (.iconst 1, 1) := dL_law_27_a.2.2.2.2.2.2.2.2.2.1
theorem dL_law_180 : decode cL_law 180 = .ok (.iadd, 1) := dL_law_27_a.2.2.2.2.2.2.2.2.2.2.1
theorem dL_law_181 : decode cL_law 181 = .ok (.iaload, 1) := dL_law_27_a.2.2.2.2.2.2.2.2.2.2.2.1
theorem dL_law_182 : decode cL_law 182 = .ok (.aload_n 0, 1) := dL_law_27_a.2.2.2.2.2.2.2.2.2.2.2.2.1
theorem dL_law_183 : decode cL_law 183 = .ok (.iload_n 3, 1) := dL_law_27_a.2.2.2.2.2.2.2.2.2.2.2.2.2.1
theorem dL_law_184 : decode cL_law 184 = .ok (.iconst 2, 1) := dL_law_27_a.2.2.2.2.2.2.2.2.2.2.2.2.2.2.1
theorem dL_law_185 : decode cL_law 185 = .ok (.iadd, 1) := dL_law_27_a.2.2.2.2.2.2.2.2.2.2.2.2.2.2.2
theorem dL_law_186_a : (decode cL_law 186 = .ok (.iaload, 1)) ∧ (decode cL_law 187 = .ok (.invokevirtual 13, 3)) ∧ (decode cL_law 190 = .ok (.pop, 1)) ∧ (decode cL_law 191 = .ok (.aload_n 2, 1)) ∧ (decode cL_law 192 = .ok (.aload_n 0, 1)) ∧ (decode cL_law 193 = .ok (.iload_n 3, 1)) ∧ (decode cL_law 194 = .ok (.iconst 1, 1)) ∧ (decode cL_law 195 = .ok (.iadd, 1)) ∧ (decode cL_law 196 = .ok (.iaload, 1)) ∧ (decode cL_law 197 = .ok (.aload_n 0, 1)) ∧ (decode cL_law 198 = .ok (.iload_n 3, 1)) ∧ (decode cL_law 199 = .ok (.iconst 2, 1)) ∧ (decode cL_law 200 = .ok (.iadd, 1)) ∧ (decode cL_law 201 = .ok (.iaload, 1)) ∧ (decode cL_law 202 = .ok (.invokevirtual 17, 3)) ∧ (decode cL_law 205 = .ok (.pop, 1)) := by decide +kernel
theorem dL_law_186 : decode cL_law 186 = .ok (.iaload, 1) := dL_law_186_a.1
theorem dL_law_187 : decode cL_law 187 = .ok (.invokevirtual 13, 3) := dL_law_186_a.2.1
theorem dL_law_190 : decode cL_law 190 = .ok (.pop, 1) := dL_law_186_a.2.2.1
theorem dL_law_191 : decode cL_law 191 = .ok (.aload_n 2, 1) := dL_law_186_a.2.2.2.1
theorem dL_law_192 : decode cL_law 192 = .ok (.aload_n 0, 1) := dL_law_186_a.2.2.2.2.1
theorem dL_law_193 : decode cL_law 193 = .ok (.iload_n 3, 1) := dL_law_186_a.2.2.2.2.2.1
theorem dL_law_194 : decode cL_law 194 = .ok (.iconst 1, 1) := dL_law_186_a.2.2.2.2.2.2.1
theorem dL_law_195 : decode cL_law 195 = .ok (.iadd, 1) := dL_law_186_a.2.2.2.2.2.2.2.1
theorem dL_law_196 : decode cL_law 196 = .ok (.iaload, 1) := dL_law_186_a.2.2.2.2.2.2.2.2.1
theorem dL_law_197 : decode cL_law 197 = .ok (.aload_n 0, 1) := dL_law_186_a.2.2.2.2.2.2.2.2.2.1
theorem dL_law_198 : decode cL_law 198 = .ok (.iload_n 3, 1) := dL_law_186_a.2.2.2.2.2.2.2.2.2.2.1
theorem dL_law_199 : decode cL_law 199 = .ok (.iconst 2, 1) := dL_law_186_a.2.2.2.2.2.2.2.2.2.2.2.1
theorem dL_law_200 : decode cL_law 200 = .ok (.iadd, 1) := dL_law_186_a.2.2.2.2.2.2.2.2.2.2.2.2.1
theorem dL_law_201 : decode cL_law 201 = .ok (.iaload, 1) := dL_law_186_a.2.2.2.2.2.2.2.2.2.2.2.2.2.1
theorem dL_law_202 : decode cL_law 202 = .ok (.invokevirtual 17, 3) := dL_law_186_a.2.2.2.2.2.2.2.2.2.2.2.2.2.2.1
theorem dL_law_205 : decode cL_law 205 = .ok (.pop, 1) := dL_law_186_a.2.2.2.2.2.2.2.2.2.2.2.2.2.2.2
theorem dL_law_206_a : (decode cL_law 206 = .ok (.goto 967, 3)) ∧ (decode cL_law 209 = .ok (.aload_n 1, 1)) ∧ (decode cL_law 210 = .ok (.aload_n 0, 1)) ∧ (decode cL_law 211 = .ok (.iload_n 3, 1)) ∧ (decode cL_law 212 = .ok (.iconst 1, 1)) ∧ (decode cL_law 213 = .ok (.iadd, 1)) ∧ (decode cL_law 214 = .ok (.iaload, 1)) ∧ (decode cL_law 215 = .ok (.invokevirtual 18, 3)) ∧ (decode cL_law 218 = .ok (.pop, 1)) ∧ (decode cL_law 219 = .ok (.aload_n 2, 1)) ∧ (decode cL_law 220 = .ok (.aload_n 0, 1)) ∧ (decode cL_law 221 = .ok (.iload_n 3, 1)) ∧ (decode cL_law 222 = .ok (.iconst 1, 1)) ∧ (decode cL_law 223 = .ok (.iadd, 1)) ∧ (decode cL_law 224 = .ok (.iaload, 1)) ∧ (decode cL_law 225 = .ok (.invokevirtual 22, 3)) := by decide +kernel
theorem dL_law_206 : decode cL_law 206 = .ok (.goto 967, 3) := dL_law_206_a.1
theorem dL_law_209 : decode cL_law 209 = .ok (.aload_n 1, 1) := dL_law_206_a.2.1
theorem dL_law_210 : decode cL_law 210 = .ok (.aload_n 0, 1) := dL_law_206_a.2.2.1
theorem dL_law_211 : decode cL_law 211 = .ok (.iload_n 3, 1) := dL_law_206_a.2.2.2.1
theorem dL_law_212 : decode cL_law 212 = .ok (.iconst 1, 1) := dL_law_206_a.2.2.2.2.1
theorem dL_law_213 : decode cL_law 213 = .ok (.iadd, 1) := dL_law_206_a.2.2.2.2.2.1
theorem dL_law_214 : decode cL_law 214 = .ok (.iaload, 1) := dL_law_206_a.2.2.2.2.2.2.1
theorem dL_law_215 : decode cL_law 215 = .ok (.invokevirtual 18, 3) := dL_law_206_a.2.2.2.2.2.2.2.1
theorem dL_law_218 : decode cL_law 218 = .ok (.pop, 1) := dL_law_206_a.2.2.2.2.2.2.2.2.1
theorem dL_law_219 : decode cL_law 219 = .ok (.aload_n 2, 1) := dL_law_206_a.2.2.2.2.2.2.2.2.2.1
theorem dL_law_220 : decode cL_law 220 = .ok (.aload_n 0, 1) := dL_law_206_a.2.2.2.2.2.2.2.2.2.2.1
theorem dL_law_221 : decode cL_law 221 = .ok (.iload_n 3, 1) := dL_law_206_a.2.2.2.2.2.2.2.2.2.2.2.1
theorem dL_law_222 : decode cL_law 222 = .ok (.iconst 1, 1) := dL_law_206_a.2.2.2.2.2.2.2.2.2.2.2.2.1
theorem dL_law_223 : decode cL_law 223 = .ok (.iadd, 1) := dL_law_206_a.2.2.2.2.2.2.2.2.2.2.2.2.2.1
theorem dL_law_224 : decode cL_law 224 = .ok (.iaload, 1) := dL_law_206_a.2.2.2.2.2.2.2.2.2.2.2.2.2.2.1
theorem dL_law_225 : decode cL_law 225 = .ok (.invokevirtual 22, 3) := dL_law_206_a.2.2.2.2.2.2.2.2.2.2.2.2.2.2.2
theorem dL_law_228_a : (decode cL_law 228 = .ok (.pop, 1)) ∧ (decode cL_law 229 = .ok (.goto 944, 3)) ∧ (decode cL_law 232 = .ok (.aload_n 1, 1)) ∧ (decode cL_law 233 = .ok (.aload_n 0, 1)) ∧ (decode cL_law 234 = .ok (.iload_n 3, 1)) ∧ (decode cL_law 235 = .ok (.iconst 1, 1)) ∧ (decode cL_law 236 = .ok (.iadd, 1)) ∧ (decode cL_law 237 = .ok (.iaload, 1)) ∧ (decode cL_law 238 = .ok (.invokevirtual 23, 3)) ∧ (decode cL_law 241 = .ok (.pop, 1)) ∧ (decode cL_law 242 = .ok (.aload_n 2, 1)) ∧ (decode cL_law 243 = .ok (.aload_n 0, 1)) ∧ (decode cL_law 244 = .ok (.iload_n 3, 1)) ∧ (decode cL_law 245 = .ok (.iconst 1, 1)) ∧ (decode cL_law 246 = .ok (.iadd, 1)) ∧ (decode cL_law 247 = .ok (.iaload, 1)) := by decide +kernel
theorem dL_law_228 : decode cL_law 228 = .ok (.pop, 1) := dL_law_228_a.1
theorem dL_law_229 : decode cL_law 229 = .ok (.goto 944, 3) := dL_law_228_a.2.1
theorem dL_law_232 : decode cL_law 232 = .ok (.aload_n 1, 1) := dL_law_228_a.2.2.1
theorem dL_law_233 : decode cL_law 233 = .ok (.aload_n 0, 1) := dL_law_228_a.2.2.2.1
theorem dL_law_234 : decode cL_law 234 = .ok (.iload_n 3, 1) := dL_law_228_a.2.2.2.2.1
theorem dL_law_235 : decode cL_law 235 = .ok (.iconst 1, 1) := dL_law_228_a.2.2.2.2.2.1
theorem dL_law_236 : decode cL_law 236 = .ok (.iadd, 1) := dL_law_228_a.2.2.2.2.2.2.1
theorem dL_law_237 : decode cL_law 237 = .ok (.iaload, 1) := dL_law_228_a.2.2.2.2.2.2.2.1
theorem dL_law_238 : decode cL_law 238 = .ok (.invokevirtual 23, 3) := dL_law_228_a.2.2.2.2.2.2.2.2.1
theorem dL_law_241 : decode cL_law 241 = .ok (.pop, 1) := dL_law_228_a.2.2.2.2.2.2.2.2.2.1
theorem dL_law_242 : decode cL_law 242 = .ok (.aload_n 2, 1) := dL_law_228_a.2.2.2.2.2.2.2.2.2.2.1
theorem dL_law_243 : decode cL_law 243 = .ok (.aload_n 0, 1) := dL_law_228_a.2.2.2.2.2.2.2.2.2.2.2.1
theorem dL_law_244 : decode cL_law 244 = .ok (.iload_n 3, 1) := dL_law_228_a.2.2.2.2.2.2.2.2.2.2.2.2.1
theorem dL_law_245 : decode cL_law 245 = .ok (.iconst 1, 1) := dL_law_228_a.2.2.2.2.2.2.2.2.2.2.2.2.2.1
theorem dL_law_246 : decode cL_law 246 = .ok (.iadd, 1) := dL_law_228_a.2.2.2.2.2.2.2.2.2.2.2.2.2.2.1
theorem dL_law_247 : decode cL_law 247 = .ok (.iaload, 1) := dL_law_228_a.2.2.2.2.2.2.2.2.2.2.2.2.2.2.2
theorem dL_law_248_a : (decode cL_law 248 = .ok (.invokevirtual 26, 3)) ∧ (decode cL_law 251 = .ok (.pop, 1)) ∧ (decode cL_law 252 = .ok (.goto 921, 3)) ∧ (decode cL_law 255 = .ok (.aload_n 1, 1)) ∧ (decode cL_law 256 = .ok (.aload_n 0, 1)) ∧ (decode cL_law 257 = .ok (.iload_n 3, 1)) ∧ (decode cL_law 258 = .ok (.iconst 1, 1)) ∧ (decode cL_law 259 = .ok (.iadd, 1)) ∧ (decode cL_law 260 = .ok (.iaload, 1)) ∧ (decode cL_law 261 = .ok (.invokevirtual 27, 3)) ∧ (decode cL_law 264 = .ok (.pop, 1)) ∧ (decode cL_law 265 = .ok (.aload_n 2, 1)) ∧ (decode cL_law 266 = .ok (.aload_n 0, 1)) ∧ (decode cL_law 267 = .ok (.iload_n 3, 1)) ∧ (decode cL_law 268 = .ok (.iconst 1, 1)) ∧ (decode cL_law 269 = .ok (.iadd, 1)) := by decide +kernel
theorem dL_law_248 : decode cL_law 248 = .ok (.invokevirtual 26, 3) := dL_law_248_a.1
theorem dL_law_251 : decode cL_law 251 = .ok (.pop, 1) := dL_law_248_a.2.1
theorem dL_law_252 : decode cL_law 252 = .ok (.goto 921, 3) := dL_law_248_a.2.2.1
theorem dL_law_255 : decode cL_law 255 = .ok (.aload_n 1, 1) := dL_law_248_a.2.2.2.1
theorem dL_law_256 : decode cL_law 256 = .ok (.aload_n 0, 1) := dL_law_248_a.2.2.2.2.1
theorem dL_law_257 : decode cL_law 257 = .ok (.iload_n 3, 1) := dL_law_248_a.2.2.2.2.2.1
theorem dL_law_258 : decode cL_law 258 = .ok (.iconst 1, 1) := dL_law_248_a.2.2.2.2.2.2.1
theorem dL_law_259 : decode cL_law 259 = .ok (.iadd, 1) := dL_law_248_a.2.2.2.2.2.2.2.1
theorem dL_law_260 : decode cL_law 260 = .ok (.iaload, 1) := dL_law_248_a.2.2.2.2.2.2.2.2.1
theorem dL_law_261 : decode cL_law 261 = .ok (.invokevirtual 27, 3) := dL_law_248_a.2.2.2.2.2.2.2.2.2.1
theorem dL_law_264 : decode cL_law 264 = .ok (.pop, 1) := dL_law_248_a.2.2.2.2.2.2.2.2.2.2.1
theorem dL_law_265 : decode cL_law 265 = .ok (.aload_n 2, 1) := dL_law_248_a.2.2.2.2.2.2.2.2.2.2.2.1
theorem dL_law_266 : decode cL_law 266 = .ok (.aload_n 0, 1) := dL_law_248_a.2.2.2.2.2.2.2.2.2.2.2.2.1
theorem dL_law_267 : decode cL_law 267 = .ok (.iload_n 3, 1) := dL_law_248_a.2.2.2.2.2.2.2.2.2.2.2.2.2.1
theorem dL_law_268 : decode cL_law 268 = .ok (.iconst 1, 1) := dL_law_248_a.2.2.2.2.2.2.2.2.2.2.2.2.2.2.1
theorem dL_law_269 : decode cL_law 269 = .ok (.iadd, 1) := dL_law_248_a.2.2.2.2.2.2.2.2.2.2.2.2.2.2.2
theorem dL_law_270_a : (decode cL_law 270 = .ok (.iaload, 1)) ∧ (decode cL_law 271 = .ok (.invokevirtual 30, 3)) ∧ (decode cL_law 274 = .ok (.pop, 1)) ∧ (decode cL_law 275 = .ok (.goto 898, 3)) ∧ (decode cL_law 278 = .ok (.aload_n 1, 1)) ∧ (decode cL_law 279 = .ok (.aload_n 0, 1)) ∧ (decode cL_law 280 = .ok (.iload_n 3, 1)) ∧ (decode cL_law 281 = .ok (.iconst 1, 1)) ∧ (decode cL_law 282 = .ok (.iadd, 1)) ∧ (decode cL_law 283 = .ok (.iaload, 1)) ∧ (decode cL_law 284 = .ok (.invokevirtual 31, 3)) ∧ (decode cL_law 287 = .ok (.pop, 1)) ∧ (decode cL_law 288 = .ok (.aload_n 2, 1)) ∧ (decode cL_law 289 = .ok (.aload_n 0, 1)) ∧ (decode cL_law 290 = .ok (.iload_n 3, 1)) ∧ (decode cL_law 291 = .ok (.iconst 1, 1)) := by decide +kernel
theorem dL_law_270 : decode cL_law 270 = .ok (.iaload, 1) := dL_law_270_a.1
theorem dL_law_271 : decode cL_law 271 = .ok (.invokevirtual 30, 3) := dL_law_270_a.2.1
theorem dL_law_274 : decode cL_law 274 = .ok (.pop, 1) := dL_law_270_a.2.2.1
theorem dL_law_275 : decode cL_law 275 = .ok (.goto 898, 3) := dL_law_270_a.2.2.2.1
theorem dL_law_278 : decode cL_law 278 = .ok (.aload_n 1, 1) := dL_law_270_a.2.2.2.2.1
theorem dL_law_279 : decode cL_law 279 = .ok (.aload_n 0, 1) := dL_law_270_a.2.2.2.2.2.1
theorem dL_law_280 : decode cL_law 280 = .ok (.iload_n 3, 1) := dL_law_270_a.2.2.2.2.2.2.1
theorem dL_law_281 : decode cL_law 281 = .ok (.iconst 1, 1) := dL_law_270_a.2.2.2.2.2.2.2.1
theorem dL_law_282 : decode cL_law 282 = .ok (.iadd, 1) := dL_law_270_a.2.2.2.2.2.2.2.2.1
theorem dL_law_283 : decode cL_law 283 = .ok (.iaload, 1) := dL_law_270_a.2.2.2.2.2.2.2.2.2.1
theorem dL_law_284 : decode cL_law 284 = .ok (.invokevirtual 31, 3) := dL_law_270_a.2.2.2.2.2.2.2.2.2.2.1
theorem dL_law_287 : decode cL_law 287 = .ok (.pop, 1) := dL_law_270_a.2.2.2.2.2.2.2.2.2.2.2.1
theorem dL_law_288 : decode cL_law 288 = .ok (.aload_n 2, 1) := dL_law_270_a.2.2.2.2.2.2.2.2.2.2.2.2.1
theorem dL_law_289 : decode cL_law 289 = .ok (.aload_n 0, 1) := dL_law_270_a.2.2.2.2.2.2.2.2.2.2.2.2.2.1
theorem dL_law_290 : decode cL_law 290 = .ok (.iload_n 3, 1) := dL_law_270_a.2.2.2.2.2.2.2.2.2.2.2.2.2.2.1
theorem dL_law_291 : decode cL_law 291 = .ok (.iconst 1, 1) := dL_law_270_a.2.2.2.2.2.2.2.2.2.2.2.2.2.2.2
theorem dL_law_292_a : (decode cL_law 292 = .ok (.iadd, 1)) ∧ (decode cL_law 293 = .ok (.iaload, 1)) ∧ (decode cL_law 294 = .ok (.invokevirtual 34, 3)) ∧ (decode cL_law 297 = .ok (.pop, 1)) ∧ (decode cL_law 298 = .ok (.goto 875, 3)) ∧ (decode cL_law 301 = .ok (.aload_n 1, 1)) ∧ (decode cL_law 302 = .ok (.aload_n 0, 1)) ∧ (decode cL_law 303 = .ok (.iload_n 3, 1)) ∧ (decode cL_law 304 = .ok (.iconst 1, 1)) ∧ (decode cL_law 305 = .ok (.iadd, 1)) ∧ (decode cL_law 306 = .ok (.iaload, 1)) ∧ (decode cL_law 307 = .ok (.aload_n 0, 1)) ∧ (decode cL_law 308 = .ok (.iload_n 3, 1)) ∧ (decode cL_law 309 = .ok (.iconst 2, 1)) ∧ (decode cL_law 310 = .ok (.iadd, 1)) ∧ (decode cL_law 311 = .ok (.iaload, 1)) := by decide +kernel
theorem dL_law_292 : decode cL_law 292 = .ok (.iadd, 1) := dL_law_292_a.1
theorem dL_law_293 : decode cL_law 293 = .ok (.iaload, 1) := dL_law_292_a.2.1
theorem dL_law_294 : decode cL_law 294 = .ok (.invokevirtual 34, 3) := dL_law_292_a.2.2.1
theorem dL_law_297 : decode cL_law 297 = .ok (.pop, 1) := dL_law_292_a.2.2.2.1
theorem dL_law_298 : decode cL_law 298 = .ok (.goto 875, 3) := dL_law_292_a.2.2.2.2.1
theorem dL_law_301 : decode cL_law 301 = .ok (.aload_n 1, 1) := dL_law_292_a.2.2.2.2.2.1
theorem dL_law_302 : decode cL_law 302 = .ok (.aload_n 0, 1) := dL_law_292_a.2.2.2.2.2.2.1
theorem dL_law_303 : decode cL_law 303 = .ok (.iload_n 3, 1) := dL_law_292_a.2.2.2.2.2.2.2.1
theorem dL_law_304 : decode cL_law 304 = .ok (.iconst 1, 1) := dL_law_292_a.2.2.2.2.2.2.2.2.1
theorem dL_law_305 : decode cL_law 305 = .ok (.iadd, 1) := dL_law_292_a.2.2.2.2.2.2.2.2.2.1
theorem dL_law_306 : decode cL_law 306 = .ok (.iaload, 1) := dL_law_292_a.2.2.2.2.2.2.2.2.2.2.1
theorem dL_law_307 : decode cL_law 307 = .ok (.aload_n 0, 1) := dL_law_292_a.2.2.2.2.2.2.2.2.2.2.2.1
theorem dL_law_308 : decode cL_law 308 = .ok (.iload_n 3, 1) := dL_law_292_a.2.2.2.2.2.2.2.2.2.2.2.2.1
theorem dL_law_309 : decode cL_law 309 = .ok (.iconst 2, 1) := dL_law_292_a.2.2.2.2.2.2.2.2.2.2.2.2.2.1
theorem dL_law_310 : decode cL_law 310 = .ok (.iadd, 1) := dL_law_292_a.2.2.2.2.2.2.2.2.2.2.2.2.2.2.1
theorem dL_law_311 : decode cL_law 311 = .ok (.iaload, 1) := dL_law_292_a.2.2.2.2.2.2.2.2.2.2.2.2.2.2.2
theorem dL_law_312_a : (decode cL_law 312 = .ok (.invokevirtual 35, 3)) ∧ (decode cL_law 315 = .ok (.pop, 1)) ∧ (decode cL_law 316 = .ok (.aload_n 2, 1)) ∧ (decode cL_law 317 = .ok (.aload_n 0, 1)) ∧ (decode cL_law 318 = .ok (.iload_n 3, 1)) ∧ (decode cL_law 319 = .ok (.iconst 1, 1)) ∧ (decode cL_law 320 = .ok (.iadd, 1)) ∧ (decode cL_law 321 = .ok (.iaload, 1)) ∧ (decode cL_law 322 = .ok (.aload_n 0, 1)) ∧ (decode cL_law 323 = .ok (.iload_n 3, 1)) ∧ (decode cL_law 324 = .ok (.iconst 2, 1)) ∧ (decode cL_law 325 = .ok (.iadd, 1)) ∧ (decode cL_law 326 = .ok (.iaload, 1)) ∧ (decode cL_law 327 = .ok (.invokevirtual 38, 3)) ∧ (decode cL_law 330 = .ok (.pop, 1)) ∧ (decode cL_law 331 = .ok (.goto 842, 3)) := by decide +kernel
theorem dL_law_312 : decode cL_law 312 = .ok (.invokevirtual 35, 3) := dL_law_312_a.1
theorem dL_law_315 : decode cL_law 315 = .ok (.pop, 1) := dL_law_312_a.2.1
theorem dL_law_316 : decode cL_law 316 = .ok (.aload_n 2, 1) := dL_law_312_a.2.2.1
theorem dL_law_317 : decode cL_law 317 = .ok (.aload_n 0, 1) := dL_law_312_a.2.2.2.1
theorem dL_law_318 : decode cL_law 318 = .ok (.iload_n 3, 1) := dL_law_312_a.2.2.2.2.1
theorem dL_law_319 : decode cL_law 319 = .ok (.iconst 1, 1) := dL_law_312_a.2.2.2.2.2.1
theorem dL_law_320 : decode cL_law 320 = .ok (.iadd, 1) := dL_law_312_a.2.2.2.2.2.2.1
theorem dL_law_321 : decode cL_law 321 = .ok (.iaload, 1) := dL_law_312_a.2.2.2.2.2.2.2.1
theorem dL_law_322 : decode cL_law 322 = .ok (.aload_n 0, 1) := dL_law_312_a.2.2.2.2.2.2.2.2.1
theorem dL_law_323 : decode cL_law 323 = .ok (.iload_n 3, 1) := dL_law_312_a.2.2.2.2.2.2.2.2.2.1
theorem dL_law_324 : decode cL_law 324 = .ok (.iconst 2, 1) := dL_law_312_a.2.2.2.2.2.2.2.2.2.2.1
theorem dL_law_325 : decode cL_law 325 = .ok (.iadd, 1) := dL_law_312_a.2.2.2.2.2.2.2.2.2.2.2.1
theorem dL_law_326 : decode cL_law 326 = .ok (.iaload, 1) := dL_law_312_a.2.2.2.2.2.2.2.2.2.2.2.2.1
theorem dL_law_327 : decode cL_law 327 = .ok (.invokevirtual 38, 3) := dL_law_312_a.2.2.2.2.2.2.2.2.2.2.2.2.2.1
theorem dL_law_330 : decode cL_law 330 = .ok (.pop, 1) := dL_law_312_a.2.2.2.2.2.2.2.2.2.2.2.2.2.2.1
theorem dL_law_331 : decode cL_law 331 = .ok (.goto 842, 3) := dL_law_312_a.2.2.2.2.2.2.2.2.2.2.2.2.2.2.2
theorem dL_law_334_a : (decode cL_law 334 = .ok (.aload_n 1, 1)) ∧ (decode cL_law 335 = .ok (.aload_n 0, 1)) ∧ (decode cL_law 336 = .ok (.iload_n 3, 1)) ∧ (decode cL_law 337 = .ok (.iconst 1, 1)) ∧ (decode cL_law 338 = .ok (.iadd, 1)) ∧ (decode cL_law 339 = .ok (.iaload, 1)) ∧ (decode cL_law 340 = .ok (.aload_n 0, 1)) ∧ (decode cL_law 341 = .ok (.iload_n 3, 1)) ∧ (decode cL_law 342 = .ok (.iconst 2, 1)) ∧ (decode cL_law 343 = .ok (.iadd, 1)) ∧ (decode cL_law 344 = .ok (.iaload, 1)) ∧ (decode cL_law 345 = .ok (.invokevirtual 39, 3)) ∧ (decode cL_law 348 = .ok (.pop, 1)) ∧ (decode cL_law 349 = .ok (.aload_n 2, 1)) ∧ (decode cL_law 350 = .ok (.aload_n 0, 1)) ∧ (decode cL_law 351 = .ok (.iload_n 3, 1)) := by decide +kernel
theorem dL_law_334 : decode cL_law 334 = .ok (.aload_n 1, 1) := dL_law_334_a.1
theorem dL_law_335 : decode cL_law 335 = .ok (.aload_n 0, 1) := dL_law_334_a.2.1
theorem dL_law_336 : decode cL_law 336 = .ok (.iload_n 3, 1) := dL_law_334_a.2.2.1
theorem dL_law_337 : decode cL_law 337 = .ok (.iconst 1, 1) := dL_law_334_a.2.2.2.1
theorem dL_law_338 : decode cL_law 338 = .ok (.iadd, 1) := dL_law_334_a.2.2.2.2.1
theorem dL_law_339 : decode cL_law 339 = .ok (.iaload, 1) := dL_law_334_a.2.2.2.2.2.1
theorem dL_law_340 : decode cL_law 340 = .ok (.aload_n 0, 1) := dL_law_334_a.2.2.2.2.2.2.1
theorem dL_law_341 : decode cL_law 341 = .ok (.iload_n 3, 1) := dL_law_334_a.2.2.2.2.2.2.2.1
theorem dL_law_342 : decode cL_law 342 = .ok (.iconst 2, 1) := dL_law_334_a.2.2.2.2.2.2.2.2.1
theorem dL_law_343 : decode cL_law 343 = .ok (.iadd, 1) := dL_law_334_a.2.2.2.2.2.2.2.2.2.1
theorem dL_law_344 : decode cL_law 344 = .ok (.iaload, 1) := dL_law_334_a.2.2.2.2.2.2.2.2.2.2.1
theorem dL_law_345 : decode cL_law 345 = .ok (.invokevirtual 39, 3) := dL_law_334_a.2.2.2.2.2.2.2.2.2.2.2.1
theorem dL_law_348 : decode cL_law 348 = .ok (.pop, 1) := dL_law_334_a.2.2.2.2.2.2.2.2.2.2.2.2.1
theorem dL_law_349 : decode cL_law 349 = .ok (.aload_n 2, 1) := dL_law_334_a.2.2.2.2.2.2.2.2.2.2.2.2.2.1
theorem dL_law_350 : decode cL_law 350 = .ok (.aload_n 0, 1) := dL_law_334_a.2.2.2.2.2.2.2.2.2.2.2.2.2.2.1
theorem dL_law_351 : decode cL_law 351 = .ok (.iload_n 3, 1) := dL_law_334_a.2.2.2.2.2.2.2.2.2.2.2.2.2.2.2
theorem dL_law_352_a : (decode cL_law 352 = .ok (.iconst 1, 1)) ∧ (decode cL_law 353 = .ok (.iadd, 1)) ∧ (decode cL_law 354 = .ok (.iaload, 1)) ∧ (decode cL_law 355 = .ok (.aload_n 0, 1)) ∧ (decode cL_law 356 = .ok (.iload_n 3, 1)) ∧ (decode cL_law 357 = .ok (.iconst 2, 1)) ∧ (decode cL_law 358 = .ok (.iadd, 1)) ∧ (decode cL_law 359 = .ok (.iaload, 1)) ∧ (decode cL_law 360 = .ok (.invokevirtual 42, 3)) ∧ (decode cL_law 363 = .ok (.pop, 1)) ∧ (decode cL_law 364 = .ok (.goto 809, 3)) ∧ (decode cL_law 367 = .ok (.aload_n 1, 1)) ∧ (decode cL_law 368 = .ok (.aload_n 0, 1)) ∧ (decode cL_law 369 = .ok (.iload_n 3, 1)) ∧ (decode cL_law 370 = .ok (.iconst 1, 1)) ∧ (decode cL_law 371 = .ok (.iadd, 1)) := by decide +kernel
theorem dL_law_352 : decode cL_law 352 = .ok (.iconst 1, 1) := dL_law_352_a.1
theorem dL_law_353 : decode cL_law 353 = .ok (.iadd, 1) := dL_law_352_a.2.1
theorem dL_law_354 : decode cL_law 354 = .ok (.iaload, 1) := dL_law_352_a.2.2.1
theorem dL_law_355 : decode cL_law 355 = .ok (.aload_n 0, 1) := dL_law_352_a.2.2.2.1
theorem dL_law_356 : decode cL_law 356 = .ok (.iload_n 3, 1) := dL_law_352_a.2.2.2.2.1
theorem dL_law_357 : decode cL_law 357 = .ok (.iconst 2, 1) := dL_law_352_a.2.2.2.2.2.1
theorem dL_law_358 : decode cL_law 358 = .ok (.iadd, 1) := dL_law_352_a.2.2.2.2.2.2.1
theorem dL_law_359 : decode cL_law 359 = .ok (.iaload, 1) := dL_law_352_a.2.2.2.2.2.2.2.1
theorem dL_law_360 : decode cL_law 360 = .ok (.invokevirtual 42, 3) := dL_law_352_a.2.2.2.2.2.2.2.2.1
theorem dL_law_363 : decode cL_law 363 = .ok (.pop, 1) := dL_law_352_a.2.2.2.2.2.2.2.2.2.1
theorem dL_law_364 : decode cL_law 364 = .ok (.goto 809, 3) := dL_law_352_a.2.2.2.2.2.2.2.2.2.2.1
theorem dL_law_367 : decode cL_law 367 = .ok (.aload_n 1, 1) := dL_law_352_a.2.2.2.2.2.2.2.2.2.2.2.1
theorem dL_law_368 : decode cL_law 368 = .ok (.aload_n 0, 1) := dL_law_352_a.2.2.2.2.2.2.2.2.2.2.2.2.1
theorem dL_law_369 : decode cL_law 369 = .ok (.iload_n 3, 1) := dL_law_352_a.2.2.2.2.2.2.2.2.2.2.2.2.2.1
theorem dL_law_370 : decode cL_law 370 = .ok (.iconst 1, 1) := dL_law_352_a.2.2.2.2.2.2.2.2.2.2.2.2.2.2.1
theorem dL_law_371 : decode cL_law 371 = .ok (.iadd, 1) := dL_law_352_a.2.2.2.2.2.2.2.2.2.2.2.2.2.2.2
theorem dL_law_372_a : (decode cL_law 372 = .ok (.iaload, 1)) ∧ (decode cL_law 373 = .ok (.aload_n 0, 1)) ∧ (decode cL_law 374 = .ok (.iload_n 3, 1)) ∧ (decode cL_law 375 = .ok (.iconst 2, 1)) ∧ (decode cL_law 376 = .ok (.iadd, 1)) ∧ (decode cL_law 377 = .ok (.iaload, 1)) ∧ (decode cL_law 378 = .ok (.aload_n 0, 1)) ∧ (decode cL_law 379 = .ok (.iload_n 3, 1)) ∧ (decode cL_law 380 = .ok (.iconst 3, 1)) ∧ (decode cL_law 381 = .ok (.iadd, 1)) ∧ (decode cL_law 382 = .ok (.iaload, 1)) ∧ (decode cL_law 383 = .ok (.aload_n 0, 1)) ∧ (decode cL_law 384 = .ok (.iload_n 3, 1)) ∧ (decode cL_law 385 = .ok (.iconst 4, 1)) ∧ (decode cL_law 386 = .ok (.iadd, 1)) ∧ (decode cL_law 387 = .ok (.iaload, 1)) := by decide +kernel
theorem dL_law_372 : decode cL_law 372 = .ok (.iaload, 1) := dL_law_372_a.1
theorem dL_law_373 : decode cL_law 373 = .ok (.aload_n 0, 1) := dL_law_372_a.2.1
theorem dL_law_374 : decode cL_law 374 = .ok (.iload_n 3, 1) := dL_law_372_a.2.2.1
theorem dL_law_375 : decode cL_law 375 = .ok (.iconst 2, 1) := dL_law_372_a.2.2.2.1
theorem dL_law_376 : decode cL_law 376 = .ok (.iadd, 1) := dL_law_372_a.2.2.2.2.1
theorem dL_law_377 : decode cL_law 377 = .ok (.iaload, 1) := dL_law_372_a.2.2.2.2.2.1
theorem dL_law_378 : decode cL_law 378 = .ok (.aload_n 0, 1) := dL_law_372_a.2.2.2.2.2.2.1
theorem dL_law_379 : decode cL_law 379 = .ok (.iload_n 3, 1) := dL_law_372_a.2.2.2.2.2.2.2.1
theorem dL_law_380 : decode cL_law 380 = .ok (.iconst 3, 1) := dL_law_372_a.2.2.2.2.2.2.2.2.1
theorem dL_law_381 : decode cL_law 381 = .ok (.iadd, 1) := dL_law_372_a.2.2.2.2.2.2.2.2.2.1
theorem dL_law_382 : decode cL_law 382 = .ok (.iaload, 1) := dL_law_372_a.2.2.2.2.2.2.2.2.2.2.1
theorem dL_law_383 : decode cL_law 383 = .ok (.aload_n 0, 1) := dL_law_372_a.2.2.2.2.2.2.2.2.2.2.2.1
theorem dL_law_384 : decode cL_law 384 = .ok (.iload_n 3, 1) := dL_law_372_a.2.2.2.2.2.2.2.2.2.2.2.2.1
theorem dL_law_385 : decode cL_law 385 = .ok (.iconst 4, 1) := dL_law_372_a.2.2.2.2.2.2.2.2.2.2.2.2.2.1
theorem dL_law_386 : decode cL_law 386 = .ok (.iadd, 1) := dL_law_372_a.2.2.2.2.2.2.2.2.2.2.2.2.2.2.1
theorem dL_law_387 : decode cL_law 387 = .ok (.iaload, 1) := dL_law_372_a.2.2.2.2.2.2.2.2.2.2.2.2.2.2.2
theorem dL_law_388_a : (decode cL_law 388 = .ok (.invokevirtual 43, 3)) ∧ (decode cL_law 391 = .ok (.pop, 1)) ∧ (decode cL_law 392 = .ok (.aload_n 2, 1)) ∧ (decode cL_law 393 = .ok (.aload_n 0, 1)) ∧ (decode cL_law 394 = .ok (.iload_n 3, 1)) ∧ (decode cL_law 395 = .ok (.iconst 1, 1)) ∧ (decode cL_law 396 = .ok (.iadd, 1)) ∧ (decode cL_law 397 = .ok (.iaload, 1)) ∧ (decode cL_law 398 = .ok (.aload_n 0, 1)) ∧ (decode cL_law 399 = .ok (.iload_n 3, 1)) ∧ (decode cL_law 400 = .ok (.iconst 2, 1)) ∧ (decode cL_law 401 = .ok (.iadd, 1)) ∧ (decode cL_law 402 = .ok (.iaload, 1)) ∧ (decode cL_law 403 = .ok (.aload_n 0, 1)) ∧ (decode cL_law 404 = .ok (.iload_n 3, 1)) ∧ (decode cL_law 405 = .ok (.iconst 3, 1)) := by decide +kernel
theorem dL_law_388 : decode cL_law 388 = .ok (.invokevirtual 43, 3) := dL_law_388_a.1
theorem dL_law_391 : decode cL_law 391 = .ok (.pop, 1) := dL_law_388_a.2.1
theorem dL_law_392 : decode cL_law 392 = .ok (.aload_n 2, 1) := dL_law_388_a.2.2.1
theorem dL_law_393 : decode cL_law 393 = .ok (.aload_n 0, 1) := dL_law_388_a.2.2.2.1
theorem dL_law_394 : decode cL_law 394 = .ok (.iload_n 3, 1) := dL_law_388_a.2.2.2.2.1
theorem dL_law_395 : decode cL_law 395 = .ok (.iconst 1, 1) := dL_law_388_a.2.2.2.2.2.1
theorem dL_law_396 : decode cL_law 396 = .ok (.iadd, 1) := dL_law_388_a.2.2.2.2.2.2.1
theorem dL_law_397 : decode cL_law 397 = .ok (.iaload, 1) := dL_law_388_a.2.2.2.2.2.2.2.1
theorem dL_law_398 : decode cL_law 398 = .ok (.aload_n 0, 1) := dL_law_388_a.2.2.2.2.2.2.2.2.1
theorem dL_law_399 : decode cL_law 399 = .ok (.iload_n 3, 1) := dL_law_388_a.2.2.2.2.2.2.2.2.2.1
theorem dL_law_400 : decode cL_law 400 = .ok (.iconst 2, 1) := dL_law_388_a.2.2.2.2.2.2.2.2.2.2.1
theorem dL_law_401 : decode cL_law 401 = .ok (.iadd, 1) := dL_law_388_a.2.2.2.2.2.2.2.2.2.2.2.1
theorem dL_law_402 : decode cL_law 402 = .ok (.iaload, 1) := dL_law_388_a.2.2.2.2.2.2.2.2.2.2.2.2.1
theorem dL_law_403 : decode cL_law 403 = .ok (.aload_n 0, 1) := dL_law_388_a.2.2.2.2.2.2.2.2.2.2.2.2.2.1
theorem dL_law_404 : decode cL_law 404 = .ok (.iload_n 3, 1) := dL_law_388_a.2.2.2.2.2.2.2.2.2.2.2.2.2.2.1
theorem dL_law_405 : decode cL_law 405 = .ok (.iconst 3, 1) := dL_law_388_a.2.2.2.2.2.2.2.2.2.2.2.2.2.2.2
theorem dL_law_406_a : (decode cL_law 406 = .ok (.iadd, 1)) ∧ (decode cL_law 407 = .ok (.iaload, 1)) ∧ (decode cL_law 408 = .ok (.aload_n 0, 1)) ∧ (decode cL_law 409 = .ok (.iload_n 3, 1)) ∧ (decode cL_law 410 = .ok (.iconst 4, 1)) ∧ (decode cL_law 411 = .ok (.iadd, 1)) ∧ (decode cL_law 412 = .ok (.iaload, 1)) ∧ (decode cL_law 413 = .ok (.invokevirtual 47, 3)) ∧ (decode cL_law 416 = .ok (.pop, 1)) ∧ (decode cL_law 417 = .ok (.goto 756, 3)) ∧ (decode cL_law 420 = .ok (.aload_n 1, 1)) ∧ (decode cL_law 421 = .ok (.invokevirtual 48, 3)) ∧ (decode cL_law 424 = .ok (.pop, 1)) ∧ (decode cL_law 425 = .ok (.aload_n 2, 1)) ∧ (decode cL_law 426 = .ok (.invokevirtual 52, 3)) ∧ (decode cL_law 429 = .ok (.pop, 1)) := by decide +kernel
theorem dL_law_406 : decode cL_law 406 = .ok (.iadd, 1) := dL_law_406_a.1
theorem dL_law_407 : decode cL_law 407 = .ok (.iaload, 1) := dL_law_406_a.2.1
theorem dL_law_408 : decode cL_law 408 = .ok (.aload_n 0, 1) := dL_law_406_a.2.2.1
theorem dL_law_409 : decode cL_law 409 = .ok (.iload_n 3, 1) := dL_law_406_a.2.2.2.1
theorem dL_law_410 : decode cL_law 410 = .ok (.iconst 4, 1) := dL_law_406_a.2.2.2.2.1
theorem dL_law_411 : decode cL_law 411 = .ok (.iadd, 1) := dL_law_406_a.2.2.2.2.2.1
theorem dL_law_412 : decode cL_law 412 = .ok (.iaload, 1) := dL_law_406_a.2.2.2.2.2.2.1
theorem dL_law_413 : decode cL_law 413 = .ok (.invokevirtual 47, 3) := dL_law_406_a.2.2.2.2.2.2.2.1
theorem dL_law_416 : decode cL_law 416 = .ok (.pop, 1) := dL_law_406_a.2.2.2.2.2.2.2.2.1
theorem dL_law_417 : decode cL_law 417 = .ok (.goto 756, 3) := dL_law_406_a.2.2.2.2.2.2.2.2.2.1
theorem dL_law_420 : decode cL_law 420 = .ok (.aload_n 1, 1) := dL_law_406_a.2.2.2.2.2.2.2.2.2.2.1
theorem dL_law_421 : decode cL_law 421 = .ok (.invokevirtual 48, 3) := dL_law_406_a.2.2.2.2.2.2.2.2.2.2.2.1
theorem dL_law_424 : decode cL_law 424 = .ok (.pop, 1) := dL_law_406_a.2.2.2.2.2.2.2.2.2.2.2.2.1
theorem dL_law_425 : decode cL_law 425 = .ok (.aload_n 2, 1) := dL_law_406_a.2.2.2.2.2.2.2.2.2.2.2.2.2.1
theorem dL_law_426 : decode cL_law 426 = .ok (.invokevirtual 52, 3) := dL_law_406_a.2.2.2.2.2.2.2.2.2.2.2.2.2.2.1
theorem dL_law_429 : decode cL_law 429 = .ok (.pop, 1) := dL_law_406_a.2.2.2.2.2.2.2.2.2.2.2.2.2.2.2
theorem dL_law_430_a : (decode cL_law 430 = .ok (.goto 743, 3)) ∧ (decode cL_law 433 = .ok (.aload_n 1, 1)) ∧ (decode cL_law 434 = .ok (.aload_n 0, 1)) ∧ (decode cL_law 435 = .ok (.iload_n 3, 1)) ∧ (decode cL_law 436 = .ok (.iconst 1, 1)) ∧ (decode cL_law 437 = .ok (.iadd, 1)) ∧ (decode cL_law 438 = .ok (.iaload, 1)) ∧ (decode cL_law 439 = .ok (.invokevirtual 53, 3)) ∧ (decode cL_law 442 = .ok (.pop, 1)) ∧ (decode cL_law 443 = .ok (.aload_n 2, 1)) ∧ (decode cL_law 444 = .ok (.aload_n 0, 1)) ∧ (decode cL_law 445 = .ok (.iload_n 3, 1)) ∧ (decode cL_law 446 = .ok (.iconst 1, 1)) ∧ (decode cL_law 447 = .ok (.iadd, 1)) ∧ (decode cL_law 448 = .ok (.iaload, 1)) ∧ (decode cL_law 449 = .ok (.invokevirtual 56, 3)) := by decide +kernel
theorem dL_law_430 : decode cL_law 430 = .ok (.goto 743, 3) := dL_law_430_a.1
theorem dL_law_433 : decode cL_law 433 = .ok (.aload_n 1, 1) := dL_law_430_a.2.1
theorem dL_law_434 : decode cL_law 434 = .ok (.aload_n 0, 1) := dL_law_430_a.2.2.1
theorem dL_law_435 : decode cL_law 435 = .ok (.iload_n 3, 1) := dL_law_430_a.2.2.2.1
theorem dL_law_436 : decode cL_law 436 = .ok (.iconst 1, 1) := dL_law_430_a.2.2.2.2.1
theorem dL_law_437 : decode cL_law 437 = .ok (.iadd, 1) := dL_law_430_a.2.2.2.2.2.1
theorem dL_law_438 : decode cL_law 438 = .ok (.iaload, 1) := dL_law_430_a.2.2.2.2.2.2.1
theorem dL_law_439 : decode cL_law 439 = .ok (.invokevirtual 53, 3) := dL_law_430_a.2.2.2.2.2.2.2.1
theorem dL_law_442 : decode cL_law 442 = .ok (.pop, 1) := dL_law_430_a.2.2.2.2.2.2.2.2.1
theorem dL_law_443 : decode cL_law 443 = .ok (.aload_n 2, 1) := dL_law_430_a.2.2.2.2.2.2.2.2.2.1
theorem dL_law_444 : decode cL_law 444 = .ok (.aload_n 0, 1) := dL_law_430_a.2.2.2.2.2.2.2.2.2.2.1
theorem dL_law_445 : decode cL_law 445 = .ok (.iload_n 3, 1) := dL_law_430_a.2.2.2.2.2.2.2.2.2.2.2.1
theorem dL_law_446 : decode cL_law 446 = .ok (.iconst 1, 1) := dL_law_430_a.2.2.2.2.2.2.2.2.2.2.2.2.1
theorem dL_law_447 : decode cL_law 447 = .ok (.iadd, 1) := dL_law_430_a.2.2.2.2.2.2.2.2.2.2.2.2.2.1
theorem dL_law_448 : decode cL_law 448 = .ok (.iaload, 1) := dL_law_430_a.2.2.2.2.2.2.2.2.2.2.2.2.2.2.1
theorem dL_law_449 : decode cL_law 449 = .ok (.invokevirtual 56, 3) := dL_law_430_a.2.2.2.2.2.2.2.2.2.2.2.2.2.2.2
theorem dL_law_452_a : (decode cL_law 452 = .ok (.pop, 1)) ∧ (decode cL_law 453 = .ok (.goto 720, 3)) ∧ (decode cL_law 456 = .ok (.aload_n 1, 1)) ∧ (decode cL_law 457 = .ok (.aload_n 0, 1)) ∧ (decode cL_law 458 = .ok (.iload_n 3, 1)) ∧ (decode cL_law 459 = .ok (.iconst 1, 1)) ∧ (decode cL_law 460 = .ok (.iadd, 1)) ∧ (decode cL_law 461 = .ok (.iaload, 1)) ∧ (decode cL_law 462 = .ok (.invokevirtual 57, 3)) ∧ (decode cL_law 465 = .ok (.pop, 1)) ∧ (decode cL_law 466 = .ok (.aload_n 2, 1)) ∧ (decode cL_law 467 = .ok (.aload_n 0, 1)) ∧ (decode cL_law 468 = .ok (.iload_n 3, 1)) ∧ (decode cL_law 469 = .ok (.iconst 1, 1)) ∧ (decode cL_law 470 = .ok (.iadd, 1)) ∧ (decode cL_law 471 = .ok (.iaload, 1)) := by decide +kernel
theorem dL_law_452 : decode cL_law 452 = .ok (.pop, 1) := dL_law_452_a.1
theorem dL_law_453 : decode cL_law 453 = .ok (.goto 720, 3) := dL_law_452_a.2.1
theorem dL_law_456 : decode cL_law 456 = .ok (.aload_n 1, 1) := dL_law_452_a.2.2.1
theorem dL_law_457 : decode cL_law 457 = .ok (.aload_n 0, 1) := dL_law_452_a.2.2.2.1
theorem dL_law_458 : decode cL_law 458 = .ok (.iload_n 3, 1) := dL_law_452_a.2.2.2.2.1
theorem dL_law_459 : decode cL_law 459 = .ok (.iconst 1, 1) := dL_law_452_a.2.2.2.2.2.1
theorem dL_law_460 : decode cL_law 460 = .ok (.iadd, 1) := dL_law_452_a.2.2.2.2.2.2.1
theorem dL_law_461 : decode cL_law 461 = .ok (.iaload, 1) := dL_law_452_a.2.2.2.2.2.2.2.1
theorem dL_law_462 : decode cL_law 462 = .ok (.invokevirtual 57, 3) := dL_law_452_a.2.2.2.2.2.2.2.2.1
theorem dL_law_465 : decode cL_law 465 = .ok (.pop, 1) := dL_law_452_a.2.2.2.2.2.2.2.2.2.1
theorem dL_law_466 : decode cL_law 466 = .ok (.aload_n 2, 1) := dL_law_452_a.2.2.2.2.2.2.2.2.2.2.1
theorem dL_law_467 : decode cL_law 467 = .ok (.aload_n 0, 1) := dL_law_452_a.2.2.2.2.2.2.2.2.2.2.2.1
theorem dL_law_468 : decode cL_law 468 = .ok (.iload_n 3, 1) := dL_law_452_a.2.2.2.2.2.2.2.2.2.2.2.2.1
theorem dL_law_469 : decode cL_law 469 = .ok (.iconst 1, 1) := dL_law_452_a.2.2.2.2.2.2.2.2.2.2.2.2.2.1
theorem dL_law_470 : decode cL_law 470 = .ok (.iadd, 1) := dL_law_452_a.2.2.2.2.2.2.2.2.2.2.2.2.2.2.1
theorem dL_law_471 : decode cL_law 471 = .ok (.iaload, 1) := dL_law_452_a.2.2.2.2.2.2.2.2.2.2.2.2.2.2.2
theorem dL_law_472_a : (decode cL_law 472 = .ok (.invokevirtual 60, 3)) ∧ (decode cL_law 475 = .ok (.pop, 1)) ∧ (decode cL_law 476 = .ok (.goto 697, 3)) ∧ (decode cL_law 479 = .ok (.aload_n 1, 1)) ∧ (decode cL_law 480 = .ok (.aload_n 0, 1)) ∧ (decode cL_law 481 = .ok (.iload_n 3, 1)) ∧ (decode cL_law 482 = .ok (.iconst 1, 1)) ∧ (decode cL_law 483 = .ok (.iadd, 1)) ∧ (decode cL_law 484 = .ok (.iaload, 1)) ∧ (decode cL_law 485 = .ok (.aload_n 0, 1)) ∧ (decode cL_law 486 = .ok (.iload_n 3, 1)) ∧ (decode cL_law 487 = .ok (.iconst 2, 1)) ∧ (decode cL_law 488 = .ok (.iadd, 1)) ∧ (decode cL_law 489 = .ok (.iaload, 1)) ∧ (decode cL_law 490 = .ok (.invokevirtual 61, 3)) ∧ (decode cL_law 493 = .ok (.pop, 1)) := by decide +kernel
theorem dL_law_472 : decode cL_law 472 = .ok (.invokevirtual 60, 3) := dL_law_472_a.1
theorem dL_law_475 : decode cL_law 475 = .ok (.pop, 1) := dL_law_472_a.2.1
theorem dL_law_476 : decode cL_law 476 = .ok (.goto 697, 3) := dL_law_472_a.2.2.1
theorem dL_law_479 : decode cL_law 479 = .ok (.aload_n 1, 1) := dL_law_472_a.2.2.2.1
theorem dL_law_480 : decode cL_law 480 = .ok (.aload_n 0, 1) := dL_law_472_a.2.2.2.2.1
theorem dL_law_481 : decode cL_law 481 = .ok (.iload_n 3, 1) := dL_law_472_a.2.2.2.2.2.1
theorem dL_law_482 : decode cL_law 482 = .ok (.iconst 1, 1) := dL_law_472_a.2.2.2.2.2.2.1
theorem dL_law_483 : decode cL_law 483 = .ok (.iadd, 1) := dL_law_472_a.2.2.2.2.2.2.2.1
theorem dL_law_484 : decode cL_law 484 = .ok (.iaload, 1) := dL_law_472_a.2.2.2.2.2.2.2.2.1
theorem dL_law_485 : decode cL_law 485 = .ok (.aload_n 0, 1) := dL_law_472_a.2.2.2.2.2.2.2.2.2.1
theorem dL_law_486 : decode cL_law 486 = .ok (.iload_n 3, 1) := dL_law_472_a.2.2.2.2.2.2.2.2.2.2.1
theorem dL_law_487 : decode cL_law 487 = .ok (.iconst 2, 1) := dL_law_472_a.2.2.2.2.2.2.2.2.2.2.2.1
theorem dL_law_488 : decode cL_law 488 = .ok (.iadd, 1) := dL_law_472_a.2.2.2.2.2.2.2.2.2.2.2.2.1
theorem dL_law_489 : decode cL_law 489 = .ok (.iaload, 1) := dL_law_472_a.2.2.2.2.2.2.2.2.2.2.2.2.2.1
theorem dL_law_490 : decode cL_law 490 = .ok (.invokevirtual 61, 3) := dL_law_472_a.2.2.2.2.2.2.2.2.2.2.2.2.2.2.1
theorem dL_law_493 : decode cL_law 493 = .ok (.pop, 1) := dL_law_472_a.2.2.2.2.2.2.2.2.2.2.2.2.2.2.2
theorem dL_law_494_a : (decode cL_law 494 = .ok (.aload_n 2, 1)) ∧ (decode cL_law 495 = .ok (.aload_n 0, 1)) ∧ (decode cL_law 496 = .ok (.iload_n 3, 1)) ∧ (decode cL_law 497 = .ok (.iconst 1, 1)) ∧ (decode cL_law 498 = .ok (.iadd, 1)) ∧ (decode cL_law 499 = .ok (.iaload, 1)) ∧ (decode cL_law 500 = .ok (.aload_n 0, 1)) ∧ (decode cL_law 501 = .ok (.iload_n 3, 1)) ∧ (decode cL_law 502 = .ok (.iconst 2, 1)) ∧ (decode cL_law 503 = .ok (.iadd, 1)) ∧ (decode cL_law 504 = .ok (.iaload, 1)) ∧ (decode cL_law 505 = .ok (.invokevirtual 64, 3)) ∧ (decode cL_law 508 = .ok (.pop, 1)) ∧ (decode cL_law 509 = .ok (.goto 664, 3)) ∧ (decode cL_law 512 = .ok (.aload_n 1, 1)) ∧ (decode cL_law 513 = .ok (.aload_n 0, 1)) := by decide +kernel
theorem dL_law_494 : decode cL_law 494 = .ok (.aload_n 2, 1) := dL_law_494_a.1
theorem dL_law_495 : decode cL_law 495 = .ok (.aload_n 0, 1) := dL_law_494_a.2.1
theorem dL_law_496 : decode cL_law 496 = .ok (.iload_n 3, 1) := dL_law_494_a.2.2.1
theorem dL_law_497 : decode cL_law 497 = .ok (.iconst 1, 1) := dL_law_494_a.2.2.2.1
theorem dL_law_498 : decode cL_law 498 = .ok (.iadd, 1) := dL_law_494_a.2.2.2.2.1
theorem dL_law_499 : decode cL_law 499 = .ok (.iaload, 1) := dL_law_494_a.2.2.2.2.2.1
theorem dL_law_500 : decode cL_law 500 = .ok (.aload_n 0, 1) := dL_law_494_a.2.2.2.2.2.2.1
theorem dL_law_501 : decode cL_law 501 = .ok (.iload_n 3, 1) := dL_law_494_a.2.2.2.2.2.2.2.1
theorem dL_law_502 : decode cL_law 502 = .ok (.iconst 2, 1) := dL_law_494_a.2.2.2.2.2.2.2.2.1
theorem dL_law_503 : decode cL_law 503 = .ok (.iadd, 1) := dL_law_494_a.2.2.2.2.2.2.2.2.2.1
theorem dL_law_504 : decode cL_law 504 = .ok (.iaload, 1) := dL_law_494_a.2.2.2.2.2.2.2.2.2.2.1
theorem dL_law_505 : decode cL_law 505 = .ok (.invokevirtual 64, 3) := dL_law_494_a.2.2.2.2.2.2.2.2.2.2.2.1
theorem dL_law_508 : decode cL_law 508 = .ok (.pop, 1) := dL_law_494_a.2.2.2.2.2.2.2.2.2.2.2.2.1
theorem dL_law_509 : decode cL_law 509 = .ok (.goto 664, 3) := dL_law_494_a.2.2.2.2.2.2.2.2.2.2.2.2.2.1
theorem dL_law_512 : decode cL_law 512 = .ok (.aload_n 1, 1) := dL_law_494_a.2.2.2.2.2.2.2.2.2.2.2.2.2.2.1
theorem dL_law_513 : decode cL_law 513 = .ok (.aload_n 0, 1) := dL_law_494_a.2.2.2.2.2.2.2.2.2.2.2.2.2.2.2
theorem dL_law_514_a : (decode cL_law 514 = .ok (.iload_n 3, 1)) ∧ (decode cL_law 515 = .ok (.iconst 1, 1)) ∧ (decode cL_law 516 = .ok (.iadd, 1)) ∧ (decode cL_law 517 = .ok (.iaload, 1)) ∧ (decode cL_law 518 = .ok (.aload_n 0, 1)) ∧ (decode cL_law 519 = .ok (.iload_n 3, 1)) ∧ (decode cL_law 520 = .ok (.iconst 2, 1)) ∧ (decode cL_law 521 = .ok (.iadd, 1)) ∧ (decode cL_law 522 = .ok (.iaload, 1)) ∧ (decode cL_law 523 = .ok (.aload_n 0, 1)) ∧ (decode cL_law 524 = .ok (.iload_n 3, 1)) ∧ (decode cL_law 525 = .ok (.iconst 3, 1)) ∧ (decode cL_law 526 = .ok (.iadd, 1)) ∧ (decode cL_law 527 = .ok (.iaload, 1)) ∧ (decode cL_law 528 = .ok (.invokevirtual 65, 3)) ∧ (decode cL_law 531 = .ok (.pop, 1)) := by decide +kernel
theorem dL_law_514 : decode cL_law 514 = .ok (.iload_n 3, 1) := dL_law_514_a.1
theorem dL_law_515 : decode cL_law 515 = .ok (.iconst 1, 1) := dL_law_514_a.2.1
theorem dL_law_516 : decode cL_law 516 = .ok (.iadd, 1) := dL_law_514_a.2.2.1
theorem dL_law_517 : decode cL_law 517 = .ok (.iaload, 1) := dL_law_514_a.2.2.2.1
theorem dL_law_518 : decode cL_law 518 = .ok (.aload_n 0, 1) := dL_law_514_a.2.2.2.2.1
theorem dL_law_519 : decode cL_law 519 = .ok (.iload_n 3, 1) := dL_law_514_a.2.2.2.2.2.1
theorem dL_law_520 : decode cL_law 520 = .ok (.iconst 2, 1) := dL_law_514_a.2.2.2.2.2.2.1
theorem dL_law_521 : decode cL_law 521 = .ok (.iadd, 1) := dL_law_514_a.2.2.2.2.2.2.2.1
theorem dL_law_522 : decode cL_law 522 = .ok (.iaload, 1) := dL_law_514_a.2.2.2.2.2.2.2.2.1
theorem dL_law_523 : decode cL_law 523 = .ok (.aload_n 0, 1) := dL_law_514_a.2.2.2.2.2.2.2.2.2.1
theorem dL_law_524 : decode cL_law 524 = .ok (.iload_n 3, 1) := dL_law_514_a.2.2.2.2.2.2.2.2.2.2.1
theorem dL_law_525 : decode cL_law 525 = .ok (.iconst 3, 1) := dL_law_514_a.2.2.2.2.2.2.2.2.2.2.2.1
theorem dL_law_526 : decode cL_law 526 = .ok (.iadd, 1) := dL_law_514_a.2.2.2.2.2.2.2.2.2.2.2.2.1
theorem dL_law_527 : decode cL_law 527 = .ok (.iaload, 1) := dL_law_514_a.2.2.2.2.2.2.2.2.2.2.2.2.2.1
theorem dL_law_528 : decode cL_law 528 = .ok (.invokevirtual 65, 3) := dL_law_514_a.2.2.2.2.2.2.2.2.2.2.2.2.2.2.1
theorem dL_law_531 : decode cL_law 531 = .ok (.pop, 1) := dL_law_514_a.2.2.2.2.2.2.2.2.2.2.2.2.2.2.2
theorem dL_law_532_a : (decode cL_law 532 = .ok (.aload_n 2, 1)) ∧ (decode cL_law 533 = .ok (.aload_n 0, 1)) ∧ (decode cL_law 534 = .ok (.iload_n 3, 1)) ∧ (decode cL_law 535 = .ok (.iconst 1, 1)) ∧ (decode cL_law 536 = .ok (.iadd, 1)) ∧ (decode cL_law 537 = .ok (.iaload, 1)) ∧ (decode cL_law 538 = .ok (.aload_n 0, 1)) ∧ (decode cL_law 539 = .ok (.iload_n 3, 1)) ∧ (decode cL_law 540 = .ok (.iconst 2, 1)) ∧ (decode cL_law 541 = .ok (.iadd, 1)) ∧ (decode cL_law 542 = .ok (.iaload, 1)) ∧ (decode cL_law 543 = .ok (.aload_n 0, 1)) ∧ (decode cL_law 544 = .ok (.iload_n 3, 1)) ∧ (decode cL_law 545 = .ok (.iconst 3, 1)) ∧ (decode cL_law 546 = .ok (.iadd, 1)) ∧ (decode cL_law 547 = .ok (.iaload, 1)) := by decide +kernel
theorem dL_law_532 : decode cL_law 532 = .ok (.aload_n 2, 1) := dL_law_532_a.1
theorem dL_law_533 : decode cL_law 533 = .ok (.aload_n 0, 1) := dL_law_532_a.2.1
theorem dL_law_534 : decode cL_law 534 = .ok (.iload_n 3, 1) := dL_law_532_a.2.2.1
theorem dL_law_535 : decode cL_law 535 = .ok (.iconst 1, 1) := dL_law_532_a.2.2.2.1
theorem dL_law_536 : decode cL_law 536 = .ok (.iadd, 1) := dL_law_532_a.2.2.2.2.1
theorem dL_law_537 : decode cL_law 537 = .ok (.iaload, 1) := dL_law_532_a.2.2.2.2.2.1
theorem dL_law_538 : decode cL_law 538 = .ok (.aload_n 0, 1) := dL_law_532_a.2.2.2.2.2.2.1
theorem dL_law_539 : decode cL_law 539 = .ok (.iload_n 3, 1) := dL_law_532_a.2.2.2.2.2.2.2.1
theorem dL_law_540 : decode cL_law 540 = .ok (.iconst 2, 1) := dL_law_532_a.2.2.2.2.2.2.2.2.1
theorem dL_law_541 : decode cL_law 541 = .ok (.iadd, 1) := dL_law_532_a.2.2.2.2.2.2.2.2.2.1
theorem dL_law_542 : decode cL_law 542 = .ok (.iaload, 1) := dL_law_532_a.2.2.2.2.2.2.2.2.2.2.1
theorem dL_law_543 : decode cL_law 543 = .ok (.aload_n 0, 1) := dL_law_532_a.2.2.2.2.2.2.2.2.2.2.2.1
theorem dL_law_544 : decode cL_law 544 = .ok (.iload_n 3, 1) := dL_law_532_a.2.2.2.2.2.2.2.2.2.2.2.2.1
theorem dL_law_545 : decode cL_law 545 = .ok (.iconst 3, 1) := dL_law_532_a.2.2.2.2.2.2.2.2.2.2.2.2.2.1
theorem dL_law_546 : decode cL_law 546 = .ok (.iadd, 1) := dL_law_532_a.2.2.2.2.2.2.2.2.2.2.2.2.2.2.1
theorem dL_law_547 : decode cL_law 547 = .ok (.iaload, 1) := dL_law_532_a.2.2.2.2.2.2.2.2.2.2.2.2.2.2.2
theorem dL_law_548_a : (decode cL_law 548 = .ok (.invokevirtual 69, 3)) ∧ (decode cL_law 551 = .ok (.pop, 1)) ∧ (decode cL_law 552 = .ok (.goto 621, 3)) ∧ (decode cL_law 555 = .ok (.aload_n 1, 1)) ∧ (decode cL_law 556 = .ok (.invokevirtual 70, 3)) ∧ (decode cL_law 559 = .ok (.pop, 1)) ∧ (decode cL_law 560 = .ok (.aload_n 2, 1)) ∧ (decode cL_law 561 = .ok (.invokevirtual 73, 3)) ∧ (decode cL_law 564 = .ok (.pop, 1)) ∧ (decode cL_law 565 = .ok (.goto 608, 3)) ∧ (decode cL_law 568 = .ok (.aload_n 1, 1)) ∧ (decode cL_law 569 = .ok (.aload_n 0, 1)) ∧ (decode cL_law 570 = .ok (.iload_n 3, 1)) ∧ (decode cL_law 571 = .ok (.iconst 1, 1)) ∧ (decode cL_law 572 = .ok (.iadd, 1)) ∧ (decode cL_law 573 = .ok (.iaload, 1)) := by decide +kernel
theorem dL_law_548 : decode cL_law 548 = .ok (.invokevirtual 69, 3) := dL_law_548_a.1
theorem dL_law_551 : decode cL_law 551 = .ok (.pop, 1) := dL_law_548_a.2.1
theorem dL_law_552 : decode cL_law 552 = .ok (.goto 621, 3) := dL_law_548_a.2.2.1
theorem dL_law_555 : decode cL_law 555 = .ok (.aload_n 1, 1) := dL_law_548_a.2.2.2.1
theorem dL_law_556 : decode cL_law 556 = .ok (.invokevirtual 70, 3) := dL_law_548_a.2.2.2.2.1
theorem dL_law_559 : decode cL_law 559 = .ok (.pop, 1) := dL_law_548_a.2.2.2.2.2.1
theorem dL_law_560 : decode cL_law 560 = .ok (.aload_n 2, 1) := dL_law_548_a.2.2.2.2.2.2.1
theorem dL_law_561 : decode cL_law 561 = .ok (.invokevirtual 73, 3) := dL_law_548_a.2.2.2.2.2.2.2.1
theorem dL_law_564 : decode cL_law 564 = .ok (.pop, 1) := dL_law_548_a.2.2.2.2.2.2.2.2.1
theorem dL_law_565 : decode cL_law 565 = .ok (.goto 608, 3) := dL_law_548_a.2.2.2.2.2.2.2.2.2.1
theorem dL_law_568 : decode cL_law 568 = .ok (.aload_n 1, 1) := dL_law_548_a.2.2.2.2.2.2.2.2.2.2.1
theorem dL_law_569 : decode cL_law 569 = .ok (.aload_n 0, 1) := dL_law_548_a.2.2.2.2.2.2.2.2.2.2.2.1
theorem dL_law_570 : decode cL_law 570 = .ok (.iload_n 3, 1) := dL_law_548_a.2.2.2.2.2.2.2.2.2.2.2.2.1
theorem dL_law_571 : decode cL_law 571 = .ok (.iconst 1, 1) := dL_law_548_a.2.2.2.2.2.2.2.2.2.2.2.2.2.1
theorem dL_law_572 : decode cL_law 572 = .ok (.iadd, 1) := dL_law_548_a.2.2.2.2.2.2.2.2.2.2.2.2.2.2.1
theorem dL_law_573 : decode cL_law 573 = .ok (.iaload, 1) := dL_law_548_a.2.2.2.2.2.2.2.2.2.2.2.2.2.2.2
theorem dL_law_574_a : (decode cL_law 574 = .ok (.aload_n 0, 1)) ∧ (decode cL_law 575 = .ok (.iload_n 3, 1)) ∧ (decode cL_law 576 = .ok (.iconst 2, 1)) ∧ (decode cL_law 577 = .ok (.iadd, 1)) ∧ (decode cL_law 578 = .ok (.iaload, 1)) ∧ (decode cL_law 579 = .ok (.invokevirtual 74, 3)) ∧ (decode cL_law 582 = .ok (.pop, 1)) ∧ (decode cL_law 583 = .ok (.aload_n 2, 1)) ∧ (decode cL_law 584 = .ok (.aload_n 0, 1)) ∧ (decode cL_law 585 = .ok (.iload_n 3, 1)) ∧ (decode cL_law 586 = .ok (.iconst 1, 1)) ∧ (decode cL_law 587 = .ok (.iadd, 1)) ∧ (decode cL_law 588 = .ok (.iaload, 1)) ∧ (decode cL_law 589 = .ok (.aload_n 0, 1)) ∧ (decode cL_law 590 = .ok (.iload_n 3, 1)) ∧ (decode cL_law 591 = .ok (.iconst 2, 1)) := by decide +kernel
theorem dL_law_574 : decode cL_law 574 = .ok (.aload_n 0, 1) := dL_law_574_a.1
theorem dL_law_575 : decode cL_law 575 = .ok (.iload_n 3, 1) := dL_law_574_a.2.1
theorem dL_law_576 : decode cL_law 576 = .ok (.iconst 2, 1) := dL_law_574_a.2.2.1
theorem dL_law_577 : decode cL_law 577 = .ok (.iadd, 1) := dL_law_574_a.2.2.2.1
theorem dL_law_578 : decode cL_law 578 = .ok (.iaload, 1) := dL_law_574_a.2.2.2.2.1
theorem dL_law_579 : decode cL_law 579 = .ok (.invokevirtual 74, 3) := dL_law_574_a.2.2.2.2.2.1
theorem dL_law_582 : decode cL_law 582 = .ok (.pop, 1) := dL_law_574_a.2.2.2.2.2.2.1
theorem dL_law_583 : decode cL_law 583 = .ok (.aload_n 2, 1) := dL_law_574_a.2.2.2.2.2.2.2.1
theorem dL_law_584 : decode cL_law 584 = .ok (.aload_n 0, 1) := dL_law_574_a.2.2.2.2.2.2.2.2.1
theorem dL_law_585 : decode cL_law 585 = .ok (.iload_n 3, 1) := dL_law_574_a.2.2.2.2.2.2.2.2.2.1
theorem dL_law_586 : decode cL_law 586 = .ok (.iconst 1, 1) := dL_law_574_a.2.2.2.2.2.2.2.2.2.2.1
theorem dL_law_587 : decode cL_law 587 = .ok (.iadd, 1) := dL_law_574_a.2.2.2.2.2.2.2.2.2.2.2.1
theorem dL_law_588 : decode cL_law 588 = .ok (.iaload, 1) := dL_law_574_a.2.2.2.2.2.2.2.2.2.2.2.2.1
theorem dL_law_589 : decode cL_law 589 = .ok (.aload_n 0, 1) := dL_law_574_a.2.2.2.2.2.2.2.2.2.2.2.2.2.1
theorem dL_law_590 : decode cL_law 590 = .ok (.iload_n 3, 1) := dL_law_574_a.2.2.2.2.2.2.2.2.2.2.2.2.2.2.1
theorem dL_law_591 : decode cL_law 591 = .ok (.iconst 2, 1) := dL_law_574_a.2.2.2.2.2.2.2.2.2.2.2.2.2.2.2
theorem dL_law_592_a : (decode cL_law 592 = .ok (.iadd, 1)) ∧ (decode cL_law 593 = .ok (.iaload, 1)) ∧ (decode cL_law 594 = .ok (.invokevirtual 77, 3)) ∧ (decode cL_law 597 = .ok (.pop, 1)) ∧ (decode cL_law 598 = .ok (.goto 575, 3)) ∧ (decode cL_law 601 = .ok (.aload_n 1, 1)) ∧ (decode cL_law 602 = .ok (.aload_n 0, 1)) ∧ (decode cL_law 603 = .ok (.iload_n 3, 1)) ∧ (decode cL_law 604 = .ok (.iconst 1, 1)) ∧ (decode cL_law 605 = .ok (.iadd, 1)) ∧ (decode cL_law 606 = .ok (.iaload, 1)) ∧ (decode cL_law 607 = .ok (.aload_n 0, 1)) ∧ (decode cL_law 608 = .ok (.iload_n 3, 1)) ∧ (decode cL_law 609 = .ok (.iconst 2, 1)) ∧ (decode cL_law 610 = .ok (.iadd, 1)) ∧ (decode cL_law 611 = .ok (.iaload, 1)) := by decide +kernel
theorem dL_law_592 : decode cL_law 592 = .ok (.iadd, 1) := dL_law_592_a.1
theorem dL_law_593 : decode cL_law 593 = .ok (.iaload, 1) := dL_law_592_a.2.1
theorem dL_law_594 : decode cL_law 594 = .ok (.invokevirtual 77, 3) := dL_law_592_a.2.2.1
theorem dL_law_597 : decode cL_law 597 = .ok (.pop, 1) := dL_law_592_a.2.2.2.1
theorem dL_law_598 : decode cL_law 598 = .ok (.goto 575, 3) := dL_law_592_a.2.2.2.2.1
theorem dL_law_601 : decode cL_law 601 = .ok (.aload_n 1, 1) := dL_law_592_a.2.2.2.2.2.1
theorem dL_law_602 : decode cL_law 602 = .ok (.aload_n 0, 1) := dL_law_592_a.2.2.2.2.2.2.1
theorem dL_law_603 : decode cL_law 603 = .ok (.iload_n 3, 1) := dL_law_592_a.2.2.2.2.2.2.2.1
theorem dL_law_604 : decode cL_law 604 = .ok (.iconst 1, 1) := dL_law_592_a.2.2.2.2.2.2.2.2.1
theorem dL_law_605 : decode cL_law 605 = .ok (.iadd, 1) := dL_law_592_a.2.2.2.2.2.2.2.2.2.1
theorem dL_law_606 : decode cL_law 606 = .ok (.iaload, 1) := dL_law_592_a.2.2.2.2.2.2.2.2.2.2.1
theorem dL_law_607 : decode cL_law 607 = .ok (.aload_n 0, 1) := dL_law_592_a.2.2.2.2.2.2.2.2.2.2.2.1
theorem dL_law_608 : decode cL_law 608 = .ok (.iload_n 3, 1) := dL_law_592_a.2.2.2.2.2.2.2.2.2.2.2.2.1
theorem dL_law_609 : decode cL_law 609 = .ok (.iconst 2, 1) := dL_law_592_a.2.2.2.2.2.2.2.2.2.2.2.2.2.1
theorem dL_law_610 : decode cL_law 610 = .ok (.iadd, 1) := dL_law_592_a.2.2.2.2.2.2.2.2.2.2.2.2.2.2.1
theorem dL_law_611 : decode cL_law 611 = .ok (.iaload, 1) := dL_law_592_a.2.2.2.2.2.2.2.2.2.2.2.2.2.2.2
theorem dL_law_612_a : (decode cL_law 612 = .ok (.invokevirtual 78, 3)) ∧ (decode cL_law 615 = .ok (.pop, 1)) ∧ (decode cL_law 616 = .ok (.aload_n 2, 1)) ∧ (decode cL_law 617 = .ok (.aload_n 0, 1)) ∧ (decode cL_law 618 = .ok (.iload_n 3, 1)) ∧ (decode cL_law 619 = .ok (.iconst 1, 1)) ∧ (decode cL_law 620 = .ok (.iadd, 1)) ∧ (decode cL_law 621 = .ok (.iaload, 1)) ∧ (decode cL_law 622 = .ok (.aload_n 0, 1)) ∧ (decode cL_law 623 = .ok (.iload_n 3, 1)) ∧ (decode cL_law 624 = .ok (.iconst 2, 1)) ∧ (decode cL_law 625 = .ok (.iadd, 1)) ∧ (decode cL_law 626 = .ok (.iaload, 1)) ∧ (decode cL_law 627 = .ok (.invokevirtual 81, 3)) ∧ (decode cL_law 630 = .ok (.pop, 1)) ∧ (decode cL_law 631 = .ok (.goto 542, 3)) := by decide +kernel
theorem dL_law_612 : decode cL_law 612 = .ok (.invokevirtual 78, 3) := dL_law_612_a.1
theorem dL_law_615 : decode cL_law 615 = .ok (.pop, 1) := dL_law_612_a.2.1
theorem dL_law_616 : decode cL_law 616 = .ok (.aload_n 2, 1) := dL_law_612_a.2.2.1
theorem dL_law_617 : decode cL_law 617 = .ok (.aload_n 0, 1) := dL_law_612_a.2.2.2.1
theorem dL_law_618 : decode cL_law 618 = .ok (.iload_n 3, 1) := dL_law_612_a.2.2.2.2.1
theorem dL_law_619 : decode cL_law 619 = .ok (.iconst 1, 1) := dL_law_612_a.2.2.2.2.2.1
theorem dL_law_620 : decode cL_law 620 = .ok (.iadd, 1) := dL_law_612_a.2.2.2.2.2.2.1
theorem dL_law_621 : decode cL_law 621 = .ok (.iaload, 1) := dL_law_612_a.2.2.2.2.2.2.2.1
theorem dL_law_622 : decode cL_law 622 = .ok (.aload_n 0, 1) := dL_law_612_a.2.2.2.2.2.2.2.2.1
theorem dL_law_623 : decode cL_law 623 = .ok (.iload_n 3, 1) := dL_law_612_a.2.2.2.2.2.2.2.2.2.1
theorem dL_law_624 : decode cL_law 624 = .ok (.iconst 2, 1) := dL_law_612_a.2.2.2.2.2.2.2.2.2.2.1
theorem dL_law_625 : decode cL_law 625 = .ok (.iadd, 1) := dL_law_612_a.2.2.2.2.2.2.2.2.2.2.2.1
theorem dL_law_626 : decode cL_law 626 = .ok (.iaload, 1) := dL_law_612_a.2.2.2.2.2.2.2.2.2.2.2.2.1
theorem dL_law_627 : decode cL_law 627 = .ok (.invokevirtual 81, 3) := dL_law_612_a.2.2.2.2.2.2.2.2.2.2.2.2.2.1
theorem dL_law_630 : decode cL_law 630 = .ok (.pop, 1) := dL_law_612_a.2.2.2.2.2.2.2.2.2.2.2.2.2.2.1
theorem dL_law_631 : decode cL_law 631 = .ok (.goto 542, 3) := dL_law_612_a.2.2.2.2.2.2.2.2.2.2.2.2.2.2.2
theorem dL_law_634_a : (decode cL_law 634 = .ok (.aload_n 1, 1)) ∧ (decode cL_law 635 = .ok (.aload_n 0, 1)) ∧ (decode cL_law 636 = .ok (.iload_n 3, 1)) ∧ (decode cL_law 637 = .ok (.iconst 1, 1)) ∧ (decode cL_law 638 = .ok (.iadd, 1)) ∧ (decode cL_law 639 = .ok (.iaload, 1)) ∧ (decode cL_law 640 = .ok (.aload_n 0, 1)) ∧ (decode cL_law 641 = .ok (.iload_n 3, 1)) ∧ (decode cL_law 642 = .ok (.iconst 2, 1)) ∧ (decode cL_law 643 = .ok (.iadd, 1)) ∧ (decode cL_law 644 = .ok (.iaload, 1)) ∧ (decode cL_law 645 = .ok (.invokevirtual 82, 3)) ∧ (decode cL_law 648 = .ok (.pop, 1)) ∧ (decode cL_law 649 = .ok (.aload_n 2, 1)) ∧ (decode cL_law 650 = .ok (.aload_n 0, 1)) ∧ (decode cL_law 651 = .ok (.iload_n 3, 1)) := by decide +kernel
theorem dL_law_634 : decode cL_law 634 = .ok (.aload_n 1, 1) := dL_law_634_a.1
theorem dL_law_635 : decode cL_law 635 = .ok (.aload_n 0, 1) := dL_law_634_a.2.1
theorem dL_law_636 : decode cL_law 636 = .ok (.iload_n 3, 1) := dL_law_634_a.2.2.1
theorem dL_law_637 : decode cL_law 637 = .ok (.iconst 1, 1) := dL_law_634_a.2.2.2.1
theorem dL_law_638 : decode cL_law 638 = .ok (.iadd, 1) := dL_law_634_a.2.2.2.2.1
theorem dL_law_639 : decode cL_law 639 = .ok (.iaload, 1) := dL_law_634_a.2.2.2.2.2.1
theorem dL_law_640 : decode cL_law 640 = .ok (.aload_n 0, 1) := dL_law_634_a.2.2.2.2.2.2.1
theorem dL_law_641 : decode cL_law 641 = .ok (.iload_n 3, 1) := dL_law_634_a.2.2.2.2.2.2.2.1
theorem dL_law_642 : decode cL_law 642 = .ok (.iconst 2, 1) := dL_law_634_a.2.2.2.2.2.2.2.2.1
theorem dL_law_643 : decode cL_law 643 = .ok (.iadd, 1) := dL_law_634_a.2.2.2.2.2.2.2.2.2.1
theorem dL_law_644 : decode cL_law 644 = .ok (.iaload, 1) := dL_law_634_a.2.2.2.2.2.2.2.2.2.2.1
theorem dL_law_645 : decode cL_law 645 = .ok (.invokevirtual 82, 3) := dL_law_634_a.2.2.2.2.2.2.2.2.2.2.2.1
theorem dL_law_648 : decode cL_law 648 = .ok (.pop, 1) := dL_law_634_a.2.2.2.2.2.2.2.2.2.2.2.2.1
theorem dL_law_649 : decode cL_law 649 = .ok (.aload_n 2, 1) := dL_law_634_a.2.2.2.2.2.2.2.2.2.2.2.2.2.1
theorem dL_law_650 : decode cL_law 650 = .ok (.aload_n 0, 1) := dL_law_634_a.2.2.2.2.2.2.2.2.2.2.2.2.2.2.1
theorem dL_law_651 : decode cL_law 651 = .ok (.iload_n 3, 1) := dL_law_634_a.2.2.2.2.2.2.2.2.2.2.2.2.2.2.2
theorem dL_law_652_a : (decode cL_law 652 = .ok (.iconst 1, 1)) ∧ (decode cL_law 653 = .ok (.iadd, 1)) ∧ (decode cL_law 654 = .ok (.iaload, 1)) ∧ (decode cL_law 655 = .ok (.aload_n 0, 1)) ∧ (decode cL_law 656 = .ok (.iload_n 3, 1)) ∧ (decode cL_law 657 = .ok (.iconst 2, 1)) ∧ (decode cL_law 658 = .ok (.iadd, 1)) ∧ (decode cL_law 659 = .ok (.iaload, 1)) ∧ (decode cL_law 660 = .ok (.invokevirtual 85, 3)) ∧ (decode cL_law 663 = .ok (.pop, 1)) ∧ (decode cL_law 664 = .ok (.goto 509, 3)) ∧ (decode cL_law 667 = .ok (.aload_n 1, 1)) ∧ (decode cL_law 668 = .ok (.aload_n 0, 1)) ∧ (decode cL_law 669 = .ok (.iload_n 3, 1)) ∧ (decode cL_law 670 = .ok (.iconst 1, 1)) ∧ (decode cL_law 671 = .ok (.iadd, 1)) := by decide +kernel
theorem dL_law_652 : decode cL_law 652 = .ok (.iconst 1, 1) := dL_law_652_a.1
theorem dL_law_653 : decode cL_law 653 = .ok (.iadd, 1) := dL_law_652_a.2.1
theorem dL_law_654 : decode cL_law 654 = .ok (.iaload, 1) := dL_law_652_a.2.2.1
theorem dL_law_655 : decode cL_law 655 = .ok (.aload_n 0, 1) := dL_law_652_a.2.2.2.1
theorem dL_law_656 : decode cL_law 656 = .ok (.iload_n 3, 1) := dL_law_652_a.2.2.2.2.1
theorem dL_law_657 : decode cL_law 657 = .ok (.iconst 2, 1) := dL_law_652_a.2.2.2.2.2.1
theorem dL_law_658 : decode cL_law 658 = .ok (.iadd, 1) := dL_law_652_a.2.2.2.2.2.2.1
theorem dL_law_659 : decode cL_law 659 = .ok (.iaload, 1) := dL_law_652_a.2.2.2.2.2.2.2.1
theorem dL_law_660 : decode cL_law 660 = .ok (.invokevirtual 85, 3) := dL_law_652_a.2.2.2.2.2.2.2.2.1
theorem dL_law_663 : decode cL_law 663 = .ok (.pop, 1) := dL_law_652_a.2.2.2.2.2.2.2.2.2.1
theorem dL_law_664 : decode cL_law 664 = .ok (.goto 509, 3) := dL_law_652_a.2.2.2.2.2.2.2.2.2.2.1
theorem dL_law_667 : decode cL_law 667 = .ok (.aload_n 1, 1) := dL_law_652_a.2.2.2.2.2.2.2.2.2.2.2.1
theorem dL_law_668 : decode cL_law 668 = .ok (.aload_n 0, 1) := dL_law_652_a.2.2.2.2.2.2.2.2.2.2.2.2.1
theorem dL_law_669 : decode cL_law 669 = .ok (.iload_n 3, 1) := dL_law_652_a.2.2.2.2.2.2.2.2.2.2.2.2.2.1
theorem dL_law_670 : decode cL_law 670 = .ok (.iconst 1, 1) := dL_law_652_a.2.2.2.2.2.2.2.2.2.2.2.2.2.2.1
theorem dL_law_671 : decode cL_law 671 = .ok (.iadd, 1) := dL_law_652_a.2.2.2.2.2.2.2.2.2.2.2.2.2.2.2
theorem dL_law_672_a : (decode cL_law 672 = .ok (.iaload, 1)) ∧ (decode cL_law 673 = .ok (.aload_n 0, 1)) ∧ (decode cL_law 674 = .ok (.iload_n 3, 1)) ∧ (decode cL_law 675 = .ok (.iconst 2, 1)) ∧ (decode cL_law 676 = .ok (.iadd, 1)) ∧ (decode cL_law 677 = .ok (.iaload, 1)) ∧ (decode cL_law 678 = .ok (.invokevirtual 86, 3)) ∧ (decode cL_law 681 = .ok (.pop, 1)) ∧ (decode cL_law 682 = .ok (.aload_n 2, 1)) ∧ (decode cL_law 683 = .ok (.aload_n 0, 1)) ∧ (decode cL_law 684 = .ok (.iload_n 3, 1)) ∧ (decode cL_law 685 = .ok (.iconst 1, 1)) ∧ (decode cL_law 686 = .ok (.iadd, 1)) ∧ (decode cL_law 687 = .ok (.iaload, 1)) ∧ (decode cL_law 688 = .ok (.aload_n 0, 1)) ∧ (decode cL_law 689 = .ok (.iload_n 3, 1)) := by decide +kernel
theorem dL_law_672 : decode cL_law 672 = .ok (.iaload, 1) := dL_law_672_a.1
theorem dL_law_673 : decode cL_law 673 = .ok (.aload_n 0, 1) := dL_law_672_a.2.1
theorem dL_law_674 : decode cL_law 674 = .ok (.iload_n 3, 1) := dL_law_672_a.2.2.1
theorem dL_law_675 : decode cL_law 675 = .ok (.iconst 2, 1) := dL_law_672_a.2.2.2.1
theorem dL_law_676 : decode cL_law 676 = .ok (.iadd, 1) := dL_law_672_a.2.2.2.2.1
theorem dL_law_677 : decode cL_law 677 = .ok (.iaload, 1) := dL_law_672_a.2.2.2.2.2.1
theorem dL_law_678 : decode cL_law 678 = .ok (.invokevirtual 86, 3) := dL_law_672_a.2.2.2.2.2.2.1
theorem dL_law_681 : decode cL_law 681 = .ok (.pop, 1) := dL_law_672_a.2.2.2.2.2.2.2.1
theorem dL_law_682 : decode cL_law 682 = .ok (.aload_n 2, 1) := dL_law_672_a.2.2.2.2.2.2.2.2.1
theorem dL_law_683 : decode cL_law 683 = .ok (.aload_n 0, 1) := dL_law_672_a.2.2.2.2.2.2.2.2.2.1
theorem dL_law_684 : decode cL_law 684 = .ok (.iload_n 3, 1) := dL_law_672_a.2.2.2.2.2.2.2.2.2.2.1
theorem dL_law_685 : decode cL_law 685 = .ok (.iconst 1, 1) := dL_law_672_a.2.2.2.2.2.2.2.2.2.2.2.1
theorem dL_law_686 : decode cL_law 686 = .ok (.iadd, 1) := dL_law_672_a.2.2.2.2.2.2.2.2.2.2.2.2.1
theorem dL_law_687 : decode cL_law 687 = .ok (.iaload, 1) := dL_law_672_a.2.2.2.2.2.2.2.2.2.2.2.2.2.1
theorem dL_law_688 : decode cL_law 688 = .ok (.aload_n 0, 1) := dL_law_672_a.2.2.2.2.2.2.2.2.2.2.2.2.2.2.1
theorem dL_law_689 : decode cL_law 689 = .ok (.iload_n 3, 1) := dL_law_672_a.2.2.2.2.2.2.2.2.2.2.2.2.2.2.2
theorem dL_law_690_a : (decode cL_law 690 = .ok (.iconst 2, 1)) ∧ (decode cL_law 691 = .ok (.iadd, 1)) ∧ (decode cL_law 692 = .ok (.iaload, 1)) ∧ (decode cL_law 693 = .ok (.invokevirtual 89, 3)) ∧ (decode cL_law 696 = .ok (.pop, 1)) ∧ (decode cL_law 697 = .ok (.goto 476, 3)) ∧ (decode cL_law 700 = .ok (.aload_n 1, 1)) ∧ (decode cL_law 701 = .ok (.invokevirtual 90, 3)) ∧ (decode cL_law 704 = .ok (.pop, 1)) ∧ (decode cL_law 705 = .ok (.aload_n 2, 1)) ∧ (decode cL_law 706 = .ok (.invokevirtual 93, 3)) ∧ (decode cL_law 709 = .ok (.pop, 1)) ∧ (decode cL_law 710 = .ok (.goto 463, 3)) ∧ (decode cL_law 713 = .ok (.aload_n 1, 1)) ∧ (decode cL_law 714 = .ok (.aload_n 0, 1)) ∧ (decode cL_law 715 = .ok (.iload_n 3, 1)) := by decide +kernel
theorem dL_law_690 : decode cL_law 690 = .ok (.iconst 2, 1) := dL_law_690_a.1
theorem dL_law_691 : decode cL_law 691 = .ok (.iadd, 1) := dL_law_690_a.2.1
theorem dL_law_692 : decode cL_law 692 = .ok (.iaload, 1) := dL_law_690_a.2.2.1
theorem dL_law_693 : decode cL_law 693 = .ok (.invokevirtual 89, 3) := dL_law_690_a.2.2.2.1
theorem dL_law_696 : decode cL_law 696 = .ok (.pop, 1) := dL_law_690_a.2.2.2.2.1
theorem dL_law_697 : decode cL_law 697 = .ok (.goto 476, 3) := dL_law_690_a.2.2.2.2.2.1
theorem dL_law_700 : decode cL_law 700 = .ok (.aload_n 1, 1) := dL_law_690_a.2.2.2.2.2.2.1
theorem dL_law_701 : decode cL_law 701 = .ok (.invokevirtual 90, 3) := dL_law_690_a.2.2.2.2.2.2.2.1
theorem dL_law_704 : decode cL_law 704 = .ok (.pop, 1) := dL_law_690_a.2.2.2.2.2.2.2.2.1
theorem dL_law_705 : decode cL_law 705 = .ok (.aload_n 2, 1) := dL_law_690_a.2.2.2.2.2.2.2.2.2.1
theorem dL_law_706 : decode cL_law 706 = .ok (.invokevirtual 93, 3) := dL_law_690_a.2.2.2.2.2.2.2.2.2.2.1
theorem dL_law_709 : decode cL_law 709 = .ok (.pop, 1) := dL_law_690_a.2.2.2.2.2.2.2.2.2.2.2.1
theorem dL_law_710 : decode cL_law 710 = .ok (.goto 463, 3) := dL_law_690_a.2.2.2.2.2.2.2.2.2.2.2.2.1
theorem dL_law_713 : decode cL_law 713 = .ok (.aload_n 1, 1) := dL_law_690_a.2.2.2.2.2.2.2.2.2.2.2.2.2.1
theorem dL_law_714 : decode cL_law 714 = .ok (.aload_n 0, 1) := dL_law_690_a.2.2.2.2.2.2.2.2.2.2.2.2.2.2.1
theorem dL_law_715 : decode cL_law 715 = .ok (.iload_n 3, 1) := dL_law_690_a.2.2.2.2.2.2.2.2.2.2.2.2.2.2.2
theorem dL_law_716_a : (decode cL_law 716 = .ok (.iconst 1, 1)) ∧ (decode cL_law 717 = .ok (.iadd, 1)) ∧ (decode cL_law 718 = .ok (.iaload, 1)) ∧ (decode cL_law 719 = .ok (.invokevirtual 94, 3)) ∧ (decode cL_law 722 = .ok (.pop, 1)) ∧ (decode cL_law 723 = .ok (.aload_n 2, 1)) ∧ (decode cL_law 724 = .ok (.aload_n 0, 1)) ∧ (decode cL_law 725 = .ok (.iload_n 3, 1)) ∧ (decode cL_law 726 = .ok (.iconst 1, 1)) ∧ (decode cL_law 727 = .ok (.iadd, 1)) ∧ (decode cL_law 728 = .ok (.iaload, 1)) ∧ (decode cL_law 729 = .ok (.invokevirtual 97, 3)) ∧ (decode cL_law 732 = .ok (.pop, 1)) ∧ (decode cL_law 733 = .ok (.goto 440, 3)) ∧ (decode cL_law 736 = .ok (.aload_n 1, 1)) ∧ (decode cL_law 737 = .ok (.aload_n 0, 1)) := by decide +kernel
theorem dL_law_716 : decode cL_law 716 = .ok (.iconst 1, 1) := dL_law_716_a.1
theorem dL_law_717 : decode cL_law 717 = .ok (.iadd, 1) := dL_law_716_a.2.1
theorem dL_law_718 : decode cL_law 718 = .ok (.iaload, 1) := dL_law_716_a.2.2.1
theorem dL_law_719 : decode cL_law 719 = .ok (.invokevirtual 94, 3) := dL_law_716_a.2.2.2.1
theorem dL_law_722 : decode cL_law 722 = .ok (.pop, 1) := dL_law_716_a.2.2.2.2.1
theorem dL_law_723 : decode cL_law 723 = .ok (.aload_n 2, 1) := dL_law_716_a.2.2.2.2.2.1
theorem dL_law_724 : decode cL_law 724 = .ok (.aload_n 0, 1) := dL_law_716_a.2.2.2.2.2.2.1
theorem dL_law_725 : decode cL_law 725 = .ok (.iload_n 3, 1) := dL_law_716_a.2.2.2.2.2.2.2.1
theorem dL_law_726 : decode cL_law 726 = .ok (.iconst 1, 1) := dL_law_716_a.2.2.2.2.2.2.2.2.1
theorem dL_law_727 : decode cL_law 727 = .ok (.iadd, 1) := dL_law_716_a.2.2.2.2.2.2.2.2.2.1
theorem dL_law_728 : decode cL_law 728 = .ok (.iaload, 1) := dL_law_716_a.2.2.2.2.2.2.2.2.2.2.1
theorem dL_law_729 : decode cL_law 729 = .ok (.invokevirtual 97, 3) := dL_law_716_a.2.2.2.2.2.2.2.2.2.2.2.1
theorem dL_law_732 : decode cL_law 732 = .ok (.pop, 1) := dL_law_716_a.2.2.2.2.2.2.2.2.2.2.2.2.1
theorem dL_law_733 : decode cL_law 733 = .ok (.goto 440, 3) := dL_law_716_a.2.2.2.2.2.2.2.2.2.2.2.2.2.1
theorem dL_law_736 : decode cL_law 736 = .ok (.aload_n 1, 1) := dL_law_716_a.2.2.2.2.2.2.2.2.2.2.2.2.2.2.1
theorem dL_law_737 : decode cL_law 737 = .ok (.aload_n 0, 1) := dL_law_716_a.2.2.2.2.2.2.2.2.2.2.2.2.2.2.2
theorem dL_law_738_a : (decode cL_law 738 = .ok (.iload_n 3, 1)) ∧ (decode cL_law 739 = .ok (.iconst 1, 1)) ∧ (decode cL_law 740 = .ok (.iadd, 1)) ∧ (decode cL_law 741 = .ok (.iaload, 1)) ∧ (decode cL_law 742 = .ok (.invokevirtual 98, 3)) ∧ (decode cL_law 745 = .ok (.pop, 1)) ∧ (decode cL_law 746 = .ok (.aload_n 2, 1)) ∧ (decode cL_law 747 = .ok (.aload_n 0, 1)) ∧ (decode cL_law 748 = .ok (.iload_n 3, 1)) ∧ (decode cL_law 749 = .ok (.iconst 1, 1)) ∧ (decode cL_law 750 = .ok (.iadd, 1)) ∧ (decode cL_law 751 = .ok (.iaload, 1)) ∧ (decode cL_law 752 = .ok (.invokevirtual 101, 3)) ∧ (decode cL_law 755 = .ok (.pop, 1)) ∧ (decode cL_law 756 = .ok (.goto 417, 3)) ∧ (decode cL_law 759 = .ok (.aload_n 1, 1)) := by decide +kernel
theorem dL_law_738 : decode cL_law 738 = .ok (.iload_n 3, 1) := dL_law_738_a.1
theorem dL_law_739 : decode cL_law 739 = .ok (.iconst 1, 1) := dL_law_738_a.2.1
theorem dL_law_740 : decode cL_law 740 = .ok (.iadd, 1) := dL_law_738_a.2.2.1
theorem dL_law_741 : decode cL_law 741 = .ok (.iaload, 1) := dL_law_738_a.2.2.2.1
theorem dL_law_742 : decode cL_law 742 = .ok (.invokevirtual 98, 3) := dL_law_738_a.2.2.2.2.1
theorem dL_law_745 : decode cL_law 745 = .ok (.pop, 1) := dL_law_738_a.2.2.2.2.2.1
theorem dL_law_746 : decode cL_law 746 = .ok (.aload_n 2, 1) := dL_law_738_a.2.2.2.2.2.2.1
theorem dL_law_747 : decode cL_law 747 = .ok (.aload_n 0, 1) := dL_law_738_a.2.2.2.2.2.2.2.1
theorem dL_law_748 : decode cL_law 748 = .ok (.iload_n 3, 1) := dL_law_738_a.2.2.2.2.2.2.2.2.1
theorem dL_law_749 : decode cL_law 749 = .ok (.iconst 1, 1) := dL_law_738_a.2.2.2.2.2.2.2.2.2.1
theorem dL_law_750 : decode cL_law 750 = .ok (.iadd, 1) := dL_law_738_a.2.2.2.2.2.2.2.2.2.2.1
theorem dL_law_751 : decode cL_law 751 = .ok (.iaload, 1) := dL_law_738_a.2.2.2.2.2.2.2.2.2.2.2.1
theorem dL_law_752 : decode cL_law 752 = .ok (.invokevirtual 101, 3) := dL_law_738_a.2.2.2.2.2.2.2.2.2.2.2.2.1
theorem dL_law_755 : decode cL_law 755 = .ok (.pop, 1) := dL_law_738_a.2.2.2.2.2.2.2.2.2.2.2.2.2.1
theorem dL_law_756 : decode cL_law 756 = .ok (.goto 417, 3) := dL_law_738_a.2.2.2.2.2.2.2.2.2.2.2.2.2.2.1
theorem dL_law_759 : decode cL_law 759 = .ok (.aload_n 1, 1) := dL_law_738_a.2.2.2.2.2.2.2.2.2.2.2.2.2.2.2
theorem dL_law_760_a : (decode cL_law 760 = .ok (.aload_n 0, 1)) ∧ (decode cL_law 761 = .ok (.iload_n 3, 1)) ∧ (decode cL_law 762 = .ok (.iconst 1, 1)) ∧ (decode cL_law 763 = .ok (.iadd, 1)) ∧ (decode cL_law 764 = .ok (.iaload, 1)) ∧ (decode cL_law 765 = .ok (.invokevirtual 102, 3)) ∧ (decode cL_law 768 = .ok (.pop, 1)) ∧ (decode cL_law 769 = .ok (.aload_n 2, 1)) ∧ (decode cL_law 770 = .ok (.aload_n 0, 1)) ∧ (decode cL_law 771 = .ok (.iload_n 3, 1)) ∧ (decode cL_law 772 = .ok (.iconst 1, 1)) ∧ (decode cL_law 773 = .ok (.iadd, 1)) ∧ (decode cL_law 774 = .ok (.iaload, 1)) ∧ (decode cL_law 775 = .ok (.invokevirtual 105, 3)) ∧ (decode cL_law 778 = .ok (.pop, 1)) ∧ (decode cL_law 779 = .ok (.goto 394, 3)) := by decide +kernel
theorem dL_law_760 : decode cL_law 760 = .ok (.aload_n 0, 1) := dL_law_760_a.1
theorem dL_law_761 : decode cL_law 761 = .ok (.iload_n 3, 1) := dL_law_760_a.2.1
theorem dL_law_762 : decode cL_law 762 = .ok (.iconst 1, 1) := dL_law_760_a.2.2.1
theorem dL_law_763 : decode cL_law 763 = .ok (.iadd, 1) := dL_law_760_a.2.2.2.1
theorem dL_law_764 : decode cL_law 764 = .ok (.iaload, 1) := dL_law_760_a.2.2.2.2.1
theorem dL_law_765 : decode cL_law 765 = .ok (.invokevirtual 102, 3) := dL_law_760_a.2.2.2.2.2.1
theorem dL_law_768 : decode cL_law 768 = .ok (.pop, 1) := dL_law_760_a.2.2.2.2.2.2.1
theorem dL_law_769 : decode cL_law 769 = .ok (.aload_n 2, 1) := dL_law_760_a.2.2.2.2.2.2.2.1
theorem dL_law_770 : decode cL_law 770 = .ok (.aload_n 0, 1) := dL_law_760_a.2.2.2.2.2.2.2.2.1
theorem dL_law_771 : decode cL_law 771 = .ok (.iload_n 3, 1) := dL_law_760_a.2.2.2.2.2.2.2.2.2.1
theorem dL_law_772 : decode cL_law 772 = .ok (.iconst 1, 1) := dL_law_760_a.2.2.2.2.2.2.2.2.2.2.1
theorem dL_law_773 : decode cL_law 773 = .ok (.iadd, 1) := dL_law_760_a.2.2.2.2.2.2.2.2.2.2.2.1
theorem dL_law_774 : decode cL_law 774 = .ok (.iaload, 1) := dL_law_760_a.2.2.2.2.2.2.2.2.2.2.2.2.1
theorem dL_law_775 : decode cL_law 775 = .ok (.invokevirtual 105, 3) := dL_law_760_a.2.2.2.2.2.2.2.2.2.2.2.2.2.1
theorem dL_law_778 : decode cL_law 778 = .ok (.pop, 1) := dL_law_760_a.2.2.2.2.2.2.2.2.2.2.2.2.2.2.1
theorem dL_law_779 : decode cL_law 779 = .ok (.goto 394, 3) := dL_law_760_a.2.2.2.2.2.2.2.2.2.2.2.2.2.2.2
theorem dL_law_782_a : (decode cL_law 782 = .ok (.aload_n 1, 1)) ∧ (decode cL_law 783 = .ok (.aload_n 0, 1)) ∧ (decode cL_law 784 = .ok (.iload_n 3, 1)) ∧ (decode cL_law 785 = .ok (.iconst 1, 1)) ∧ (decode cL_law 786 = .ok (.iadd, 1)) ∧ (decode cL_law 787 = .ok (.iaload, 1)) ∧ (decode cL_law 788 = .ok (.aload_n 0, 1)) ∧ (decode cL_law 789 = .ok (.iload_n 3, 1)) ∧ (decode cL_law 790 = .ok (.iconst 2, 1)) ∧ (decode cL_law 791 = .ok (.iadd, 1)) ∧ (decode cL_law 792 = .ok (.iaload, 1)) ∧ (decode cL_law 793 = .ok (.aload_n 0, 1)) ∧ (decode cL_law 794 = .ok (.iload_n 3, 1)) ∧ (decode cL_law 795 = .ok (.iconst 3, 1)) ∧ (decode cL_law 796 = .ok (.iadd, 1)) ∧ (decode cL_law 797 = .ok (.iaload, 1)) := by decide +kernel
theorem dL_law_782 : decode cL_law 782 = .ok (.aload_n 1, 1) := dL_law_782_a.1
theorem dL_law_783 : decode cL_law 783 = .ok (.aload_n 0, 1) := dL_law_782_a.2.1
theorem dL_law_784 : decode cL_law 784 = .ok (.iload_n 3, 1) := dL_law_782_a.2.2.1
theorem dL_law_785 : decode cL_law 785 = .ok (.iconst 1, 1) := dL_law_782_a.2.2.2.1
theorem dL_law_786 : decode cL_law 786 = .ok (.iadd, 1) := dL_law_782_a.2.2.2.2.1
theorem dL_law_787 : decode cL_law 787 = .ok (.iaload, 1) := dL_law_782_a.2.2.2.2.2.1
theorem dL_law_788 : decode cL_law 788 = .ok (.aload_n 0, 1) := dL_law_782_a.2.2.2.2.2.2.1
theorem dL_law_789 : decode cL_law 789 = .ok (.iload_n 3, 1) := dL_law_782_a.2.2.2.2.2.2.2.1
theorem dL_law_790 : decode cL_law 790 = .ok (.iconst 2, 1) := dL_law_782_a.2.2.2.2.2.2.2.2.1
theorem dL_law_791 : decode cL_law 791 = .ok (.iadd, 1) := dL_law_782_a.2.2.2.2.2.2.2.2.2.1
theorem dL_law_792 : decode cL_law 792 = .ok (.iaload, 1) := dL_law_782_a.2.2.2.2.2.2.2.2.2.2.1
theorem dL_law_793 : decode cL_law 793 = .ok (.aload_n 0, 1) := dL_law_782_a.2.2.2.2.2.2.2.2.2.2.2.1
theorem dL_law_794 : decode cL_law 794 = .ok (.iload_n 3, 1) := dL_law_782_a.2.2.2.2.2.2.2.2.2.2.2.2.1
theorem dL_law_795 : decode cL_law 795 = .ok (.iconst 3, 1) := dL_law_782_a.2.2.2.2.2.2.2.2.2.2.2.2.2.1
theorem dL_law_796 : decode cL_law 796 = .ok (.iadd, 1) := dL_law_782_a.2.2.2.2.2.2.2.2.2.2.2.2.2.2.1
theorem dL_law_797 : decode cL_law 797 = .ok (.iaload, 1) := dL_law_782_a.2.2.2.2.2.2.2.2.2.2.2.2.2.2.2
theorem dL_law_798_a : (decode cL_law 798 = .ok (.invokevirtual 106, 3)) ∧ (decode cL_law 801 = .ok (.aload_n 2, 1)) ∧ (decode cL_law 802 = .ok (.aload_n 0, 1)) ∧ (decode cL_law 803 = .ok (.iload_n 3, 1)) ∧ (decode cL_law 804 = .ok (.iconst 1, 1)) ∧ (decode cL_law 805 = .ok (.iadd, 1)) ∧ (decode cL_law 806 = .ok (.iaload, 1)) ∧ (decode cL_law 807 = .ok (.aload_n 0, 1)) ∧ (decode cL_law 808 = .ok (.iload_n 3, 1)) ∧ (decode cL_law 809 = .ok (.iconst 2, 1)) ∧ (decode cL_law 810 = .ok (.iadd, 1)) ∧ (decode cL_law 811 = .ok (.iaload, 1)) ∧ (decode cL_law 812 = .ok (.aload_n 0, 1)) ∧ (decode cL_law 813 = .ok (.iload_n 3, 1)) ∧ (decode cL_law 814 = .ok (.iconst 3, 1)) ∧ (decode cL_law 815 = .ok (.iadd, 1)) := by decide +kernel
theorem dL_law_798 : decode cL_law 798 = .ok (.invokevirtual 106, 3) := dL_law_798_a.1
theorem dL_law_801 : decode cL_law 801 = .ok (.aload_n 2, 1) := dL_law_798_a.2.1
theorem dL_law_802 : decode cL_law 802 = .ok (.aload_n 0, 1) := dL_law_798_a.2.2.1
theorem dL_law_803 : decode cL_law 803 = .ok (.iload_n 3, 1) := dL_law_798_a.2.2.2.1
theorem dL_law_804 : decode cL_law 804 = .ok (.iconst 1, 1) := dL_law_798_a.2.2.2.2.1
theorem dL_law_805 : decode cL_law 805 = .ok (.iadd, 1) := dL_law_798_a.2.2.2.2.2.1
theorem dL_law_806 : decode cL_law 806 = .ok (.iaload, 1) := dL_law_798_a.2.2.2.2.2.2.1
theorem dL_law_807 : decode cL_law 807 = .ok (.aload_n 0, 1) := dL_law_798_a.2.2.2.2.2.2.2.1
theorem dL_law_808 : decode cL_law 808 = .ok (.iload_n 3, 1) := dL_law_798_a.2.2.2.2.2.2.2.2.1
theorem dL_law_809 : decode cL_law 809 = .ok (.iconst 2, 1) := dL_law_798_a.2.2.2.2.2.2.2.2.2.1
theorem dL_law_810 : decode cL_law 810 = .ok (.iadd, 1) := dL_law_798_a.2.2.2.2.2.2.2.2.2.2.1
theorem dL_law_811 : decode cL_law 811 = .ok (.iaload, 1) := dL_law_798_a.2.2.2.2.2.2.2.2.2.2.2.1
theorem dL_law_812 : decode cL_law 812 = .ok (.aload_n 0, 1) := dL_law_798_a.2.2.2.2.2.2.2.2.2.2.2.2.1
theorem dL_law_813 : decode cL_law 813 = .ok (.iload_n 3, 1) := dL_law_798_a.2.2.2.2.2.2.2.2.2.2.2.2.2.1
theorem dL_law_814 : decode cL_law 814 = .ok (.iconst 3, 1) := dL_law_798_a.2.2.2.2.2.2.2.2.2.2.2.2.2.2.1
theorem dL_law_815 : decode cL_law 815 = .ok (.iadd, 1) := dL_law_798_a.2.2.2.2.2.2.2.2.2.2.2.2.2.2.2
theorem dL_law_816_a : (decode cL_law 816 = .ok (.iaload, 1)) ∧ (decode cL_law 817 = .ok (.invokevirtual 110, 3)) ∧ (decode cL_law 820 = .ok (.lcmp, 1)) ∧ (decode cL_law 821 = .ok (.ifCond .eq 352, 3)) ∧ (decode cL_law 824 = .ok (.iconst 0, 1)) ∧ (decode cL_law 825 = .ok (.ireturn, 1)) ∧ (decode cL_law 826 = .ok (.aload_n 1, 1)) ∧ (decode cL_law 827 = .ok (.aload_n 0, 1)) ∧ (decode cL_law 828 = .ok (.iload_n 3, 1)) ∧ (decode cL_law 829 = .ok (.iconst 1, 1)) ∧ (decode cL_law 830 = .ok (.iadd, 1)) ∧ (decode cL_law 831 = .ok (.iaload, 1)) ∧ (decode cL_law 832 = .ok (.aload_n 0, 1)) ∧ (decode cL_law 833 = .ok (.iload_n 3, 1)) ∧ (decode cL_law 834 = .ok (.iconst 2, 1)) ∧ (decode cL_law 835 = .ok (.iadd, 1)) := by decide +kernel
theorem dL_law_816 : decode cL_law 816 = .ok (.iaload, 1) := dL_law_816_a.1
theorem dL_law_817 : decode cL_law 817 = .ok (.invokevirtual 110, 3) := dL_law_816_a.2.1
theorem dL_law_820 : decode cL_law 820 = .ok (.lcmp, 1) := dL_law_816_a.2.2.1
theorem dL_law_821 : decode cL_law 821 = .ok (.ifCond .eq 352, 3) := dL_law_816_a.2.2.2.1
theorem dL_law_824 : decode cL_law 824 = .ok (.iconst 0, 1) := dL_law_816_a.2.2.2.2.1
theorem dL_law_825 : decode cL_law 825 = .ok (.ireturn, 1) := dL_law_816_a.2.2.2.2.2.1
theorem dL_law_826 : decode cL_law 826 = .ok (.aload_n 1, 1) := dL_law_816_a.2.2.2.2.2.2.1
theorem dL_law_827 : decode cL_law 827 = .ok (.aload_n 0, 1) := dL_law_816_a.2.2.2.2.2.2.2.1
theorem dL_law_828 : decode cL_law 828 = .ok (.iload_n 3, 1) := dL_law_816_a.2.2.2.2.2.2.2.2.1
theorem dL_law_829 : decode cL_law 829 = .ok (.iconst 1, 1) := dL_law_816_a.2.2.2.2.2.2.2.2.2.1
theorem dL_law_830 : decode cL_law 830 = .ok (.iadd, 1) := dL_law_816_a.2.2.2.2.2.2.2.2.2.2.1
theorem dL_law_831 : decode cL_law 831 = .ok (.iaload, 1) := dL_law_816_a.2.2.2.2.2.2.2.2.2.2.2.1
theorem dL_law_832 : decode cL_law 832 = .ok (.aload_n 0, 1) := dL_law_816_a.2.2.2.2.2.2.2.2.2.2.2.2.1
theorem dL_law_833 : decode cL_law 833 = .ok (.iload_n 3, 1) := dL_law_816_a.2.2.2.2.2.2.2.2.2.2.2.2.2.1
theorem dL_law_834 : decode cL_law 834 = .ok (.iconst 2, 1) := dL_law_816_a.2.2.2.2.2.2.2.2.2.2.2.2.2.2.1
theorem dL_law_835 : decode cL_law 835 = .ok (.iadd, 1) := dL_law_816_a.2.2.2.2.2.2.2.2.2.2.2.2.2.2.2
theorem dL_law_836_a : (decode cL_law 836 = .ok (.iaload, 1)) ∧ (decode cL_law 837 = .ok (.aload_n 0, 1)) ∧ (decode cL_law 838 = .ok (.iload_n 3, 1)) ∧ (decode cL_law 839 = .ok (.iconst 3, 1)) ∧ (decode cL_law 840 = .ok (.iadd, 1)) ∧ (decode cL_law 841 = .ok (.iaload, 1)) ∧ (decode cL_law 842 = .ok (.invokevirtual 111, 3)) ∧ (decode cL_law 845 = .ok (.pop, 1)) ∧ (decode cL_law 846 = .ok (.aload_n 2, 1)) ∧ (decode cL_law 847 = .ok (.aload_n 0, 1)) ∧ (decode cL_law 848 = .ok (.iload_n 3, 1)) ∧ (decode cL_law 849 = .ok (.iconst 1, 1)) ∧ (decode cL_law 850 = .ok (.iadd, 1)) ∧ (decode cL_law 851 = .ok (.iaload, 1)) ∧ (decode cL_law 852 = .ok (.aload_n 0, 1)) ∧ (decode cL_law 853 = .ok (.iload_n 3, 1)) := by decide +kernel
theorem dL_law_836 : decode cL_law 836 = .ok (.iaload, 1) := dL_law_836_a.1
theorem dL_law_837 : decode cL_law 837 = .ok (.aload_n 0, 1) := dL_law_836_a.2.1
theorem dL_law_838 : decode cL_law 838 = .ok (.iload_n 3, 1) := dL_law_836_a.2.2.1
theorem dL_law_839 : decode cL_law 839 = .ok (.iconst 3, 1) := dL_law_836_a.2.2.2.1
theorem dL_law_840 : decode cL_law 840 = .ok (.iadd, 1) := dL_law_836_a.2.2.2.2.1
theorem dL_law_841 : decode cL_law 841 = .ok (.iaload, 1) := dL_law_836_a.2.2.2.2.2.1
theorem dL_law_842 : decode cL_law 842 = .ok (.invokevirtual 111, 3) := dL_law_836_a.2.2.2.2.2.2.1
theorem dL_law_845 : decode cL_law 845 = .ok (.pop, 1) := dL_law_836_a.2.2.2.2.2.2.2.1
theorem dL_law_846 : decode cL_law 846 = .ok (.aload_n 2, 1) := dL_law_836_a.2.2.2.2.2.2.2.2.1
theorem dL_law_847 : decode cL_law 847 = .ok (.aload_n 0, 1) := dL_law_836_a.2.2.2.2.2.2.2.2.2.1
theorem dL_law_848 : decode cL_law 848 = .ok (.iload_n 3, 1) := dL_law_836_a.2.2.2.2.2.2.2.2.2.2.1
theorem dL_law_849 : decode cL_law 849 = .ok (.iconst 1, 1) := dL_law_836_a.2.2.2.2.2.2.2.2.2.2.2.1
theorem dL_law_850 : decode cL_law 850 = .ok (.iadd, 1) := dL_law_836_a.2.2.2.2.2.2.2.2.2.2.2.2.1
theorem dL_law_851 : decode cL_law 851 = .ok (.iaload, 1) := dL_law_836_a.2.2.2.2.2.2.2.2.2.2.2.2.2.1
theorem dL_law_852 : decode cL_law 852 = .ok (.aload_n 0, 1) := dL_law_836_a.2.2.2.2.2.2.2.2.2.2.2.2.2.2.1
theorem dL_law_853 : decode cL_law 853 = .ok (.iload_n 3, 1) := dL_law_836_a.2.2.2.2.2.2.2.2.2.2.2.2.2.2.2
theorem dL_law_854_a : (decode cL_law 854 = .ok (.iconst 2, 1)) ∧ (decode cL_law 855 = .ok (.iadd, 1)) ∧ (decode cL_law 856 = .ok (.iaload, 1)) ∧ (decode cL_law 857 = .ok (.aload_n 0, 1)) ∧ (decode cL_law 858 = .ok (.iload_n 3, 1)) ∧ (decode cL_law 859 = .ok (.iconst 3, 1)) ∧ (decode cL_law 860 = .ok (.iadd, 1)) ∧ (decode cL_law 861 = .ok (.iaload, 1)) ∧ (decode cL_law 862 = .ok (.invokevirtual 114, 3)) ∧ (decode cL_law 865 = .ok (.pop, 1)) ∧ (decode cL_law 866 = .ok (.goto 307, 3)) ∧ (decode cL_law 869 = .ok (.aload_n 1, 1)) ∧ (decode cL_law 870 = .ok (.aload_n 0, 1)) ∧ (decode cL_law 871 = .ok (.iload_n 3, 1)) ∧ (decode cL_law 872 = .ok (.iconst 1, 1)) ∧ (decode cL_law 873 = .ok (.iadd, 1)) := by decide +kernel
theorem dL_law_854 : decode cL_law 854 = .ok (.iconst 2, 1) := dL_law_854_a.1
theorem dL_law_855 : decode cL_law 855 = .ok (.iadd, 1) := dL_law_854_a.2.1
theorem dL_law_856 : decode cL_law 856 = .ok (.iaload, 1) := dL_law_854_a.2.2.1
theorem dL_law_857 : decode cL_law 857 = .ok (.aload_n 0, 1) := dL_law_854_a.2.2.2.1
theorem dL_law_858 : decode cL_law 858 = .ok (.iload_n 3, 1) := dL_law_854_a.2.2.2.2.1
theorem dL_law_859 : decode cL_law 859 = .ok (.iconst 3, 1) := dL_law_854_a.2.2.2.2.2.1
theorem dL_law_860 : decode cL_law 860 = .ok (.iadd, 1) := dL_law_854_a.2.2.2.2.2.2.1
theorem dL_law_861 : decode cL_law 861 = .ok (.iaload, 1) := dL_law_854_a.2.2.2.2.2.2.2.1
theorem dL_law_862 : decode cL_law 862 = .ok (.invokevirtual 114, 3) := dL_law_854_a.2.2.2.2.2.2.2.2.1
theorem dL_law_865 : decode cL_law 865 = .ok (.pop, 1) := dL_law_854_a.2.2.2.2.2.2.2.2.2.1
theorem dL_law_866 : decode cL_law 866 = .ok (.goto 307, 3) := dL_law_854_a.2.2.2.2.2.2.2.2.2.2.1
theorem dL_law_869 : decode cL_law 869 = .ok (.aload_n 1, 1) := dL_law_854_a.2.2.2.2.2.2.2.2.2.2.2.1
theorem dL_law_870 : decode cL_law 870 = .ok (.aload_n 0, 1) := dL_law_854_a.2.2.2.2.2.2.2.2.2.2.2.2.1
theorem dL_law_871 : decode cL_law 871 = .ok (.iload_n 3, 1) := dL_law_854_a.2.2.2.2.2.2.2.2.2.2.2.2.2.1
theorem dL_law_872 : decode cL_law 872 = .ok (.iconst 1, 1) := dL_law_854_a.2.2.2.2.2.2.2.2.2.2.2.2.2.2.1
theorem dL_law_873 : decode cL_law 873 = .ok (.iadd, 1) := dL_law_854_a.2.2.2.2.2.2.2.2.2.2.2.2.2.2.2
theorem dL_law_874_a : (decode cL_law 874 = .ok (.iaload, 1)) ∧ (decode cL_law 875 = .ok (.aload_n 0, 1)) ∧ (decode cL_law 876 = .ok (.iload_n 3, 1)) ∧ (decode cL_law 877 = .ok (.iconst 2, 1)) ∧ (decode cL_law 878 = .ok (.iadd, 1)) ∧ (decode cL_law 879 = .ok (.iaload, 1)) ∧ (decode cL_law 880 = .ok (.aload_n 0, 1)) ∧ (decode cL_law 881 = .ok (.iload_n 3, 1)) ∧ (decode cL_law 882 = .ok (.iconst 3, 1)) ∧ (decode cL_law 883 = .ok (.iadd, 1)) ∧ (decode cL_law 884 = .ok (.iaload, 1)) ∧ (decode cL_law 885 = .ok (.invokevirtual 115, 3)) ∧ (decode cL_law 888 = .ok (.pop, 1)) ∧ (decode cL_law 889 = .ok (.aload_n 2, 1)) ∧ (decode cL_law 890 = .ok (.aload_n 0, 1)) ∧ (decode cL_law 891 = .ok (.iload_n 3, 1)) := by decide +kernel
theorem dL_law_874 : decode cL_law 874 = .ok (.iaload, 1) := dL_law_874_a.1
theorem dL_law_875 : decode cL_law 875 = .ok (.aload_n 0, 1) := dL_law_874_a.2.1
theorem dL_law_876 : decode cL_law 876 = .ok (.iload_n 3, 1) := dL_law_874_a.2.2.1
theorem dL_law_877 : decode cL_law 877 = .ok (.iconst 2, 1) := dL_law_874_a.2.2.2.1
theorem dL_law_878 : decode cL_law 878 = .ok (.iadd, 1) := dL_law_874_a.2.2.2.2.1
theorem dL_law_879 : decode cL_law 879 = .ok (.iaload, 1) := dL_law_874_a.2.2.2.2.2.1
theorem dL_law_880 : decode cL_law 880 = .ok (.aload_n 0, 1) := dL_law_874_a.2.2.2.2.2.2.1
theorem dL_law_881 : decode cL_law 881 = .ok (.iload_n 3, 1) := dL_law_874_a.2.2.2.2.2.2.2.1
theorem dL_law_882 : decode cL_law 882 = .ok (.iconst 3, 1) := dL_law_874_a.2.2.2.2.2.2.2.2.1
theorem dL_law_883 : decode cL_law 883 = .ok (.iadd, 1) := dL_law_874_a.2.2.2.2.2.2.2.2.2.1
theorem dL_law_884 : decode cL_law 884 = .ok (.iaload, 1) := dL_law_874_a.2.2.2.2.2.2.2.2.2.2.1
theorem dL_law_885 : decode cL_law 885 = .ok (.invokevirtual 115, 3) := dL_law_874_a.2.2.2.2.2.2.2.2.2.2.2.1
theorem dL_law_888 : decode cL_law 888 = .ok (.pop, 1) := dL_law_874_a.2.2.2.2.2.2.2.2.2.2.2.2.1
theorem dL_law_889 : decode cL_law 889 = .ok (.aload_n 2, 1) := dL_law_874_a.2.2.2.2.2.2.2.2.2.2.2.2.2.1
theorem dL_law_890 : decode cL_law 890 = .ok (.aload_n 0, 1) := dL_law_874_a.2.2.2.2.2.2.2.2.2.2.2.2.2.2.1
theorem dL_law_891 : decode cL_law 891 = .ok (.iload_n 3, 1) := dL_law_874_a.2.2.2.2.2.2.2.2.2.2.2.2.2.2.2
theorem dL_law_892_a : (decode cL_law 892 = .ok (.iconst 1, 1)) ∧ (decode cL_law 893 = .ok (.iadd, 1)) ∧ (decode cL_law 894 = .ok (.iaload, 1)) ∧ (decode cL_law 895 = .ok (.aload_n 0, 1)) ∧ (decode cL_law 896 = .ok (.iload_n 3, 1)) ∧ (decode cL_law 897 = .ok (.iconst 2, 1)) ∧ (decode cL_law 898 = .ok (.iadd, 1)) ∧ (decode cL_law 899 = .ok (.iaload, 1)) ∧ (decode cL_law 900 = .ok (.aload_n 0, 1)) ∧ (decode cL_law 901 = .ok (.iload_n 3, 1)) ∧ (decode cL_law 902 = .ok (.iconst 3, 1)) ∧ (decode cL_law 903 = .ok (.iadd, 1)) ∧ (decode cL_law 904 = .ok (.iaload, 1)) ∧ (decode cL_law 905 = .ok (.invokevirtual 118, 3)) ∧ (decode cL_law 908 = .ok (.pop, 1)) ∧ (decode cL_law 909 = .ok (.goto 264, 3)) := by decide +kernel
theorem dL_law_892 : decode cL_law 892 = .ok (.iconst 1, 1) := dL_law_892_a.1
theorem dL_law_893 : decode cL_law 893 = .ok (.iadd, 1) := dL_law_892_a.2.1
theorem dL_law_894 : decode cL_law 894 = .ok (.iaload, 1) := dL_law_892_a.2.2.1
theorem dL_law_895 : decode cL_law 895 = .ok (.aload_n 0, 1) := dL_law_892_a.2.2.2.1
theorem dL_law_896 : decode cL_law 896 = .ok (.iload_n 3, 1) := dL_law_892_a.2.2.2.2.1
theorem dL_law_897 : decode cL_law 897 = .ok (.iconst 2, 1) := dL_law_892_a.2.2.2.2.2.1
theorem dL_law_898 : decode cL_law 898 = .ok (.iadd, 1) := dL_law_892_a.2.2.2.2.2.2.1
theorem dL_law_899 : decode cL_law 899 = .ok (.iaload, 1) := dL_law_892_a.2.2.2.2.2.2.2.1
theorem dL_law_900 : decode cL_law 900 = .ok (.aload_n 0, 1) := dL_law_892_a.2.2.2.2.2.2.2.2.1
theorem dL_law_901 : decode cL_law 901 = .ok (.iload_n 3, 1) := dL_law_892_a.2.2.2.2.2.2.2.2.2.1
theorem dL_law_902 : decode cL_law 902 = .ok (.iconst 3, 1) := dL_law_892_a.2.2.2.2.2.2.2.2.2.2.1
theorem dL_law_903 : decode cL_law 903 = .ok (.iadd, 1) := dL_law_892_a.2.2.2.2.2.2.2.2.2.2.2.1
theorem dL_law_904 : decode cL_law 904 = .ok (.iaload, 1) := dL_law_892_a.2.2.2.2.2.2.2.2.2.2.2.2.1
theorem dL_law_905 : decode cL_law 905 = .ok (.invokevirtual 118, 3) := dL_law_892_a.2.2.2.2.2.2.2.2.2.2.2.2.2.1
theorem dL_law_908 : decode cL_law 908 = .ok (.pop, 1) := dL_law_892_a.2.2.2.2.2.2.2.2.2.2.2.2.2.2.1
theorem dL_law_909 : decode cL_law 909 = .ok (.goto 264, 3) := dL_law_892_a.2.2.2.2.2.2.2.2.2.2.2.2.2.2.2
theorem dL_law_912_a : (decode cL_law 912 = .ok (.aload_n 1, 1)) ∧ (decode cL_law 913 = .ok (.aload_n 0, 1)) ∧ (decode cL_law 914 = .ok (.iload_n 3, 1)) ∧ (decode cL_law 915 = .ok (.iconst 1, 1)) ∧ (decode cL_law 916 = .ok (.iadd, 1)) ∧ (decode cL_law 917 = .ok (.iaload, 1)) ∧ (decode cL_law 918 = .ok (.invokevirtual 119, 3)) ∧ (decode cL_law 921 = .ok (.pop, 1)) ∧ (decode cL_law 922 = .ok (.aload_n 2, 1)) ∧ (decode cL_law 923 = .ok (.aload_n 0, 1)) ∧ (decode cL_law 924 = .ok (.iload_n 3, 1)) ∧ (decode cL_law 925 = .ok (.iconst 1, 1)) ∧ (decode cL_law 926 = .ok (.iadd, 1)) ∧ (decode cL_law 927 = .ok (.iaload, 1)) ∧ (decode cL_law 928 = .ok (.invokevirtual 122, 3)) ∧ (decode cL_law 931 = .ok (.pop, 1)) := by decide +kernel
theorem dL_law_912 : decode cL_law 912 = .ok (.aload_n 1, 1) := dL_law_912_a.1
theorem dL_law_913 : decode cL_law 913 = .ok (.aload_n 0, 1) := dL_law_912_a.2.1
theorem dL_law_914 : decode cL_law 914 = .ok (.iload_n 3, 1) := dL_law_912_a.2.2.1
theorem dL_law_915 : decode cL_law 915 = .ok (.iconst 1, 1) := dL_law_912_a.2.2.2.1
theorem dL_law_916 : decode cL_law 916 = .ok (.iadd, 1) := dL_law_912_a.2.2.2.2.1
theorem dL_law_917 : decode cL_law 917 = .ok (.iaload, 1) := dL_law_912_a.2.2.2.2.2.1
theorem dL_law_918 : decode cL_law 918 = .ok (.invokevirtual 119, 3) := dL_law_912_a.2.2.2.2.2.2.1
theorem dL_law_921 : decode cL_law 921 = .ok (.pop, 1) := dL_law_912_a.2.2.2.2.2.2.2.1
theorem dL_law_922 : decode cL_law 922 = .ok (.aload_n 2, 1) := dL_law_912_a.2.2.2.2.2.2.2.2.1
theorem dL_law_923 : decode cL_law 923 = .ok (.aload_n 0, 1) := dL_law_912_a.2.2.2.2.2.2.2.2.2.1
theorem dL_law_924 : decode cL_law 924 = .ok (.iload_n 3, 1) := dL_law_912_a.2.2.2.2.2.2.2.2.2.2.1
theorem dL_law_925 : decode cL_law 925 = .ok (.iconst 1, 1) := dL_law_912_a.2.2.2.2.2.2.2.2.2.2.2.1
theorem dL_law_926 : decode cL_law 926 = .ok (.iadd, 1) := dL_law_912_a.2.2.2.2.2.2.2.2.2.2.2.2.1
theorem dL_law_927 : decode cL_law 927 = .ok (.iaload, 1) := dL_law_912_a.2.2.2.2.2.2.2.2.2.2.2.2.2.1
theorem dL_law_928 : decode cL_law 928 = .ok (.invokevirtual 122, 3) := dL_law_912_a.2.2.2.2.2.2.2.2.2.2.2.2.2.2.1
theorem dL_law_931 : decode cL_law 931 = .ok (.pop, 1) := dL_law_912_a.2.2.2.2.2.2.2.2.2.2.2.2.2.2.2
theorem dL_law_932_a : (decode cL_law 932 = .ok (.goto 241, 3)) ∧ (decode cL_law 935 = .ok (.aload_n 1, 1)) ∧ (decode cL_law 936 = .ok (.aload_n 0, 1)) ∧ (decode cL_law 937 = .ok (.iload_n 3, 1)) ∧ (decode cL_law 938 = .ok (.iconst 1, 1)) ∧ (decode cL_law 939 = .ok (.iadd, 1)) ∧ (decode cL_law 940 = .ok (.iaload, 1)) ∧ (decode cL_law 941 = .ok (.aload_n 0, 1)) ∧ (decode cL_law 942 = .ok (.iload_n 3, 1)) ∧ (decode cL_law 943 = .ok (.iconst 2, 1)) ∧ (decode cL_law 944 = .ok (.iadd, 1)) ∧ (decode cL_law 945 = .ok (.iaload, 1)) ∧ (decode cL_law 946 = .ok (.aload_n 0, 1)) ∧ (decode cL_law 947 = .ok (.iload_n 3, 1)) ∧ (decode cL_law 948 = .ok (.iconst 3, 1)) ∧ (decode cL_law 949 = .ok (.iadd, 1)) := by decide +kernel
theorem dL_law_932 : decode cL_law 932 = .ok (.goto 241, 3) := dL_law_932_a.1
theorem dL_law_935 : decode cL_law 935 = .ok (.aload_n 1, 1) := dL_law_932_a.2.1
theorem dL_law_936 : decode cL_law 936 = .ok (.aload_n 0, 1) := dL_law_932_a.2.2.1
theorem dL_law_937 : decode cL_law 937 = .ok (.iload_n 3, 1) := dL_law_932_a.2.2.2.1
theorem dL_law_938 : decode cL_law 938 = .ok (.iconst 1, 1) := dL_law_932_a.2.2.2.2.1
theorem dL_law_939 : decode cL_law 939 = .ok (.iadd, 1) := dL_law_932_a.2.2.2.2.2.1
theorem dL_law_940 : decode cL_law 940 = .ok (.iaload, 1) := dL_law_932_a.2.2.2.2.2.2.1
theorem dL_law_941 : decode cL_law 941 = .ok (.aload_n 0, 1) := dL_law_932_a.2.2.2.2.2.2.2.1
theorem dL_law_942 : decode cL_law 942 = .ok (.iload_n 3, 1) := dL_law_932_a.2.2.2.2.2.2.2.2.1
theorem dL_law_943 : decode cL_law 943 = .ok (.iconst 2, 1) := dL_law_932_a.2.2.2.2.2.2.2.2.2.1
theorem dL_law_944 : decode cL_law 944 = .ok (.iadd, 1) := dL_law_932_a.2.2.2.2.2.2.2.2.2.2.1
theorem dL_law_945 : decode cL_law 945 = .ok (.iaload, 1) := dL_law_932_a.2.2.2.2.2.2.2.2.2.2.2.1
theorem dL_law_946 : decode cL_law 946 = .ok (.aload_n 0, 1) := dL_law_932_a.2.2.2.2.2.2.2.2.2.2.2.2.1
theorem dL_law_947 : decode cL_law 947 = .ok (.iload_n 3, 1) := dL_law_932_a.2.2.2.2.2.2.2.2.2.2.2.2.2.1
theorem dL_law_948 : decode cL_law 948 = .ok (.iconst 3, 1) := dL_law_932_a.2.2.2.2.2.2.2.2.2.2.2.2.2.2.1
theorem dL_law_949 : decode cL_law 949 = .ok (.iadd, 1) := dL_law_932_a.2.2.2.2.2.2.2.2.2.2.2.2.2.2.2
theorem dL_law_950_a : (decode cL_law 950 = .ok (.iaload, 1)) ∧ (decode cL_law 951 = .ok (.aload_n 0, 1)) ∧ (decode cL_law 952 = .ok (.iload_n 3, 1)) ∧ (decode cL_law 953 = .ok (.iconst 4, 1)) ∧ (decode cL_law 954 = .ok (.iadd, 1)) ∧ (decode cL_law 955 = .ok (.iaload, 1)) ∧ (decode cL_law 956 = .ok (.invokevirtual 123, 3)) ∧ (decode cL_law 959 = .ok (.pop, 1)) ∧ (decode cL_law 960 = .ok (.aload_n 2, 1)) ∧ (decode cL_law 961 = .ok (.aload_n 0, 1)) ∧ (decode cL_law 962 = .ok (.iload_n 3, 1)) ∧ (decode cL_law 963 = .ok (.iconst 1, 1)) ∧ (decode cL_law 964 = .ok (.iadd, 1)) ∧ (decode cL_law 965 = .ok (.iaload, 1)) ∧ (decode cL_law 966 = .ok (.aload_n 0, 1)) ∧ (decode cL_law 967 = .ok (.iload_n 3, 1)) := by decide +kernel
theorem dL_law_950 : decode cL_law 950 = .ok (.iaload, 1) := dL_law_950_a.1
theorem dL_law_951 : decode cL_law 951 = .ok (.aload_n 0, 1) := dL_law_950_a.2.1
theorem dL_law_952 : decode cL_law 952 = .ok (.iload_n 3, 1) := dL_law_950_a.2.2.1
theorem dL_law_953 : decode cL_law 953 = .ok (.iconst 4, 1) := dL_law_950_a.2.2.2.1
theorem dL_law_954 : decode cL_law 954 = .ok (.iadd, 1) := dL_law_950_a.2.2.2.2.1
theorem dL_law_955 : decode cL_law 955 = .ok (.iaload, 1) := dL_law_950_a.2.2.2.2.2.1
theorem dL_law_956 : decode cL_law 956 = .ok (.invokevirtual 123, 3) := dL_law_950_a.2.2.2.2.2.2.1
theorem dL_law_959 : decode cL_law 959 = .ok (.pop, 1) := dL_law_950_a.2.2.2.2.2.2.2.1
theorem dL_law_960 : decode cL_law 960 = .ok (.aload_n 2, 1) := dL_law_950_a.2.2.2.2.2.2.2.2.1
theorem dL_law_961 : decode cL_law 961 = .ok (.aload_n 0, 1) := dL_law_950_a.2.2.2.2.2.2.2.2.2.1
theorem dL_law_962 : decode cL_law 962 = .ok (.iload_n 3, 1) := dL_law_950_a.2.2.2.2.2.2.2.2.2.2.1
theorem dL_law_963 : decode cL_law 963 = .ok (.iconst 1, 1) := dL_law_950_a.2.2.2.2.2.2.2.2.2.2.2.1
theorem dL_law_964 : decode cL_law 964 = .ok (.iadd, 1) := dL_law_950_a.2.2.2.2.2.2.2.2.2.2.2.2.1
theorem dL_law_965 : decode cL_law 965 = .ok (.iaload, 1) := dL_law_950_a.2.2.2.2.2.2.2.2.2.2.2.2.2.1
theorem dL_law_966 : decode cL_law 966 = .ok (.aload_n 0, 1) := dL_law_950_a.2.2.2.2.2.2.2.2.2.2.2.2.2.2.1
theorem dL_law_967 : decode cL_law 967 = .ok (.iload_n 3, 1) := dL_law_950_a.2.2.2.2.2.2.2.2.2.2.2.2.2.2.2
theorem dL_law_968_a : (decode cL_law 968 = .ok (.iconst 2, 1)) ∧ (decode cL_law 969 = .ok (.iadd, 1)) ∧ (decode cL_law 970 = .ok (.iaload, 1)) ∧ (decode cL_law 971 = .ok (.aload_n 0, 1)) ∧ (decode cL_law 972 = .ok (.iload_n 3, 1)) ∧ (decode cL_law 973 = .ok (.iconst 3, 1)) ∧ (decode cL_law 974 = .ok (.iadd, 1)) ∧ (decode cL_law 975 = .ok (.iaload, 1)) ∧ (decode cL_law 976 = .ok (.aload_n 0, 1)) ∧ (decode cL_law 977 = .ok (.iload_n 3, 1)) ∧ (decode cL_law 978 = .ok (.iconst 4, 1)) ∧ (decode cL_law 979 = .ok (.iadd, 1)) ∧ (decode cL_law 980 = .ok (.iaload, 1)) ∧ (decode cL_law 981 = .ok (.invokevirtual 126, 3)) ∧ (decode cL_law 984 = .ok (.pop, 1)) ∧ (decode cL_law 985 = .ok (.goto 188, 3)) := by decide +kernel
theorem dL_law_968 : decode cL_law 968 = .ok (.iconst 2, 1) := dL_law_968_a.1
theorem dL_law_969 : decode cL_law 969 = .ok (.iadd, 1) := dL_law_968_a.2.1
theorem dL_law_970 : decode cL_law 970 = .ok (.iaload, 1) := dL_law_968_a.2.2.1
theorem dL_law_971 : decode cL_law 971 = .ok (.aload_n 0, 1) := dL_law_968_a.2.2.2.1
theorem dL_law_972 : decode cL_law 972 = .ok (.iload_n 3, 1) := dL_law_968_a.2.2.2.2.1
theorem dL_law_973 : decode cL_law 973 = .ok (.iconst 3, 1) := dL_law_968_a.2.2.2.2.2.1
theorem dL_law_974 : decode cL_law 974 = .ok (.iadd, 1) := dL_law_968_a.2.2.2.2.2.2.1
theorem dL_law_975 : decode cL_law 975 = .ok (.iaload, 1) := dL_law_968_a.2.2.2.2.2.2.2.1
theorem dL_law_976 : decode cL_law 976 = .ok (.aload_n 0, 1) := dL_law_968_a.2.2.2.2.2.2.2.2.1
theorem dL_law_977 : decode cL_law 977 = .ok (.iload_n 3, 1) := dL_law_968_a.2.2.2.2.2.2.2.2.2.1
theorem dL_law_978 : decode cL_law 978 = .ok (.iconst 4, 1) := dL_law_968_a.2.2.2.2.2.2.2.2.2.2.1
theorem dL_law_979 : decode cL_law 979 = .ok (.iadd, 1) := dL_law_968_a.2.2.2.2.2.2.2.2.2.2.2.1
theorem dL_law_980 : decode cL_law 980 = .ok (.iaload, 1) := dL_law_968_a.2.2.2.2.2.2.2.2.2.2.2.2.1
theorem dL_law_981 : decode cL_law 981 = .ok (.invokevirtual 126, 3) := dL_law_968_a.2.2.2.2.2.2.2.2.2.2.2.2.2.1
theorem dL_law_984 : decode cL_law 984 = .ok (.pop, 1) := dL_law_968_a.2.2.2.2.2.2.2.2.2.2.2.2.2.2.1
theorem dL_law_985 : decode cL_law 985 = .ok (.goto 188, 3) := dL_law_968_a.2.2.2.2.2.2.2.2.2.2.2.2.2.2.2
theorem dL_law_988_a : (decode cL_law 988 = .ok (.aload_n 1, 1)) ∧ (decode cL_law 989 = .ok (.aload_n 0, 1)) ∧ (decode cL_law 990 = .ok (.iload_n 3, 1)) ∧ (decode cL_law 991 = .ok (.iconst 1, 1)) ∧ (decode cL_law 992 = .ok (.iadd, 1)) ∧ (decode cL_law 993 = .ok (.iaload, 1)) ∧ (decode cL_law 994 = .ok (.aload_n 0, 1)) ∧ (decode cL_law 995 = .ok (.iload_n 3, 1)) ∧ (decode cL_law 996 = .ok (.iconst 2, 1)) ∧ (decode cL_law 997 = .ok (.iadd, 1)) ∧ (decode cL_law 998 = .ok (.iaload, 1)) ∧ (decode cL_law 999 = .ok (.aload_n 0, 1)) ∧ (decode cL_law 1000 = .ok (.iload_n 3, 1)) ∧ (decode cL_law 1001 = .ok (.iconst 3, 1)) ∧ (decode cL_law 1002 = .ok (.iadd, 1)) ∧ (decode cL_law 1003 = .ok (.iaload, 1)) := by decide +kernel
theorem dL_law_988 : decode cL_law 988 = .ok (.aload_n 1, 1) := dL_law_988_a.1
theorem dL_law_989 : decode cL_law 989 = .ok (.aload_n 0, 1) := dL_law_988_a.2.1
theorem dL_law_990 : decode cL_law 990 = .ok (.iload_n 3, 1) := dL_law_988_a.2.2.1
theorem dL_law_991 : decode cL_law 991 = .ok (.iconst 1, 1) := dL_law_988_a.2.2.2.1
theorem dL_law_992 : decode cL_law 992 = .ok (.iadd, 1) := dL_law_988_a.2.2.2.2.1
theorem dL_law_993 : decode cL_law 993 = .ok (.iaload, 1) := dL_law_988_a.2.2.2.2.2.1
theorem dL_law_994 : decode cL_law 994 = .ok (.aload_n 0, 1) := dL_law_988_a.2.2.2.2.2.2.1
theorem dL_law_995 : decode cL_law 995 = .ok (.iload_n 3, 1) := dL_law_988_a.2.2.2.2.2.2.2.1
theorem dL_law_996 : decode cL_law 996 = .ok (.iconst 2, 1) := dL_law_988_a.2.2.2.2.2.2.2.2.1
theorem dL_law_997 : decode cL_law 997 = .ok (.iadd, 1) := dL_law_988_a.2.2.2.2.2.2.2.2.2.1
theorem dL_law_998 : decode cL_law 998 = .ok (.iaload, 1) := dL_law_988_a.2.2.2.2.2.2.2.2.2.2.1
theorem dL_law_999 : decode cL_law 999 = .ok (.aload_n 0, 1) := dL_law_988_a.2.2.2.2.2.2.2.2.2.2.2.1
theorem dL_law_1000 : decode cL_law 1000 = .ok (.iload_n 3, 1) := dL_law_988_a.2.2.2.2.2.2.2.2.2.2.2.2.1
theorem dL_law_1001 : decode cL_law 1001 = .ok (.iconst 3, 1) := dL_law_988_a.2.2.2.2.2.2.2.2.2.2.2.2.2.1
theorem dL_law_1002 : decode cL_law 1002 = .ok (.iadd, 1) := dL_law_988_a.2.2.2.2.2.2.2.2.2.2.2.2.2.2.1
theorem dL_law_1003 : decode cL_law 1003 = .ok (.iaload, 1) := dL_law_988_a.2.2.2.2.2.2.2.2.2.2.2.2.2.2.2
theorem dL_law_1004_a : (decode cL_law 1004 = .ok (.invokevirtual 127, 3)) ∧ (decode cL_law 1007 = .ok (.pop, 1)) ∧ (decode cL_law 1008 = .ok (.aload_n 2, 1)) ∧ (decode cL_law 1009 = .ok (.aload_n 0, 1)) ∧ (decode cL_law 1010 = .ok (.iload_n 3, 1)) ∧ (decode cL_law 1011 = .ok (.iconst 1, 1)) ∧ (decode cL_law 1012 = .ok (.iadd, 1)) ∧ (decode cL_law 1013 = .ok (.iaload, 1)) ∧ (decode cL_law 1014 = .ok (.aload_n 0, 1)) ∧ (decode cL_law 1015 = .ok (.iload_n 3, 1)) ∧ (decode cL_law 1016 = .ok (.iconst 2, 1)) ∧ (decode cL_law 1017 = .ok (.iadd, 1)) ∧ (decode cL_law 1018 = .ok (.iaload, 1)) ∧ (decode cL_law 1019 = .ok (.aload_n 0, 1)) ∧ (decode cL_law 1020 = .ok (.iload_n 3, 1)) ∧ (decode cL_law 1021 = .ok (.iconst 3, 1)) := by decide +kernel
theorem dL_law_1004 : decode cL_law 1004 = .ok (.invokevirtual 127, 3) := dL_law_1004_a.1
theorem dL_law_1007 : decode cL_law 1007 = .ok (.pop, 1) := dL_law_1004_a.2.1
theorem dL_law_1008 : decode cL_law 1008 = .ok (.aload_n 2, 1) := dL_law_1004_a.2.2.1
theorem dL_law_1009 : decode cL_law 1009 = .ok (.aload_n 0, 1) := dL_law_1004_a.2.2.2.1
theorem dL_law_1010 : decode cL_law 1010 = .ok (.iload_n 3, 1) := dL_law_1004_a.2.2.2.2.1
theorem dL_law_1011 : decode cL_law 1011 = .ok (.iconst 1, 1) := dL_law_1004_a.2.2.2.2.2.1
theorem dL_law_1012 : decode cL_law 1012 = .ok (.iadd, 1) := dL_law_1004_a.2.2.2.2.2.2.1
theorem dL_law_1013 : decode cL_law 1013 = .ok (.iaload, 1) := dL_law_1004_a.2.2.2.2.2.2.2.1
theorem dL_law_1014 : decode cL_law 1014 = .ok (.aload_n 0, 1) := dL_law_1004_a.2.2.2.2.2.2.2.2.1
theorem dL_law_1015 : decode cL_law 1015 = .ok (.iload_n 3, 1) := dL_law_1004_a.2.2.2.2.2.2.2.2.2.1
theorem dL_law_1016 : decode cL_law 1016 = .ok (.iconst 2, 1) := dL_law_1004_a.2.2.2.2.2.2.2.2.2.2.1
theorem dL_law_1017 : decode cL_law 1017 = .ok (.iadd, 1) := dL_law_1004_a.2.2.2.2.2.2.2.2.2.2.2.1
theorem dL_law_1018 : decode cL_law 1018 = .ok (.iaload, 1) := dL_law_1004_a.2.2.2.2.2.2.2.2.2.2.2.2.1
theorem dL_law_1019 : decode cL_law 1019 = .ok (.aload_n 0, 1) := dL_law_1004_a.2.2.2.2.2.2.2.2.2.2.2.2.2.1
theorem dL_law_1020 : decode cL_law 1020 = .ok (.iload_n 3, 1) := dL_law_1004_a.2.2.2.2.2.2.2.2.2.2.2.2.2.2.1
theorem dL_law_1021 : decode cL_law 1021 = .ok (.iconst 3, 1) := dL_law_1004_a.2.2.2.2.2.2.2.2.2.2.2.2.2.2.2
theorem dL_law_1022_a : (decode cL_law 1022 = .ok (.iadd, 1)) ∧ (decode cL_law 1023 = .ok (.iaload, 1)) ∧ (decode cL_law 1024 = .ok (.invokevirtual 130, 3)) ∧ (decode cL_law 1027 = .ok (.pop, 1)) ∧ (decode cL_law 1028 = .ok (.goto 145, 3)) ∧ (decode cL_law 1031 = .ok (.aload_n 1, 1)) ∧ (decode cL_law 1032 = .ok (.aload_n 0, 1)) ∧ (decode cL_law 1033 = .ok (.iload_n 3, 1)) ∧ (decode cL_law 1034 = .ok (.iconst 1, 1)) ∧ (decode cL_law 1035 = .ok (.iadd, 1)) ∧ (decode cL_law 1036 = .ok (.iaload, 1)) ∧ (decode cL_law 1037 = .ok (.aload_n 0, 1)) ∧ (decode cL_law 1038 = .ok (.iload_n 3, 1)) ∧ (decode cL_law 1039 = .ok (.iconst 2, 1)) ∧ (decode cL_law 1040 = .ok (.iadd, 1)) ∧ (decode cL_law 1041 = .ok (.iaload, 1)) := by decide +kernel
theorem dL_law_1022 : decode cL_law 1022 = .ok (.iadd, 1) := dL_law_1022_a.1
theorem dL_law_1023 : decode cL_law 1023 = .ok (.iaload, 1) := dL_law_1022_a.2.1
theorem dL_law_1024 : decode cL_law 1024 = .ok (.invokevirtual 130, 3) := dL_law_1022_a.2.2.1
theorem dL_law_1027 : decode cL_law 1027 = .ok (.pop, 1) := dL_law_1022_a.2.2.2.1
theorem dL_law_1028 : decode cL_law 1028 = .ok (.goto 145, 3) := dL_law_1022_a.2.2.2.2.1
theorem dL_law_1031 : decode cL_law 1031 = .ok (.aload_n 1, 1) := dL_law_1022_a.2.2.2.2.2.1
theorem dL_law_1032 : decode cL_law 1032 = .ok (.aload_n 0, 1) := dL_law_1022_a.2.2.2.2.2.2.1
theorem dL_law_1033 : decode cL_law 1033 = .ok (.iload_n 3, 1) := dL_law_1022_a.2.2.2.2.2.2.2.1
theorem dL_law_1034 : decode cL_law 1034 = .ok (.iconst 1, 1) := dL_law_1022_a.2.2.2.2.2.2.2.2.1
theorem dL_law_1035 : decode cL_law 1035 = .ok (.iadd, 1) := dL_law_1022_a.2.2.2.2.2.2.2.2.2.1
theorem dL_law_1036 : decode cL_law 1036 = .ok (.iaload, 1) := dL_law_1022_a.2.2.2.2.2.2.2.2.2.2.1
theorem dL_law_1037 : decode cL_law 1037 = .ok (.aload_n 0, 1) := dL_law_1022_a.2.2.2.2.2.2.2.2.2.2.2.1
theorem dL_law_1038 : decode cL_law 1038 = .ok (.iload_n 3, 1) := dL_law_1022_a.2.2.2.2.2.2.2.2.2.2.2.2.1
theorem dL_law_1039 : decode cL_law 1039 = .ok (.iconst 2, 1) := dL_law_1022_a.2.2.2.2.2.2.2.2.2.2.2.2.2.1
theorem dL_law_1040 : decode cL_law 1040 = .ok (.iadd, 1) := dL_law_1022_a.2.2.2.2.2.2.2.2.2.2.2.2.2.2.1
theorem dL_law_1041 : decode cL_law 1041 = .ok (.iaload, 1) := dL_law_1022_a.2.2.2.2.2.2.2.2.2.2.2.2.2.2.2
theorem dL_law_1042_a : (decode cL_law 1042 = .ok (.aload_n 0, 1)) ∧ (decode cL_law 1043 = .ok (.iload_n 3, 1)) ∧ (decode cL_law 1044 = .ok (.iconst 3, 1)) ∧ (decode cL_law 1045 = .ok (.iadd, 1)) ∧ (decode cL_law 1046 = .ok (.iaload, 1)) ∧ (decode cL_law 1047 = .ok (.aload_n 0, 1)) ∧ (decode cL_law 1048 = .ok (.iload_n 3, 1)) ∧ (decode cL_law 1049 = .ok (.iconst 4, 1)) ∧ (decode cL_law 1050 = .ok (.iadd, 1)) ∧ (decode cL_law 1051 = .ok (.iaload, 1)) ∧ (decode cL_law 1052 = .ok (.aload_n 0, 1)) ∧ (decode cL_law 1053 = .ok (.iload_n 3, 1)) ∧ (decode cL_law 1054 = .ok (.iconst 5, 1)) ∧ (decode cL_law 1055 = .ok (.iadd, 1)) ∧ (decode cL_law 1056 = .ok (.iaload, 1)) ∧ (decode cL_law 1057 = .ok (.invokevirtual 131, 3)) := by decide +kernel
theorem dL_law_1042 : decode cL_law 1042 = .ok (.aload_n 0, 1) := dL_law_1042_a.1
theorem dL_law_1043 : decode cL_law 1043 = .ok (.iload_n 3, 1) := dL_law_1042_a.2.1
theorem dL_law_1044 : decode cL_law 1044 = .ok (.iconst 3, 1) := dL_law_1042_a.2.2.1
theorem dL_law_1045 : decode cL_law 1045 = .ok (.iadd, 1) := dL_law_1042_a.2.2.2.1
theorem dL_law_1046 : decode cL_law 1046 = .ok (.iaload, 1) := dL_law_1042_a.2.2.2.2.1
theorem dL_law_1047 : decode cL_law 1047 = .ok (.aload_n 0, 1) := dL_law_1042_a.2.2.2.2.2.1
theorem dL_law_1048 : decode cL_law 1048 = .ok (.iload_n 3, 1) := dL_law_1042_a.2.2.2.2.2.2.1
theorem dL_law_1049 : decode cL_law 1049 = .ok (.iconst 4, 1) := dL_law_1042_a.2.2.2.2.2.2.2.1
theorem dL_law_1050 : decode cL_law 1050 = .ok (.iadd, 1) := dL_law_1042_a.2.2.2.2.2.2.2.2.1
theorem dL_law_1051 : decode cL_law 1051 = .ok (.iaload, 1) := dL_law_1042_a.2.2.2.2.2.2.2.2.2.1
theorem dL_law_1052 : decode cL_law 1052 = .ok (.aload_n 0, 1) := dL_law_1042_a.2.2.2.2.2.2.2.2.2.2.1
theorem dL_law_1053 : decode cL_law 1053 = .ok (.iload_n 3, 1) := dL_law_1042_a.2.2.2.2.2.2.2.2.2.2.2.1
theorem dL_law_1054 : decode cL_law 1054 = .ok (.iconst 5, 1) := dL_law_1042_a.2.2.2.2.2.2.2.2.2.2.2.2.1
theorem dL_law_1055 : decode cL_law 1055 = .ok (.iadd, 1) := dL_law_1042_a.2.2.2.2.2.2.2.2.2.2.2.2.2.1
theorem dL_law_1056 : decode cL_law 1056 = .ok (.iaload, 1) := dL_law_1042_a.2.2.2.2.2.2.2.2.2.2.2.2.2.2.1
theorem dL_law_1057 : decode cL_law 1057 = .ok (.invokevirtual 131, 3) := dL_law_1042_a.2.2.2.2.2.2.2.2.2.2.2.2.2.2.2
theorem dL_law_1060_a : (decode cL_law 1060 = .ok (.pop, 1)) ∧ (decode cL_law 1061 = .ok (.aload_n 2, 1)) ∧ (decode cL_law 1062 = .ok (.aload_n 0, 1)) ∧ (decode cL_law 1063 = .ok (.iload_n 3, 1)) ∧ (decode cL_law 1064 = .ok (.iconst 1, 1)) ∧ (decode cL_law 1065 = .ok (.iadd, 1)) ∧ (decode cL_law 1066 = .ok (.iaload, 1)) ∧ (decode cL_law 1067 = .ok (.aload_n 0, 1)) ∧ (decode cL_law 1068 = .ok (.iload_n 3, 1)) ∧ (decode cL_law 1069 = .ok (.iconst 2, 1)) ∧ (decode cL_law 1070 = .ok (.iadd, 1)) ∧ (decode cL_law 1071 = .ok (.iaload, 1)) ∧ (decode cL_law 1072 = .ok (.aload_n 0, 1)) ∧ (decode cL_law 1073 = .ok (.iload_n 3, 1)) ∧ (decode cL_law 1074 = .ok (.iconst 3, 1)) ∧ (decode cL_law 1075 = .ok (.iadd, 1)) := by decide +kernel
theorem dL_law_1060 : decode cL_law 1060 = .ok (.pop, 1) := dL_law_1060_a.1
theorem dL_law_1061 : decode cL_law 1061 = .ok (.aload_n 2, 1) := dL_law_1060_a.2.1
theorem dL_law_1062 : decode cL_law 1062 = .ok (.aload_n 0, 1) := dL_law_1060_a.2.2.1
theorem dL_law_1063 : decode cL_law 1063 = .ok (.iload_n 3, 1) := dL_law_1060_a.2.2.2.1
theorem dL_law_1064 : decode cL_law 1064 = .ok (.iconst 1, 1) := dL_law_1060_a.2.2.2.2.1
theorem dL_law_1065 : decode cL_law 1065 = .ok (.iadd, 1) := dL_law_1060_a.2.2.2.2.2.1
theorem dL_law_1066 : decode cL_law 1066 = .ok (.iaload, 1) := dL_law_1060_a.2.2.2.2.2.2.1
theorem dL_law_1067 : decode cL_law 1067 = .ok (.aload_n 0, 1) := dL_law_1060_a.2.2.2.2.2.2.2.1
theorem dL_law_1068 : decode cL_law 1068 = .ok (.iload_n 3, 1) := dL_law_1060_a.2.2.2.2.2.2.2.2.1
theorem dL_law_1069 : decode cL_law 1069 = .ok (.iconst 2, 1) := dL_law_1060_a.2.2.2.2.2.2.2.2.2.1
theorem dL_law_1070 : decode cL_law 1070 = .ok (.iadd, 1) := dL_law_1060_a.2.2.2.2.2.2.2.2.2.2.1
theorem dL_law_1071 : decode cL_law 1071 = .ok (.iaload, 1) := dL_law_1060_a.2.2.2.2.2.2.2.2.2.2.2.1
theorem dL_law_1072 : decode cL_law 1072 = .ok (.aload_n 0, 1) := dL_law_1060_a.2.2.2.2.2.2.2.2.2.2.2.2.1
theorem dL_law_1073 : decode cL_law 1073 = .ok (.iload_n 3, 1) := dL_law_1060_a.2.2.2.2.2.2.2.2.2.2.2.2.2.1
theorem dL_law_1074 : decode cL_law 1074 = .ok (.iconst 3, 1) := dL_law_1060_a.2.2.2.2.2.2.2.2.2.2.2.2.2.2.1
theorem dL_law_1075 : decode cL_law 1075 = .ok (.iadd, 1) := dL_law_1060_a.2.2.2.2.2.2.2.2.2.2.2.2.2.2.2
theorem dL_law_1076_a : (decode cL_law 1076 = .ok (.iaload, 1)) ∧ (decode cL_law 1077 = .ok (.aload_n 0, 1)) ∧ (decode cL_law 1078 = .ok (.iload_n 3, 1)) ∧ (decode cL_law 1079 = .ok (.iconst 4, 1)) ∧ (decode cL_law 1080 = .ok (.iadd, 1)) ∧ (decode cL_law 1081 = .ok (.iaload, 1)) ∧ (decode cL_law 1082 = .ok (.aload_n 0, 1)) ∧ (decode cL_law 1083 = .ok (.iload_n 3, 1)) ∧ (decode cL_law 1084 = .ok (.iconst 5, 1)) ∧ (decode cL_law 1085 = .ok (.iadd, 1)) ∧ (decode cL_law 1086 = .ok (.iaload, 1)) ∧ (decode cL_law 1087 = .ok (.invokevirtual 135, 3)) ∧ (decode cL_law 1090 = .ok (.pop, 1)) ∧ (decode cL_law 1091 = .ok (.goto 82, 3)) ∧ (decode cL_law 1094 = .ok (.aload_n 1, 1)) ∧ (decode cL_law 1095 = .ok (.aload_n 0, 1)) := by decide +kernel
theorem dL_law_1076 : decode cL_law 1076 = .ok (.iaload, 1) := dL_law_1076_a.1
theorem dL_law_1077 : decode cL_law 1077 = .ok (.aload_n 0, 1) := dL_law_1076_a.2.1
theorem dL_law_1078 : decode cL_law 1078 = .ok (.iload_n 3, 1) := dL_law_1076_a.2.2.1
theorem dL_law_1079 : decode cL_law 1079 = .ok (.iconst 4, 1) := dL_law_1076_a.2.2.2.1
theorem dL_law_1080 : decode cL_law 1080 = .ok (.iadd, 1) := dL_law_1076_a.2.2.2.2.1
theorem dL_law_1081 : decode cL_law 1081 = .ok (.iaload, 1) := dL_law_1076_a.2.2.2.2.2.1
theorem dL_law_1082 : decode cL_law 1082 = .ok (.aload_n 0, 1) := dL_law_1076_a.2.2.2.2.2.2.1
theorem dL_law_1083 : decode cL_law 1083 = .ok (.iload_n 3, 1) := dL_law_1076_a.2.2.2.2.2.2.2.1
theorem dL_law_1084 : decode cL_law 1084 = .ok (.iconst 5, 1) := dL_law_1076_a.2.2.2.2.2.2.2.2.1
theorem dL_law_1085 : decode cL_law 1085 = .ok (.iadd, 1) := dL_law_1076_a.2.2.2.2.2.2.2.2.2.1
theorem dL_law_1086 : decode cL_law 1086 = .ok (.iaload, 1) := dL_law_1076_a.2.2.2.2.2.2.2.2.2.2.1
theorem dL_law_1087 : decode cL_law 1087 = .ok (.invokevirtual 135, 3) := dL_law_1076_a.2.2.2.2.2.2.2.2.2.2.2.1
theorem dL_law_1090 : decode cL_law 1090 = .ok (.pop, 1) := dL_law_1076_a.2.2.2.2.2.2.2.2.2.2.2.2.1
theorem dL_law_1091 : decode cL_law 1091 = .ok (.goto 82, 3) := dL_law_1076_a.2.2.2.2.2.2.2.2.2.2.2.2.2.1
theorem dL_law_1094 : decode cL_law 1094 = .ok (.aload_n 1, 1) := dL_law_1076_a.2.2.2.2.2.2.2.2.2.2.2.2.2.2.1
theorem dL_law_1095 : decode cL_law 1095 = .ok (.aload_n 0, 1) := dL_law_1076_a.2.2.2.2.2.2.2.2.2.2.2.2.2.2.2
theorem dL_law_1096_a : (decode cL_law 1096 = .ok (.iload_n 3, 1)) ∧ (decode cL_law 1097 = .ok (.iconst 1, 1)) ∧ (decode cL_law 1098 = .ok (.iadd, 1)) ∧ (decode cL_law 1099 = .ok (.iaload, 1)) ∧ (decode cL_law 1100 = .ok (.aload_n 0, 1)) ∧ (decode cL_law 1101 = .ok (.iload_n 3, 1)) ∧ (decode cL_law 1102 = .ok (.iconst 2, 1)) ∧ (decode cL_law 1103 = .ok (.iadd, 1)) ∧ (decode cL_law 1104 = .ok (.iaload, 1)) ∧ (decode cL_law 1105 = .ok (.aload_n 0, 1)) ∧ (decode cL_law 1106 = .ok (.iload_n 3, 1)) ∧ (decode cL_law 1107 = .ok (.iconst 3, 1)) ∧ (decode cL_law 1108 = .ok (.iadd, 1)) ∧ (decode cL_law 1109 = .ok (.iaload, 1)) ∧ (decode cL_law 1110 = .ok (.invokevirtual 136, 3)) ∧ (decode cL_law 1113 = .ok (.pop, 1)) := by decide +kernel
theorem dL_law_1096 : decode cL_law 1096 = .ok (.iload_n 3, 1) := dL_law_1096_a.1
theorem dL_law_1097 : decode cL_law 1097 = .ok (.iconst 1, 1) := dL_law_1096_a.2.1
theorem dL_law_1098 : decode cL_law 1098 = .ok (.iadd, 1) := dL_law_1096_a.2.2.1
theorem dL_law_1099 : decode cL_law 1099 = .ok (.iaload, 1) := dL_law_1096_a.2.2.2.1
theorem dL_law_1100 : decode cL_law 1100 = .ok (.aload_n 0, 1) := dL_law_1096_a.2.2.2.2.1
theorem dL_law_1101 : decode cL_law 1101 = .ok (.iload_n 3, 1) := dL_law_1096_a.2.2.2.2.2.1
theorem dL_law_1102 : decode cL_law 1102 = .ok (.iconst 2, 1) := dL_law_1096_a.2.2.2.2.2.2.1
theorem dL_law_1103 : decode cL_law 1103 = .ok (.iadd, 1) := dL_law_1096_a.2.2.2.2.2.2.2.1
theorem dL_law_1104 : decode cL_law 1104 = .ok (.iaload, 1) := dL_law_1096_a.2.2.2.2.2.2.2.2.1
theorem dL_law_1105 : decode cL_law 1105 = .ok (.aload_n 0, 1) := dL_law_1096_a.2.2.2.2.2.2.2.2.2.1
theorem dL_law_1106 : decode cL_law 1106 = .ok (.iload_n 3, 1) := dL_law_1096_a.2.2.2.2.2.2.2.2.2.2.1
theorem dL_law_1107 : decode cL_law 1107 = .ok (.iconst 3, 1) := dL_law_1096_a.2.2.2.2.2.2.2.2.2.2.2.1
theorem dL_law_1108 : decode cL_law 1108 = .ok (.iadd, 1) := dL_law_1096_a.2.2.2.2.2.2.2.2.2.2.2.2.1
theorem dL_law_1109 : decode cL_law 1109 = .ok (.iaload, 1) := dL_law_1096_a.2.2.2.2.2.2.2.2.2.2.2.2.2.1
theorem dL_law_1110 : decode cL_law 1110 = .ok (.invokevirtual 136, 3) := dL_law_1096_a.2.2.2.2.2.2.2.2.2.2.2.2.2.2.1
theorem dL_law_1113 : decode cL_law 1113 = .ok (.pop, 1) := dL_law_1096_a.2.2.2.2.2.2.2.2.2.2.2.2.2.2.2
theorem dL_law_1114_a : (decode cL_law 1114 = .ok (.aload_n 2, 1)) ∧ (decode cL_law 1115 = .ok (.aload_n 0, 1)) ∧ (decode cL_law 1116 = .ok (.iload_n 3, 1)) ∧ (decode cL_law 1117 = .ok (.iconst 1, 1)) ∧ (decode cL_law 1118 = .ok (.iadd, 1)) ∧ (decode cL_law 1119 = .ok (.iaload, 1)) ∧ (decode cL_law 1120 = .ok (.aload_n 0, 1)) ∧ (decode cL_law 1121 = .ok (.iload_n 3, 1)) ∧ (decode cL_law 1122 = .ok (.iconst 2, 1)) ∧ (decode cL_law 1123 = .ok (.iadd, 1)) ∧ (decode cL_law 1124 = .ok (.iaload, 1)) ∧ (decode cL_law 1125 = .ok (.aload_n 0, 1)) ∧ (decode cL_law 1126 = .ok (.iload_n 3, 1)) ∧ (decode cL_law 1127 = .ok (.iconst 3, 1)) ∧ (decode cL_law 1128 = .ok (.iadd, 1)) ∧ (decode cL_law 1129 = .ok (.iaload, 1)) := by decide +kernel
theorem dL_law_1114 : decode cL_law 1114 = .ok (.aload_n 2, 1) := dL_law_1114_a.1
theorem dL_law_1115 : decode cL_law 1115 = .ok (.aload_n 0, 1) := dL_law_1114_a.2.1
theorem dL_law_1116 : decode cL_law 1116 = .ok (.iload_n 3, 1) := dL_law_1114_a.2.2.1
theorem dL_law_1117 : decode cL_law 1117 = .ok (.iconst 1, 1) := dL_law_1114_a.2.2.2.1
theorem dL_law_1118 : decode cL_law 1118 = .ok (.iadd, 1) := dL_law_1114_a.2.2.2.2.1
theorem dL_law_1119 : decode cL_law 1119 = .ok (.iaload, 1) := dL_law_1114_a.2.2.2.2.2.1
theorem dL_law_1120 : decode cL_law 1120 = .ok (.aload_n 0, 1) := dL_law_1114_a.2.2.2.2.2.2.1
theorem dL_law_1121 : decode cL_law 1121 = .ok (.iload_n 3, 1) := dL_law_1114_a.2.2.2.2.2.2.2.1
theorem dL_law_1122 : decode cL_law 1122 = .ok (.iconst 2, 1) := dL_law_1114_a.2.2.2.2.2.2.2.2.1
theorem dL_law_1123 : decode cL_law 1123 = .ok (.iadd, 1) := dL_law_1114_a.2.2.2.2.2.2.2.2.2.1
theorem dL_law_1124 : decode cL_law 1124 = .ok (.iaload, 1) := dL_law_1114_a.2.2.2.2.2.2.2.2.2.2.1
theorem dL_law_1125 : decode cL_law 1125 = .ok (.aload_n 0, 1) := dL_law_1114_a.2.2.2.2.2.2.2.2.2.2.2.1
theorem dL_law_1126 : decode cL_law 1126 = .ok (.iload_n 3, 1) := dL_law_1114_a.2.2.2.2.2.2.2.2.2.2.2.2.1
theorem dL_law_1127 : decode cL_law 1127 = .ok (.iconst 3, 1) := dL_law_1114_a.2.2.2.2.2.2.2.2.2.2.2.2.2.1
theorem dL_law_1128 : decode cL_law 1128 = .ok (.iadd, 1) := dL_law_1114_a.2.2.2.2.2.2.2.2.2.2.2.2.2.2.1
theorem dL_law_1129 : decode cL_law 1129 = .ok (.iaload, 1) := dL_law_1114_a.2.2.2.2.2.2.2.2.2.2.2.2.2.2.2
theorem dL_law_1130_a : (decode cL_law 1130 = .ok (.invokevirtual 139, 3)) ∧ (decode cL_law 1133 = .ok (.pop, 1)) ∧ (decode cL_law 1134 = .ok (.goto 39, 3)) ∧ (decode cL_law 1137 = .ok (.aload_n 1, 1)) ∧ (decode cL_law 1138 = .ok (.aload_n 0, 1)) ∧ (decode cL_law 1139 = .ok (.iload_n 3, 1)) ∧ (decode cL_law 1140 = .ok (.iconst 1, 1)) ∧ (decode cL_law 1141 = .ok (.iadd, 1)) ∧ (decode cL_law 1142 = .ok (.iaload, 1)) ∧ (decode cL_law 1143 = .ok (.invokevirtual 140, 3)) ∧ (decode cL_law 1146 = .ok (.pop, 1)) ∧ (decode cL_law 1147 = .ok (.aload_n 2, 1)) ∧ (decode cL_law 1148 = .ok (.aload_n 0, 1)) ∧ (decode cL_law 1149 = .ok (.iload_n 3, 1)) ∧ (decode cL_law 1150 = .ok (.iconst 1, 1)) ∧ (decode cL_law 1151 = .ok (.iadd, 1)) := by decide +kernel
theorem dL_law_1130 : decode cL_law 1130 = .ok (.invokevirtual 139, 3) := dL_law_1130_a.1
theorem dL_law_1133 : decode cL_law 1133 = .ok (.pop, 1) := dL_law_1130_a.2.1
theorem dL_law_1134 : decode cL_law 1134 = .ok (.goto 39, 3) := dL_law_1130_a.2.2.1
theorem dL_law_1137 : decode cL_law 1137 = .ok (.aload_n 1, 1) := dL_law_1130_a.2.2.2.1
theorem dL_law_1138 : decode cL_law 1138 = .ok (.aload_n 0, 1) := dL_law_1130_a.2.2.2.2.1
theorem dL_law_1139 : decode cL_law 1139 = .ok (.iload_n 3, 1) := dL_law_1130_a.2.2.2.2.2.1
theorem dL_law_1140 : decode cL_law 1140 = .ok (.iconst 1, 1) := dL_law_1130_a.2.2.2.2.2.2.1
theorem dL_law_1141 : decode cL_law 1141 = .ok (.iadd, 1) := dL_law_1130_a.2.2.2.2.2.2.2.1
theorem dL_law_1142 : decode cL_law 1142 = .ok (.iaload, 1) := dL_law_1130_a.2.2.2.2.2.2.2.2.1
theorem dL_law_1143 : decode cL_law 1143 = .ok (.invokevirtual 140, 3) := dL_law_1130_a.2.2.2.2.2.2.2.2.2.1
theorem dL_law_1146 : decode cL_law 1146 = .ok (.pop, 1) := dL_law_1130_a.2.2.2.2.2.2.2.2.2.2.1
theorem dL_law_1147 : decode cL_law 1147 = .ok (.aload_n 2, 1) := dL_law_1130_a.2.2.2.2.2.2.2.2.2.2.2.1
theorem dL_law_1148 : decode cL_law 1148 = .ok (.aload_n 0, 1) := dL_law_1130_a.2.2.2.2.2.2.2.2.2.2.2.2.1
theorem dL_law_1149 : decode cL_law 1149 = .ok (.iload_n 3, 1) := dL_law_1130_a.2.2.2.2.2.2.2.2.2.2.2.2.2.1
theorem dL_law_1150 : decode cL_law 1150 = .ok (.iconst 1, 1) := dL_law_1130_a.2.2.2.2.2.2.2.2.2.2.2.2.2.2.1
theorem dL_law_1151 : decode cL_law 1151 = .ok (.iadd, 1) := dL_law_1130_a.2.2.2.2.2.2.2.2.2.2.2.2.2.2.2
theorem dL_law_1152_a : (decode cL_law 1152 = .ok (.iaload, 1)) ∧ (decode cL_law 1153 = .ok (.invokevirtual 143, 3)) ∧ (decode cL_law 1156 = .ok (.pop, 1)) ∧ (decode cL_law 1157 = .ok (.goto 16, 3)) ∧ (decode cL_law 1160 = .ok (.aload_n 1, 1)) ∧ (decode cL_law 1161 = .ok (.invokevirtual 144, 3)) ∧ (decode cL_law 1164 = .ok (.pop2, 1)) ∧ (decode cL_law 1165 = .ok (.aload_n 2, 1)) ∧ (decode cL_law 1166 = .ok (.invokevirtual 148, 3)) ∧ (decode cL_law 1169 = .ok (.pop2, 1)) ∧ (decode cL_law 1170 = .ok (.goto 3, 3)) ∧ (decode cL_law 1173 = .ok (.iinc 3 6, 3)) ∧ (decode cL_law 1176 = .ok (.goto (-1158), 3)) ∧ (decode cL_law 1179 = .ok (.iconst 1, 1)) ∧ (decode cL_law 1180 = .ok (.ireturn, 1)) := by decide +kernel
theorem dL_law_1152 : decode cL_law 1152 = .ok (.iaload, 1) := dL_law_1152_a.1
theorem dL_law_1153 : decode cL_law 1153 = .ok (.invokevirtual 143, 3) := dL_law_1152_a.2.1
theorem dL_law_1156 : decode cL_law 1156 = .ok (.pop, 1) := dL_law_1152_a.2.2.1
theorem dL_law_1157 : decode cL_law 1157 = .ok (.goto 16, 3) := dL_law_1152_a.2.2.2.1
theorem dL_law_1160 : decode cL_law 1160 = .ok (.aload_n 1, 1) := dL_law_1152_a.2.2.2.2.1
theorem dL_law_1161 : decode cL_law 1161 = .ok (.invokevirtual 144, 3) := dL_law_1152_a.2.2.2.2.2.1
theorem dL_law_1164 : decode cL_law 1164 = .ok (.pop2, 1) := dL_law_1152_a.2.2.2.2.2.2.1
theorem dL_law_1165 : decode cL_law 1165 = .ok (.aload_n 2, 1) := dL_law_1152_a.2.2.2.2.2.2.2.1
theorem dL_law_1166 : decode cL_law 1166 = .ok (.invokevirtual 148, 3) := dL_law_1152_a.2.2.2.2.2.2.2.2.1
theorem dL_law_1169 : decode cL_law 1169 = .ok (.pop2, 1) := dL_law_1152_a.2.2.2.2.2.2.2.2.2.1
theorem dL_law_1170 : decode cL_law 1170 = .ok (.goto 3, 3) := dL_law_1152_a.2.2.2.2.2.2.2.2.2.2.1
theorem dL_law_1173 : decode cL_law 1173 = .ok (.iinc 3 6, 3) := dL_law_1152_a.2.2.2.2.2.2.2.2.2.2.2.1
theorem dL_law_1176 : decode cL_law 1176 = .ok (.goto (-1158), 3) := dL_law_1152_a.2.2.2.2.2.2.2.2.2.2.2.2.1
theorem dL_law_1179 : decode cL_law 1179 = .ok (.iconst 1, 1) := dL_law_1152_a.2.2.2.2.2.2.2.2.2.2.2.2.2.1
theorem dL_law_1180 : decode cL_law 1180 = .ok (.ireturn, 1) := dL_law_1152_a.2.2.2.2.2.2.2.2.2.2.2.2.2.2
