theorem kdL_law_0 : (decode cL_law 0 = .ok (.new 8, 3)) ∧ (decode cL_law 3 = .ok (.dup, 1)) ∧ (decode cL_law 4 = .ok (.invokespecial 94, 3)) ∧ (decode cL_law 7 = .ok (.astore_n 1, 1)) ∧ (decode cL_law 8 = .ok (.new 95, 3)) ∧ (decode cL_law 11 = .ok (.dup, 1)) ∧ (decode cL_law 12 = .ok (.invokespecial 97, 3)) ∧ (decode cL_law 15 = .ok (.astore_n 2, 1)) ∧ (decode cL_law 16 = .ok (.iconst 1, 1)) ∧ (decode cL_law 17 = .ok (.newarray .long, 2)) ∧ (decode cL_law 19 = .ok (.astore_n 3, 1)) ∧ (decode cL_law 20 = .ok (.iconst 0, 1)) ∧ (decode cL_law 21 = .ok (.istore 4, 2)) ∧ (decode cL_law 23 = .ok (.iload 4, 2)) ∧ (decode cL_law 25 = .ok (.aload_n 0, 1)) ∧ (decode cL_law 26 = .ok (.arraylength, 1)) ∧ (decode cL_law 27 = .ok (.bipush 6, 2)) ∧ (decode cL_law 29 = .ok (.isub, 1)) ∧ (decode cL_law 30 = .ok (.if_icmp .gt 1283, 3)) ∧ (decode cL_law 33 = .ok (.aload_n 0, 1)) ∧ (decode cL_law 34 = .ok (.iload 4, 2)) ∧ (decode cL_law 36 = .ok (.iaload, 1)) ∧ (decode cL_law 37 = .ok (.bipush 31, 2)) ∧ (decode cL_law 39 = .ok (.iand, 1)) := by decide +kernel
theorem dL_law_0 : decode cL_law 0 = .ok (.new 8, 3) := kdL_law_0.1
theorem dL_law_3 : decode cL_law 3 = .ok (.dup, 1) := kdL_law_0.2.1
theorem dL_law_4 : decode cL_law 4 = .ok (.invokespecial 94, 3) := kdL_law_0.2.2.1
theorem dL_law_7 : decode cL_law 7 = .ok (.astore_n 1, 1) := kdL_law_0.2.2.2.1
theorem dL_law_8 : decode cL_law 8 = .ok (.new 95, 3) := kdL_law_0.2.2.2.2.1
theorem dL_law_11 : decode cL_law 11 = .ok (.dup, 1) := kdL_law_0.2.2.2.2.2.1
theorem dL_law_12 : decode cL_law 12 = .ok (.invokespecial 97, 3) := kdL_law_0.2.2.2.2.2.2.1
theorem dL_law_15 : decode cL_law 15 = .ok (.astore_n 2, 1) := kdL_law_0.2.2.2.2.2.2.2.1
theorem dL_law_16 : decode cL_law 16 = .ok (.iconst 1, 1) := kdL_law_0.2.2.2.2.2.2.2.2.1
theorem dL_law_17 : decode cL_law 17 = .ok (.newarray .long, 2) := kdL_law_0.2.2.2.2.2.2.2.2.2.1
theorem dL_law_19 : decode cL_law 19 = .ok (.astore_n 3, 1) := kdL_law_0.2.2.2.2.2.2.2.2.2.2.1
theorem dL_law_20 : decode cL_law 20 = .ok (.iconst 0, 1) := kdL_law_0.2.2.2.2.2.2.2.2.2.2.2.1
theorem dL_law_21 : decode cL_law 21 = .ok (.istore 4, 2) := kdL_law_0.2.2.2.2.2.2.2.2.2.2.2.2.1
theorem dL_law_23 : decode cL_law 23 = .ok (.iload 4, 2) := kdL_law_0.2.2.2.2.2.2.2.2.2.2.2.2.2.1
theorem dL_law_25 : decode cL_law 25 = .ok (.aload_n 0, 1) := kdL_law_0.2.2.2.2.2.2.2.2.2.2.2.2.2.2.1
theorem dL_law_26 : decode cL_law 26 = .ok (.arraylength, 1) := kdL_law_0.2.2.2.2.2.2.2.2.2.2.2.2.2.2.2.1
theorem dL_law_27 : decode cL_law 27 = .ok (.bipush 6, 2) := kdL_law_0.2.2.2.2.2.2.2.2.2.2.2.2.2.2.2.2.1
theorem dL_law_29 : decode cL_law 29 = .ok (.isub, 1) := kdL_law_0.2.2.2.2.2.2.2.2.2.2.2.2.2.2.2.2.2.1
theorem dL_law_30 : decode cL_law 30 = .ok (.if_icmp .gt 1283, 3) := kdL_law_0.2.2.2.2.2.2.2.2.2.2.2.2.2.2.2.2.2.2.1
theorem dL_law_33 : decode cL_law 33 = .ok (.aload_n 0, 1) := kdL_law_0.2.2.2.2.2.2.2.2.2.2.2.2.2.2.2.2.2.2.2.1
theorem dL_law_34 : decode cL_law 34 = .ok (.iload 4, 2) := kdL_law_0.2.2.2.2.2.2.2.2.2.2.2.2.2.2.2.2.2.2.2.2.1
theorem dL_law_36 : decode cL_law 36 = .ok (.iaload, 1) := kdL_law_0.2.2.2.2.2.2.2.2.2.2.2.2.2.2.2.2.2.2.2.2.2.1
theorem dL_law_37 : decode cL_law 37 = .ok (.bipush 31, 2) := kdL_law_0.2.2.2.2.2.2.2.2.2.2.2.2.2.2.2.2.2.2.2.2.2.2.1
theorem dL_law_39 : decode cL_law 39 = .ok (.iand, 1) := kdL_law_0.2.2.2.2.2.2.2.2.2.2.2.2.2.2.2.2.2.2.2.2.2.2.2
theorem kdL_law_40 : (decode cL_law 40 = .ok (.tableswitch 1267 0 27 #[128, 201, 226, 278, 330, 370, 386, 438, 478, 518, 558, 610, 666, 703, 731, 744, 800, 840, 880, 908, 948, 1000, 1068, 1096, 1124, 1149, 1217, 1242], 128)) ∧ (decode cL_law 168 = .ok (.aload_n 1, 1)) ∧ (decode cL_law 169 = .ok (.aload_n 0, 1)) ∧ (decode cL_law 170 = .ok (.iload 4, 2)) ∧ (decode cL_law 172 = .ok (.iconst 1, 1)) ∧ (decode cL_law 173 = .ok (.iadd, 1)) ∧ (decode cL_law 174 = .ok (.iaload, 1)) ∧ (decode cL_law 175 = .ok (.aload_n 0, 1)) ∧ (decode cL_law 176 = .ok (.iload 4, 2)) ∧ (decode cL_law 178 = .ok (.iconst 2, 1)) ∧ (decode cL_law 179 = .ok (.iadd, 1)) ∧ (decode cL_law 180 = .ok (.iaload, 1)) ∧ (decode cL_law 181 = .ok (.aload_n 0, 1)) ∧ (decode cL_law 182 = .ok (.iload 4, 2)) ∧ (decode cL_law 184 = .ok (.iconst 3, 1)) ∧ (decode cL_law 185 = .ok (.iadd, 1)) ∧ (decode cL_law 186 = .ok (.iaload, 1)) ∧ (decode cL_law 187 = .ok (.aload_n 0, 1)) ∧ (decode cL_law 188 = .ok (.iload 4, 2)) ∧ (decode cL_law 190 = .ok (.iconst 4, 1)) ∧ (decode cL_law 191 = .ok (.iadd, 1)) ∧ (decode cL_law 192 = .ok (.iaload, 1)) ∧ (decode cL_law 193 = .ok (.aload_n 0, 1)) ∧ (decode cL_law 194 = .ok (.iload 4, 2)) := by decide +kernel
theorem dL_law_40 : decode cL_law 40 = .ok (.tableswitch 1267 0 27 #[128, 201, 226, 278, 330, 370, 386, 438, 478, 518, 558, 610, 666, 703, 731, 744, 800, 840, 880, 908, 948, 1000, 1068, 1096, 1124, 1149, 1217, 1242], 128) := kdL_law_40.1
theorem dL_law_168 : decode cL_law 168 = .ok (.aload_n 1, 1) := kdL_law_40.2.1
theorem dL_law_169 : decode cL_law 169 = .ok (.aload_n 0, 1) := kdL_law_40.2.2.1
theorem dL_law_170 : decode cL_law 170 = .ok (.iload 4, 2) := kdL_law_40.2.2.2.1
theorem dL_law_172 : decode cL_law 172 = .ok (.iconst 1, 1) := kdL_law_40.2.2.2.2.1
theorem dL_law_173 : decode cL_law 173 = .ok (.iadd, 1) := kdL_law_40.2.2.2.2.2.1
theorem dL_law_174 : decode cL_law 174 = .ok (.iaload, 1) := kdL_law_40.2.2.2.2.2.2.1
theorem dL_law_175 : decode cL_law 175 = .ok (.aload_n 0, 1) := kdL_law_40.2.2.2.2.2.2.2.1
theorem dL_law_176 : decode cL_law 176 = .ok (.iload 4, 2) := kdL_law_40.2.2.2.2.2.2.2.2.1
theorem dL_law_178 : decode cL_law 178 = .ok (.iconst 2, 1) := kdL_law_40.2.2.2.2.2.2.2.2.2.1
theorem dL_law_179 : decode cL_law 179 = .ok (.iadd, 1) := kdL_law_40.2.2.2.2.2.2.2.2.2.2.1
theorem dL_law_180 : decode cL_law 180 = .ok (.iaload, 1) := kdL_law_40.2.2.2.2.2.2.2.2.2.2.2.1
theorem dL_law_181 : decode cL_law 181 = .ok (.aload_n 0, 1) := kdL_law_40.2.2.2.2.2.2.2.2.2.2.2.2.1
theorem dL_law_182 : decode cL_law 182 = .ok (.iload 4, 2) := kdL_law_40.2.2.2.2.2.2.2.2.2.2.2.2.2.1
theorem dL_law_184 : decode cL_law 184 = .ok (.iconst 3, 1) := kdL_law_40.2.2.2.2.2.2.2.2.2.2.2.2.2.2.1
theorem dL_law_185 : decode cL_law 185 = .ok (.iadd, 1) := kdL_law_40.2.2.2.2.2.2.2.2.2.2.2.2.2.2.2.1
theorem dL_law_186 : decode cL_law 186 = .ok (.iaload, 1) := kdL_law_40.2.2.2.2.2.2.2.2.2.2.2.2.2.2.2.2.1
theorem dL_law_187 : decode cL_law 187 = .ok (.aload_n 0, 1) := kdL_law_40.2.2.2.2.2.2.2.2.2.2.2.2.2.2.2.2.2.1
theorem dL_law_188 : decode cL_law 188 = .ok (.iload 4, 2) := kdL_law_40.2.2.2.2.2.2.2.2.2.2.2.2.2.2.2.2.2.2.1
theorem dL_law_190 : decode cL_law 190 = .ok (.iconst 4, 1) := kdL_law_40.2.2.2.2.2.2.2.2.2.2.2.2.2.2.2.2.2.2.2.1
theorem dL_law_191 : decode cL_law 191 = .ok (.iadd, 1) := kdL_law_40.2.2.2.2.2.2.2.2.2.2.2.2.2.2.2.2.2.2.2.2.1
theorem dL_law_192 : decode cL_law 192 = .ok (.iaload, 1) := kdL_law_40.2.2.2.2.2.2.2.2.2.2.2.2.2.2.2.2.2.2.2.2.2.1
theorem dL_law_193 : decode cL_law 193 = .ok (.aload_n 0, 1) := kdL_law_40.2.2.2.2.2.2.2.2.2.2.2.2.2.2.2.2.2.2.2.2.2.2.1
theorem dL_law_194 : decode cL_law 194 = .ok (.iload 4, 2) := kdL_law_40.2.2.2.2.2.2.2.2.2.2.2.2.2.2.2.2.2.2.2.2.2.2.2
theorem kdL_law_196 : (decode cL_law 196 = .ok (.iconst 5, 1)) ∧ (decode cL_law 197 = .ok (.iadd, 1)) ∧ (decode cL_law 198 = .ok (.iaload, 1)) ∧ (decode cL_law 199 = .ok (.invokevirtual 98, 3)) ∧ (decode cL_law 202 = .ok (.pop, 1)) ∧ (decode cL_law 203 = .ok (.aload_n 2, 1)) ∧ (decode cL_law 204 = .ok (.aload_n 0, 1)) ∧ (decode cL_law 205 = .ok (.iload 4, 2)) ∧ (decode cL_law 207 = .ok (.iconst 1, 1)) ∧ (decode cL_law 208 = .ok (.iadd, 1)) ∧ (decode cL_law 209 = .ok (.iaload, 1)) ∧ (decode cL_law 210 = .ok (.aload_n 0, 1)) ∧ (decode cL_law 211 = .ok (.iload 4, 2)) ∧ (decode cL_law 213 = .ok (.iconst 2, 1)) ∧ (decode cL_law 214 = .ok (.iadd, 1)) ∧ (decode cL_law 215 = .ok (.iaload, 1)) ∧ (decode cL_law 216 = .ok (.aload_n 0, 1)) ∧ (decode cL_law 217 = .ok (.iload 4, 2)) ∧ (decode cL_law 219 = .ok (.iconst 3, 1)) ∧ (decode cL_law 220 = .ok (.iadd, 1)) ∧ (decode cL_law 221 = .ok (.iaload, 1)) ∧ (decode cL_law 222 = .ok (.aload_n 0, 1)) ∧ (decode cL_law 223 = .ok (.iload 4, 2)) ∧ (decode cL_law 225 = .ok (.iconst 4, 1)) := by decide +kernel
theorem dL_law_196 : decode cL_law 196 = .ok (.iconst 5, 1) := kdL_law_196.1
theorem dL_law_197 : decode cL_law 197 = .ok (.iadd, 1) := kdL_law_196.2.1
theorem dL_law_198 : decode cL_law 198 = .ok (.iaload, 1) := kdL_law_196.2.2.1
theorem dL_law_199 : decode cL_law 199 = .ok (.invokevirtual 98, 3) := kdL_law_196.2.2.2.1
theorem dL_law_202 : decode cL_law 202 = .ok (.pop, 1) := kdL_law_196.2.2.2.2.1
theorem dL_law_203 : decode cL_law 203 = .ok (.aload_n 2, 1) := kdL_law_196.2.2.2.2.2.1
theorem dL_law_204 : decode cL_law 204 = .ok (.aload_n 0, 1) := kdL_law_196.2.2.2.2.2.2.1
theorem dL_law_205 : decode cL_law 205 = .ok (.iload 4, 2) := kdL_law_196.2.2.2.2.2.2.2.1
theorem dL_law_207 : decode cL_law 207 = .ok (.iconst 1, 1) := kdL_law_196.2.2.2.2.2.2.2.2.1
theorem dL_law_208 : decode cL_law 208 = .ok (.iadd, 1) := kdL_law_196.2.2.2.2.2.2.2.2.2.1
theorem dL_law_209 : decode cL_law 209 = .ok (.iaload, 1) := kdL_law_196.2.2.2.2.2.2.2.2.2.2.1
theorem dL_law_210 : decode cL_law 210 = .ok (.aload_n 0, 1) := kdL_law_196.2.2.2.2.2.2.2.2.2.2.2.1
theorem dL_law_211 : decode cL_law 211 = .ok (.iload 4, 2) := kdL_law_196.2.2.2.2.2.2.2.2.2.2.2.2.1
theorem dL_law_213 : decode cL_law 213 = .ok (.iconst 2, 1) := kdL_law_196.2.2.2.2.2.2.2.2.2.2.2.2.2.1
theorem dL_law_214 : decode cL_law 214 = .ok (.iadd, 1) := kdL_law_196.2.2.2.2.2.2.2.2.2.2.2.2.2.2.1
theorem dL_law_215 : decode cL_law 215 = .ok (.iaload, 1) := kdL_law_196.2.2.2.2.2.2.2.2.2.2.2.2.2.2.2.1
theorem dL_law_216 : decode cL_law 216 = .ok (.aload_n 0, 1) := kdL_law_196.2.2.2.2.2.2.2.2.2.2.2.2.2.2.2.2.1
theorem dL_law_217 : decode cL_law 217 = .ok (.iload 4, 2) := kdL_law_196.2.2.2.2.2.2.2.2.2.2.2.2.2.2.2.2.2.1
theorem dL_law_219 : decode cL_law 219 = .ok (.iconst 3, 1) := kdL_law_196.2.2.2.2.2.2.2.2.2.2.2.2.2.2.2.2.2.2.1
theorem dL_law_220 : decode cL_law 220 = .ok (.iadd, 1) := kdL_law_196.2.2.2.2.2.2.2.2.2.2.2.2.2.2.2.2.2.2.2.1
theorem dL_law_221 : decode cL_law 221 = .ok (.iaload, 1) := kdL_law_196.2.2.2.2.2.2.2.2.2.2.2.2.2.2.2.2.2.2.2.2.1
theorem dL_law_222 : decode cL_law 222 = .ok (.aload_n 0, 1) := kdL_law_196.2.2.2.2.2.2.2.2.2.2.2.2.2.2.2.2.2.2.2.2.2.1
theorem dL_law_223 : decode cL_law 223 = .ok (.iload 4, 2) := kdL_law_196.2.2.2.2.2.2.2.2.2.2.2.2.2.2.2.2.2.2.2.2.2.2.1
theorem dL_law_225 : decode cL_law 225 = .ok (.iconst 4, 1) := kdL_law_196.2.2.2.2.2.2.2.2.2.2.2.2.2.2.2.2.2.2.2.2.2.2.2
theorem kdL_law_226 : (decode cL_law 226 = .ok (.iadd, 1)) ∧ (decode cL_law 227 = .ok (.iaload, 1)) ∧ (decode cL_law 228 = .ok (.aload_n 0, 1)) ∧ (decode cL_law 229 = .ok (.iload 4, 2)) ∧ (decode cL_law 231 = .ok (.iconst 5, 1)) ∧ (decode cL_law 232 = .ok (.iadd, 1)) ∧ (decode cL_law 233 = .ok (.iaload, 1)) ∧ (decode cL_law 234 = .ok (.invokevirtual 102, 3)) ∧ (decode cL_law 237 = .ok (.pop, 1)) ∧ (decode cL_law 238 = .ok (.goto 1069, 3)) ∧ (decode cL_law 241 = .ok (.aload_n 1, 1)) ∧ (decode cL_law 242 = .ok (.aload_n 0, 1)) ∧ (decode cL_law 243 = .ok (.iload 4, 2)) ∧ (decode cL_law 245 = .ok (.iconst 1, 1)) ∧ (decode cL_law 246 = .ok (.iadd, 1)) ∧ (decode cL_law 247 = .ok (.iaload, 1)) ∧ (decode cL_law 248 = .ok (.invokevirtual 103, 3)) ∧ (decode cL_law 251 = .ok (.pop, 1)) ∧ (decode cL_law 252 = .ok (.aload_n 2, 1)) ∧ (decode cL_law 253 = .ok (.aload_n 0, 1)) ∧ (decode cL_law 254 = .ok (.iload 4, 2)) ∧ (decode cL_law 256 = .ok (.iconst 1, 1)) ∧ (decode cL_law 257 = .ok (.iadd, 1)) ∧ (decode cL_law 258 = .ok (.iaload, 1)) := by decide +kernel
theorem dL_law_226 : decode cL_law 226 = .ok (.iadd, 1) := kdL_law_226.1
theorem dL_law_227 : decode cL_law 227 = .ok (.iaload, 1) := kdL_law_226.2.1
theorem dL_law_228 : decode cL_law 228 = .ok (.aload_n 0, 1) := kdL_law_226.2.2.1
theorem dL_law_229 : decode cL_law 229 = .ok (.iload 4, 2) := kdL_law_226.2.2.2.1
theorem dL_law_231 : decode cL_law 231 = .ok (.iconst 5, 1) := kdL_law_226.2.2.2.2.1
theorem dL_law_232 : decode cL_law 232 = .ok (.iadd, 1) := kdL_law_226.2.2.2.2.2.1
theorem dL_law_233 : decode cL_law 233 = .ok (.iaload, 1) := kdL_law_226.2.2.2.2.2.2.1
theorem dL_law_234 : decode cL_law 234 = .ok (.invokevirtual 102, 3) := kdL_law_226.2.2.2.2.2.2.2.1
theorem dL_law_237 : decode cL_law 237 = .ok (.pop, 1) := kdL_law_226.2.2.2.2.2.2.2.2.1
theorem dL_law_238 : decode cL_law 238 = .ok (.goto 1069, 3) := kdL_law_226.2.2.2.2.2.2.2.2.2.1
theorem dL_law_241 : decode cL_law 241 = .ok (.aload_n 1, 1) := kdL_law_226.2.2.2.2.2.2.2.2.2.2.1
theorem dL_law_242 : decode cL_law 242 = .ok (.aload_n 0, 1) := kdL_law_226.2.2.2.2.2.2.2.2.2.2.2.1
theorem dL_law_243 : decode cL_law 243 = .ok (.iload 4, 2) := kdL_law_226.2.2.2.2.2.2.2.2.2.2.2.2.1
theorem dL_law_245 : decode cL_law 245 = .ok (.iconst 1, 1) := kdL_law_226.2.2.2.2.2.2.2.2.2.2.2.2.2.1
theorem dL_law_246 : decode cL_law 246 = .ok (.iadd, 1) := kdL_law_226.2.2.2.2.2.2.2.2.2.2.2.2.2.2.1
theorem dL_law_247 : decode cL_law 247 = .ok (.iaload, 1) := kdL_law_226.2.2.2.2.2.2.2.2.2.2.2.2.2.2.2.1
theorem dL_law_248 : decode cL_law 248 = .ok (.invokevirtual 103, 3) := kdL_law_226.2.2.2.2.2.2.2.2.2.2.2.2.2.2.2.2.1
theorem dL_law_251 : decode cL_law 251 = .ok (.pop, 1) := kdL_law_226.2.2.2.2.2.2.2.2.2.2.2.2.2.2.2.2.2.1
theorem dL_law_252 : decode cL_law 252 = .ok (.aload_n 2, 1) := kdL_law_226.2.2.2.2.2.2.2.2.2.2.2.2.2.2.2.2.2.2.1
theorem dL_law_253 : decode cL_law 253 = .ok (.aload_n 0, 1) := kdL_law_226.2.2.2.2.2.2.2.2.2.2.2.2.2.2.2.2.2.2.2.1
theorem dL_law_254 : decode cL_law 254 = .ok (.iload 4, 2) := kdL_law_226.2.2.2.2.2.2.2.2.2.2.2.2.2.2.2.2.2.2.2.2.1
theorem dL_law_256 : decode cL_law 256 = .ok (.iconst 1, 1) := kdL_law_226.2.2.2.2.2.2.2.2.2.2.2.2.2.2.2.2.2.2.2.2.2.1
theorem dL_law_257 : decode cL_law 257 = .ok (.iadd, 1) := kdL_law_226.2.2.2.2.2.2.2.2.2.2.2.2.2.2.2.2.2.2.2.2.2.2.1
theorem dL_law_258 : decode cL_law 258 = .ok (.iaload, 1) := kdL_law_226.2.2.2.2.2.2.2.2.2.2.2.2.2.2.2.2.2.2.2.2.2.2.2
theorem kdL_law_259 : (decode cL_law 259 = .ok (.invokevirtual 106, 3)) ∧ (decode cL_law 262 = .ok (.pop, 1)) ∧ (decode cL_law 263 = .ok (.goto 1044, 3)) ∧ (decode cL_law 266 = .ok (.aload_n 1, 1)) ∧ (decode cL_law 267 = .ok (.aload_n 0, 1)) ∧ (decode cL_law 268 = .ok (.iload 4, 2)) ∧ (decode cL_law 270 = .ok (.iconst 1, 1)) ∧ (decode cL_law 271 = .ok (.iadd, 1)) ∧ (decode cL_law 272 = .ok (.iaload, 1)) ∧ (decode cL_law 273 = .ok (.aload_n 0, 1)) ∧ (decode cL_law 274 = .ok (.iload 4, 2)) ∧ (decode cL_law 276 = .ok (.iconst 2, 1)) ∧ (decode cL_law 277 = .ok (.iadd, 1)) ∧ (decode cL_law 278 = .ok (.iaload, 1)) ∧ (decode cL_law 279 = .ok (.aload_n 0, 1)) ∧ (decode cL_law 280 = .ok (.iload 4, 2)) ∧ (decode cL_law 282 = .ok (.iconst 3, 1)) ∧ (decode cL_law 283 = .ok (.iadd, 1)) ∧ (decode cL_law 284 = .ok (.iaload, 1)) ∧ (decode cL_law 285 = .ok (.aload_n 3, 1)) ∧ (decode cL_law 286 = .ok (.invokestatic 107, 3)) ∧ (decode cL_law 289 = .ok (.istore 5, 2)) ∧ (decode cL_law 291 = .ok (.aload_n 2, 1)) ∧ (decode cL_law 292 = .ok (.aload_n 0, 1)) := by decide +kernel
theorem dL_law_259 : decode cL_law 259 = .ok (.invokevirtual 106, 3) := kdL_law_259.1
theorem dL_law_262 : decode cL_law 262 = .ok (.pop, 1) := kdL_law_259.2.1
theorem dL_law_263 : decode cL_law 263 = .ok (.goto 1044, 3) := kdL_law_259.2.2.1
theorem dL_law_266 : decode cL_law 266 = .ok (.aload_n 1, 1) := kdL_law_259.2.2.2.1
theorem dL_law_267 : decode cL_law 267 = .ok (.aload_n 0, 1) := kdL_law_259.2.2.2.2.1
theorem dL_law_268 : decode cL_law 268 = .ok (.iload 4, 2) := kdL_law_259.2.2.2.2.2.1
theorem dL_law_270 : decode cL_law 270 = .ok (.iconst 1, 1) := kdL_law_259.2.2.2.2.2.2.1
theorem dL_law_271 : decode cL_law 271 = .ok (.iadd, 1) := kdL_law_259.2.2.2.2.2.2.2.1
theorem dL_law_272 : decode cL_law 272 = .ok (.iaload, 1) := kdL_law_259.2.2.2.2.2.2.2.2.1
theorem dL_law_273 : decode cL_law 273 = .ok (.aload_n 0, 1) := kdL_law_259.2.2.2.2.2.2.2.2.2.1
theorem dL_law_274 : decode cL_law 274 = .ok (.iload 4, 2) := kdL_law_259.2.2.2.2.2.2.2.2.2.2.1
theorem dL_law_276 : decode cL_law 276 = .ok (.iconst 2, 1) := kdL_law_259.2.2.2.2.2.2.2.2.2.2.2.1
theorem dL_law_277 : decode cL_law 277 = .ok (.iadd, 1) := kdL_law_259.2.2.2.2.2.2.2.2.2.2.2.2.1
theorem dL_law_278 : decode cL_law 278 = .ok (.iaload, 1) := kdL_law_259.2.2.2.2.2.2.2.2.2.2.2.2.2.1
theorem dL_law_279 : decode cL_law 279 = .ok (.aload_n 0, 1) := kdL_law_259.2.2.2.2.2.2.2.2.2.2.2.2.2.2.1
theorem dL_law_280 : decode cL_law 280 = .ok (.iload 4, 2) := kdL_law_259.2.2.2.2.2.2.2.2.2.2.2.2.2.2.2.1
theorem dL_law_282 : decode cL_law 282 = .ok (.iconst 3, 1) := kdL_law_259.2.2.2.2.2.2.2.2.2.2.2.2.2.2.2.2.1
theorem dL_law_283 : decode cL_law 283 = .ok (.iadd, 1) := kdL_law_259.2.2.2.2.2.2.2.2.2.2.2.2.2.2.2.2.2.1
theorem dL_law_284 : decode cL_law 284 = .ok (.iaload, 1) := kdL_law_259.2.2.2.2.2.2.2.2.2.2.2.2.2.2.2.2.2.2.1
theorem dL_law_285 : decode cL_law 285 = .ok (.aload_n 3, 1) := kdL_law_259.2.2.2.2.2.2.2.2.2.2.2.2.2.2.2.2.2.2.2.1
theorem dL_law_286 : decode cL_law 286 = .ok (.invokestatic 107, 3) := kdL_law_259.2.2.2.2.2.2.2.2.2.2.2.2.2.2.2.2.2.2.2.2.1
theorem dL_law_289 : decode cL_law 289 = .ok (.istore 5, 2) := kdL_law_259.2.2.2.2.2.2.2.2.2.2.2.2.2.2.2.2.2.2.2.2.2.1
theorem dL_law_291 : decode cL_law 291 = .ok (.aload_n 2, 1) := kdL_law_259.2.2.2.2.2.2.2.2.2.2.2.2.2.2.2.2.2.2.2.2.2.2.1
theorem dL_law_292 : decode cL_law 292 = .ok (.aload_n 0, 1) := kdL_law_259.2.2.2.2.2.2.2.2.2.2.2.2.2.2.2.2.2.2.2.2.2.2.2
theorem kdL_law_293 : (decode cL_law 293 = .ok (.iload 4, 2)) ∧ (decode cL_law 295 = .ok (.iconst 1, 1)) ∧ (decode cL_law 296 = .ok (.iadd, 1)) ∧ (decode cL_law 297 = .ok (.iaload, 1)) ∧ (decode cL_law 298 = .ok (.aload_n 0, 1)) ∧ (decode cL_law 299 = .ok (.iload 4, 2)) ∧ (decode cL_law 301 = .ok (.iconst 2, 1)) ∧ (decode cL_law 302 = .ok (.iadd, 1)) ∧ (decode cL_law 303 = .ok (.iaload, 1)) ∧ (decode cL_law 304 = .ok (.aload_n 0, 1)) ∧ (decode cL_law 305 = .ok (.iload 4, 2)) ∧ (decode cL_law 307 = .ok (.iconst 3, 1)) ∧ (decode cL_law 308 = .ok (.iadd, 1)) ∧ (decode cL_law 309 = .ok (.iaload, 1)) ∧ (decode cL_law 310 = .ok (.invokevirtual 112, 3)) ∧ (decode cL_law 313 = .ok (.istore 6, 2)) ∧ (decode cL_law 315 = .ok (.goto 992, 3)) ∧ (decode cL_law 318 = .ok (.aload_n 1, 1)) ∧ (decode cL_law 319 = .ok (.aload_n 0, 1)) ∧ (decode cL_law 320 = .ok (.iload 4, 2)) ∧ (decode cL_law 322 = .ok (.iconst 1, 1)) ∧ (decode cL_law 323 = .ok (.iadd, 1)) ∧ (decode cL_law 324 = .ok (.iaload, 1)) ∧ (decode cL_law 325 = .ok (.aload_n 0, 1)) := by decide +kernel
theorem dL_law_293 : decode cL_law 293 = .ok (.iload 4, 2) := kdL_law_293.1
theorem dL_law_295 : decode cL_law 295 = .ok (.iconst 1, 1) := kdL_law_293.2.1
theorem dL_law_296 : decode cL_law 296 = .ok (.iadd, 1) := kdL_law_293.2.2.1
theorem dL_law_297 : decode cL_law 297 = .ok (.iaload, 1) := kdL_law_293.2.2.2.1
theorem dL_law_298 : decode cL_law 298 = .ok (.aload_n 0, 1) := kdL_law_293.2.2.2.2.1
theorem dL_law_299 : decode cL_law 299 = .ok (.iload 4, 2) := kdL_law_293.2.2.2.2.2.1
theorem dL_law_301 : decode cL_law 301 = .ok (.iconst 2, 1) := kdL_law_293.2.2.2.2.2.2.1
theorem dL_law_302 : decode cL_law 302 = .ok (.iadd, 1) := kdL_law_293.2.2.2.2.2.2.2.1
theorem dL_law_303 : decode cL_law 303 = .ok (.iaload, 1) := kdL_law_293.2.2.2.2.2.2.2.2.1
theorem dL_law_304 : decode cL_law 304 = .ok (.aload_n 0, 1) := kdL_law_293.2.2.2.2.2.2.2.2.2.1
theorem dL_law_305 : decode cL_law 305 = .ok (.iload 4, 2) := kdL_law_293.2.2.2.2.2.2.2.2.2.2.1
theorem dL_law_307 : decode cL_law 307 = .ok (.iconst 3, 1) := kdL_law_293.2.2.2.2.2.2.2.2.2.2.2.1
theorem dL_law_308 : decode cL_law 308 = .ok (.iadd, 1) := kdL_law_293.2.2.2.2.2.2.2.2.2.2.2.2.1
theorem dL_law_309 : decode cL_law 309 = .ok (.iaload, 1) := kdL_law_293.2.2.2.2.2.2.2.2.2.2.2.2.2.1
theorem dL_law_310 : decode cL_law 310 = .ok (.invokevirtual 112, 3) := kdL_law_293.2.2.2.2.2.2.2.2.2.2.2.2.2.2.1
theorem dL_law_313 : decode cL_law 313 = .ok (.istore 6, 2) := kdL_law_293.2.2.2.2.2.2.2.2.2.2.2.2.2.2.2.1
theorem dL_law_315 : decode cL_law 315 = .ok (.goto 992, 3) := kdL_law_293.2.2.2.2.2.2.2.2.2.2.2.2.2.2.2.2.1
theorem dL_law_318 : decode cL_law 318 = .ok (.aload_n 1, 1) := kdL_law_293.2.2.2.2.2.2.2.2.2.2.2.2.2.2.2.2.2.1
theorem dL_law_319 : decode cL_law 319 = .ok (.aload_n 0, 1) := kdL_law_293.2.2.2.2.2.2.2.2.2.2.2.2.2.2.2.2.2.2.1
theorem dL_law_320 : decode cL_law 320 = .ok (.iload 4, 2) := kdL_law_293.2.2.2.2.2.2.2.2.2.2.2.2.2.2.2.2.2.2.2.1
theorem dL_law_322 : decode cL_law 322 = .ok (.iconst 1, 1) := kdL_law_293.2.2.2.2.2.2.2.2.2.2.2.2.2.2.2.2.2.2.2.2.1
theorem dL_law_323 : decode cL_law 323 = .ok (.iadd, 1) := kdL_law_293.2.2.2.2.2.2.2.2.2.2.2.2.2.2.2.2.2.2.2.2.2.1
theorem dL_law_324 : decode cL_law 324 = .ok (.iaload, 1) := kdL_law_293.2.2.2.2.2.2.2.2.2.2.2.2.2.2.2.2.2.2.2.2.2.2.1
theorem dL_law_325 : decode cL_law 325 = .ok (.aload_n 0, 1) := kdL_law_293.2.2.2.2.2.2.2.2.2.2.2.2.2.2.2.2.2.2.2.2.2.2.2
theorem kdL_law_326 : (decode cL_law 326 = .ok (.iload 4, 2)) ∧ (decode cL_law 328 = .ok (.iconst 2, 1)) ∧ (decode cL_law 329 = .ok (.iadd, 1)) ∧ (decode cL_law 330 = .ok (.iaload, 1)) ∧ (decode cL_law 331 = .ok (.aload_n 0, 1)) ∧ (decode cL_law 332 = .ok (.iload 4, 2)) ∧ (decode cL_law 334 = .ok (.iconst 3, 1)) ∧ (decode cL_law 335 = .ok (.iadd, 1)) ∧ (decode cL_law 336 = .ok (.iaload, 1)) ∧ (decode cL_law 337 = .ok (.aload_n 3, 1)) ∧ (decode cL_law 338 = .ok (.invokestatic 113, 3)) ∧ (decode cL_law 341 = .ok (.istore 5, 2)) ∧ (decode cL_law 343 = .ok (.aload_n 2, 1)) ∧ (decode cL_law 344 = .ok (.aload_n 0, 1)) ∧ (decode cL_law 345 = .ok (.iload 4, 2)) ∧ (decode cL_law 347 = .ok (.iconst 1, 1)) ∧ (decode cL_law 348 = .ok (.iadd, 1)) ∧ (decode cL_law 349 = .ok (.iaload, 1)) ∧ (decode cL_law 350 = .ok (.aload_n 0, 1)) ∧ (decode cL_law 351 = .ok (.iload 4, 2)) ∧ (decode cL_law 353 = .ok (.iconst 2, 1)) ∧ (decode cL_law 354 = .ok (.iadd, 1)) ∧ (decode cL_law 355 = .ok (.iaload, 1)) ∧ (decode cL_law 356 = .ok (.aload_n 0, 1)) := by decide +kernel
theorem dL_law_326 : decode cL_law 326 = .ok (.iload 4, 2) := kdL_law_326.1
theorem dL_law_328 : decode cL_law 328 = .ok (.iconst 2, 1) := kdL_law_326.2.1
theorem dL_law_329 : decode cL_law 329 = .ok (.iadd, 1) := kdL_law_326.2.2.1
theorem dL_law_330 : decode cL_law 330 = .ok (.iaload, 1) := kdL_law_326.2.2.2.1
theorem dL_law_331 : decode cL_law 331 = .ok (.aload_n 0, 1) := kdL_law_326.2.2.2.2.1
theorem dL_law_332 : decode cL_law 332 = .ok (.iload 4, 2) := kdL_law_326.2.2.2.2.2.1
theorem dL_law_334 : decode cL_law 334 = .ok (.iconst 3, 1) := kdL_law_326.2.2.2.2.2.2.1
theorem dL_law_335 : decode cL_law 335 = .ok (.iadd, 1) := kdL_law_326.2.2.2.2.2.2.2.1
theorem dL_law_336 : decode cL_law 336 = .ok (.iaload, 1) := kdL_law_326.2.2.2.2.2.2.2.2.1
theorem dL_law_337 : decode cL_law 337 = .ok (.aload_n 3, 1) := kdL_law_326.2.2.2.2.2.2.2.2.2.1
theorem dL_law_338 : decode cL_law 338 = .ok (.invokestatic 113, 3) := kdL_law_326.2.2.2.2.2.2.2.2.2.2.1
theorem dL_law_341 : decode cL_law 341 = .ok (.istore 5, 2) := kdL_law_326.2.2.2.2.2.2.2.2.2.2.2.1
theorem dL_law_343 : decode cL_law 343 = .ok (.aload_n 2, 1) := kdL_law_326.2.2.2.2.2.2.2.2.2.2.2.2.1
theorem dL_law_344 : decode cL_law 344 = .ok (.aload_n 0, 1) := kdL_law_326.2.2.2.2.2.2.2.2.2.2.2.2.2.1
theorem dL_law_345 : decode cL_law 345 = .ok (.iload 4, 2) := kdL_law_326.2.2.2.2.2.2.2.2.2.2.2.2.2.2.1
theorem dL_law_347 : decode cL_law 347 = .ok (.iconst 1, 1) := kdL_law_326.2.2.2.2.2.2.2.2.2.2.2.2.2.2.2.1
theorem dL_law_348 : decode cL_law 348 = .ok (.iadd, 1) := kdL_law_326.2.2.2.2.2.2.2.2.2.2.2.2.2.2.2.2.1
theorem dL_law_349 : decode cL_law 349 = .ok (.iaload, 1) := kdL_law_326.2.2.2.2.2.2.2.2.2.2.2.2.2.2.2.2.2.1
theorem dL_law_350 : decode cL_law 350 = .ok (.aload_n 0, 1) := kdL_law_326.2.2.2.2.2.2.2.2.2.2.2.2.2.2.2.2.2.2.1
theorem dL_law_351 : decode cL_law 351 = .ok (.iload 4, 2) := kdL_law_326.2.2.2.2.2.2.2.2.2.2.2.2.2.2.2.2.2.2.2.1
theorem dL_law_353 : decode cL_law 353 = .ok (.iconst 2, 1) := kdL_law_326.2.2.2.2.2.2.2.2.2.2.2.2.2.2.2.2.2.2.2.2.1
theorem dL_law_354 : decode cL_law 354 = .ok (.iadd, 1) := kdL_law_326.2.2.2.2.2.2.2.2.2.2.2.2.2.2.2.2.2.2.2.2.2.1
theorem dL_law_355 : decode cL_law 355 = .ok (.iaload, 1) := kdL_law_326.2.2.2.2.2.2.2.2.2.2.2.2.2.2.2.2.2.2.2.2.2.2.1
theorem dL_law_356 : decode cL_law 356 = .ok (.aload_n 0, 1) := kdL_law_326.2.2.2.2.2.2.2.2.2.2.2.2.2.2.2.2.2.2.2.2.2.2.2
theorem kdL_law_357 : (decode cL_law 357 = .ok (.iload 4, 2)) ∧ (decode cL_law 359 = .ok (.iconst 3, 1)) ∧ (decode cL_law 360 = .ok (.iadd, 1)) ∧ (decode cL_law 361 = .ok (.iaload, 1)) ∧ (decode cL_law 362 = .ok (.invokevirtual 115, 3)) ∧ (decode cL_law 365 = .ok (.istore 6, 2)) ∧ (decode cL_law 367 = .ok (.goto 940, 3)) ∧ (decode cL_law 370 = .ok (.aload_n 1, 1)) ∧ (decode cL_law 371 = .ok (.aload_n 0, 1)) ∧ (decode cL_law 372 = .ok (.iload 4, 2)) ∧ (decode cL_law 374 = .ok (.iconst 1, 1)) ∧ (decode cL_law 375 = .ok (.iadd, 1)) ∧ (decode cL_law 376 = .ok (.iaload, 1)) ∧ (decode cL_law 377 = .ok (.aload_n 0, 1)) ∧ (decode cL_law 378 = .ok (.iload 4, 2)) ∧ (decode cL_law 380 = .ok (.iconst 2, 1)) ∧ (decode cL_law 381 = .ok (.iadd, 1)) ∧ (decode cL_law 382 = .ok (.iaload, 1)) ∧ (decode cL_law 383 = .ok (.aload_n 3, 1)) ∧ (decode cL_law 384 = .ok (.invokestatic 116, 3)) ∧ (decode cL_law 387 = .ok (.istore 5, 2)) ∧ (decode cL_law 389 = .ok (.aload_n 2, 1)) ∧ (decode cL_law 390 = .ok (.aload_n 0, 1)) ∧ (decode cL_law 391 = .ok (.iload 4, 2)) := by decide +kernel
theorem dL_law_357 : decode cL_law 357 = .ok (.iload 4, 2) := kdL_law_357.1
theorem dL_law_359 : decode cL_law 359 = .ok (.iconst 3, 1) := kdL_law_357.2.1
theorem dL_law_360 : decode cL_law 360 = .ok (.iadd, 1) := kdL_law_357.2.2.1
theorem dL_law_361 : decode cL_law 361 = .ok (.iaload, 1) := kdL_law_357.2.2.2.1
theorem dL_law_362 : decode cL_law 362 = .ok (.invokevirtual 115, 3) := kdL_law_357.2.2.2.2.1
theorem dL_law_365 : decode cL_law 365 = .ok (.istore 6, 2) := kdL_law_357.2.2.2.2.2.1
theorem dL_law_367 : decode cL_law 367 = .ok (.goto 940, 3) := kdL_law_357.2.2.2.2.2.2.1
theorem dL_law_370 : decode cL_law 370 = .ok (.aload_n 1, 1) := kdL_law_357.2.2.2.2.2.2.2.1
theorem dL_law_371 : decode cL_law 371 = .ok (.aload_n 0, 1) := kdL_law_357.2.2.2.2.2.2.2.2.1
theorem dL_law_372 : decode cL_law 372 = .ok (.iload 4, 2) := kdL_law_357.2.2.2.2.2.2.2.2.2.1
theorem dL_law_374 : decode cL_law 374 = .ok (.iconst 1, 1) := kdL_law_357.2.2.2.2.2.2.2.2.2.2.1
theorem dL_law_375 : decode cL_law 375 = .ok (.iadd, 1) := kdL_law_357.2.2.2.2.2.2.2.2.2.2.2.1
theorem dL_law_376 : decode cL_law 376 = .ok (.iaload, 1) := kdL_law_357.2.2.2.2.2.2.2.2.2.2.2.2.1
theorem dL_law_377 : decode cL_law 377 = .ok (.aload_n 0, 1) := kdL_law_357.2.2.2.2.2.2.2.2.2.2.2.2.2.1
theorem dL_law_378 : decode cL_law 378 = .ok (.iload 4, 2) := kdL_law_357.2.2.2.2.2.2.2.2.2.2.2.2.2.2.1
theorem dL_law_380 : decode cL_law 380 = .ok (.iconst 2, 1) := kdL_law_357.2.2.2.2.2.2.2.2.2.2.2.2.2.2.2.1
theorem dL_law_381 : decode cL_law 381 = .ok (.iadd, 1) := kdL_law_357.2.2.2.2.2.2.2.2.2.2.2.2.2.2.2.2.1
theorem dL_law_382 : decode cL_law 382 = .ok (.iaload, 1) := kdL_law_357.2.2.2.2.2.2.2.2.2.2.2.2.2.2.2.2.2.1
theorem dL_law_383 : decode cL_law 383 = .ok (.aload_n 3, 1) := kdL_law_357.2.2.2.2.2.2.2.2.2.2.2.2.2.2.2.2.2.2.1
theorem dL_law_384 : decode cL_law 384 = .ok (.invokestatic 116, 3) := kdL_law_357.2.2.2.2.2.2.2.2.2.2.2.2.2.2.2.2.2.2.2.1
theorem dL_law_387 : decode cL_law 387 = .ok (.istore 5, 2) := kdL_law_357.2.2.2.2.2.2.2.2.2.2.2.2.2.2.2.2.2.2.2.2.1
theorem dL_law_389 : decode cL_law 389 = .ok (.aload_n 2, 1) := kdL_law_357.2.2.2.2.2.2.2.2.2.2.2.2.2.2.2.2.2.2.2.2.2.1
theorem dL_law_390 : decode cL_law 390 = .ok (.aload_n 0, 1) := kdL_law_357.2.2.2.2.2.2.2.2.2.2.2.2.2.2.2.2.2.2.2.2.2.2.1
theorem dL_law_391 : decode cL_law 391 = .ok (.iload 4, 2) := kdL_law_357.2.2.2.2.2.2.2.2.2.2.2.2.2.2.2.2.2.2.2.2.2.2.2
theorem kdL_law_393 : (decode cL_law 393 = .ok (.iconst 1, 1)) ∧ (decode cL_law 394 = .ok (.iadd, 1)) ∧ (decode cL_law 395 = .ok (.iaload, 1)) ∧ (decode cL_law 396 = .ok (.aload_n 0, 1)) ∧ (decode cL_law 397 = .ok (.iload 4, 2)) ∧ (decode cL_law 399 = .ok (.iconst 2, 1)) ∧ (decode cL_law 400 = .ok (.iadd, 1)) ∧ (decode cL_law 401 = .ok (.iaload, 1)) ∧ (decode cL_law 402 = .ok (.invokevirtual 119, 3)) ∧ (decode cL_law 405 = .ok (.istore 6, 2)) ∧ (decode cL_law 407 = .ok (.goto 900, 3)) ∧ (decode cL_law 410 = .ok (.aload_n 1, 1)) ∧ (decode cL_law 411 = .ok (.aload_n 3, 1)) ∧ (decode cL_law 412 = .ok (.invokestatic 120, 3)) ∧ (decode cL_law 415 = .ok (.istore 5, 2)) ∧ (decode cL_law 417 = .ok (.aload_n 2, 1)) ∧ (decode cL_law 418 = .ok (.invokevirtual 123, 3)) ∧ (decode cL_law 421 = .ok (.istore 6, 2)) ∧ (decode cL_law 423 = .ok (.goto 884, 3)) ∧ (decode cL_law 426 = .ok (.aload_n 1, 1)) ∧ (decode cL_law 427 = .ok (.aload_n 0, 1)) ∧ (decode cL_law 428 = .ok (.iload 4, 2)) ∧ (decode cL_law 430 = .ok (.iconst 1, 1)) ∧ (decode cL_law 431 = .ok (.iadd, 1)) := by decide +kernel
theorem dL_law_393 : decode cL_law 393 = .ok (.iconst 1, 1) := kdL_law_393.1
theorem dL_law_394 : decode cL_law 394 = .ok (.iadd, 1) := kdL_law_393.2.1
theorem dL_law_395 : decode cL_law 395 = .ok (.iaload, 1) := kdL_law_393.2.2.1
theorem dL_law_396 : decode cL_law 396 = .ok (.aload_n 0, 1) := kdL_law_393.2.2.2.1
theorem dL_law_397 : decode cL_law 397 = .ok (.iload 4, 2) := kdL_law_393.2.2.2.2.1
theorem dL_law_399 : decode cL_law 399 = .ok (.iconst 2, 1) := kdL_law_393.2.2.2.2.2.1
theorem dL_law_400 : decode cL_law 400 = .ok (.iadd, 1) := kdL_law_393.2.2.2.2.2.2.1
theorem dL_law_401 : decode cL_law 401 = .ok (.iaload, 1) := kdL_law_393.2.2.2.2.2.2.2.1
theorem dL_law_402 : decode cL_law 402 = .ok (.invokevirtual 119, 3) := kdL_law_393.2.2.2.2.2.2.2.2.1
theorem dL_law_405 : decode cL_law 405 = .ok (.istore 6, 2) := kdL_law_393.2.2.2.2.2.2.2.2.2.1
theorem dL_law_407 : decode cL_law 407 = .ok (.goto 900, 3) := kdL_law_393.2.2.2.2.2.2.2.2.2.2.1
theorem dL_law_410 : decode cL_law 410 = .ok (.aload_n 1, 1) := kdL_law_393.2.2.2.2.2.2.2.2.2.2.2.1
theorem dL_law_411 : decode cL_law 411 = .ok (.aload_n 3, 1) := kdL_law_393.2.2.2.2.2.2.2.2.2.2.2.2.1
theorem dL_law_412 : decode cL_law 412 = .ok (.invokestatic 120, 3) := kdL_law_393.2.2.2.2.2.2.2.2.2.2.2.2.2.1
theorem dL_law_415 : decode cL_law 415 = .ok (.istore 5, 2) := kdL_law_393.2.2.2.2.2.2.2.2.2.2.2.2.2.2.1
theorem dL_law_417 : decode cL_law 417 = .ok (.aload_n 2, 1) := kdL_law_393.2.2.2.2.2.2.2.2.2.2.2.2.2.2.2.1
theorem dL_law_418 : decode cL_law 418 = .ok (.invokevirtual 123, 3) := kdL_law_393.2.2.2.2.2.2.2.2.2.2.2.2.2.2.2.2.1
theorem dL_law_421 : decode cL_law 421 = .ok (.istore 6, 2) := kdL_law_393.2.2.2.2.2.2.2.2.2.2.2.2.2.2.2.2.2.1
theorem dL_law_423 : decode cL_law 423 = .ok (.goto 884, 3) := kdL_law_393.2.2.2.2.2.2.2.2.2.2.2.2.2.2.2.2.2.2.1
theorem dL_law_426 : decode cL_law 426 = .ok (.aload_n 1, 1) := kdL_law_393.2.2.2.2.2.2.2.2.2.2.2.2.2.2.2.2.2.2.2.1
theorem dL_law_427 : decode cL_law 427 = .ok (.aload_n 0, 1) := kdL_law_393.2.2.2.2.2.2.2.2.2.2.2.2.2.2.2.2.2.2.2.2.1
theorem dL_law_428 : decode cL_law 428 = .ok (.iload 4, 2) := kdL_law_393.2.2.2.2.2.2.2.2.2.2.2.2.2.2.2.2.2.2.2.2.2.1
theorem dL_law_430 : decode cL_law 430 = .ok (.iconst 1, 1) := kdL_law_393.2.2.2.2.2.2.2.2.2.2.2.2.2.2.2.2.2.2.2.2.2.2.1
theorem dL_law_431 : decode cL_law 431 = .ok (.iadd, 1) := kdL_law_393.2.2.2.2.2.2.2.2.2.2.2.2.2.2.2.2.2.2.2.2.2.2.2
theorem kdL_law_432 : (decode cL_law 432 = .ok (.iaload, 1)) ∧ (decode cL_law 433 = .ok (.aload_n 0, 1)) ∧ (decode cL_law 434 = .ok (.iload 4, 2)) ∧ (decode cL_law 436 = .ok (.iconst 2, 1)) ∧ (decode cL_law 437 = .ok (.iadd, 1)) ∧ (decode cL_law 438 = .ok (.iaload, 1)) ∧ (decode cL_law 439 = .ok (.aload_n 0, 1)) ∧ (decode cL_law 440 = .ok (.iload 4, 2)) ∧ (decode cL_law 442 = .ok (.iconst 3, 1)) ∧ (decode cL_law 443 = .ok (.iadd, 1)) ∧ (decode cL_law 444 = .ok (.iaload, 1)) ∧ (decode cL_law 445 = .ok (.aload_n 3, 1)) ∧ (decode cL_law 446 = .ok (.invokestatic 124, 3)) ∧ (decode cL_law 449 = .ok (.istore 5, 2)) ∧ (decode cL_law 451 = .ok (.aload_n 2, 1)) ∧ (decode cL_law 452 = .ok (.aload_n 0, 1)) ∧ (decode cL_law 453 = .ok (.iload 4, 2)) ∧ (decode cL_law 455 = .ok (.iconst 1, 1)) ∧ (decode cL_law 456 = .ok (.iadd, 1)) ∧ (decode cL_law 457 = .ok (.iaload, 1)) ∧ (decode cL_law 458 = .ok (.aload_n 0, 1)) ∧ (decode cL_law 459 = .ok (.iload 4, 2)) ∧ (decode cL_law 461 = .ok (.iconst 2, 1)) ∧ (decode cL_law 462 = .ok (.iadd, 1)) := by decide +kernel
theorem dL_law_432 : decode cL_law 432 = .ok (.iaload, 1) := kdL_law_432.1
theorem dL_law_433 : decode cL_law 433 = .ok (.aload_n 0, 1) := kdL_law_432.2.1
theorem dL_law_434 : decode cL_law 434 = .ok (.iload 4, 2) := kdL_law_432.2.2.1
theorem dL_law_436 : decode cL_law 436 = .ok (.iconst 2, 1) := kdL_law_432.2.2.2.1
theorem dL_law_437 : decode cL_law 437 = .ok (.iadd, 1) := kdL_law_432.2.2.2.2.1
theorem dL_law_438 : decode cL_law 438 = .ok (.iaload, 1) := kdL_law_432.2.2.2.2.2.1
theorem dL_law_439 : decode cL_law 439 = .ok (.aload_n 0, 1) := kdL_law_432.2.2.2.2.2.2.1
theorem dL_law_440 : decode cL_law 440 = .ok (.iload 4, 2) := kdL_law_432.2.2.2.2.2.2.2.1
theorem dL_law_442 : decode cL_law 442 = .ok (.iconst 3, 1) := kdL_law_432.2.2.2.2.2.2.2.2.1
theorem dL_law_443 : decode cL_law 443 = .ok (.iadd, 1) := kdL_law_432.2.2.2.2.2.2.2.2.2.1
theorem dL_law_444 : decode cL_law 444 = .ok (.iaload, 1) := kdL_law_432.2.2.2.2.2.2.2.2.2.2.1
theorem dL_law_445 : decode cL_law 445 = .ok (.aload_n 3, 1) := kdL_law_432.2.2.2.2.2.2.2.2.2.2.2.1
theorem dL_law_446 : decode cL_law 446 = .ok (.invokestatic 124, 3) := kdL_law_432.2.2.2.2.2.2.2.2.2.2.2.2.1
theorem dL_law_449 : decode cL_law 449 = .ok (.istore 5, 2) := kdL_law_432.2.2.2.2.2.2.2.2.2.2.2.2.2.1
theorem dL_law_451 : decode cL_law 451 = .ok (.aload_n 2, 1) := kdL_law_432.2.2.2.2.2.2.2.2.2.2.2.2.2.2.1
theorem dL_law_452 : decode cL_law 452 = .ok (.aload_n 0, 1) := kdL_law_432.2.2.2.2.2.2.2.2.2.2.2.2.2.2.2.1
theorem dL_law_453 : decode cL_law 453 = .ok (.iload 4, 2) := kdL_law_432.2.2.2.2.2.2.2.2.2.2.2.2.2.2.2.2.1
theorem dL_law_455 : decode cL_law 455 = .ok (.iconst 1, 1) := kdL_law_432.2.2.2.2.2.2.2.2.2.2.2.2.2.2.2.2.2.1
theorem dL_law_456 : decode cL_law 456 = .ok (.iadd, 1) := kdL_law_432.2.2.2.2.2.2.2.2.2.2.2.2.2.2.2.2.2.2.1
theorem dL_law_457 : decode cL_law 457 = .ok (.iaload, 1) := kdL_law_432.2.2.2.2.2.2.2.2.2.2.2.2.2.2.2.2.2.2.2.1
theorem dL_law_458 : decode cL_law 458 = .ok (.aload_n 0, 1) := kdL_law_432.2.2.2.2.2.2.2.2.2.2.2.2.2.2.2.2.2.2.2.2.1
theorem dL_law_459 : decode cL_law 459 = .ok (.iload 4, 2) := kdL_law_432.2.2.2.2.2.2.2.2.2.2.2.2.2.2.2.2.2.2.2.2.2.1
theorem dL_law_461 : decode cL_law 461 = .ok (.iconst 2, 1) := kdL_law_432.2.2.2.2.2.2.2.2.2.2.2.2.2.2.2.2.2.2.2.2.2.2.1
theorem dL_law_462 : decode cL_law 462 = .ok (.iadd, 1) := kdL_law_432.2.2.2.2.2.2.2.2.2.2.2.2.2.2.2.2.2.2.2.2.2.2.2
theorem kdL_law_463 : (decode cL_law 463 = .ok (.iaload, 1)) ∧ (decode cL_law 464 = .ok (.aload_n 0, 1)) ∧ (decode cL_law 465 = .ok (.iload 4, 2)) ∧ (decode cL_law 467 = .ok (.iconst 3, 1)) ∧ (decode cL_law 468 = .ok (.iadd, 1)) ∧ (decode cL_law 469 = .ok (.iaload, 1)) ∧ (decode cL_law 470 = .ok (.invokevirtual 126, 3)) ∧ (decode cL_law 473 = .ok (.istore 6, 2)) ∧ (decode cL_law 475 = .ok (.goto 832, 3)) ∧ (decode cL_law 478 = .ok (.aload_n 1, 1)) ∧ (decode cL_law 479 = .ok (.aload_n 0, 1)) ∧ (decode cL_law 480 = .ok (.iload 4, 2)) ∧ (decode cL_law 482 = .ok (.iconst 1, 1)) ∧ (decode cL_law 483 = .ok (.iadd, 1)) ∧ (decode cL_law 484 = .ok (.iaload, 1)) ∧ (decode cL_law 485 = .ok (.aload_n 0, 1)) ∧ (decode cL_law 486 = .ok (.iload 4, 2)) ∧ (decode cL_law 488 = .ok (.iconst 2, 1)) ∧ (decode cL_law 489 = .ok (.iadd, 1)) ∧ (decode cL_law 490 = .ok (.iaload, 1)) ∧ (decode cL_law 491 = .ok (.aload_n 3, 1)) ∧ (decode cL_law 492 = .ok (.invokestatic 127, 3)) ∧ (decode cL_law 495 = .ok (.istore 5, 2)) ∧ (decode cL_law 497 = .ok (.aload_n 2, 1)) := by decide +kernel
theorem dL_law_463 : decode cL_law 463 = .ok (.iaload, 1) := kdL_law_463.1
theorem dL_law_464 : decode cL_law 464 = .ok (.aload_n 0, 1) := kdL_law_463.2.1
theorem dL_law_465 : decode cL_law 465 = .ok (.iload 4, 2) := kdL_law_463.2.2.1
theorem dL_law_467 : decode cL_law 467 = .ok (.iconst 3, 1) := kdL_law_463.2.2.2.1
theorem dL_law_468 : decode cL_law 468 = .ok (.iadd, 1) := kdL_law_463.2.2.2.2.1
theorem dL_law_469 : decode cL_law 469 = .ok (.iaload, 1) := kdL_law_463.2.2.2.2.2.1
theorem dL_law_470 : decode cL_law 470 = .ok (.invokevirtual 126, 3) := kdL_law_463.2.2.2.2.2.2.1
theorem dL_law_473 : decode cL_law 473 = .ok (.istore 6, 2) := kdL_law_463.2.2.2.2.2.2.2.1
theorem dL_law_475 : decode cL_law 475 = .ok (.goto 832, 3) := kdL_law_463.2.2.2.2.2.2.2.2.1
theorem dL_law_478 : decode cL_law 478 = .ok (.aload_n 1, 1) := kdL_law_463.2.2.2.2.2.2.2.2.2.1
theorem dL_law_479 : decode cL_law 479 = .ok (.aload_n 0, 1) := kdL_law_463.2.2.2.2.2.2.2.2.2.2.1
theorem dL_law_480 : decode cL_law 480 = .ok (.iload 4, 2) := kdL_law_463.2.2.2.2.2.2.2.2.2.2.2.1
theorem dL_law_482 : decode cL_law 482 = .ok (.iconst 1, 1) := kdL_law_463.2.2.2.2.2.2.2.2.2.2.2.2.1
theorem dL_law_483 : decode cL_law 483 = .ok (.iadd, 1) := kdL_law_463.2.2.2.2.2.2.2.2.2.2.2.2.2.1
theorem dL_law_484 : decode cL_law 484 = .ok (.iaload, 1) := kdL_law_463.2.2.2.2.2.2.2.2.2.2.2.2.2.2.1
theorem dL_law_485 : decode cL_law 485 = .ok (.aload_n 0, 1) := kdL_law_463.2.2.2.2.2.2.2.2.2.2.2.2.2.2.2.1
theorem dL_law_486 : decode cL_law 486 = .ok (.iload 4, 2) := kdL_law_463.2.2.2.2.2.2.2.2.2.2.2.2.2.2.2.2.1
theorem dL_law_488 : decode cL_law 488 = .ok (.iconst 2, 1) := kdL_law_463.2.2.2.2.2.2.2.2.2.2.2.2.2.2.2.2.2.1
theorem dL_law_489 : decode cL_law 489 = .ok (.iadd, 1) := kdL_law_463.2.2.2.2.2.2.2.2.2.2.2.2.2.2.2.2.2.2.1
theorem dL_law_490 : decode cL_law 490 = .ok (.iaload, 1) := kdL_law_463.2.2.2.2.2.2.2.2.2.2.2.2.2.2.2.2.2.2.2.1
theorem dL_law_491 : decode cL_law 491 = .ok (.aload_n 3, 1) := kdL_law_463.2.2.2.2.2.2.2.2.2.2.2.2.2.2.2.2.2.2.2.2.1
theorem dL_law_492 : decode cL_law 492 = .ok (.invokestatic 127, 3) := kdL_law_463.2.2.2.2.2.2.2.2.2.2.2.2.2.2.2.2.2.2.2.2.2.1
theorem dL_law_495 : decode cL_law 495 = .ok (.istore 5, 2) := kdL_law_463.2.2.2.2.2.2.2.2.2.2.2.2.2.2.2.2.2.2.2.2.2.2.1
theorem dL_law_497 : decode cL_law 497 = .ok (.aload_n 2, 1) := kdL_law_463.2.2.2.2.2.2.2.2.2.2.2.2.2.2.2.2.2.2.2.2.2.2.2
theorem kdL_law_498 : (decode cL_law 498 = .ok (.aload_n 0, 1)) ∧ (decode cL_law 499 = .ok (.iload 4, 2)) ∧ (decode cL_law 501 = .ok (.iconst 1, 1)) ∧ (decode cL_law 502 = .ok (.iadd, 1)) ∧ (decode cL_law 503 = .ok (.iaload, 1)) ∧ (decode cL_law 504 = .ok (.aload_n 0, 1)) ∧ (decode cL_law 505 = .ok (.iload 4, 2)) ∧ (decode cL_law 507 = .ok (.iconst 2, 1)) ∧ (decode cL_law 508 = .ok (.iadd, 1)) ∧ (decode cL_law 509 = .ok (.iaload, 1)) ∧ (decode cL_law 510 = .ok (.invokevirtual 129, 3)) ∧ (decode cL_law 513 = .ok (.istore 6, 2)) ∧ (decode cL_law 515 = .ok (.goto 792, 3)) ∧ (decode cL_law 518 = .ok (.aload_n 1, 1)) ∧ (decode cL_law 519 = .ok (.aload_n 0, 1)) ∧ (decode cL_law 520 = .ok (.iload 4, 2)) ∧ (decode cL_law 522 = .ok (.iconst 1, 1)) ∧ (decode cL_law 523 = .ok (.iadd, 1)) ∧ (decode cL_law 524 = .ok (.iaload, 1)) ∧ (decode cL_law 525 = .ok (.aload_n 0, 1)) ∧ (decode cL_law 526 = .ok (.iload 4, 2)) ∧ (decode cL_law 528 = .ok (.iconst 2, 1)) ∧ (decode cL_law 529 = .ok (.iadd, 1)) ∧ (decode cL_law 530 = .ok (.iaload, 1)) := by decide +kernel
theorem dL_law_498 : decode cL_law 498 = .ok (.aload_n 0, 1) := kdL_law_498.1
theorem dL_law_499 : decode cL_law 499 = .ok (.iload 4, 2) := kdL_law_498.2.1
theorem dL_law_501 : decode cL_law 501 = .ok (.iconst 1, 1) := kdL_law_498.2.2.1
theorem dL_law_502 : decode cL_law 502 = .ok (.iadd, 1) := kdL_law_498.2.2.2.1
theorem dL_law_503 : decode cL_law 503 = .ok (.iaload, 1) := kdL_law_498.2.2.2.2.1
theorem dL_law_504 : decode cL_law 504 = .ok (.aload_n 0, 1) := kdL_law_498.2.2.2.2.2.1
theorem dL_law_505 : decode cL_law 505 = .ok (.iload 4, 2) := kdL_law_498.2.2.2.2.2.2.1
theorem dL_law_507 : decode cL_law 507 = .ok (.iconst 2, 1) := kdL_law_498.2.2.2.2.2.2.2.1
theorem dL_law_508 : decode cL_law 508 = .ok (.iadd, 1) := kdL_law_498.2.2.2.2.2.2.2.2.1
theorem dL_law_509 : decode cL_law 509 = .ok (.iaload, 1) := kdL_law_498.2.2.2.2.2.2.2.2.2.1
theorem dL_law_510 : decode cL_law 510 = .ok (.invokevirtual 129, 3) := kdL_law_498.2.2.2.2.2.2.2.2.2.2.1
theorem dL_law_513 : decode cL_law 513 = .ok (.istore 6, 2) := kdL_law_498.2.2.2.2.2.2.2.2.2.2.2.1
theorem dL_law_515 : decode cL_law 515 = .ok (.goto 792, 3) := kdL_law_498.2.2.2.2.2.2.2.2.2.2.2.2.1
theorem dL_law_518 : decode cL_law 518 = .ok (.aload_n 1, 1) := kdL_law_498.2.2.2.2.2.2.2.2.2.2.2.2.2.1
theorem dL_law_519 : decode cL_law 519 = .ok (.aload_n 0, 1) := kdL_law_498.2.2.2.2.2.2.2.2.2.2.2.2.2.2.1
theorem dL_law_520 : decode cL_law 520 = .ok (.iload 4, 2) := kdL_law_498.2.2.2.2.2.2.2.2.2.2.2.2.2.2.2.1
theorem dL_law_522 : decode cL_law 522 = .ok (.iconst 1, 1) := kdL_law_498.2.2.2.2.2.2.2.2.2.2.2.2.2.2.2.2.1
theorem dL_law_523 : decode cL_law 523 = .ok (.iadd, 1) := kdL_law_498.2.2.2.2.2.2.2.2.2.2.2.2.2.2.2.2.2.1
theorem dL_law_524 : decode cL_law 524 = .ok (.iaload, 1) := kdL_law_498.2.2.2.2.2.2.2.2.2.2.2.2.2.2.2.2.2.2.1
theorem dL_law_525 : decode cL_law 525 = .ok (.aload_n 0, 1) := kdL_law_498.2.2.2.2.2.2.2.2.2.2.2.2.2.2.2.2.2.2.2.1
theorem dL_law_526 : decode cL_law 526 = .ok (.iload 4, 2) := kdL_law_498.2.2.2.2.2.2.2.2.2.2.2.2.2.2.2.2.2.2.2.2.1
theorem dL_law_528 : decode cL_law 528 = .ok (.iconst 2, 1) := kdL_law_498.2.2.2.2.2.2.2.2.2.2.2.2.2.2.2.2.2.2.2.2.2.1
theorem dL_law_529 : decode cL_law 529 = .ok (.iadd, 1) := kdL_law_498.2.2.2.2.2.2.2.2.2.2.2.2.2.2.2.2.2.2.2.2.2.2.1
theorem dL_law_530 : decode cL_law 530 = .ok (.iaload, 1) := kdL_law_498.2.2.2.2.2.2.2.2.2.2.2.2.2.2.2.2.2.2.2.2.2.2.2
theorem kdL_law_531 : (decode cL_law 531 = .ok (.aload_n 3, 1)) ∧ (decode cL_law 532 = .ok (.invokestatic 130, 3)) ∧ (decode cL_law 535 = .ok (.istore 5, 2)) ∧ (decode cL_law 537 = .ok (.aload_n 2, 1)) ∧ (decode cL_law 538 = .ok (.aload_n 0, 1)) ∧ (decode cL_law 539 = .ok (.iload 4, 2)) ∧ (decode cL_law 541 = .ok (.iconst 1, 1)) ∧ (decode cL_law 542 = .ok (.iadd, 1)) ∧ (decode cL_law 543 = .ok (.iaload, 1)) ∧ (decode cL_law 544 = .ok (.aload_n 0, 1)) ∧ (decode cL_law 545 = .ok (.iload 4, 2)) ∧ (decode cL_law 547 = .ok (.iconst 2, 1)) ∧ (decode cL_law 548 = .ok (.iadd, 1)) ∧ (decode cL_law 549 = .ok (.iaload, 1)) ∧ (decode cL_law 550 = .ok (.invokevirtual 132, 3)) ∧ (decode cL_law 553 = .ok (.istore 6, 2)) ∧ (decode cL_law 555 = .ok (.goto 752, 3)) ∧ (decode cL_law 558 = .ok (.aload_n 1, 1)) ∧ (decode cL_law 559 = .ok (.aload_n 0, 1)) ∧ (decode cL_law 560 = .ok (.iload 4, 2)) ∧ (decode cL_law 562 = .ok (.iconst 1, 1)) ∧ (decode cL_law 563 = .ok (.iadd, 1)) ∧ (decode cL_law 564 = .ok (.iaload, 1)) ∧ (decode cL_law 565 = .ok (.aload_n 0, 1)) := by decide +kernel
theorem dL_law_531 : decode cL_law 531 = .ok (.aload_n 3, 1) := kdL_law_531.1
theorem dL_law_532 : decode cL_law 532 = .ok (.invokestatic 130, 3) := kdL_law_531.2.1
theorem dL_law_535 : decode cL_law 535 = .ok (.istore 5, 2) := kdL_law_531.2.2.1
theorem dL_law_537 : decode cL_law 537 = .ok (.aload_n 2, 1) := kdL_law_531.2.2.2.1
theorem dL_law_538 : decode cL_law 538 = .ok (.aload_n 0, 1) := kdL_law_531.2.2.2.2.1
theorem dL_law_539 : decode cL_law 539 = .ok (.iload 4, 2) := kdL_law_531.2.2.2.2.2.1
theorem dL_law_541 : decode cL_law 541 = .ok (.iconst 1, 1) := kdL_law_531.2.2.2.2.2.2.1
theorem dL_law_542 : decode cL_law 542 = .ok (.iadd, 1) := kdL_law_531.2.2.2.2.2.2.2.1
theorem dL_law_543 : decode cL_law 543 = .ok (.iaload, 1) := kdL_law_531.2.2.2.2.2.2.2.2.1
theorem dL_law_544 : decode cL_law 544 = .ok (.aload_n 0, 1) := kdL_law_531.2.2.2.2.2.2.2.2.2.1
theorem dL_law_545 : decode cL_law 545 = .ok (.iload 4, 2) := kdL_law_531.2.2.2.2.2.2.2.2.2.2.1
theorem dL_law_547 : decode cL_law 547 = .ok (.iconst 2, 1) := kdL_law_531.2.2.2.2.2.2.2.2.2.2.2.1
theorem dL_law_548 : decode cL_law 548 = .ok (.iadd, 1) := kdL_law_531.2.2.2.2.2.2.2.2.2.2.2.2.1
theorem dL_law_549 : decode cL_law 549 = .ok (.iaload, 1) := kdL_law_531.2.2.2.2.2.2.2.2.2.2.2.2.2.1
theorem dL_law_550 : decode cL_law 550 = .ok (.invokevirtual 132, 3) := kdL_law_531.2.2.2.2.2.2.2.2.2.2.2.2.2.2.1
theorem dL_law_553 : decode cL_law 553 = .ok (.istore 6, 2) := kdL_law_531.2.2.2.2.2.2.2.2.2.2.2.2.2.2.2.1
theorem dL_law_555 : decode cL_law 555 = .ok (.goto 752, 3) := kdL_law_531.2.2.2.2.2.2.2.2.2.2.2.2.2.2.2.2.1
theorem dL_law_558 : decode cL_law 558 = .ok (.aload_n 1, 1) := kdL_law_531.2.2.2.2.2.2.2.2.2.2.2.2.2.2.2.2.2.1
theorem dL_law_559 : decode cL_law 559 = .ok (.aload_n 0, 1) := kdL_law_531.2.2.2.2.2.2.2.2.2.2.2.2.2.2.2.2.2.2.1
theorem dL_law_560 : decode cL_law 560 = .ok (.iload 4, 2) := kdL_law_531.2.2.2.2.2.2.2.2.2.2.2.2.2.2.2.2.2.2.2.1
theorem dL_law_562 : decode cL_law 562 = .ok (.iconst 1, 1) := kdL_law_531.2.2.2.2.2.2.2.2.2.2.2.2.2.2.2.2.2.2.2.2.1
theorem dL_law_563 : decode cL_law 563 = .ok (.iadd, 1) := kdL_law_531.2.2.2.2.2.2.2.2.2.2.2.2.2.2.2.2.2.2.2.2.2.1
theorem dL_law_564 : decode cL_law 564 = .ok (.iaload, 1) := kdL_law_531.2.2.2.2.2.2.2.2.2.2.2.2.2.2.2.2.2.2.2.2.2.2.1
theorem dL_law_565 : decode cL_law 565 = .ok (.aload_n 0, 1) := kdL_law_531.2.2.2.2.2.2.2.2.2.2.2.2.2.2.2.2.2.2.2.2.2.2.2
theorem kdL_law_566 : (decode cL_law 566 = .ok (.iload 4, 2)) ∧ (decode cL_law 568 = .ok (.iconst 2, 1)) ∧ (decode cL_law 569 = .ok (.iadd, 1)) ∧ (decode cL_law 570 = .ok (.iaload, 1)) ∧ (decode cL_law 571 = .ok (.aload_n 3, 1)) ∧ (decode cL_law 572 = .ok (.invokestatic 133, 3)) ∧ (decode cL_law 575 = .ok (.istore 5, 2)) ∧ (decode cL_law 577 = .ok (.aload_n 2, 1)) ∧ (decode cL_law 578 = .ok (.aload_n 0, 1)) ∧ (decode cL_law 579 = .ok (.iload 4, 2)) ∧ (decode cL_law 581 = .ok (.iconst 1, 1)) ∧ (decode cL_law 582 = .ok (.iadd, 1)) ∧ (decode cL_law 583 = .ok (.iaload, 1)) ∧ (decode cL_law 584 = .ok (.aload_n 0, 1)) ∧ (decode cL_law 585 = .ok (.iload 4, 2)) ∧ (decode cL_law 587 = .ok (.iconst 2, 1)) ∧ (decode cL_law 588 = .ok (.iadd, 1)) ∧ (decode cL_law 589 = .ok (.iaload, 1)) ∧ (decode cL_law 590 = .ok (.invokevirtual 135, 3)) ∧ (decode cL_law 593 = .ok (.istore 6, 2)) ∧ (decode cL_law 595 = .ok (.goto 712, 3)) ∧ (decode cL_law 598 = .ok (.aload_n 1, 1)) ∧ (decode cL_law 599 = .ok (.aload_n 0, 1)) ∧ (decode cL_law 600 = .ok (.iload 4, 2)) := by decide +kernel
theorem dL_law_566 : decode cL_law 566 = .ok (.iload 4, 2) := kdL_law_566.1
theorem dL_law_568 : decode cL_law 568 = .ok (.iconst 2, 1) := kdL_law_566.2.1
theorem dL_law_569 : decode cL_law 569 = .ok (.iadd, 1) := kdL_law_566.2.2.1
theorem dL_law_570 : decode cL_law 570 = .ok (.iaload, 1) := kdL_law_566.2.2.2.1
theorem dL_law_571 : decode cL_law 571 = .ok (.aload_n 3, 1) := kdL_law_566.2.2.2.2.1
theorem dL_law_572 : decode cL_law 572 = .ok (.invokestatic 133, 3) := kdL_law_566.2.2.2.2.2.1
theorem dL_law_575 : decode cL_law 575 = .ok (.istore 5, 2) := kdL_law_566.2.2.2.2.2.2.1
theorem dL_law_577 : decode cL_law 577 = .ok (.aload_n 2, 1) := kdL_law_566.2.2.2.2.2.2.2.1
theorem dL_law_578 : decode cL_law 578 = .ok (.aload_n 0, 1) := kdL_law_566.2.2.2.2.2.2.2.2.1
theorem dL_law_579 : decode cL_law 579 = .ok (.iload 4, 2) := kdL_law_566.2.2.2.2.2.2.2.2.2.1
theorem dL_law_581 : decode cL_law 581 = .ok (.iconst 1, 1) := kdL_law_566.2.2.2.2.2.2.2.2.2.2.1
theorem dL_law_582 : decode cL_law 582 = .ok (.iadd, 1) := kdL_law_566.2.2.2.2.2.2.2.2.2.2.2.1
theorem dL_law_583 : decode cL_law 583 = .ok (.iaload, 1) := kdL_law_566.2.2.2.2.2.2.2.2.2.2.2.2.1
theorem dL_law_584 : decode cL_law 584 = .ok (.aload_n 0, 1) := kdL_law_566.2.2.2.2.2.2.2.2.2.2.2.2.2.1
theorem dL_law_585 : decode cL_law 585 = .ok (.iload 4, 2) := kdL_law_566.2.2.2.2.2.2.2.2.2.2.2.2.2.2.1
theorem dL_law_587 : decode cL_law 587 = .ok (.iconst 2, 1) := kdL_law_566.2.2.2.2.2.2.2.2.2.2.2.2.2.2.2.1
theorem dL_law_588 : decode cL_law 588 = .ok (.iadd, 1) := kdL_law_566.2.2.2.2.2.2.2.2.2.2.2.2.2.2.2.2.1
theorem dL_law_589 : decode cL_law 589 = .ok (.iaload, 1) := kdL_law_566.2.2.2.2.2.2.2.2.2.2.2.2.2.2.2.2.2.1
theorem dL_law_590 : decode cL_law 590 = .ok (.invokevirtual 135, 3) := kdL_law_566.2.2.2.2.2.2.2.2.2.2.2.2.2.2.2.2.2.2.1
theorem dL_law_593 : decode cL_law 593 = .ok (.istore 6, 2) := kdL_law_566.2.2.2.2.2.2.2.2.2.2.2.2.2.2.2.2.2.2.2.1
theorem dL_law_595 : decode cL_law 595 = .ok (.goto 712, 3) := kdL_law_566.2.2.2.2.2.2.2.2.2.2.2.2.2.2.2.2.2.2.2.2.1
theorem dL_law_598 : decode cL_law 598 = .ok (.aload_n 1, 1) := kdL_law_566.2.2.2.2.2.2.2.2.2.2.2.2.2.2.2.2.2.2.2.2.2.1
theorem dL_law_599 : decode cL_law 599 = .ok (.aload_n 0, 1) := kdL_law_566.2.2.2.2.2.2.2.2.2.2.2.2.2.2.2.2.2.2.2.2.2.2.1
theorem dL_law_600 : decode cL_law 600 = .ok (.iload 4, 2) := kdL_law_566.2.2.2.2.2.2.2.2.2.2.2.2.2.2.2.2.2.2.2.2.2.2.2
theorem kdL_law_602 : (decode cL_law 602 = .ok (.iconst 1, 1)) ∧ (decode cL_law 603 = .ok (.iadd, 1)) ∧ (decode cL_law 604 = .ok (.iaload, 1)) ∧ (decode cL_law 605 = .ok (.aload_n 0, 1)) ∧ (decode cL_law 606 = .ok (.iload 4, 2)) ∧ (decode cL_law 608 = .ok (.iconst 2, 1)) ∧ (decode cL_law 609 = .ok (.iadd, 1)) ∧ (decode cL_law 610 = .ok (.iaload, 1)) ∧ (decode cL_law 611 = .ok (.aload_n 0, 1)) ∧ (decode cL_law 612 = .ok (.iload 4, 2)) ∧ (decode cL_law 614 = .ok (.iconst 3, 1)) ∧ (decode cL_law 615 = .ok (.iadd, 1)) ∧ (decode cL_law 616 = .ok (.iaload, 1)) ∧ (decode cL_law 617 = .ok (.aload_n 3, 1)) ∧ (decode cL_law 618 = .ok (.invokestatic 136, 3)) ∧ (decode cL_law 621 = .ok (.istore 5, 2)) ∧ (decode cL_law 623 = .ok (.aload_n 2, 1)) ∧ (decode cL_law 624 = .ok (.aload_n 0, 1)) ∧ (decode cL_law 625 = .ok (.iload 4, 2)) ∧ (decode cL_law 627 = .ok (.iconst 1, 1)) ∧ (decode cL_law 628 = .ok (.iadd, 1)) ∧ (decode cL_law 629 = .ok (.iaload, 1)) ∧ (decode cL_law 630 = .ok (.aload_n 0, 1)) ∧ (decode cL_law 631 = .ok (.iload 4, 2)) := by decide +kernel
theorem dL_law_602 : decode cL_law 602 = .ok (.iconst 1, 1) := kdL_law_602.1
theorem dL_law_603 : decode cL_law 603 = .ok (.iadd, 1) := kdL_law_602.2.1
theorem dL_law_604 : decode cL_law 604 = .ok (.iaload, 1) := kdL_law_602.2.2.1
theorem dL_law_605 : decode cL_law 605 = .ok (.aload_n 0, 1) := kdL_law_602.2.2.2.1
theorem dL_law_606 : decode cL_law 606 = .ok (.iload 4, 2) := kdL_law_602.2.2.2.2.1
theorem dL_law_608 : decode cL_law 608 = .ok (.iconst 2, 1) := kdL_law_602.2.2.2.2.2.1
theorem dL_law_609 : decode cL_law 609 = .ok (.iadd, 1) := kdL_law_602.2.2.2.2.2.2.1
theorem dL_law_610 : decode cL_law 610 = .ok (.iaload, 1) := kdL_law_602.2.2.2.2.2.2.2.1
theorem dL_law_611 : decode cL_law 611 = .ok (.aload_n 0, 1) := kdL_law_602.2.2.2.2.2.2.2.2.1
theorem dL_law_612 : decode cL_law 612 = .ok (.iload 4, 2) := kdL_law_602.2.2.2.2.2.2.2.2.2.1
theorem dL_law_614 : decode cL_law 614 = .ok (.iconst 3, 1) := kdL_law_602.2.2.2.2.2.2.2.2.2.2.1
theorem dL_law_615 : decode cL_law 615 = .ok (.iadd, 1) := kdL_law_602.2.2.2.2.2.2.2.2.2.2.2.1
theorem dL_law_616 : decode cL_law 616 = .ok (.iaload, 1) := kdL_law_602.2.2.2.2.2.2.2.2.2.2.2.2.1
theorem dL_law_617 : decode cL_law 617 = .ok (.aload_n 3, 1) := kdL_law_602.2.2.2.2.2.2.2.2.2.2.2.2.2.1
theorem dL_law_618 : decode cL_law 618 = .ok (.invokestatic 136, 3) := kdL_law_602.2.2.2.2.2.2.2.2.2.2.2.2.2.2.1
theorem dL_law_621 : decode cL_law 621 = .ok (.istore 5, 2) := kdL_law_602.2.2.2.2.2.2.2.2.2.2.2.2.2.2.2.1
theorem dL_law_623 : decode cL_law 623 = .ok (.aload_n 2, 1) := kdL_law_602.2.2.2.2.2.2.2.2.2.2.2.2.2.2.2.2.1
theorem dL_law_624 : decode cL_law 624 = .ok (.aload_n 0, 1) := kdL_law_602.2.2.2.2.2.2.2.2.2.2.2.2.2.2.2.2.2.1
theorem dL_law_625 : decode cL_law 625 = .ok (.iload 4, 2) := kdL_law_602.2.2.2.2.2.2.2.2.2.2.2.2.2.2.2.2.2.2.1
theorem dL_law_627 : decode cL_law 627 = .ok (.iconst 1, 1) := kdL_law_602.2.2.2.2.2.2.2.2.2.2.2.2.2.2.2.2.2.2.2.1
theorem dL_law_628 : decode cL_law 628 = .ok (.iadd, 1) := kdL_law_602.2.2.2.2.2.2.2.2.2.2.2.2.2.2.2.2.2.2.2.2.1
theorem dL_law_629 : decode cL_law 629 = .ok (.iaload, 1) := kdL_law_602.2.2.2.2.2.2.2.2.2.2.2.2.2.2.2.2.2.2.2.2.2.1
theorem dL_law_630 : decode cL_law 630 = .ok (.aload_n 0, 1) := kdL_law_602.2.2.2.2.2.2.2.2.2.2.2.2.2.2.2.2.2.2.2.2.2.2.1
theorem dL_law_631 : decode cL_law 631 = .ok (.iload 4, 2) := kdL_law_602.2.2.2.2.2.2.2.2.2.2.2.2.2.2.2.2.2.2.2.2.2.2.2
theorem kdL_law_633 : (decode cL_law 633 = .ok (.iconst 2, 1)) ∧ (decode cL_law 634 = .ok (.iadd, 1)) ∧ (decode cL_law 635 = .ok (.iaload, 1)) ∧ (decode cL_law 636 = .ok (.aload_n 0, 1)) ∧ (decode cL_law 637 = .ok (.iload 4, 2)) ∧ (decode cL_law 639 = .ok (.iconst 3, 1)) ∧ (decode cL_law 640 = .ok (.iadd, 1)) ∧ (decode cL_law 641 = .ok (.iaload, 1)) ∧ (decode cL_law 642 = .ok (.invokevirtual 138, 3)) ∧ (decode cL_law 645 = .ok (.istore 6, 2)) ∧ (decode cL_law 647 = .ok (.goto 660, 3)) ∧ (decode cL_law 650 = .ok (.aload_n 1, 1)) ∧ (decode cL_law 651 = .ok (.aload_n 0, 1)) ∧ (decode cL_law 652 = .ok (.iload 4, 2)) ∧ (decode cL_law 654 = .ok (.iconst 1, 1)) ∧ (decode cL_law 655 = .ok (.iadd, 1)) ∧ (decode cL_law 656 = .ok (.iaload, 1)) ∧ (decode cL_law 657 = .ok (.aload_n 3, 1)) ∧ (decode cL_law 658 = .ok (.invokestatic 139, 3)) ∧ (decode cL_law 661 = .ok (.istore 5, 2)) ∧ (decode cL_law 663 = .ok (.aload_n 2, 1)) ∧ (decode cL_law 664 = .ok (.aload_n 0, 1)) ∧ (decode cL_law 665 = .ok (.iload 4, 2)) ∧ (decode cL_law 667 = .ok (.iconst 1, 1)) := by decide +kernel
theorem dL_law_633 : decode cL_law 633 = .ok (.iconst 2, 1) := kdL_law_633.1
theorem dL_law_634 : decode cL_law 634 = .ok (.iadd, 1) := kdL_law_633.2.1
theorem dL_law_635 : decode cL_law 635 = .ok (.iaload, 1) := kdL_law_633.2.2.1
theorem dL_law_636 : decode cL_law 636 = .ok (.aload_n 0, 1) := kdL_law_633.2.2.2.1
theorem dL_law_637 : decode cL_law 637 = .ok (.iload 4, 2) := kdL_law_633.2.2.2.2.1
theorem dL_law_639 : decode cL_law 639 = .ok (.iconst 3, 1) := kdL_law_633.2.2.2.2.2.1
theorem dL_law_640 : decode cL_law 640 = .ok (.iadd, 1) := kdL_law_633.2.2.2.2.2.2.1
theorem dL_law_641 : decode cL_law 641 = .ok (.iaload, 1) := kdL_law_633.2.2.2.2.2.2.2.1
theorem dL_law_642 : decode cL_law 642 = .ok (.invokevirtual 138, 3) := kdL_law_633.2.2.2.2.2.2.2.2.1
theorem dL_law_645 : decode cL_law 645 = .ok (.istore 6, 2) := kdL_law_633.2.2.2.2.2.2.2.2.2.1
theorem dL_law_647 : decode cL_law 647 = .ok (.goto 660, 3) := kdL_law_633.2.2.2.2.2.2.2.2.2.2.1
theorem dL_law_650 : decode cL_law 650 = .ok (.aload_n 1, 1) := kdL_law_633.2.2.2.2.2.2.2.2.2.2.2.1
theorem dL_law_651 : decode cL_law 651 = .ok (.aload_n 0, 1) := kdL_law_633.2.2.2.2.2.2.2.2.2.2.2.2.1
theorem dL_law_652 : decode cL_law 652 = .ok (.iload 4, 2) := kdL_law_633.2.2.2.2.2.2.2.2.2.2.2.2.2.1
theorem dL_law_654 : decode cL_law 654 = .ok (.iconst 1, 1) := kdL_law_633.2.2.2.2.2.2.2.2.2.2.2.2.2.2.1
theorem dL_law_655 : decode cL_law 655 = .ok (.iadd, 1) := kdL_law_633.2.2.2.2.2.2.2.2.2.2.2.2.2.2.2.1
theorem dL_law_656 : decode cL_law 656 = .ok (.iaload, 1) := kdL_law_633.2.2.2.2.2.2.2.2.2.2.2.2.2.2.2.2.1
theorem dL_law_657 : decode cL_law 657 = .ok (.aload_n 3, 1) := kdL_law_633.2.2.2.2.2.2.2.2.2.2.2.2.2.2.2.2.2.1
theorem dL_law_658 : decode cL_law 658 = .ok (.invokestatic 139, 3) := kdL_law_633.2.2.2.2.2.2.2.2.2.2.2.2.2.2.2.2.2.2.1
theorem dL_law_661 : decode cL_law 661 = .ok (.istore 5, 2) := kdL_law_633.2.2.2.2.2.2.2.2.2.2.2.2.2.2.2.2.2.2.2.1
theorem dL_law_663 : decode cL_law 663 = .ok (.aload_n 2, 1) := kdL_law_633.2.2.2.2.2.2.2.2.2.2.2.2.2.2.2.2.2.2.2.2.1
theorem dL_law_664 : decode cL_law 664 = .ok (.aload_n 0, 1) := kdL_law_633.2.2.2.2.2.2.2.2.2.2.2.2.2.2.2.2.2.2.2.2.2.1
theorem dL_law_665 : decode cL_law 665 = .ok (.iload 4, 2) := kdL_law_633.2.2.2.2.2.2.2.2.2.2.2.2.2.2.2.2.2.2.2.2.2.2.1
theorem dL_law_667 : decode cL_law 667 = .ok (.iconst 1, 1) := kdL_law_633.2.2.2.2.2.2.2.2.2.2.2.2.2.2.2.2.2.2.2.2.2.2.2
theorem kdL_law_668 : (decode cL_law 668 = .ok (.iadd, 1)) ∧ (decode cL_law 669 = .ok (.iaload, 1)) ∧ (decode cL_law 670 = .ok (.invokevirtual 142, 3)) ∧ (decode cL_law 673 = .ok (.istore 6, 2)) ∧ (decode cL_law 675 = .ok (.aload_n 2, 1)) ∧ (decode cL_law 676 = .ok (.invokevirtual 143, 3)) ∧ (decode cL_law 679 = .ok (.iload 5, 2)) ∧ (decode cL_law 681 = .ok (.if_icmp .eq 5, 3)) ∧ (decode cL_law 684 = .ok (.iconst 0, 1)) ∧ (decode cL_law 685 = .ok (.ireturn, 1)) ∧ (decode cL_law 686 = .ok (.iload 5, 2)) ∧ (decode cL_law 688 = .ok (.ifCond .ne 15, 3)) ∧ (decode cL_law 691 = .ok (.aload_n 3, 1)) ∧ (decode cL_law 692 = .ok (.iconst 0, 1)) ∧ (decode cL_law 693 = .ok (.laload, 1)) ∧ (decode cL_law 694 = .ok (.iload 6, 2)) ∧ (decode cL_law 696 = .ok (.i2l, 1)) ∧ (decode cL_law 697 = .ok (.lcmp, 1)) ∧ (decode cL_law 698 = .ok (.ifCond .eq 5, 3)) ∧ (decode cL_law 701 = .ok (.iconst 0, 1)) ∧ (decode cL_law 702 = .ok (.ireturn, 1)) ∧ (decode cL_law 703 = .ok (.goto 604, 3)) ∧ (decode cL_law 706 = .ok (.aload_n 1, 1)) ∧ (decode cL_law 707 = .ok (.aload_n 0, 1)) := by decide +kernel
theorem dL_law_668 : decode cL_law 668 = .ok (.iadd, 1) := kdL_law_668.1
theorem dL_law_669 : decode cL_law 669 = .ok (.iaload, 1) := kdL_law_668.2.1
theorem dL_law_670 : decode cL_law 670 = .ok (.invokevirtual 142, 3) := kdL_law_668.2.2.1
theorem dL_law_673 : decode cL_law 673 = .ok (.istore 6, 2) := kdL_law_668.2.2.2.1
theorem dL_law_675 : decode cL_law 675 = .ok (.aload_n 2, 1) := kdL_law_668.2.2.2.2.1
theorem dL_law_676 : decode cL_law 676 = .ok (.invokevirtual 143, 3) := kdL_law_668.2.2.2.2.2.1
theorem dL_law_679 : decode cL_law 679 = .ok (.iload 5, 2) := kdL_law_668.2.2.2.2.2.2.1
theorem dL_law_681 : decode cL_law 681 = .ok (.if_icmp .eq 5, 3) := kdL_law_668.2.2.2.2.2.2.2.1
theorem dL_law_684 : decode cL_law 684 = .ok (.iconst 0, 1) := kdL_law_668.2.2.2.2.2.2.2.2.1
theorem dL_law_685 : decode cL_law 685 = .ok (.ireturn, 1) := kdL_law_668.2.2.2.2.2.2.2.2.2.1
theorem dL_law_686 : decode cL_law 686 = .ok (.iload 5, 2) := kdL_law_668.2.2.2.2.2.2.2.2.2.2.1
theorem dL_law_688 : decode cL_law 688 = .ok (.ifCond .ne 15, 3) := kdL_law_668.2.2.2.2.2.2.2.2.2.2.2.1
theorem dL_law_691 : decode cL_law 691 = .ok (.aload_n 3, 1) := kdL_law_668.2.2.2.2.2.2.2.2.2.2.2.2.1
theorem dL_law_692 : decode cL_law 692 = .ok (.iconst 0, 1) := kdL_law_668.2.2.2.2.2.2.2.2.2.2.2.2.2.1
theorem dL_law_693 : decode cL_law 693 = .ok (.laload, 1) := kdL_law_668.2.2.2.2.2.2.2.2.2.2.2.2.2.2.1
theorem dL_law_694 : decode cL_law 694 = .ok (.iload 6, 2) := kdL_law_668.2.2.2.2.2.2.2.2.2.2.2.2.2.2.2.1
theorem dL_law_696 : decode cL_law 696 = .ok (.i2l, 1) := kdL_law_668.2.2.2.2.2.2.2.2.2.2.2.2.2.2.2.2.1
theorem dL_law_697 : decode cL_law 697 = .ok (.lcmp, 1) := kdL_law_668.2.2.2.2.2.2.2.2.2.2.2.2.2.2.2.2.2.1
theorem dL_law_698 : decode cL_law 698 = .ok (.ifCond .eq 5, 3) := kdL_law_668.2.2.2.2.2.2.2.2.2.2.2.2.2.2.2.2.2.2.1
theorem dL_law_701 : decode cL_law 701 = .ok (.iconst 0, 1) := kdL_law_668.2.2.2.2.2.2.2.2.2.2.2.2.2.2.2.2.2.2.2.1
theorem dL_law_702 : decode cL_law 702 = .ok (.ireturn, 1) := kdL_law_668.2.2.2.2.2.2.2.2.2.2.2.2.2.2.2.2.2.2.2.2.1
theorem dL_law_703 : decode cL_law 703 = .ok (.goto 604, 3) := kdL_law_668.2.2.2.2.2.2.2.2.2.2.2.2.2.2.2.2.2.2.2.2.2.1
theorem dL_law_706 : decode cL_law 706 = .ok (.aload_n 1, 1) := kdL_law_668.2.2.2.2.2.2.2.2.2.2.2.2.2.2.2.2.2.2.2.2.2.2.1
theorem dL_law_707 : decode cL_law 707 = .ok (.aload_n 0, 1) := kdL_law_668.2.2.2.2.2.2.2.2.2.2.2.2.2.2.2.2.2.2.2.2.2.2.2
theorem kdL_law_708 : (decode cL_law 708 = .ok (.iload 4, 2)) ∧ (decode cL_law 710 = .ok (.iconst 1, 1)) ∧ (decode cL_law 711 = .ok (.iadd, 1)) ∧ (decode cL_law 712 = .ok (.iaload, 1)) ∧ (decode cL_law 713 = .ok (.aload_n 0, 1)) ∧ (decode cL_law 714 = .ok (.iload 4, 2)) ∧ (decode cL_law 716 = .ok (.iconst 2, 1)) ∧ (decode cL_law 717 = .ok (.iadd, 1)) ∧ (decode cL_law 718 = .ok (.iaload, 1)) ∧ (decode cL_law 719 = .ok (.invokestatic 146, 3)) ∧ (decode cL_law 722 = .ok (.istore 5, 2)) ∧ (decode cL_law 724 = .ok (.aload_n 2, 1)) ∧ (decode cL_law 725 = .ok (.aload_n 0, 1)) ∧ (decode cL_law 726 = .ok (.iload 4, 2)) ∧ (decode cL_law 728 = .ok (.iconst 1, 1)) ∧ (decode cL_law 729 = .ok (.iadd, 1)) ∧ (decode cL_law 730 = .ok (.iaload, 1)) ∧ (decode cL_law 731 = .ok (.aload_n 0, 1)) ∧ (decode cL_law 732 = .ok (.iload 4, 2)) ∧ (decode cL_law 734 = .ok (.iconst 2, 1)) ∧ (decode cL_law 735 = .ok (.iadd, 1)) ∧ (decode cL_law 736 = .ok (.iaload, 1)) ∧ (decode cL_law 737 = .ok (.invokevirtual 149, 3)) ∧ (decode cL_law 740 = .ok (.goto 567, 3)) := by decide +kernel
theorem dL_law_708 : decode cL_law 708 = .ok (.iload 4, 2) := kdL_law_708.1
theorem dL_law_710 : decode cL_law 710 = .ok (.iconst 1, 1) := kdL_law_708.2.1
theorem dL_law_711 : decode cL_law 711 = .ok (.iadd, 1) := kdL_law_708.2.2.1
theorem dL_law_712 : decode cL_law 712 = .ok (.iaload, 1) := kdL_law_708.2.2.2.1
theorem dL_law_713 : decode cL_law 713 = .ok (.aload_n 0, 1) := kdL_law_708.2.2.2.2.1
theorem dL_law_714 : decode cL_law 714 = .ok (.iload 4, 2) := kdL_law_708.2.2.2.2.2.1
theorem dL_law_716 : decode cL_law 716 = .ok (.iconst 2, 1) := kdL_law_708.2.2.2.2.2.2.1
theorem dL_law_717 : decode cL_law 717 = .ok (.iadd, 1) := kdL_law_708.2.2.2.2.2.2.2.1
theorem dL_law_718 : decode cL_law 718 = .ok (.iaload, 1) := kdL_law_708.2.2.2.2.2.2.2.2.1
theorem dL_law_719 : decode cL_law 719 = .ok (.invokestatic 146, 3) := kdL_law_708.2.2.2.2.2.2.2.2.2.1
theorem dL_law_722 : decode cL_law 722 = .ok (.istore 5, 2) := kdL_law_708.2.2.2.2.2.2.2.2.2.2.1
theorem dL_law_724 : decode cL_law 724 = .ok (.aload_n 2, 1) := kdL_law_708.2.2.2.2.2.2.2.2.2.2.2.1
theorem dL_law_725 : decode cL_law 725 = .ok (.aload_n 0, 1) := kdL_law_708.2.2.2.2.2.2.2.2.2.2.2.2.1
theorem dL_law_726 : decode cL_law 726 = .ok (.iload 4, 2) := kdL_law_708.2.2.2.2.2.2.2.2.2.2.2.2.2.1
theorem dL_law_728 : decode cL_law 728 = .ok (.iconst 1, 1) := kdL_law_708.2.2.2.2.2.2.2.2.2.2.2.2.2.2.1
theorem dL_law_729 : decode cL_law 729 = .ok (.iadd, 1) := kdL_law_708.2.2.2.2.2.2.2.2.2.2.2.2.2.2.2.1
theorem dL_law_730 : decode cL_law 730 = .ok (.iaload, 1) := kdL_law_708.2.2.2.2.2.2.2.2.2.2.2.2.2.2.2.2.1
theorem dL_law_731 : decode cL_law 731 = .ok (.aload_n 0, 1) := kdL_law_708.2.2.2.2.2.2.2.2.2.2.2.2.2.2.2.2.2.1
theorem dL_law_732 : decode cL_law 732 = .ok (.iload 4, 2) := kdL_law_708.2.2.2.2.2.2.2.2.2.2.2.2.2.2.2.2.2.2.1
theorem dL_law_734 : decode cL_law 734 = .ok (.iconst 2, 1) := kdL_law_708.2.2.2.2.2.2.2.2.2.2.2.2.2.2.2.2.2.2.2.1
theorem dL_law_735 : decode cL_law 735 = .ok (.iadd, 1) := kdL_law_708.2.2.2.2.2.2.2.2.2.2.2.2.2.2.2.2.2.2.2.2.1
theorem dL_law_736 : decode cL_law 736 = .ok (.iaload, 1) := kdL_law_708.2.2.2.2.2.2.2.2.2.2.2.2.2.2.2.2.2.2.2.2.2.1
theorem dL_law_737 : decode cL_law 737 = .ok (.invokevirtual 149, 3) := kdL_law_708.2.2.2.2.2.2.2.2.2.2.2.2.2.2.2.2.2.2.2.2.2.2.1
theorem dL_law_740 : decode cL_law 740 = .ok (.goto 567, 3) := kdL_law_708.2.2.2.2.2.2.2.2.2.2.2.2.2.2.2.2.2.2.2.2.2.2.2
theorem kdL_law_743 : (decode cL_law 743 = .ok (.aload_n 1, 1)) ∧ (decode cL_law 744 = .ok (.aload_n 0, 1)) ∧ (decode cL_law 745 = .ok (.iload 4, 2)) ∧ (decode cL_law 747 = .ok (.iconst 1, 1)) ∧ (decode cL_law 748 = .ok (.iadd, 1)) ∧ (decode cL_law 749 = .ok (.iaload, 1)) ∧ (decode cL_law 750 = .ok (.aload_n 3, 1)) ∧ (decode cL_law 751 = .ok (.invokestatic 150, 3)) ∧ (decode cL_law 754 = .ok (.istore 5, 2)) ∧ (decode cL_law 756 = .ok (.aload_n 2, 1)) ∧ (decode cL_law 757 = .ok (.aload_n 0, 1)) ∧ (decode cL_law 758 = .ok (.iload 4, 2)) ∧ (decode cL_law 760 = .ok (.iconst 1, 1)) ∧ (decode cL_law 761 = .ok (.iadd, 1)) ∧ (decode cL_law 762 = .ok (.iaload, 1)) ∧ (decode cL_law 763 = .ok (.invokevirtual 152, 3)) ∧ (decode cL_law 766 = .ok (.istore 6, 2)) ∧ (decode cL_law 768 = .ok (.goto 539, 3)) ∧ (decode cL_law 771 = .ok (.aload_n 1, 1)) ∧ (decode cL_law 772 = .ok (.invokevirtual 153, 3)) ∧ (decode cL_law 775 = .ok (.pop, 1)) ∧ (decode cL_law 776 = .ok (.aload_n 2, 1)) ∧ (decode cL_law 777 = .ok (.invokevirtual 156, 3)) ∧ (decode cL_law 780 = .ok (.pop, 1)) := by decide +kernel
theorem dL_law_743 : decode cL_law 743 = .ok (.aload_n 1, 1) := kdL_law_743.1
theorem dL_law_744 : decode cL_law 744 = .ok (.aload_n 0, 1) := kdL_law_743.2.1
theorem dL_law_745 : decode cL_law 745 = .ok (.iload 4, 2) := kdL_law_743.2.2.1
theorem dL_law_747 : decode cL_law 747 = .ok (.iconst 1, 1) := kdL_law_743.2.2.2.1
theorem dL_law_748 : decode cL_law 748 = .ok (.iadd, 1) := kdL_law_743.2.2.2.2.1
theorem dL_law_749 : decode cL_law 749 = .ok (.iaload, 1) := kdL_law_743.2.2.2.2.2.1
theorem dL_law_750 : decode cL_law 750 = .ok (.aload_n 3, 1) := kdL_law_743.2.2.2.2.2.2.1
theorem dL_law_751 : decode cL_law 751 = .ok (.invokestatic 150, 3) := kdL_law_743.2.2.2.2.2.2.2.1
theorem dL_law_754 : decode cL_law 754 = .ok (.istore 5, 2) := kdL_law_743.2.2.2.2.2.2.2.2.1
theorem dL_law_756 : decode cL_law 756 = .ok (.aload_n 2, 1) := kdL_law_743.2.2.2.2.2.2.2.2.2.1
theorem dL_law_757 : decode cL_law 757 = .ok (.aload_n 0, 1) := kdL_law_743.2.2.2.2.2.2.2.2.2.2.1
theorem dL_law_758 : decode cL_law 758 = .ok (.iload 4, 2) := kdL_law_743.2.2.2.2.2.2.2.2.2.2.2.1
theorem dL_law_760 : decode cL_law 760 = .ok (.iconst 1, 1) := kdL_law_743.2.2.2.2.2.2.2.2.2.2.2.2.1
theorem dL_law_761 : decode cL_law 761 = .ok (.iadd, 1) := kdL_law_743.2.2.2.2.2.2.2.2.2.2.2.2.2.1
theorem dL_law_762 : decode cL_law 762 = .ok (.iaload, 1) := kdL_law_743.2.2.2.2.2.2.2.2.2.2.2.2.2.2.1
theorem dL_law_763 : decode cL_law 763 = .ok (.invokevirtual 152, 3) := kdL_law_743.2.2.2.2.2.2.2.2.2.2.2.2.2.2.2.1
theorem dL_law_766 : decode cL_law 766 = .ok (.istore 6, 2) := kdL_law_743.2.2.2.2.2.2.2.2.2.2.2.2.2.2.2.2.1
theorem dL_law_768 : decode cL_law 768 = .ok (.goto 539, 3) := kdL_law_743.2.2.2.2.2.2.2.2.2.2.2.2.2.2.2.2.2.1
theorem dL_law_771 : decode cL_law 771 = .ok (.aload_n 1, 1) := kdL_law_743.2.2.2.2.2.2.2.2.2.2.2.2.2.2.2.2.2.2.1
theorem dL_law_772 : decode cL_law 772 = .ok (.invokevirtual 153, 3) := kdL_law_743.2.2.2.2.2.2.2.2.2.2.2.2.2.2.2.2.2.2.2.1
theorem dL_law_775 : decode cL_law 775 = .ok (.pop, 1) := kdL_law_743.2.2.2.2.2.2.2.2.2.2.2.2.2.2.2.2.2.2.2.2.1
theorem dL_law_776 : decode cL_law 776 = .ok (.aload_n 2, 1) := kdL_law_743.2.2.2.2.2.2.2.2.2.2.2.2.2.2.2.2.2.2.2.2.2.1
theorem dL_law_777 : decode cL_law 777 = .ok (.invokevirtual 156, 3) := kdL_law_743.2.2.2.2.2.2.2.2.2.2.2.2.2.2.2.2.2.2.2.2.2.2.1
theorem dL_law_780 : decode cL_law 780 = .ok (.pop, 1) := kdL_law_743.2.2.2.2.2.2.2.2.2.2.2.2.2.2.2.2.2.2.2.2.2.2.2
theorem kdL_law_781 : (decode cL_law 781 = .ok (.goto 526, 3)) ∧ (decode cL_law 784 = .ok (.aload_n 1, 1)) ∧ (decode cL_law 785 = .ok (.aload_n 0, 1)) ∧ (decode cL_law 786 = .ok (.iload 4, 2)) ∧ (decode cL_law 788 = .ok (.iconst 1, 1)) ∧ (decode cL_law 789 = .ok (.iadd, 1)) ∧ (decode cL_law 790 = .ok (.iaload, 1)) ∧ (decode cL_law 791 = .ok (.aload_n 0, 1)) ∧ (decode cL_law 792 = .ok (.iload 4, 2)) ∧ (decode cL_law 794 = .ok (.iconst 2, 1)) ∧ (decode cL_law 795 = .ok (.iadd, 1)) ∧ (decode cL_law 796 = .ok (.iaload, 1)) ∧ (decode cL_law 797 = .ok (.ifCond .eq 7, 3)) ∧ (decode cL_law 800 = .ok (.iconst 1, 1)) ∧ (decode cL_law 801 = .ok (.goto 4, 3)) ∧ (decode cL_law 804 = .ok (.iconst 0, 1)) ∧ (decode cL_law 805 = .ok (.aload_n 3, 1)) ∧ (decode cL_law 806 = .ok (.invokestatic 157, 3)) ∧ (decode cL_law 809 = .ok (.istore 5, 2)) ∧ (decode cL_law 811 = .ok (.aload_n 2, 1)) ∧ (decode cL_law 812 = .ok (.aload_n 0, 1)) ∧ (decode cL_law 813 = .ok (.iload 4, 2)) ∧ (decode cL_law 815 = .ok (.iconst 1, 1)) ∧ (decode cL_law 816 = .ok (.iadd, 1)) := by decide +kernel
theorem dL_law_781 : decode cL_law 781 = .ok (.goto 526, 3) := kdL_law_781.1
theorem dL_law_784 : decode cL_law 784 = .ok (.aload_n 1, 1) := kdL_law_781.2.1
theorem dL_law_785 : decode cL_law 785 = .ok (.aload_n 0, 1) := kdL_law_781.2.2.1
theorem dL_law_786 : decode cL_law 786 = .ok (.iload 4, 2) := kdL_law_781.2.2.2.1
theorem dL_law_788 : decode cL_law 788 = .ok (.iconst 1, 1) := kdL_law_781.2.2.2.2.1
theorem dL_law_789 : decode cL_law 789 = .ok (.iadd, 1) := kdL_law_781.2.2.2.2.2.1
theorem dL_law_790 : decode cL_law 790 = .ok (.iaload, 1) := kdL_law_781.2.2.2.2.2.2.1
theorem dL_law_791 : decode cL_law 791 = .ok (.aload_n 0, 1) := kdL_law_781.2.2.2.2.2.2.2.1
theorem dL_law_792 : decode cL_law 792 = .ok (.iload 4, 2) := kdL_law_781.2.2.2.2.2.2.2.2.1
theorem dL_law_794 : decode cL_law 794 = .ok (.iconst 2, 1) := kdL_law_781.2.2.2.2.2.2.2.2.2.1
theorem dL_law_795 : decode cL_law 795 = .ok (.iadd, 1) := kdL_law_781.2.2.2.2.2.2.2.2.2.2.1
theorem dL_law_796 : decode cL_law 796 = .ok (.iaload, 1) := kdL_law_781.2.2.2.2.2.2.2.2.2.2.2.1
theorem dL_law_797 : decode cL_law 797 = .ok (.ifCond .eq 7, 3) := kdL_law_781.2.2.2.2.2.2.2.2.2.2.2.2.1
theorem dL_law_800 : decode cL_law 800 = .ok (.iconst 1, 1) := kdL_law_781.2.2.2.2.2.2.2.2.2.2.2.2.2.1
theorem dL_law_801 : decode cL_law 801 = .ok (.goto 4, 3) := kdL_law_781.2.2.2.2.2.2.2.2.2.2.2.2.2.2.1
theorem dL_law_804 : decode cL_law 804 = .ok (.iconst 0, 1) := kdL_law_781.2.2.2.2.2.2.2.2.2.2.2.2.2.2.2.1
theorem dL_law_805 : decode cL_law 805 = .ok (.aload_n 3, 1) := kdL_law_781.2.2.2.2.2.2.2.2.2.2.2.2.2.2.2.2.1
theorem dL_law_806 : decode cL_law 806 = .ok (.invokestatic 157, 3) := kdL_law_781.2.2.2.2.2.2.2.2.2.2.2.2.2.2.2.2.2.1
theorem dL_law_809 : decode cL_law 809 = .ok (.istore 5, 2) := kdL_law_781.2.2.2.2.2.2.2.2.2.2.2.2.2.2.2.2.2.2.1
theorem dL_law_811 : decode cL_law 811 = .ok (.aload_n 2, 1) := kdL_law_781.2.2.2.2.2.2.2.2.2.2.2.2.2.2.2.2.2.2.2.1
theorem dL_law_812 : decode cL_law 812 = .ok (.aload_n 0, 1) := kdL_law_781.2.2.2.2.2.2.2.2.2.2.2.2.2.2.2.2.2.2.2.2.1
theorem dL_law_813 : decode cL_law 813 = .ok (.iload 4, 2) := kdL_law_781.2.2.2.2.2.2.2.2.2.2.2.2.2.2.2.2.2.2.2.2.2.1
theorem dL_law_815 : decode cL_law 815 = .ok (.iconst 1, 1) := kdL_law_781.2.2.2.2.2.2.2.2.2.2.2.2.2.2.2.2.2.2.2.2.2.2.1
theorem dL_law_816 : decode cL_law 816 = .ok (.iadd, 1) := kdL_law_781.2.2.2.2.2.2.2.2.2.2.2.2.2.2.2.2.2.2.2.2.2.2.2
theorem kdL_law_817 : (decode cL_law 817 = .ok (.iaload, 1)) ∧ (decode cL_law 818 = .ok (.aload_n 0, 1)) ∧ (decode cL_law 819 = .ok (.iload 4, 2)) ∧ (decode cL_law 821 = .ok (.iconst 2, 1)) ∧ (decode cL_law 822 = .ok (.iadd, 1)) ∧ (decode cL_law 823 = .ok (.iaload, 1)) ∧ (decode cL_law 824 = .ok (.ifCond .eq 7, 3)) ∧ (decode cL_law 827 = .ok (.iconst 1, 1)) ∧ (decode cL_law 828 = .ok (.goto 4, 3)) ∧ (decode cL_law 831 = .ok (.iconst 0, 1)) ∧ (decode cL_law 832 = .ok (.invokevirtual 160, 3)) ∧ (decode cL_law 835 = .ok (.istore 6, 2)) ∧ (decode cL_law 837 = .ok (.goto 470, 3)) ∧ (decode cL_law 840 = .ok (.aload_n 1, 1)) ∧ (decode cL_law 841 = .ok (.aload_n 0, 1)) ∧ (decode cL_law 842 = .ok (.iload 4, 2)) ∧ (decode cL_law 844 = .ok (.iconst 1, 1)) ∧ (decode cL_law 845 = .ok (.iadd, 1)) ∧ (decode cL_law 846 = .ok (.iaload, 1)) ∧ (decode cL_law 847 = .ok (.aload_n 0, 1)) ∧ (decode cL_law 848 = .ok (.iload 4, 2)) ∧ (decode cL_law 850 = .ok (.iconst 2, 1)) ∧ (decode cL_law 851 = .ok (.iadd, 1)) ∧ (decode cL_law 852 = .ok (.iaload, 1)) := by decide +kernel
theorem dL_law_817 : decode cL_law 817 = .ok (.iaload, 1) := kdL_law_817.1
theorem dL_law_818 : decode cL_law 818 = .ok (.aload_n 0, 1) := kdL_law_817.2.1
theorem dL_law_819 : decode cL_law 819 = .ok (.iload 4, 2) := kdL_law_817.2.2.1
theorem dL_law_821 : decode cL_law 821 = .ok (.iconst 2, 1) := kdL_law_817.2.2.2.1
theorem dL_law_822 : decode cL_law 822 = .ok (.iadd, 1) := kdL_law_817.2.2.2.2.1
theorem dL_law_823 : decode cL_law 823 = .ok (.iaload, 1) := kdL_law_817.2.2.2.2.2.1
theorem dL_law_824 : decode cL_law 824 = .ok (.ifCond .eq 7, 3) := kdL_law_817.2.2.2.2.2.2.1
theorem dL_law_827 : decode cL_law 827 = .ok (.iconst 1, 1) := kdL_law_817.2.2.2.2.2.2.2.1
theorem dL_law_828 : decode cL_law 828 = .ok (.goto 4, 3) := kdL_law_817.2.2.2.2.2.2.2.2.1
theorem dL_law_831 : decode cL_law 831 = .ok (.iconst 0, 1) := kdL_law_817.2.2.2.2.2.2.2.2.2.1
theorem dL_law_832 : decode cL_law 832 = .ok (.invokevirtual 160, 3) := kdL_law_817.2.2.2.2.2.2.2.2.2.2.1
theorem dL_law_835 : decode cL_law 835 = .ok (.istore 6, 2) := kdL_law_817.2.2.2.2.2.2.2.2.2.2.2.1
theorem dL_law_837 : decode cL_law 837 = .ok (.goto 470, 3) := kdL_law_817.2.2.2.2.2.2.2.2.2.2.2.2.1
theorem dL_law_840 : decode cL_law 840 = .ok (.aload_n 1, 1) := kdL_law_817.2.2.2.2.2.2.2.2.2.2.2.2.2.1
theorem dL_law_841 : decode cL_law 841 = .ok (.aload_n 0, 1) := kdL_law_817.2.2.2.2.2.2.2.2.2.2.2.2.2.2.1
theorem dL_law_842 : decode cL_law 842 = .ok (.iload 4, 2) := kdL_law_817.2.2.2.2.2.2.2.2.2.2.2.2.2.2.2.1
theorem dL_law_844 : decode cL_law 844 = .ok (.iconst 1, 1) := kdL_law_817.2.2.2.2.2.2.2.2.2.2.2.2.2.2.2.2.1
theorem dL_law_845 : decode cL_law 845 = .ok (.iadd, 1) := kdL_law_817.2.2.2.2.2.2.2.2.2.2.2.2.2.2.2.2.2.1
theorem dL_law_846 : decode cL_law 846 = .ok (.iaload, 1) := kdL_law_817.2.2.2.2.2.2.2.2.2.2.2.2.2.2.2.2.2.2.1
theorem dL_law_847 : decode cL_law 847 = .ok (.aload_n 0, 1) := kdL_law_817.2.2.2.2.2.2.2.2.2.2.2.2.2.2.2.2.2.2.2.1
theorem dL_law_848 : decode cL_law 848 = .ok (.iload 4, 2) := kdL_law_817.2.2.2.2.2.2.2.2.2.2.2.2.2.2.2.2.2.2.2.2.1
theorem dL_law_850 : decode cL_law 850 = .ok (.iconst 2, 1) := kdL_law_817.2.2.2.2.2.2.2.2.2.2.2.2.2.2.2.2.2.2.2.2.2.1
theorem dL_law_851 : decode cL_law 851 = .ok (.iadd, 1) := kdL_law_817.2.2.2.2.2.2.2.2.2.2.2.2.2.2.2.2.2.2.2.2.2.2.1
theorem dL_law_852 : decode cL_law 852 = .ok (.iaload, 1) := kdL_law_817.2.2.2.2.2.2.2.2.2.2.2.2.2.2.2.2.2.2.2.2.2.2.2
theorem kdL_law_853 : (decode cL_law 853 = .ok (.aload_n 3, 1)) ∧ (decode cL_law 854 = .ok (.invokestatic 161, 3)) ∧ (decode cL_law 857 = .ok (.istore 5, 2)) ∧ (decode cL_law 859 = .ok (.aload_n 2, 1)) ∧ (decode cL_law 860 = .ok (.aload_n 0, 1)) ∧ (decode cL_law 861 = .ok (.iload 4, 2)) ∧ (decode cL_law 863 = .ok (.iconst 1, 1)) ∧ (decode cL_law 864 = .ok (.iadd, 1)) ∧ (decode cL_law 865 = .ok (.iaload, 1)) ∧ (decode cL_law 866 = .ok (.aload_n 0, 1)) ∧ (decode cL_law 867 = .ok (.iload 4, 2)) ∧ (decode cL_law 869 = .ok (.iconst 2, 1)) ∧ (decode cL_law 870 = .ok (.iadd, 1)) ∧ (decode cL_law 871 = .ok (.iaload, 1)) ∧ (decode cL_law 872 = .ok (.invokevirtual 163, 3)) ∧ (decode cL_law 875 = .ok (.istore 6, 2)) ∧ (decode cL_law 877 = .ok (.goto 430, 3)) ∧ (decode cL_law 880 = .ok (.aload_n 1, 1)) ∧ (decode cL_law 881 = .ok (.aload_n 0, 1)) ∧ (decode cL_law 882 = .ok (.iload 4, 2)) ∧ (decode cL_law 884 = .ok (.iconst 1, 1)) ∧ (decode cL_law 885 = .ok (.iadd, 1)) ∧ (decode cL_law 886 = .ok (.iaload, 1)) ∧ (decode cL_law 887 = .ok (.aload_n 0, 1)) := by decide +kernel
theorem dL_law_853 : decode cL_law 853 = .ok (.aload_n 3, 1) := kdL_law_853.1
theorem dL_law_854 : decode cL_law 854 = .ok (.invokestatic 161, 3) := kdL_law_853.2.1
theorem dL_law_857 : decode cL_law 857 = .ok (.istore 5, 2) := kdL_law_853.2.2.1
theorem dL_law_859 : decode cL_law 859 = .ok (.aload_n 2, 1) := kdL_law_853.2.2.2.1
theorem dL_law_860 : decode cL_law 860 = .ok (.aload_n 0, 1) := kdL_law_853.2.2.2.2.1
theorem dL_law_861 : decode cL_law 861 = .ok (.iload 4, 2) := kdL_law_853.2.2.2.2.2.1
theorem dL_law_863 : decode cL_law 863 = .ok (.iconst 1, 1) := kdL_law_853.2.2.2.2.2.2.1
theorem dL_law_864 : decode cL_law 864 = .ok (.iadd, 1) := kdL_law_853.2.2.2.2.2.2.2.1
theorem dL_law_865 : decode cL_law 865 = .ok (.iaload, 1) := kdL_law_853.2.2.2.2.2.2.2.2.1
theorem dL_law_866 : decode cL_law 866 = .ok (.aload_n 0, 1) := kdL_law_853.2.2.2.2.2.2.2.2.2.1
theorem dL_law_867 : decode cL_law 867 = .ok (.iload 4, 2) := kdL_law_853.2.2.2.2.2.2.2.2.2.2.1
theorem dL_law_869 : decode cL_law 869 = .ok (.iconst 2, 1) := kdL_law_853.2.2.2.2.2.2.2.2.2.2.2.1
theorem dL_law_870 : decode cL_law 870 = .ok (.iadd, 1) := kdL_law_853.2.2.2.2.2.2.2.2.2.2.2.2.1
theorem dL_law_871 : decode cL_law 871 = .ok (.iaload, 1) := kdL_law_853.2.2.2.2.2.2.2.2.2.2.2.2.2.1
theorem dL_law_872 : decode cL_law 872 = .ok (.invokevirtual 163, 3) := kdL_law_853.2.2.2.2.2.2.2.2.2.2.2.2.2.2.1
theorem dL_law_875 : decode cL_law 875 = .ok (.istore 6, 2) := kdL_law_853.2.2.2.2.2.2.2.2.2.2.2.2.2.2.2.1
theorem dL_law_877 : decode cL_law 877 = .ok (.goto 430, 3) := kdL_law_853.2.2.2.2.2.2.2.2.2.2.2.2.2.2.2.2.1
theorem dL_law_880 : decode cL_law 880 = .ok (.aload_n 1, 1) := kdL_law_853.2.2.2.2.2.2.2.2.2.2.2.2.2.2.2.2.2.1
theorem dL_law_881 : decode cL_law 881 = .ok (.aload_n 0, 1) := kdL_law_853.2.2.2.2.2.2.2.2.2.2.2.2.2.2.2.2.2.2.1
theorem dL_law_882 : decode cL_law 882 = .ok (.iload 4, 2) := kdL_law_853.2.2.2.2.2.2.2.2.2.2.2.2.2.2.2.2.2.2.2.1
theorem dL_law_884 : decode cL_law 884 = .ok (.iconst 1, 1) := kdL_law_853.2.2.2.2.2.2.2.2.2.2.2.2.2.2.2.2.2.2.2.2.1
theorem dL_law_885 : decode cL_law 885 = .ok (.iadd, 1) := kdL_law_853.2.2.2.2.2.2.2.2.2.2.2.2.2.2.2.2.2.2.2.2.2.1
theorem dL_law_886 : decode cL_law 886 = .ok (.iaload, 1) := kdL_law_853.2.2.2.2.2.2.2.2.2.2.2.2.2.2.2.2.2.2.2.2.2.2.1
theorem dL_law_887 : decode cL_law 887 = .ok (.aload_n 0, 1) := kdL_law_853.2.2.2.2.2.2.2.2.2.2.2.2.2.2.2.2.2.2.2.2.2.2.2
theorem kdL_law_888 : (decode cL_law 888 = .ok (.iload 4, 2)) ∧ (decode cL_law 890 = .ok (.iconst 2, 1)) ∧ (decode cL_law 891 = .ok (.iadd, 1)) ∧ (decode cL_law 892 = .ok (.iaload, 1)) ∧ (decode cL_law 893 = .ok (.aload_n 3, 1)) ∧ (decode cL_law 894 = .ok (.invokestatic 164, 3)) ∧ (decode cL_law 897 = .ok (.istore 5, 2)) ∧ (decode cL_law 899 = .ok (.aload_n 2, 1)) ∧ (decode cL_law 900 = .ok (.aload_n 0, 1)) ∧ (decode cL_law 901 = .ok (.iload 4, 2)) ∧ (decode cL_law 903 = .ok (.iconst 1, 1)) ∧ (decode cL_law 904 = .ok (.iadd, 1)) ∧ (decode cL_law 905 = .ok (.iaload, 1)) ∧ (decode cL_law 906 = .ok (.aload_n 0, 1)) ∧ (decode cL_law 907 = .ok (.iload 4, 2)) ∧ (decode cL_law 909 = .ok (.iconst 2, 1)) ∧ (decode cL_law 910 = .ok (.iadd, 1)) ∧ (decode cL_law 911 = .ok (.iaload, 1)) ∧ (decode cL_law 912 = .ok (.invokevirtual 166, 3)) ∧ (decode cL_law 915 = .ok (.istore 6, 2)) ∧ (decode cL_law 917 = .ok (.goto 390, 3)) ∧ (decode cL_law 920 = .ok (.aload_n 1, 1)) ∧ (decode cL_law 921 = .ok (.aload_n 0, 1)) ∧ (decode cL_law 922 = .ok (.iload 4, 2)) := by decide +kernel
theorem dL_law_888 : decode cL_law 888 = .ok (.iload 4, 2) := kdL_law_888.1
theorem dL_law_890 : decode cL_law 890 = .ok (.iconst 2, 1) := kdL_law_888.2.1
theorem dL_law_891 : decode cL_law 891 = .ok (.iadd, 1) := kdL_law_888.2.2.1
theorem dL_law_892 : decode cL_law 892 = .ok (.iaload, 1) := kdL_law_888.2.2.2.1
theorem dL_law_893 : decode cL_law 893 = .ok (.aload_n 3, 1) := kdL_law_888.2.2.2.2.1
theorem dL_law_894 : decode cL_law 894 = .ok (.invokestatic 164, 3) := kdL_law_888.2.2.2.2.2.1
theorem dL_law_897 : decode cL_law 897 = .ok (.istore 5, 2) := kdL_law_888.2.2.2.2.2.2.1
theorem dL_law_899 : decode cL_law 899 = .ok (.aload_n 2, 1) := kdL_law_888.2.2.2.2.2.2.2.1
theorem dL_law_900 : decode cL_law 900 = .ok (.aload_n 0, 1) := kdL_law_888.2.2.2.2.2.2.2.2.1
theorem dL_law_901 : decode cL_law 901 = .ok (.iload 4, 2) := kdL_law_888.2.2.2.2.2.2.2.2.2.1
theorem dL_law_903 : decode cL_law 903 = .ok (.iconst 1, 1) := kdL_law_888.2.2.2.2.2.2.2.2.2.2.1
theorem dL_law_904 : decode cL_law 904 = .ok (.iadd, 1) := kdL_law_888.2.2.2.2.2.2.2.2.2.2.2.1
theorem dL_law_905 : decode cL_law 905 = .ok (.iaload, 1) := kdL_law_888.2.2.2.2.2.2.2.2.2.2.2.2.1
theorem dL_law_906 : decode cL_law 906 = .ok (.aload_n 0, 1) := kdL_law_888.2.2.2.2.2.2.2.2.2.2.2.2.2.1
theorem dL_law_907 : decode cL_law 907 = .ok (.iload 4, 2) := kdL_law_888.2.2.2.2.2.2.2.2.2.2.2.2.2.2.1
theorem dL_law_909 : decode cL_law 909 = .ok (.iconst 2, 1) := kdL_law_888.2.2.2.2.2.2.2.2.2.2.2.2.2.2.2.1
theorem dL_law_910 : decode cL_law 910 = .ok (.iadd, 1) := kdL_law_888.2.2.2.2.2.2.2.2.2.2.2.2.2.2.2.2.1
theorem dL_law_911 : decode cL_law 911 = .ok (.iaload, 1) := kdL_law_888.2.2.2.2.2.2.2.2.2.2.2.2.2.2.2.2.2.1
theorem dL_law_912 : decode cL_law 912 = .ok (.invokevirtual 166, 3) := kdL_law_888.2.2.2.2.2.2.2.2.2.2.2.2.2.2.2.2.2.2.1
theorem dL_law_915 : decode cL_law 915 = .ok (.istore 6, 2) := kdL_law_888.2.2.2.2.2.2.2.2.2.2.2.2.2.2.2.2.2.2.2.1
theorem dL_law_917 : decode cL_law 917 = .ok (.goto 390, 3) := kdL_law_888.2.2.2.2.2.2.2.2.2.2.2.2.2.2.2.2.2.2.2.2.1
theorem dL_law_920 : decode cL_law 920 = .ok (.aload_n 1, 1) := kdL_law_888.2.2.2.2.2.2.2.2.2.2.2.2.2.2.2.2.2.2.2.2.2.1
theorem dL_law_921 : decode cL_law 921 = .ok (.aload_n 0, 1) := kdL_law_888.2.2.2.2.2.2.2.2.2.2.2.2.2.2.2.2.2.2.2.2.2.2.1
theorem dL_law_922 : decode cL_law 922 = .ok (.iload 4, 2) := kdL_law_888.2.2.2.2.2.2.2.2.2.2.2.2.2.2.2.2.2.2.2.2.2.2.2
theorem kdL_law_924 : (decode cL_law 924 = .ok (.iconst 1, 1)) ∧ (decode cL_law 925 = .ok (.iadd, 1)) ∧ (decode cL_law 926 = .ok (.iaload, 1)) ∧ (decode cL_law 927 = .ok (.aload_n 3, 1)) ∧ (decode cL_law 928 = .ok (.invokestatic 167, 3)) ∧ (decode cL_law 931 = .ok (.istore 5, 2)) ∧ (decode cL_law 933 = .ok (.aload_n 2, 1)) ∧ (decode cL_law 934 = .ok (.aload_n 0, 1)) ∧ (decode cL_law 935 = .ok (.iload 4, 2)) ∧ (decode cL_law 937 = .ok (.iconst 1, 1)) ∧ (decode cL_law 938 = .ok (.iadd, 1)) ∧ (decode cL_law 939 = .ok (.iaload, 1)) ∧ (decode cL_law 940 = .ok (.invokevirtual 169, 3)) ∧ (decode cL_law 943 = .ok (.istore 6, 2)) ∧ (decode cL_law 945 = .ok (.goto 362, 3)) ∧ (decode cL_law 948 = .ok (.aload_n 1, 1)) ∧ (decode cL_law 949 = .ok (.aload_n 0, 1)) ∧ (decode cL_law 950 = .ok (.iload 4, 2)) ∧ (decode cL_law 952 = .ok (.iconst 1, 1)) ∧ (decode cL_law 953 = .ok (.iadd, 1)) ∧ (decode cL_law 954 = .ok (.iaload, 1)) ∧ (decode cL_law 955 = .ok (.aload_n 0, 1)) ∧ (decode cL_law 956 = .ok (.iload 4, 2)) ∧ (decode cL_law 958 = .ok (.iconst 2, 1)) := by decide +kernel
theorem dL_law_924 : decode cL_law 924 = .ok (.iconst 1, 1) := kdL_law_924.1
theorem dL_law_925 : decode cL_law 925 = .ok (.iadd, 1) := kdL_law_924.2.1
theorem dL_law_926 : decode cL_law 926 = .ok (.iaload, 1) := kdL_law_924.2.2.1
theorem dL_law_927 : decode cL_law 927 = .ok (.aload_n 3, 1) := kdL_law_924.2.2.2.1
theorem dL_law_928 : decode cL_law 928 = .ok (.invokestatic 167, 3) := kdL_law_924.2.2.2.2.1
theorem dL_law_931 : decode cL_law 931 = .ok (.istore 5, 2) := kdL_law_924.2.2.2.2.2.1
theorem dL_law_933 : decode cL_law 933 = .ok (.aload_n 2, 1) := kdL_law_924.2.2.2.2.2.2.1
theorem dL_law_934 : decode cL_law 934 = .ok (.aload_n 0, 1) := kdL_law_924.2.2.2.2.2.2.2.1
theorem dL_law_935 : decode cL_law 935 = .ok (.iload 4, 2) := kdL_law_924.2.2.2.2.2.2.2.2.1
theorem dL_law_937 : decode cL_law 937 = .ok (.iconst 1, 1) := kdL_law_924.2.2.2.2.2.2.2.2.2.1
theorem dL_law_938 : decode cL_law 938 = .ok (.iadd, 1) := kdL_law_924.2.2.2.2.2.2.2.2.2.2.1
theorem dL_law_939 : decode cL_law 939 = .ok (.iaload, 1) := kdL_law_924.2.2.2.2.2.2.2.2.2.2.2.1
theorem dL_law_940 : decode cL_law 940 = .ok (.invokevirtual 169, 3) := kdL_law_924.2.2.2.2.2.2.2.2.2.2.2.2.1
theorem dL_law_943 : decode cL_law 943 = .ok (.istore 6, 2) := kdL_law_924.2.2.2.2.2.2.2.2.2.2.2.2.2.1
theorem dL_law_945 : decode cL_law 945 = .ok (.goto 362, 3) := kdL_law_924.2.2.2.2.2.2.2.2.2.2.2.2.2.2.1
theorem dL_law_948 : decode cL_law 948 = .ok (.aload_n 1, 1) := kdL_law_924.2.2.2.2.2.2.2.2.2.2.2.2.2.2.2.1
theorem dL_law_949 : decode cL_law 949 = .ok (.aload_n 0, 1) := kdL_law_924.2.2.2.2.2.2.2.2.2.2.2.2.2.2.2.2.1
theorem dL_law_950 : decode cL_law 950 = .ok (.iload 4, 2) := kdL_law_924.2.2.2.2.2.2.2.2.2.2.2.2.2.2.2.2.2.1
theorem dL_law_952 : decode cL_law 952 = .ok (.iconst 1, 1) := kdL_law_924.2.2.2.2.2.2.2.2.2.2.2.2.2.2.2.2.2.2.1
theorem dL_law_953 : decode cL_law 953 = .ok (.iadd, 1) := kdL_law_924.2.2.2.2.2.2.2.2.2.2.2.2.2.2.2.2.2.2.2.1
theorem dL_law_954 : decode cL_law 954 = .ok (.iaload, 1) := kdL_law_924.2.2.2.2.2.2.2.2.2.2.2.2.2.2.2.2.2.2.2.2.1
theorem dL_law_955 : decode cL_law 955 = .ok (.aload_n 0, 1) := kdL_law_924.2.2.2.2.2.2.2.2.2.2.2.2.2.2.2.2.2.2.2.2.2.1
theorem dL_law_956 : decode cL_law 956 = .ok (.iload 4, 2) := kdL_law_924.2.2.2.2.2.2.2.2.2.2.2.2.2.2.2.2.2.2.2.2.2.2.1
theorem dL_law_958 : decode cL_law 958 = .ok (.iconst 2, 1) := kdL_law_924.2.2.2.2.2.2.2.2.2.2.2.2.2.2.2.2.2.2.2.2.2.2.2
theorem kdL_law_959 : (decode cL_law 959 = .ok (.iadd, 1)) ∧ (decode cL_law 960 = .ok (.iaload, 1)) ∧ (decode cL_law 961 = .ok (.aload_n 3, 1)) ∧ (decode cL_law 962 = .ok (.invokestatic 170, 3)) ∧ (decode cL_law 965 = .ok (.istore 5, 2)) ∧ (decode cL_law 967 = .ok (.aload_n 2, 1)) ∧ (decode cL_law 968 = .ok (.aload_n 0, 1)) ∧ (decode cL_law 969 = .ok (.iload 4, 2)) ∧ (decode cL_law 971 = .ok (.iconst 1, 1)) ∧ (decode cL_law 972 = .ok (.iadd, 1)) ∧ (decode cL_law 973 = .ok (.iaload, 1)) ∧ (decode cL_law 974 = .ok (.aload_n 0, 1)) ∧ (decode cL_law 975 = .ok (.iload 4, 2)) ∧ (decode cL_law 977 = .ok (.iconst 2, 1)) ∧ (decode cL_law 978 = .ok (.iadd, 1)) ∧ (decode cL_law 979 = .ok (.iaload, 1)) ∧ (decode cL_law 980 = .ok (.invokevirtual 172, 3)) ∧ (decode cL_law 983 = .ok (.istore 6, 2)) ∧ (decode cL_law 985 = .ok (.goto 322, 3)) ∧ (decode cL_law 988 = .ok (.aload_n 1, 1)) ∧ (decode cL_law 989 = .ok (.aload_n 0, 1)) ∧ (decode cL_law 990 = .ok (.iload 4, 2)) ∧ (decode cL_law 992 = .ok (.iconst 1, 1)) ∧ (decode cL_law 993 = .ok (.iadd, 1)) := by decide +kernel
theorem dL_law_959 : decode cL_law 959 = .ok (.iadd, 1) := kdL_law_959.1
theorem dL_law_960 : decode cL_law 960 = .ok (.iaload, 1) := kdL_law_959.2.1
theorem dL_law_961 : decode cL_law 961 = .ok (.aload_n 3, 1) := kdL_law_959.2.2.1
theorem dL_law_962 : decode cL_law 962 = .ok (.invokestatic 170, 3) := kdL_law_959.2.2.2.1
theorem dL_law_965 : decode cL_law 965 = .ok (.istore 5, 2) := kdL_law_959.2.2.2.2.1
theorem dL_law_967 : decode cL_law 967 = .ok (.aload_n 2, 1) := kdL_law_959.2.2.2.2.2.1
theorem dL_law_968 : decode cL_law 968 = .ok (.aload_n 0, 1) := kdL_law_959.2.2.2.2.2.2.1
theorem dL_law_969 : decode cL_law 969 = .ok (.iload 4, 2) := kdL_law_959.2.2.2.2.2.2.2.1
theorem dL_law_971 : decode cL_law 971 = .ok (.iconst 1, 1) := kdL_law_959.2.2.2.2.2.2.2.2.1
theorem dL_law_972 : decode cL_law 972 = .ok (.iadd, 1) := kdL_law_959.2.2.2.2.2.2.2.2.2.1
theorem dL_law_973 : decode cL_law 973 = .ok (.iaload, 1) := kdL_law_959.2.2.2.2.2.2.2.2.2.2.1
theorem dL_law_974 : decode cL_law 974 = .ok (.aload_n 0, 1) := kdL_law_959.2.2.2.2.2.2.2.2.2.2.2.1
theorem dL_law_975 : decode cL_law 975 = .ok (.iload 4, 2) := kdL_law_959.2.2.2.2.2.2.2.2.2.2.2.2.1
theorem dL_law_977 : decode cL_law 977 = .ok (.iconst 2, 1) := kdL_law_959.2.2.2.2.2.2.2.2.2.2.2.2.2.1
theorem dL_law_978 : decode cL_law 978 = .ok (.iadd, 1) := kdL_law_959.2.2.2.2.2.2.2.2.2.2.2.2.2.2.1
theorem dL_law_979 : decode cL_law 979 = .ok (.iaload, 1) := kdL_law_959.2.2.2.2.2.2.2.2.2.2.2.2.2.2.2.1
theorem dL_law_980 : decode cL_law 980 = .ok (.invokevirtual 172, 3) := kdL_law_959.2.2.2.2.2.2.2.2.2.2.2.2.2.2.2.2.1
theorem dL_law_983 : decode cL_law 983 = .ok (.istore 6, 2) := kdL_law_959.2.2.2.2.2.2.2.2.2.2.2.2.2.2.2.2.2.1
theorem dL_law_985 : decode cL_law 985 = .ok (.goto 322, 3) := kdL_law_959.2.2.2.2.2.2.2.2.2.2.2.2.2.2.2.2.2.2.1
theorem dL_law_988 : decode cL_law 988 = .ok (.aload_n 1, 1) := kdL_law_959.2.2.2.2.2.2.2.2.2.2.2.2.2.2.2.2.2.2.2.1
theorem dL_law_989 : decode cL_law 989 = .ok (.aload_n 0, 1) := kdL_law_959.2.2.2.2.2.2.2.2.2.2.2.2.2.2.2.2.2.2.2.2.1
theorem dL_law_990 : decode cL_law 990 = .ok (.iload 4, 2) := kdL_law_959.2.2.2.2.2.2.2.2.2.2.2.2.2.2.2.2.2.2.2.2.2.1
theorem dL_law_992 : decode cL_law 992 = .ok (.iconst 1, 1) := kdL_law_959.2.2.2.2.2.2.2.2.2.2.2.2.2.2.2.2.2.2.2.2.2.2.1
theorem dL_law_993 : decode cL_law 993 = .ok (.iadd, 1) := kdL_law_959.2.2.2.2.2.2.2.2.2.2.2.2.2.2.2.2.2.2.2.2.2.2.2
theorem kdL_law_994 : (decode cL_law 994 = .ok (.iaload, 1)) ∧ (decode cL_law 995 = .ok (.aload_n 0, 1)) ∧ (decode cL_law 996 = .ok (.iload 4, 2)) ∧ (decode cL_law 998 = .ok (.iconst 2, 1)) ∧ (decode cL_law 999 = .ok (.iadd, 1)) ∧ (decode cL_law 1000 = .ok (.iaload, 1)) ∧ (decode cL_law 1001 = .ok (.aload_n 0, 1)) ∧ (decode cL_law 1002 = .ok (.iload 4, 2)) ∧ (decode cL_law 1004 = .ok (.iconst 3, 1)) ∧ (decode cL_law 1005 = .ok (.iadd, 1)) ∧ (decode cL_law 1006 = .ok (.iaload, 1)) ∧ (decode cL_law 1007 = .ok (.aload_n 3, 1)) ∧ (decode cL_law 1008 = .ok (.invokestatic 173, 3)) ∧ (decode cL_law 1011 = .ok (.istore 5, 2)) ∧ (decode cL_law 1013 = .ok (.aload_n 2, 1)) ∧ (decode cL_law 1014 = .ok (.aload_n 0, 1)) ∧ (decode cL_law 1015 = .ok (.iload 4, 2)) ∧ (decode cL_law 1017 = .ok (.iconst 1, 1)) ∧ (decode cL_law 1018 = .ok (.iadd, 1)) ∧ (decode cL_law 1019 = .ok (.iaload, 1)) ∧ (decode cL_law 1020 = .ok (.aload_n 0, 1)) ∧ (decode cL_law 1021 = .ok (.iload 4, 2)) ∧ (decode cL_law 1023 = .ok (.iconst 2, 1)) ∧ (decode cL_law 1024 = .ok (.iadd, 1)) := by decide +kernel
theorem dL_law_994 : decode cL_law 994 = .ok (.iaload, 1) := kdL_law_994.1
theorem dL_law_995 : decode cL_law 995 = .ok (.aload_n 0, 1) := kdL_law_994.2.1
theorem dL_law_996 : decode cL_law 996 = .ok (.iload 4, 2) := kdL_law_994.2.2.1
theorem dL_law_998 : decode cL_law 998 = .ok (.iconst 2, 1) := kdL_law_994.2.2.2.1
theorem dL_law_999 : decode cL_law 999 = .ok (.iadd, 1) := kdL_law_994.2.2.2.2.1
theorem dL_law_1000 : decode cL_law 1000 = .ok (.iaload, 1) := kdL_law_994.2.2.2.2.2.1
theorem dL_law_1001 : decode cL_law 1001 = .ok (.aload_n 0, 1) := kdL_law_994.2.2.2.2.2.2.1
theorem dL_law_1002 : decode cL_law 1002 = .ok (.iload 4, 2) := kdL_law_994.2.2.2.2.2.2.2.1
theorem dL_law_1004 : decode cL_law 1004 = .ok (.iconst 3, 1) := kdL_law_994.2.2.2.2.2.2.2.2.1
theorem dL_law_1005 : decode cL_law 1005 = .ok (.iadd, 1) := kdL_law_994.2.2.2.2.2.2.2.2.2.1
theorem dL_law_1006 : decode cL_law 1006 = .ok (.iaload, 1) := kdL_law_994.2.2.2.2.2.2.2.2.2.2.1
theorem dL_law_1007 : decode cL_law 1007 = .ok (.aload_n 3, 1) := kdL_law_994.2.2.2.2.2.2.2.2.2.2.2.1
theorem dL_law_1008 : decode cL_law 1008 = .ok (.invokestatic 173, 3) := kdL_law_994.2.2.2.2.2.2.2.2.2.2.2.2.1
theorem dL_law_1011 : decode cL_law 1011 = .ok (.istore 5, 2) := kdL_law_994.2.2.2.2.2.2.2.2.2.2.2.2.2.1
theorem dL_law_1013 : decode cL_law 1013 = .ok (.aload_n 2, 1) := kdL_law_994.2.2.2.2.2.2.2.2.2.2.2.2.2.2.1
theorem dL_law_1014 : decode cL_law 1014 = .ok (.aload_n 0, 1) := kdL_law_994.2.2.2.2.2.2.2.2.2.2.2.2.2.2.2.1
theorem dL_law_1015 : decode cL_law 1015 = .ok (.iload 4, 2) := kdL_law_994.2.2.2.2.2.2.2.2.2.2.2.2.2.2.2.2.1
theorem dL_law_1017 : decode cL_law 1017 = .ok (.iconst 1, 1) := kdL_law_994.2.2.2.2.2.2.2.2.2.2.2.2.2.2.2.2.2.1
theorem dL_law_1018 : decode cL_law 1018 = .ok (.iadd, 1) := kdL_law_994.2.2.2.2.2.2.2.2.2.2.2.2.2.2.2.2.2.2.1
theorem dL_law_1019 : decode cL_law 1019 = .ok (.iaload, 1) := kdL_law_994.2.2.2.2.2.2.2.2.2.2.2.2.2.2.2.2.2.2.2.1
theorem dL_law_1020 : decode cL_law 1020 = .ok (.aload_n 0, 1) := kdL_law_994.2.2.2.2.2.2.2.2.2.2.2.2.2.2.2.2.2.2.2.2.1
theorem dL_law_1021 : decode cL_law 1021 = .ok (.iload 4, 2) := kdL_law_994.2.2.2.2.2.2.2.2.2.2.2.2.2.2.2.2.2.2.2.2.2.1
theorem dL_law_1023 : decode cL_law 1023 = .ok (.iconst 2, 1) := kdL_law_994.2.2.2.2.2.2.2.2.2.2.2.2.2.2.2.2.2.2.2.2.2.2.1
theorem dL_law_1024 : decode cL_law 1024 = .ok (.iadd, 1) := kdL_law_994.2.2.2.2.2.2.2.2.2.2.2.2.2.2.2.2.2.2.2.2.2.2.2
theorem kdL_law_1025 : (decode cL_law 1025 = .ok (.iaload, 1)) ∧ (decode cL_law 1026 = .ok (.aload_n 0, 1)) ∧ (decode cL_law 1027 = .ok (.iload 4, 2)) ∧ (decode cL_law 1029 = .ok (.iconst 3, 1)) ∧ (decode cL_law 1030 = .ok (.iadd, 1)) ∧ (decode cL_law 1031 = .ok (.iaload, 1)) ∧ (decode cL_law 1032 = .ok (.invokevirtual 175, 3)) ∧ (decode cL_law 1035 = .ok (.istore 6, 2)) ∧ (decode cL_law 1037 = .ok (.goto 270, 3)) ∧ (decode cL_law 1040 = .ok (.aload_n 1, 1)) ∧ (decode cL_law 1041 = .ok (.aload_n 0, 1)) ∧ (decode cL_law 1042 = .ok (.iload 4, 2)) ∧ (decode cL_law 1044 = .ok (.iconst 1, 1)) ∧ (decode cL_law 1045 = .ok (.iadd, 1)) ∧ (decode cL_law 1046 = .ok (.iaload, 1)) ∧ (decode cL_law 1047 = .ok (.aload_n 0, 1)) ∧ (decode cL_law 1048 = .ok (.iload 4, 2)) ∧ (decode cL_law 1050 = .ok (.iconst 2, 1)) ∧ (decode cL_law 1051 = .ok (.iadd, 1)) ∧ (decode cL_law 1052 = .ok (.iaload, 1)) ∧ (decode cL_law 1053 = .ok (.aload_n 0, 1)) ∧ (decode cL_law 1054 = .ok (.iload 4, 2)) ∧ (decode cL_law 1056 = .ok (.iconst 3, 1)) ∧ (decode cL_law 1057 = .ok (.iadd, 1)) := by decide +kernel
theorem dL_law_1025 : decode cL_law 1025 = .ok (.iaload, 1) := kdL_law_1025.1
theorem dL_law_1026 : decode cL_law 1026 = .ok (.aload_n 0, 1) := kdL_law_1025.2.1
theorem dL_law_1027 : decode cL_law 1027 = .ok (.iload 4, 2) := kdL_law_1025.2.2.1
theorem dL_law_1029 : decode cL_law 1029 = .ok (.iconst 3, 1) := kdL_law_1025.2.2.2.1
theorem dL_law_1030 : decode cL_law 1030 = .ok (.iadd, 1) := kdL_law_1025.2.2.2.2.1
theorem dL_law_1031 : decode cL_law 1031 = .ok (.iaload, 1) := kdL_law_1025.2.2.2.2.2.1
theorem dL_law_1032 : decode cL_law 1032 = .ok (.invokevirtual 175, 3) := kdL_law_1025.2.2.2.2.2.2.1
theorem dL_law_1035 : decode cL_law 1035 = .ok (.istore 6, 2) := kdL_law_1025.2.2.2.2.2.2.2.1
theorem dL_law_1037 : decode cL_law 1037 = .ok (.goto 270, 3) := kdL_law_1025.2.2.2.2.2.2.2.2.1
theorem dL_law_1040 : decode cL_law 1040 = .ok (.aload_n 1, 1) := kdL_law_1025.2.2.2.2.2.2.2.2.2.1
theorem dL_law_1041 : decode cL_law 1041 = .ok (.aload_n 0, 1) := kdL_law_1025.2.2.2.2.2.2.2.2.2.2.1
theorem dL_law_1042 : decode cL_law 1042 = .ok (.iload 4, 2) := kdL_law_1025.2.2.2.2.2.2.2.2.2.2.2.1
theorem dL_law_1044 : decode cL_law 1044 = .ok (.iconst 1, 1) := kdL_law_1025.2.2.2.2.2.2.2.2.2.2.2.2.1
theorem dL_law_1045 : decode cL_law 1045 = .ok (.iadd, 1) := kdL_law_1025.2.2.2.2.2.2.2.2.2.2.2.2.2.1
theorem dL_law_1046 : decode cL_law 1046 = .ok (.iaload, 1) := kdL_law_1025.2.2.2.2.2.2.2.2.2.2.2.2.2.2.1
theorem dL_law_1047 : decode cL_law 1047 = .ok (.aload_n 0, 1) := kdL_law_1025.2.2.2.2.2.2.2.2.2.2.2.2.2.2.2.1
theorem dL_law_1048 : decode cL_law 1048 = .ok (.iload 4, 2) := kdL_law_1025.2.2.2.2.2.2.2.2.2.2.2.2.2.2.2.2.1
theorem dL_law_1050 : decode cL_law 1050 = .ok (.iconst 2, 1) := kdL_law_1025.2.2.2.2.2.2.2.2.2.2.2.2.2.2.2.2.2.1
theorem dL_law_1051 : decode cL_law 1051 = .ok (.iadd, 1) := kdL_law_1025.2.2.2.2.2.2.2.2.2.2.2.2.2.2.2.2.2.2.1
theorem dL_law_1052 : decode cL_law 1052 = .ok (.iaload, 1) := kdL_law_1025.2.2.2.2.2.2.2.2.2.2.2.2.2.2.2.2.2.2.2.1
theorem dL_law_1053 : decode cL_law 1053 = .ok (.aload_n 0, 1) := kdL_law_1025.2.2.2.2.2.2.2.2.2.2.2.2.2.2.2.2.2.2.2.2.1
theorem dL_law_1054 : decode cL_law 1054 = .ok (.iload 4, 2) := kdL_law_1025.2.2.2.2.2.2.2.2.2.2.2.2.2.2.2.2.2.2.2.2.2.1
theorem dL_law_1056 : decode cL_law 1056 = .ok (.iconst 3, 1) := kdL_law_1025.2.2.2.2.2.2.2.2.2.2.2.2.2.2.2.2.2.2.2.2.2.2.1
theorem dL_law_1057 : decode cL_law 1057 = .ok (.iadd, 1) := kdL_law_1025.2.2.2.2.2.2.2.2.2.2.2.2.2.2.2.2.2.2.2.2.2.2.2
theorem kdL_law_1058 : (decode cL_law 1058 = .ok (.iaload, 1)) ∧ (decode cL_law 1059 = .ok (.ifCond .eq 7, 3)) ∧ (decode cL_law 1062 = .ok (.iconst 1, 1)) ∧ (decode cL_law 1063 = .ok (.goto 4, 3)) ∧ (decode cL_law 1066 = .ok (.iconst 0, 1)) ∧ (decode cL_law 1067 = .ok (.aload_n 3, 1)) ∧ (decode cL_law 1068 = .ok (.invokestatic 176, 3)) ∧ (decode cL_law 1071 = .ok (.istore 5, 2)) ∧ (decode cL_law 1073 = .ok (.aload_n 2, 1)) ∧ (decode cL_law 1074 = .ok (.aload_n 0, 1)) ∧ (decode cL_law 1075 = .ok (.iload 4, 2)) ∧ (decode cL_law 1077 = .ok (.iconst 1, 1)) ∧ (decode cL_law 1078 = .ok (.iadd, 1)) ∧ (decode cL_law 1079 = .ok (.iaload, 1)) ∧ (decode cL_law 1080 = .ok (.aload_n 0, 1)) ∧ (decode cL_law 1081 = .ok (.iload 4, 2)) ∧ (decode cL_law 1083 = .ok (.iconst 2, 1)) ∧ (decode cL_law 1084 = .ok (.iadd, 1)) ∧ (decode cL_law 1085 = .ok (.iaload, 1)) ∧ (decode cL_law 1086 = .ok (.aload_n 0, 1)) ∧ (decode cL_law 1087 = .ok (.iload 4, 2)) ∧ (decode cL_law 1089 = .ok (.iconst 3, 1)) ∧ (decode cL_law 1090 = .ok (.iadd, 1)) ∧ (decode cL_law 1091 = .ok (.iaload, 1)) := by decide +kernel
theorem dL_law_1058 : decode cL_law 1058 = .ok (.iaload, 1) := kdL_law_1058.1
theorem dL_law_1059 : decode cL_law 1059 = .ok (.ifCond .eq 7, 3) := kdL_law_1058.2.1
theorem dL_law_1062 : decode cL_law 1062 = .ok (.iconst 1, 1) := kdL_law_1058.2.2.1
theorem dL_law_1063 : decode cL_law 1063 = .ok (.goto 4, 3) := kdL_law_1058.2.2.2.1
theorem dL_law_1066 : decode cL_law 1066 = .ok (.iconst 0, 1) := kdL_law_1058.2.2.2.2.1
theorem dL_law_1067 : decode cL_law 1067 = .ok (.aload_n 3, 1) := kdL_law_1058.2.2.2.2.2.1
theorem dL_law_1068 : decode cL_law 1068 = .ok (.invokestatic 176, 3) := kdL_law_1058.2.2.2.2.2.2.1
theorem dL_law_1071 : decode cL_law 1071 = .ok (.istore 5, 2) := kdL_law_1058.2.2.2.2.2.2.2.1
theorem dL_law_1073 : decode cL_law 1073 = .ok (.aload_n 2, 1) := kdL_law_1058.2.2.2.2.2.2.2.2.1
theorem dL_law_1074 : decode cL_law 1074 = .ok (.aload_n 0, 1) := kdL_law_1058.2.2.2.2.2.2.2.2.2.1
theorem dL_law_1075 : decode cL_law 1075 = .ok (.iload 4, 2) := kdL_law_1058.2.2.2.2.2.2.2.2.2.2.1
theorem dL_law_1077 : decode cL_law 1077 = .ok (.iconst 1, 1) := kdL_law_1058.2.2.2.2.2.2.2.2.2.2.2.1
theorem dL_law_1078 : decode cL_law 1078 = .ok (.iadd, 1) := kdL_law_1058.2.2.2.2.2.2.2.2.2.2.2.2.1
theorem dL_law_1079 : decode cL_law 1079 = .ok (.iaload, 1) := kdL_law_1058.2.2.2.2.2.2.2.2.2.2.2.2.2.1
theorem dL_law_1080 : decode cL_law 1080 = .ok (.aload_n 0, 1) := kdL_law_1058.2.2.2.2.2.2.2.2.2.2.2.2.2.2.1
theorem dL_law_1081 : decode cL_law 1081 = .ok (.iload 4, 2) := kdL_law_1058.2.2.2.2.2.2.2.2.2.2.2.2.2.2.2.1
theorem dL_law_1083 : decode cL_law 1083 = .ok (.iconst 2, 1) := kdL_law_1058.2.2.2.2.2.2.2.2.2.2.2.2.2.2.2.2.1
theorem dL_law_1084 : decode cL_law 1084 = .ok (.iadd, 1) := kdL_law_1058.2.2.2.2.2.2.2.2.2.2.2.2.2.2.2.2.2.1
theorem dL_law_1085 : decode cL_law 1085 = .ok (.iaload, 1) := kdL_law_1058.2.2.2.2.2.2.2.2.2.2.2.2.2.2.2.2.2.2.1
theorem dL_law_1086 : decode cL_law 1086 = .ok (.aload_n 0, 1) := kdL_law_1058.2.2.2.2.2.2.2.2.2.2.2.2.2.2.2.2.2.2.2.1
theorem dL_law_1087 : decode cL_law 1087 = .ok (.iload 4, 2) := kdL_law_1058.2.2.2.2.2.2.2.2.2.2.2.2.2.2.2.2.2.2.2.2.1
theorem dL_law_1089 : decode cL_law 1089 = .ok (.iconst 3, 1) := kdL_law_1058.2.2.2.2.2.2.2.2.2.2.2.2.2.2.2.2.2.2.2.2.2.1
theorem dL_law_1090 : decode cL_law 1090 = .ok (.iadd, 1) := kdL_law_1058.2.2.2.2.2.2.2.2.2.2.2.2.2.2.2.2.2.2.2.2.2.2.1
theorem dL_law_1091 : decode cL_law 1091 = .ok (.iaload, 1) := kdL_law_1058.2.2.2.2.2.2.2.2.2.2.2.2.2.2.2.2.2.2.2.2.2.2.2
theorem kdL_law_1092 : (decode cL_law 1092 = .ok (.ifCond .eq 7, 3)) ∧ (decode cL_law 1095 = .ok (.iconst 1, 1)) ∧ (decode cL_law 1096 = .ok (.goto 4, 3)) ∧ (decode cL_law 1099 = .ok (.iconst 0, 1)) ∧ (decode cL_law 1100 = .ok (.invokevirtual 179, 3)) ∧ (decode cL_law 1103 = .ok (.istore 6, 2)) ∧ (decode cL_law 1105 = .ok (.goto 202, 3)) ∧ (decode cL_law 1108 = .ok (.aload_n 1, 1)) ∧ (decode cL_law 1109 = .ok (.aload_n 0, 1)) ∧ (decode cL_law 1110 = .ok (.iload 4, 2)) ∧ (decode cL_law 1112 = .ok (.iconst 1, 1)) ∧ (decode cL_law 1113 = .ok (.iadd, 1)) ∧ (decode cL_law 1114 = .ok (.iaload, 1)) ∧ (decode cL_law 1115 = .ok (.aload_n 3, 1)) ∧ (decode cL_law 1116 = .ok (.invokestatic 180, 3)) ∧ (decode cL_law 1119 = .ok (.istore 5, 2)) ∧ (decode cL_law 1121 = .ok (.aload_n 2, 1)) ∧ (decode cL_law 1122 = .ok (.aload_n 0, 1)) ∧ (decode cL_law 1123 = .ok (.iload 4, 2)) ∧ (decode cL_law 1125 = .ok (.iconst 1, 1)) ∧ (decode cL_law 1126 = .ok (.iadd, 1)) ∧ (decode cL_law 1127 = .ok (.iaload, 1)) ∧ (decode cL_law 1128 = .ok (.invokevirtual 182, 3)) ∧ (decode cL_law 1131 = .ok (.istore 6, 2)) := by decide +kernel
theorem dL_law_1092 : decode cL_law 1092 = .ok (.ifCond .eq 7, 3) := kdL_law_1092.1
theorem dL_law_1095 : decode cL_law 1095 = .ok (.iconst 1, 1) := kdL_law_1092.2.1
theorem dL_law_1096 : decode cL_law 1096 = .ok (.goto 4, 3) := kdL_law_1092.2.2.1
theorem dL_law_1099 : decode cL_law 1099 = .ok (.iconst 0, 1) := kdL_law_1092.2.2.2.1
theorem dL_law_1100 : decode cL_law 1100 = .ok (.invokevirtual 179, 3) := kdL_law_1092.2.2.2.2.1
theorem dL_law_1103 : decode cL_law 1103 = .ok (.istore 6, 2) := kdL_law_1092.2.2.2.2.2.1
theorem dL_law_1105 : decode cL_law 1105 = .ok (.goto 202, 3) := kdL_law_1092.2.2.2.2.2.2.1
theorem dL_law_1108 : decode cL_law 1108 = .ok (.aload_n 1, 1) := kdL_law_1092.2.2.2.2.2.2.2.1
theorem dL_law_1109 : decode cL_law 1109 = .ok (.aload_n 0, 1) := kdL_law_1092.2.2.2.2.2.2.2.2.1
theorem dL_law_1110 : decode cL_law 1110 = .ok (.iload 4, 2) := kdL_law_1092.2.2.2.2.2.2.2.2.2.1
theorem dL_law_1112 : decode cL_law 1112 = .ok (.iconst 1, 1) := kdL_law_1092.2.2.2.2.2.2.2.2.2.2.1
theorem dL_law_1113 : decode cL_law 1113 = .ok (.iadd, 1) := kdL_law_1092.2.2.2.2.2.2.2.2.2.2.2.1
theorem dL_law_1114 : decode cL_law 1114 = .ok (.iaload, 1) := kdL_law_1092.2.2.2.2.2.2.2.2.2.2.2.2.1
theorem dL_law_1115 : decode cL_law 1115 = .ok (.aload_n 3, 1) := kdL_law_1092.2.2.2.2.2.2.2.2.2.2.2.2.2.1
theorem dL_law_1116 : decode cL_law 1116 = .ok (.invokestatic 180, 3) := kdL_law_1092.2.2.2.2.2.2.2.2.2.2.2.2.2.2.1
theorem dL_law_1119 : decode cL_law 1119 = .ok (.istore 5, 2) := kdL_law_1092.2.2.2.2.2.2.2.2.2.2.2.2.2.2.2.1
theorem dL_law_1121 : decode cL_law 1121 = .ok (.aload_n 2, 1) := kdL_law_1092.2.2.2.2.2.2.2.2.2.2.2.2.2.2.2.2.1
theorem dL_law_1122 : decode cL_law 1122 = .ok (.aload_n 0, 1) := kdL_law_1092.2.2.2.2.2.2.2.2.2.2.2.2.2.2.2.2.2.1
theorem dL_law_1123 : decode cL_law 1123 = .ok (.iload 4, 2) := kdL_law_1092.2.2.2.2.2.2.2.2.2.2.2.2.2.2.2.2.2.2.1
theorem dL_law_1125 : decode cL_law 1125 = .ok (.iconst 1, 1) := kdL_law_1092.2.2.2.2.2.2.2.2.2.2.2.2.2.2.2.2.2.2.2.1
theorem dL_law_1126 : decode cL_law 1126 = .ok (.iadd, 1) := kdL_law_1092.2.2.2.2.2.2.2.2.2.2.2.2.2.2.2.2.2.2.2.2.1
theorem dL_law_1127 : decode cL_law 1127 = .ok (.iaload, 1) := kdL_law_1092.2.2.2.2.2.2.2.2.2.2.2.2.2.2.2.2.2.2.2.2.2.1
theorem dL_law_1128 : decode cL_law 1128 = .ok (.invokevirtual 182, 3) := kdL_law_1092.2.2.2.2.2.2.2.2.2.2.2.2.2.2.2.2.2.2.2.2.2.2.1
theorem dL_law_1131 : decode cL_law 1131 = .ok (.istore 6, 2) := kdL_law_1092.2.2.2.2.2.2.2.2.2.2.2.2.2.2.2.2.2.2.2.2.2.2.2
theorem kdL_law_1133 : (decode cL_law 1133 = .ok (.goto 174, 3)) ∧ (decode cL_law 1136 = .ok (.aload_n 1, 1)) ∧ (decode cL_law 1137 = .ok (.aload_n 0, 1)) ∧ (decode cL_law 1138 = .ok (.iload 4, 2)) ∧ (decode cL_law 1140 = .ok (.iconst 1, 1)) ∧ (decode cL_law 1141 = .ok (.iadd, 1)) ∧ (decode cL_law 1142 = .ok (.iaload, 1)) ∧ (decode cL_law 1143 = .ok (.aload_n 3, 1)) ∧ (decode cL_law 1144 = .ok (.invokestatic 183, 3)) ∧ (decode cL_law 1147 = .ok (.istore 5, 2)) ∧ (decode cL_law 1149 = .ok (.aload_n 2, 1)) ∧ (decode cL_law 1150 = .ok (.aload_n 0, 1)) ∧ (decode cL_law 1151 = .ok (.iload 4, 2)) ∧ (decode cL_law 1153 = .ok (.iconst 1, 1)) ∧ (decode cL_law 1154 = .ok (.iadd, 1)) ∧ (decode cL_law 1155 = .ok (.iaload, 1)) ∧ (decode cL_law 1156 = .ok (.invokevirtual 185, 3)) ∧ (decode cL_law 1159 = .ok (.istore 6, 2)) ∧ (decode cL_law 1161 = .ok (.goto 146, 3)) ∧ (decode cL_law 1164 = .ok (.aload_n 1, 1)) ∧ (decode cL_law 1165 = .ok (.aload_n 0, 1)) ∧ (decode cL_law 1166 = .ok (.iload 4, 2)) ∧ (decode cL_law 1168 = .ok (.iconst 1, 1)) ∧ (decode cL_law 1169 = .ok (.iadd, 1)) := by decide +kernel
theorem dL_law_1133 : decode cL_law 1133 = .ok (.goto 174, 3) := kdL_law_1133.1
theorem dL_law_1136 : decode cL_law 1136 = .ok (.aload_n 1, 1) := kdL_law_1133.2.1
theorem dL_law_1137 : decode cL_law 1137 = .ok (.aload_n 0, 1) := kdL_law_1133.2.2.1
theorem dL_law_1138 : decode cL_law 1138 = .ok (.iload 4, 2) := kdL_law_1133.2.2.2.1
theorem dL_law_1140 : decode cL_law 1140 = .ok (.iconst 1, 1) := kdL_law_1133.2.2.2.2.1
theorem dL_law_1141 : decode cL_law 1141 = .ok (.iadd, 1) := kdL_law_1133.2.2.2.2.2.1
theorem dL_law_1142 : decode cL_law 1142 = .ok (.iaload, 1) := kdL_law_1133.2.2.2.2.2.2.1
theorem dL_law_1143 : decode cL_law 1143 = .ok (.aload_n 3, 1) := kdL_law_1133.2.2.2.2.2.2.2.1
theorem dL_law_1144 : decode cL_law 1144 = .ok (.invokestatic 183, 3) := kdL_law_1133.2.2.2.2.2.2.2.2.1
theorem dL_law_1147 : decode cL_law 1147 = .ok (.istore 5, 2) := kdL_law_1133.2.2.2.2.2.2.2.2.2.1
theorem dL_law_1149 : decode cL_law 1149 = .ok (.aload_n 2, 1) := kdL_law_1133.2.2.2.2.2.2.2.2.2.2.1
theorem dL_law_1150 : decode cL_law 1150 = .ok (.aload_n 0, 1) := kdL_law_1133.2.2.2.2.2.2.2.2.2.2.2.1
theorem dL_law_1151 : decode cL_law 1151 = .ok (.iload 4, 2) := kdL_law_1133.2.2.2.2.2.2.2.2.2.2.2.2.1
theorem dL_law_1153 : decode cL_law 1153 = .ok (.iconst 1, 1) := kdL_law_1133.2.2.2.2.2.2.2.2.2.2.2.2.2.1
theorem dL_law_1154 : decode cL_law 1154 = .ok (.iadd, 1) := kdL_law_1133.2.2.2.2.2.2.2.2.2.2.2.2.2.2.1
theorem dL_law_1155 : decode cL_law 1155 = .ok (.iaload, 1) := kdL_law_1133.2.2.2.2.2.2.2.2.2.2.2.2.2.2.2.1
theorem dL_law_1156 : decode cL_law 1156 = .ok (.invokevirtual 185, 3) := kdL_law_1133.2.2.2.2.2.2.2.2.2.2.2.2.2.2.2.2.1
theorem dL_law_1159 : decode cL_law 1159 = .ok (.istore 6, 2) := kdL_law_1133.2.2.2.2.2.2.2.2.2.2.2.2.2.2.2.2.2.1
theorem dL_law_1161 : decode cL_law 1161 = .ok (.goto 146, 3) := kdL_law_1133.2.2.2.2.2.2.2.2.2.2.2.2.2.2.2.2.2.2.1
theorem dL_law_1164 : decode cL_law 1164 = .ok (.aload_n 1, 1) := kdL_law_1133.2.2.2.2.2.2.2.2.2.2.2.2.2.2.2.2.2.2.2.1
theorem dL_law_1165 : decode cL_law 1165 = .ok (.aload_n 0, 1) := kdL_law_1133.2.2.2.2.2.2.2.2.2.2.2.2.2.2.2.2.2.2.2.2.1
theorem dL_law_1166 : decode cL_law 1166 = .ok (.iload 4, 2) := kdL_law_1133.2.2.2.2.2.2.2.2.2.2.2.2.2.2.2.2.2.2.2.2.2.1
theorem dL_law_1168 : decode cL_law 1168 = .ok (.iconst 1, 1) := kdL_law_1133.2.2.2.2.2.2.2.2.2.2.2.2.2.2.2.2.2.2.2.2.2.2.1
theorem dL_law_1169 : decode cL_law 1169 = .ok (.iadd, 1) := kdL_law_1133.2.2.2.2.2.2.2.2.2.2.2.2.2.2.2.2.2.2.2.2.2.2.2
theorem kdL_law_1170 : (decode cL_law 1170 = .ok (.iaload, 1)) ∧ (decode cL_law 1171 = .ok (.invokevirtual 186, 3)) ∧ (decode cL_law 1174 = .ok (.pop, 1)) ∧ (decode cL_law 1175 = .ok (.aload_n 2, 1)) ∧ (decode cL_law 1176 = .ok (.aload_n 0, 1)) ∧ (decode cL_law 1177 = .ok (.iload 4, 2)) ∧ (decode cL_law 1179 = .ok (.iconst 1, 1)) ∧ (decode cL_law 1180 = .ok (.iadd, 1)) ∧ (decode cL_law 1181 = .ok (.iaload, 1)) ∧ (decode cL_law 1182 = .ok (.invokevirtual 189, 3)) ∧ (decode cL_law 1185 = .ok (.pop, 1)) ∧ (decode cL_law 1186 = .ok (.goto 121, 3)) ∧ (decode cL_law 1189 = .ok (.aload_n 1, 1)) ∧ (decode cL_law 1190 = .ok (.aload_n 0, 1)) ∧ (decode cL_law 1191 = .ok (.iload 4, 2)) ∧ (decode cL_law 1193 = .ok (.iconst 1, 1)) ∧ (decode cL_law 1194 = .ok (.iadd, 1)) ∧ (decode cL_law 1195 = .ok (.iaload, 1)) ∧ (decode cL_law 1196 = .ok (.aload_n 0, 1)) ∧ (decode cL_law 1197 = .ok (.iload 4, 2)) ∧ (decode cL_law 1199 = .ok (.iconst 2, 1)) ∧ (decode cL_law 1200 = .ok (.iadd, 1)) ∧ (decode cL_law 1201 = .ok (.iaload, 1)) ∧ (decode cL_law 1202 = .ok (.ifCond .eq 7, 3)) := by decide +kernel
theorem dL_law_1170 : decode cL_law 1170 = .ok (.iaload, 1) := kdL_law_1170.1
theorem dL_law_1171 : decode cL_law 1171 = .ok (.invokevirtual 186, 3) := kdL_law_1170.2.1
theorem dL_law_1174 : decode cL_law 1174 = .ok (.pop, 1) := kdL_law_1170.2.2.1
theorem dL_law_1175 : decode cL_law 1175 = .ok (.aload_n 2, 1) := kdL_law_1170.2.2.2.1
theorem dL_law_1176 : decode cL_law 1176 = .ok (.aload_n 0, 1) := kdL_law_1170.2.2.2.2.1
theorem dL_law_1177 : decode cL_law 1177 = .ok (.iload 4, 2) := kdL_law_1170.2.2.2.2.2.1
theorem dL_law_1179 : decode cL_law 1179 = .ok (.iconst 1, 1) := kdL_law_1170.2.2.2.2.2.2.1
theorem dL_law_1180 : decode cL_law 1180 = .ok (.iadd, 1) := kdL_law_1170.2.2.2.2.2.2.2.1
theorem dL_law_1181 : decode cL_law 1181 = .ok (.iaload, 1) := kdL_law_1170.2.2.2.2.2.2.2.2.1
theorem dL_law_1182 : decode cL_law 1182 = .ok (.invokevirtual 189, 3) := kdL_law_1170.2.2.2.2.2.2.2.2.2.1
theorem dL_law_1185 : decode cL_law 1185 = .ok (.pop, 1) := kdL_law_1170.2.2.2.2.2.2.2.2.2.2.1
theorem dL_law_1186 : decode cL_law 1186 = .ok (.goto 121, 3) := kdL_law_1170.2.2.2.2.2.2.2.2.2.2.2.1
theorem dL_law_1189 : decode cL_law 1189 = .ok (.aload_n 1, 1) := kdL_law_1170.2.2.2.2.2.2.2.2.2.2.2.2.1
theorem dL_law_1190 : decode cL_law 1190 = .ok (.aload_n 0, 1) := kdL_law_1170.2.2.2.2.2.2.2.2.2.2.2.2.2.1
theorem dL_law_1191 : decode cL_law 1191 = .ok (.iload 4, 2) := kdL_law_1170.2.2.2.2.2.2.2.2.2.2.2.2.2.2.1
theorem dL_law_1193 : decode cL_law 1193 = .ok (.iconst 1, 1) := kdL_law_1170.2.2.2.2.2.2.2.2.2.2.2.2.2.2.2.1
theorem dL_law_1194 : decode cL_law 1194 = .ok (.iadd, 1) := kdL_law_1170.2.2.2.2.2.2.2.2.2.2.2.2.2.2.2.2.1
theorem dL_law_1195 : decode cL_law 1195 = .ok (.iaload, 1) := kdL_law_1170.2.2.2.2.2.2.2.2.2.2.2.2.2.2.2.2.2.1
theorem dL_law_1196 : decode cL_law 1196 = .ok (.aload_n 0, 1) := kdL_law_1170.2.2.2.2.2.2.2.2.2.2.2.2.2.2.2.2.2.2.1
theorem dL_law_1197 : decode cL_law 1197 = .ok (.iload 4, 2) := kdL_law_1170.2.2.2.2.2.2.2.2.2.2.2.2.2.2.2.2.2.2.2.1
theorem dL_law_1199 : decode cL_law 1199 = .ok (.iconst 2, 1) := kdL_law_1170.2.2.2.2.2.2.2.2.2.2.2.2.2.2.2.2.2.2.2.2.1
theorem dL_law_1200 : decode cL_law 1200 = .ok (.iadd, 1) := kdL_law_1170.2.2.2.2.2.2.2.2.2.2.2.2.2.2.2.2.2.2.2.2.2.1
theorem dL_law_1201 : decode cL_law 1201 = .ok (.iaload, 1) := kdL_law_1170.2.2.2.2.2.2.2.2.2.2.2.2.2.2.2.2.2.2.2.2.2.2.1
theorem dL_law_1202 : decode cL_law 1202 = .ok (.ifCond .eq 7, 3) := kdL_law_1170.2.2.2.2.2.2.2.2.2.2.2.2.2.2.2.2.2.2.2.2.2.2.2
theorem kdL_law_1205 : (decode cL_law 1205 = .ok (.iconst 1, 1)) ∧ (decode cL_law 1206 = .ok (.goto 4, 3)) ∧ (decode cL_law 1209 = .ok (.iconst 0, 1)) ∧ (decode cL_law 1210 = .ok (.aload_n 0, 1)) ∧ (decode cL_law 1211 = .ok (.iload 4, 2)) ∧ (decode cL_law 1213 = .ok (.iconst 3, 1)) ∧ (decode cL_law 1214 = .ok (.iadd, 1)) ∧ (decode cL_law 1215 = .ok (.iaload, 1)) ∧ (decode cL_law 1216 = .ok (.aload_n 3, 1)) ∧ (decode cL_law 1217 = .ok (.invokestatic 190, 3)) ∧ (decode cL_law 1220 = .ok (.istore 5, 2)) ∧ (decode cL_law 1222 = .ok (.aload_n 2, 1)) ∧ (decode cL_law 1223 = .ok (.aload_n 0, 1)) ∧ (decode cL_law 1224 = .ok (.iload 4, 2)) ∧ (decode cL_law 1226 = .ok (.iconst 1, 1)) ∧ (decode cL_law 1227 = .ok (.iadd, 1)) ∧ (decode cL_law 1228 = .ok (.iaload, 1)) ∧ (decode cL_law 1229 = .ok (.aload_n 0, 1)) ∧ (decode cL_law 1230 = .ok (.iload 4, 2)) ∧ (decode cL_law 1232 = .ok (.iconst 2, 1)) ∧ (decode cL_law 1233 = .ok (.iadd, 1)) ∧ (decode cL_law 1234 = .ok (.iaload, 1)) ∧ (decode cL_law 1235 = .ok (.ifCond .eq 7, 3)) ∧ (decode cL_law 1238 = .ok (.iconst 1, 1)) := by decide +kernel
theorem dL_law_1205 : decode cL_law 1205 = .ok (.iconst 1, 1) := kdL_law_1205.1
theorem dL_law_1206 : decode cL_law 1206 = .ok (.goto 4, 3) := kdL_law_1205.2.1
theorem dL_law_1209 : decode cL_law 1209 = .ok (.iconst 0, 1) := kdL_law_1205.2.2.1
theorem dL_law_1210 : decode cL_law 1210 = .ok (.aload_n 0, 1) := kdL_law_1205.2.2.2.1
theorem dL_law_1211 : decode cL_law 1211 = .ok (.iload 4, 2) := kdL_law_1205.2.2.2.2.1
theorem dL_law_1213 : decode cL_law 1213 = .ok (.iconst 3, 1) := kdL_law_1205.2.2.2.2.2.1
theorem dL_law_1214 : decode cL_law 1214 = .ok (.iadd, 1) := kdL_law_1205.2.2.2.2.2.2.1
theorem dL_law_1215 : decode cL_law 1215 = .ok (.iaload, 1) := kdL_law_1205.2.2.2.2.2.2.2.1
theorem dL_law_1216 : decode cL_law 1216 = .ok (.aload_n 3, 1) := kdL_law_1205.2.2.2.2.2.2.2.2.1
theorem dL_law_1217 : decode cL_law 1217 = .ok (.invokestatic 190, 3) := kdL_law_1205.2.2.2.2.2.2.2.2.2.1
theorem dL_law_1220 : decode cL_law 1220 = .ok (.istore 5, 2) := kdL_law_1205.2.2.2.2.2.2.2.2.2.2.1
theorem dL_law_1222 : decode cL_law 1222 = .ok (.aload_n 2, 1) := kdL_law_1205.2.2.2.2.2.2.2.2.2.2.2.1
theorem dL_law_1223 : decode cL_law 1223 = .ok (.aload_n 0, 1) := kdL_law_1205.2.2.2.2.2.2.2.2.2.2.2.2.1
theorem dL_law_1224 : decode cL_law 1224 = .ok (.iload 4, 2) := kdL_law_1205.2.2.2.2.2.2.2.2.2.2.2.2.2.1
theorem dL_law_1226 : decode cL_law 1226 = .ok (.iconst 1, 1) := kdL_law_1205.2.2.2.2.2.2.2.2.2.2.2.2.2.2.1
theorem dL_law_1227 : decode cL_law 1227 = .ok (.iadd, 1) := kdL_law_1205.2.2.2.2.2.2.2.2.2.2.2.2.2.2.2.1
theorem dL_law_1228 : decode cL_law 1228 = .ok (.iaload, 1) := kdL_law_1205.2.2.2.2.2.2.2.2.2.2.2.2.2.2.2.2.1
theorem dL_law_1229 : decode cL_law 1229 = .ok (.aload_n 0, 1) := kdL_law_1205.2.2.2.2.2.2.2.2.2.2.2.2.2.2.2.2.2.1
theorem dL_law_1230 : decode cL_law 1230 = .ok (.iload 4, 2) := kdL_law_1205.2.2.2.2.2.2.2.2.2.2.2.2.2.2.2.2.2.2.1
theorem dL_law_1232 : decode cL_law 1232 = .ok (.iconst 2, 1) := kdL_law_1205.2.2.2.2.2.2.2.2.2.2.2.2.2.2.2.2.2.2.2.1
theorem dL_law_1233 : decode cL_law 1233 = .ok (.iadd, 1) := kdL_law_1205.2.2.2.2.2.2.2.2.2.2.2.2.2.2.2.2.2.2.2.2.1
theorem dL_law_1234 : decode cL_law 1234 = .ok (.iaload, 1) := kdL_law_1205.2.2.2.2.2.2.2.2.2.2.2.2.2.2.2.2.2.2.2.2.2.1
theorem dL_law_1235 : decode cL_law 1235 = .ok (.ifCond .eq 7, 3) := kdL_law_1205.2.2.2.2.2.2.2.2.2.2.2.2.2.2.2.2.2.2.2.2.2.2.1
theorem dL_law_1238 : decode cL_law 1238 = .ok (.iconst 1, 1) := kdL_law_1205.2.2.2.2.2.2.2.2.2.2.2.2.2.2.2.2.2.2.2.2.2.2.2
theorem kdL_law_1239 : (decode cL_law 1239 = .ok (.goto 4, 3)) ∧ (decode cL_law 1242 = .ok (.iconst 0, 1)) ∧ (decode cL_law 1243 = .ok (.aload_n 0, 1)) ∧ (decode cL_law 1244 = .ok (.iload 4, 2)) ∧ (decode cL_law 1246 = .ok (.iconst 3, 1)) ∧ (decode cL_law 1247 = .ok (.iadd, 1)) ∧ (decode cL_law 1248 = .ok (.iaload, 1)) ∧ (decode cL_law 1249 = .ok (.invokevirtual 193, 3)) ∧ (decode cL_law 1252 = .ok (.istore 6, 2)) ∧ (decode cL_law 1254 = .ok (.goto 53, 3)) ∧ (decode cL_law 1257 = .ok (.aload_n 1, 1)) ∧ (decode cL_law 1258 = .ok (.aload_n 0, 1)) ∧ (decode cL_law 1259 = .ok (.iload 4, 2)) ∧ (decode cL_law 1261 = .ok (.iconst 1, 1)) ∧ (decode cL_law 1262 = .ok (.iadd, 1)) ∧ (decode cL_law 1263 = .ok (.iaload, 1)) ∧ (decode cL_law 1264 = .ok (.invokevirtual 194, 3)) ∧ (decode cL_law 1267 = .ok (.pop, 1)) ∧ (decode cL_law 1268 = .ok (.aload_n 2, 1)) ∧ (decode cL_law 1269 = .ok (.aload_n 0, 1)) ∧ (decode cL_law 1270 = .ok (.iload 4, 2)) ∧ (decode cL_law 1272 = .ok (.iconst 1, 1)) ∧ (decode cL_law 1273 = .ok (.iadd, 1)) ∧ (decode cL_law 1274 = .ok (.iaload, 1)) := by decide +kernel
theorem dL_law_1239 : decode cL_law 1239 = .ok (.goto 4, 3) := kdL_law_1239.1
theorem dL_law_1242 : decode cL_law 1242 = .ok (.iconst 0, 1) := kdL_law_1239.2.1
theorem dL_law_1243 : decode cL_law 1243 = .ok (.aload_n 0, 1) := kdL_law_1239.2.2.1
theorem dL_law_1244 : decode cL_law 1244 = .ok (.iload 4, 2) := kdL_law_1239.2.2.2.1
theorem dL_law_1246 : decode cL_law 1246 = .ok (.iconst 3, 1) := kdL_law_1239.2.2.2.2.1
theorem dL_law_1247 : decode cL_law 1247 = .ok (.iadd, 1) := kdL_law_1239.2.2.2.2.2.1
theorem dL_law_1248 : decode cL_law 1248 = .ok (.iaload, 1) := kdL_law_1239.2.2.2.2.2.2.1
theorem dL_law_1249 : decode cL_law 1249 = .ok (.invokevirtual 193, 3) := kdL_law_1239.2.2.2.2.2.2.2.1
theorem dL_law_1252 : decode cL_law 1252 = .ok (.istore 6, 2) := kdL_law_1239.2.2.2.2.2.2.2.2.1
theorem dL_law_1254 : decode cL_law 1254 = .ok (.goto 53, 3) := kdL_law_1239.2.2.2.2.2.2.2.2.2.1
theorem dL_law_1257 : decode cL_law 1257 = .ok (.aload_n 1, 1) := kdL_law_1239.2.2.2.2.2.2.2.2.2.2.1
theorem dL_law_1258 : decode cL_law 1258 = .ok (.aload_n 0, 1) := kdL_law_1239.2.2.2.2.2.2.2.2.2.2.2.1
theorem dL_law_1259 : decode cL_law 1259 = .ok (.iload 4, 2) := kdL_law_1239.2.2.2.2.2.2.2.2.2.2.2.2.1
theorem dL_law_1261 : decode cL_law 1261 = .ok (.iconst 1, 1) := kdL_law_1239.2.2.2.2.2.2.2.2.2.2.2.2.2.1
theorem dL_law_1262 : decode cL_law 1262 = .ok (.iadd, 1) := kdL_law_1239.2.2.2.2.2.2.2.2.2.2.2.2.2.2.1
theorem dL_law_1263 : decode cL_law 1263 = .ok (.iaload, 1) := kdL_law_1239.2.2.2.2.2.2.2.2.2.2.2.2.2.2.2.1
theorem dL_law_1264 : decode cL_law 1264 = .ok (.invokevirtual 194, 3) := kdL_law_1239.2.2.2.2.2.2.2.2.2.2.2.2.2.2.2.2.1
theorem dL_law_1267 : decode cL_law 1267 = .ok (.pop, 1) := kdL_law_1239.2.2.2.2.2.2.2.2.2.2.2.2.2.2.2.2.2.1
theorem dL_law_1268 : decode cL_law 1268 = .ok (.aload_n 2, 1) := kdL_law_1239.2.2.2.2.2.2.2.2.2.2.2.2.2.2.2.2.2.2.1
theorem dL_law_1269 : decode cL_law 1269 = .ok (.aload_n 0, 1) := kdL_law_1239.2.2.2.2.2.2.2.2.2.2.2.2.2.2.2.2.2.2.2.1
theorem dL_law_1270 : decode cL_law 1270 = .ok (.iload 4, 2) := kdL_law_1239.2.2.2.2.2.2.2.2.2.2.2.2.2.2.2.2.2.2.2.2.1
theorem dL_law_1272 : decode cL_law 1272 = .ok (.iconst 1, 1) := kdL_law_1239.2.2.2.2.2.2.2.2.2.2.2.2.2.2.2.2.2.2.2.2.2.1
theorem dL_law_1273 : decode cL_law 1273 = .ok (.iadd, 1) := kdL_law_1239.2.2.2.2.2.2.2.2.2.2.2.2.2.2.2.2.2.2.2.2.2.2.1
theorem dL_law_1274 : decode cL_law 1274 = .ok (.iaload, 1) := kdL_law_1239.2.2.2.2.2.2.2.2.2.2.2.2.2.2.2.2.2.2.2.2.2.2.2
theorem kdL_law_1275 : (decode cL_law 1275 = .ok (.invokevirtual 197, 3)) ∧ (decode cL_law 1278 = .ok (.pop, 1)) ∧ (decode cL_law 1279 = .ok (.goto 28, 3)) ∧ (decode cL_law 1282 = .ok (.aload_n 1, 1)) ∧ (decode cL_law 1283 = .ok (.aload_n 0, 1)) ∧ (decode cL_law 1284 = .ok (.iload 4, 2)) ∧ (decode cL_law 1286 = .ok (.iconst 1, 1)) ∧ (decode cL_law 1287 = .ok (.iadd, 1)) ∧ (decode cL_law 1288 = .ok (.iaload, 1)) ∧ (decode cL_law 1289 = .ok (.invokevirtual 198, 3)) ∧ (decode cL_law 1292 = .ok (.pop, 1)) ∧ (decode cL_law 1293 = .ok (.aload_n 2, 1)) ∧ (decode cL_law 1294 = .ok (.aload_n 0, 1)) ∧ (decode cL_law 1295 = .ok (.iload 4, 2)) ∧ (decode cL_law 1297 = .ok (.iconst 1, 1)) ∧ (decode cL_law 1298 = .ok (.iadd, 1)) ∧ (decode cL_law 1299 = .ok (.iaload, 1)) ∧ (decode cL_law 1300 = .ok (.invokevirtual 201, 3)) ∧ (decode cL_law 1303 = .ok (.pop, 1)) ∧ (decode cL_law 1304 = .ok (.goto 3, 3)) ∧ (decode cL_law 1307 = .ok (.iinc 4 6, 3)) ∧ (decode cL_law 1310 = .ok (.goto (-1287), 3)) ∧ (decode cL_law 1313 = .ok (.iconst 1, 1)) ∧ (decode cL_law 1314 = .ok (.ireturn, 1)) := by decide +kernel
theorem dL_law_1275 : decode cL_law 1275 = .ok (.invokevirtual 197, 3) := kdL_law_1275.1
theorem dL_law_1278 : decode cL_law 1278 = .ok (.pop, 1) := kdL_law_1275.2.1
theorem dL_law_1279 : decode cL_law 1279 = .ok (.goto 28, 3) := kdL_law_1275.2.2.1
theorem dL_law_1282 : decode cL_law 1282 = .ok (.aload_n 1, 1) := kdL_law_1275.2.2.2.1
theorem dL_law_1283 : decode cL_law 1283 = .ok (.aload_n 0, 1) := kdL_law_1275.2.2.2.2.1
theorem dL_law_1284 : decode cL_law 1284 = .ok (.iload 4, 2) := kdL_law_1275.2.2.2.2.2.1
theorem dL_law_1286 : decode cL_law 1286 = .ok (.iconst 1, 1) := kdL_law_1275.2.2.2.2.2.2.1
theorem dL_law_1287 : decode cL_law 1287 = .ok (.iadd, 1) := kdL_law_1275.2.2.2.2.2.2.2.1
theorem dL_law_1288 : decode cL_law 1288 = .ok (.iaload, 1) := kdL_law_1275.2.2.2.2.2.2.2.2.1
theorem dL_law_1289 : decode cL_law 1289 = .ok (.invokevirtual 198, 3) := kdL_law_1275.2.2.2.2.2.2.2.2.2.1
theorem dL_law_1292 : decode cL_law 1292 = .ok (.pop, 1) := kdL_law_1275.2.2.2.2.2.2.2.2.2.2.1
theorem dL_law_1293 : decode cL_law 1293 = .ok (.aload_n 2, 1) := kdL_law_1275.2.2.2.2.2.2.2.2.2.2.2.1
theorem dL_law_1294 : decode cL_law 1294 = .ok (.aload_n 0, 1) := kdL_law_1275.2.2.2.2.2.2.2.2.2.2.2.2.1
theorem dL_law_1295 : decode cL_law 1295 = .ok (.iload 4, 2) := kdL_law_1275.2.2.2.2.2.2.2.2.2.2.2.2.2.1
theorem dL_law_1297 : decode cL_law 1297 = .ok (.iconst 1, 1) := kdL_law_1275.2.2.2.2.2.2.2.2.2.2.2.2.2.2.1
theorem dL_law_1298 : decode cL_law 1298 = .ok (.iadd, 1) := kdL_law_1275.2.2.2.2.2.2.2.2.2.2.2.2.2.2.2.1
theorem dL_law_1299 : decode cL_law 1299 = .ok (.iaload, 1) := kdL_law_1275.2.2.2.2.2.2.2.2.2.2.2.2.2.2.2.2.1
theorem dL_law_1300 : decode cL_law 1300 = .ok (.invokevirtual 201, 3) := kdL_law_1275.2.2.2.2.2.2.2.2.2.2.2.2.2.2.2.2.2.1
theorem dL_law_1303 : decode cL_law 1303 = .ok (.pop, 1) := kdL_law_1275.2.2.2.2.2.2.2.2.2.2.2.2.2.2.2.2.2.2.1
theorem dL_law_1304 : decode cL_law 1304 = .ok (.goto 3, 3) := kdL_law_1275.2.2.2.2.2.2.2.2.2.2.2.2.2.2.2.2.2.2.2.1
theorem dL_law_1307 : decode cL_law 1307 = .ok (.iinc 4 6, 3) := kdL_law_1275.2.2.2.2.2.2.2.2.2.2.2.2.2.2.2.2.2.2.2.2.1
theorem dL_law_1310 : decode cL_law 1310 = .ok (.goto (-1287), 3) := kdL_law_1275.2.2.2.2.2.2.2.2.2.2.2.2.2.2.2.2.2.2.2.2.2.1
theorem dL_law_1313 : decode cL_law 1313 = .ok (.iconst 1, 1) := kdL_law_1275.2.2.2.2.2.2.2.2.2.2.2.2.2.2.2.2.2.2.2.2.2.2.1
theorem dL_law_1314 : decode cL_law 1314 = .ok (.ireturn, 1) := kdL_law_1275.2.2.2.2.2.2.2.2.2.2.2.2.2.2.2.2.2.2.2.2.2.2.2
