theorem d_Law_law_206 : decode k_Law_law 206 = .ok (.i2l, 1) := by decide +kernel
theorem d_Law_law_207 : decode k_Law_law 207 = .ok (.lcmp, 1) := by decide +kernel
theorem d_Law_law_208 : decode k_Law_law 208 = .ok (.ifCond .eq 5, 3) := by decide +kernel
theorem d_Law_law_211 : decode k_Law_law 211 = .ok (.iconst 0, 1) := by decide +kernel
theorem d_Law_law_212 : decode k_Law_law 212 = .ok (.ireturn, 1) := by decide +kernel
theorem d_Law_law_213 : decode k_Law_law 213 = .ok (.goto 456, 3) := by decide +kernel
theorem d_Law_law_216 : decode k_Law_law 216 = .ok (.aload_n 1, 1) := by decide +kernel
theorem d_Law_law_217 : decode k_Law_law 217 = .ok (.aload_n 0, 1) := by decide +kernel
theorem d_Law_law_218 : decode k_Law_law 218 = .ok (.iload 4, 2) := by decide +kernel
theorem d_Law_law_220 : decode k_Law_law 220 = .ok (.iconst 1, 1) := by decide +kernel
theorem d_Law_law_221 : decode k_Law_law 221 = .ok (.iadd, 1) := by decide +kernel
theorem d_Law_law_222 : decode k_Law_law 222 = .ok (.iaload, 1) := by decide +kernel
theorem d_Law_law_223 : decode k_Law_law 223 = .ok (.aload_n 0, 1) := by decide +kernel
theorem d_Law_law_224 : decode k_Law_law 224 = .ok (.iload 4, 2) := by decide +kernel
theorem d_Law_law_226 : decode k_Law_law 226 = .ok (.iconst 2, 1) := by decide +kernel
theorem d_Law_law_227 : decode k_Law_law 227 = .ok (.iadd, 1) := by decide +kernel
theorem d_Law_law_228 : decode k_Law_law 228 = .ok (.iaload, 1) := by decide +kernel
theorem d_Law_law_229 : decode k_Law_law 229 = .ok (.aload_n 3, 1) := by decide +kernel
theorem d_Law_law_230 : decode k_Law_law 230 = .ok (.invokestatic 66, 3) := by decide +kernel
theorem d_Law_law_233 : decode k_Law_law 233 = .ok (.istore 5, 2) := by decide +kernel
theorem d_Law_law_235 : decode k_Law_law 235 = .ok (.aload_n 2, 1) := by decide +kernel
theorem d_Law_law_236 : decode k_Law_law 236 = .ok (.aload_n 0, 1) := by decide +kernel
theorem d_Law_law_237 : decode k_Law_law 237 = .ok (.iload 4, 2) := by decide +kernel
theorem d_Law_law_239 : decode k_Law_law 239 = .ok (.iconst 1, 1) := by decide +kernel
theorem d_Law_law_240 : decode k_Law_law 240 = .ok (.iadd, 1) := by decide +kernel
theorem d_Law_law_241 : decode k_Law_law 241 = .ok (.iaload, 1) := by decide +kernel
theorem d_Law_law_242 : decode k_Law_law 242 = .ok (.aload_n 0, 1) := by decide +kernel
theorem d_Law_law_243 : decode k_Law_law 243 = .ok (.iload 4, 2) := by decide +kernel
theorem d_Law_law_245 : decode k_Law_law 245 = .ok (.iconst 2, 1) := by decide +kernel
theorem d_Law_law_246 : decode k_Law_law 246 = .ok (.iadd, 1) := by decide +kernel
theorem d_Law_law_247 : decode k_Law_law 247 = .ok (.iaload, 1) := by decide +kernel
theorem d_Law_law_248 : decode k_Law_law 248 = .ok (.invokevirtual 69, 3) := by decide +kernel
theorem d_Law_law_251 : decode k_Law_law 251 = .ok (.istore 6, 2) := by decide +kernel
theorem d_Law_law_253 : decode k_Law_law 253 = .ok (.aload_n 2, 1) := by decide +kernel
theorem d_Law_law_254 : decode k_Law_law 254 = .ok (.invokevirtual 63, 3) := by decide +kernel
theorem d_Law_law_257 : decode k_Law_law 257 = .ok (.iload 5, 2) := by decide +kernel
theorem d_Law_law_259 : decode k_Law_law 259 = .ok (.if_icmp .eq 5, 3) := by decide +kernel
theorem d_Law_law_262 : decode k_Law_law 262 = .ok (.iconst 0, 1) := by decide +kernel
theorem d_Law_law_263 : decode k_Law_law 263 = .ok (.ireturn, 1) := by decide +kernel
theorem d_Law_law_264 : decode k_Law_law 264 = .ok (.iload 5, 2) := by decide +kernel
theorem d_Law_law_266 : decode k_Law_law 266 = .ok (.ifCond .ne 15, 3) := by decide +kernel
theorem d_Law_law_269 : decode k_Law_law 269 = .ok (.aload_n 3, 1) := by decide +kernel
theorem d_Law_law_270 : decode k_Law_law 270 = .ok (.iconst 0, 1) := by decide +kernel
theorem d_Law_law_271 : decode k_Law_law 271 = .ok (.laload, 1) := by decide +kernel
theorem d_Law_law_272 : decode k_Law_law 272 = .ok (.iload 6, 2) := by decide +kernel
theorem d_Law_law_274 : decode k_Law_law 274 = .ok (.i2l, 1) := by decide +kernel
theorem d_Law_law_275 : decode k_Law_law 275 = .ok (.lcmp, 1) := by decide +kernel
theorem d_Law_law_276 : decode k_Law_law 276 = .ok (.ifCond .eq 5, 3) := by decide +kernel
theorem d_Law_law_279 : decode k_Law_law 279 = .ok (.iconst 0, 1) := by decide +kernel
theorem d_Law_law_280 : decode k_Law_law 280 = .ok (.ireturn, 1) := by decide +kernel
