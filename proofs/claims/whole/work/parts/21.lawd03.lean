theorem d_Law_law_281 : decode k_Law_law 281 = .ok (.goto 388, 3) := by decide +kernel
theorem d_Law_law_284 : decode k_Law_law 284 = .ok (.aload_n 1, 1) := by decide +kernel
theorem d_Law_law_285 : decode k_Law_law 285 = .ok (.invokevirtual 70, 3) := by decide +kernel
theorem d_Law_law_288 : decode k_Law_law 288 = .ok (.aload_n 2, 1) := by decide +kernel
theorem d_Law_law_289 : decode k_Law_law 289 = .ok (.invokevirtual 73, 3) := by decide +kernel
theorem d_Law_law_292 : decode k_Law_law 292 = .ok (.if_icmp .eq 377, 3) := by decide +kernel
theorem d_Law_law_295 : decode k_Law_law 295 = .ok (.iconst 0, 1) := by decide +kernel
theorem d_Law_law_296 : decode k_Law_law 296 = .ok (.ireturn, 1) := by decide +kernel
theorem d_Law_law_297 : decode k_Law_law 297 = .ok (.aload_n 1, 1) := by decide +kernel
theorem d_Law_law_298 : decode k_Law_law 298 = .ok (.aload_n 0, 1) := by decide +kernel
theorem d_Law_law_299 : decode k_Law_law 299 = .ok (.iload 4, 2) := by decide +kernel
theorem d_Law_law_301 : decode k_Law_law 301 = .ok (.iconst 1, 1) := by decide +kernel
theorem d_Law_law_302 : decode k_Law_law 302 = .ok (.iadd, 1) := by decide +kernel
theorem d_Law_law_303 : decode k_Law_law 303 = .ok (.iaload, 1) := by decide +kernel
theorem d_Law_law_304 : decode k_Law_law 304 = .ok (.aload_n 0, 1) := by decide +kernel
theorem d_Law_law_305 : decode k_Law_law 305 = .ok (.iload 4, 2) := by decide +kernel
theorem d_Law_law_307 : decode k_Law_law 307 = .ok (.iconst 2, 1) := by decide +kernel
theorem d_Law_law_308 : decode k_Law_law 308 = .ok (.iadd, 1) := by decide +kernel
theorem d_Law_law_309 : decode k_Law_law 309 = .ok (.iaload, 1) := by decide +kernel
theorem d_Law_law_310 : decode k_Law_law 310 = .ok (.aload_n 3, 1) := by decide +kernel
theorem d_Law_law_311 : decode k_Law_law 311 = .ok (.invokestatic 74, 3) := by decide +kernel
theorem d_Law_law_314 : decode k_Law_law 314 = .ok (.istore 5, 2) := by decide +kernel
theorem d_Law_law_316 : decode k_Law_law 316 = .ok (.aload_n 2, 1) := by decide +kernel
theorem d_Law_law_317 : decode k_Law_law 317 = .ok (.aload_n 0, 1) := by decide +kernel
theorem d_Law_law_318 : decode k_Law_law 318 = .ok (.iload 4, 2) := by decide +kernel
theorem d_Law_law_320 : decode k_Law_law 320 = .ok (.iconst 1, 1) := by decide +kernel
theorem d_Law_law_321 : decode k_Law_law 321 = .ok (.iadd, 1) := by decide +kernel
theorem d_Law_law_322 : decode k_Law_law 322 = .ok (.iaload, 1) := by decide +kernel
theorem d_Law_law_323 : decode k_Law_law 323 = .ok (.aload_n 0, 1) := by decide +kernel
theorem d_Law_law_324 : decode k_Law_law 324 = .ok (.iload 4, 2) := by decide +kernel
theorem d_Law_law_326 : decode k_Law_law 326 = .ok (.iconst 2, 1) := by decide +kernel
theorem d_Law_law_327 : decode k_Law_law 327 = .ok (.iadd, 1) := by decide +kernel
theorem d_Law_law_328 : decode k_Law_law 328 = .ok (.iaload, 1) := by decide +kernel
theorem d_Law_law_329 : decode k_Law_law 329 = .ok (.invokevirtual 76, 3) := by decide +kernel
theorem d_Law_law_332 : decode k_Law_law 332 = .ok (.istore 6, 2) := by decide +kernel
theorem d_Law_law_334 : decode k_Law_law 334 = .ok (.aload_n 2, 1) := by decide +kernel
theorem d_Law_law_335 : decode k_Law_law 335 = .ok (.invokevirtual 63, 3) := by decide +kernel
theorem d_Law_law_338 : decode k_Law_law 338 = .ok (.iload 5, 2) := by decide +kernel
theorem d_Law_law_340 : decode k_Law_law 340 = .ok (.if_icmp .eq 5, 3) := by decide +kernel
theorem d_Law_law_343 : decode k_Law_law 343 = .ok (.iconst 0, 1) := by decide +kernel
theorem d_Law_law_344 : decode k_Law_law 344 = .ok (.ireturn, 1) := by decide +kernel
theorem d_Law_law_345 : decode k_Law_law 345 = .ok (.iload 5, 2) := by decide +kernel
theorem d_Law_law_347 : decode k_Law_law 347 = .ok (.ifCond .ne 15, 3) := by decide +kernel
theorem d_Law_law_350 : decode k_Law_law 350 = .ok (.aload_n 3, 1) := by decide +kernel
theorem d_Law_law_351 : decode k_Law_law 351 = .ok (.iconst 0, 1) := by decide +kernel
theorem d_Law_law_352 : decode k_Law_law 352 = .ok (.laload, 1) := by decide +kernel
theorem d_Law_law_353 : decode k_Law_law 353 = .ok (.iload 6, 2) := by decide +kernel
theorem d_Law_law_355 : decode k_Law_law 355 = .ok (.i2l, 1) := by decide +kernel
theorem d_Law_law_356 : decode k_Law_law 356 = .ok (.lcmp, 1) := by decide +kernel
theorem d_Law_law_357 : decode k_Law_law 357 = .ok (.ifCond .eq 5, 3) := by decide +kernel
