theorem dl_296 : decode code 296 = .ok (.iaload, 1) := by decide +kernel
theorem dl_297 : decode code 297 = .ok (.invokevirtual 36, 3) := by decide +kernel
theorem dl_300 : decode code 300 = .ok (.if_icmp .eq 334, 3) := by decide +kernel
theorem dl_303 : decode code 303 = .ok (.iconst 0, 1) := by decide +kernel
theorem dl_304 : decode code 304 = .ok (.ireturn, 1) := by decide +kernel
theorem dl_305 : decode code 305 = .ok (.aload_n 1, 1) := by decide +kernel
theorem dl_306 : decode code 306 = .ok (.aload_n 0, 1) := by decide +kernel
theorem dl_307 : decode code 307 = .ok (.iload_n 3, 1) := by decide +kernel
theorem dl_308 : decode code 308 = .ok (.iconst 1, 1) := by decide +kernel
theorem dl_309 : decode code 309 = .ok (.iadd, 1) := by decide +kernel
theorem dl_310 : decode code 310 = .ok (.iaload, 1) := by decide +kernel
theorem dl_311 : decode code 311 = .ok (.aload_n 0, 1) := by decide +kernel
theorem dl_312 : decode code 312 = .ok (.iload_n 3, 1) := by decide +kernel
theorem dl_313 : decode code 313 = .ok (.iconst 2, 1) := by decide +kernel
theorem dl_314 : decode code 314 = .ok (.iadd, 1) := by decide +kernel
theorem dl_315 : decode code 315 = .ok (.iaload, 1) := by decide +kernel
theorem dl_316 : decode code 316 = .ok (.invokevirtual 37, 3) := by decide +kernel
theorem dl_319 : decode code 319 = .ok (.aload_n 2, 1) := by decide +kernel
theorem dl_320 : decode code 320 = .ok (.aload_n 0, 1) := by decide +kernel
theorem dl_321 : decode code 321 = .ok (.iload_n 3, 1) := by decide +kernel
theorem dl_322 : decode code 322 = .ok (.iconst 1, 1) := by decide +kernel
theorem dl_323 : decode code 323 = .ok (.iadd, 1) := by decide +kernel
theorem dl_324 : decode code 324 = .ok (.iaload, 1) := by decide +kernel
theorem dl_325 : decode code 325 = .ok (.aload_n 0, 1) := by decide +kernel
theorem dl_326 : decode code 326 = .ok (.iload_n 3, 1) := by decide +kernel
theorem dl_327 : decode code 327 = .ok (.iconst 2, 1) := by decide +kernel
theorem dl_328 : decode code 328 = .ok (.iadd, 1) := by decide +kernel
theorem dl_329 : decode code 329 = .ok (.iaload, 1) := by decide +kernel
theorem dl_330 : decode code 330 = .ok (.invokevirtual 40, 3) := by decide +kernel
theorem dl_333 : decode code 333 = .ok (.if_icmp .eq 301, 3) := by decide +kernel
theorem dl_336 : decode code 336 = .ok (.iconst 0, 1) := by decide +kernel
theorem dl_337 : decode code 337 = .ok (.ireturn, 1) := by decide +kernel
theorem dl_338 : decode code 338 = .ok (.aload_n 1, 1) := by decide +kernel
theorem dl_339 : decode code 339 = .ok (.aload_n 0, 1) := by decide +kernel
theorem dl_340 : decode code 340 = .ok (.iload_n 3, 1) := by decide +kernel
theorem dl_341 : decode code 341 = .ok (.iconst 1, 1) := by decide +kernel
theorem dl_342 : decode code 342 = .ok (.iadd, 1) := by decide +kernel
theorem dl_343 : decode code 343 = .ok (.iaload, 1) := by decide +kernel
theorem dl_344 : decode code 344 = .ok (.aload_n 0, 1) := by decide +kernel
theorem dl_345 : decode code 345 = .ok (.iload_n 3, 1) := by decide +kernel
theorem dl_346 : decode code 346 = .ok (.iconst 2, 1) := by decide +kernel
theorem dl_347 : decode code 347 = .ok (.iadd, 1) := by decide +kernel
theorem dl_348 : decode code 348 = .ok (.iaload, 1) := by decide +kernel
theorem dl_349 : decode code 349 = .ok (.ifCond .eq 7, 3) := by decide +kernel
theorem dl_352 : decode code 352 = .ok (.iconst 1, 1) := by decide +kernel
theorem dl_353 : decode code 353 = .ok (.goto 4, 3) := by decide +kernel
theorem dl_356 : decode code 356 = .ok (.iconst 0, 1) := by decide +kernel
theorem dl_357 : decode code 357 = .ok (.invokevirtual 41, 3) := by decide +kernel
theorem dl_360 : decode code 360 = .ok (.aload_n 2, 1) := by decide +kernel
theorem dl_361 : decode code 361 = .ok (.aload_n 0, 1) := by decide +kernel
theorem dl_362 : decode code 362 = .ok (.iload_n 3, 1) := by decide +kernel
theorem dl_363 : decode code 363 = .ok (.iconst 1, 1) := by decide +kernel
theorem dl_364 : decode code 364 = .ok (.iadd, 1) := by decide +kernel
theorem dl_365 : decode code 365 = .ok (.iaload, 1) := by decide +kernel
theorem dl_366 : decode code 366 = .ok (.aload_n 0, 1) := by decide +kernel
theorem dl_367 : decode code 367 = .ok (.iload_n 3, 1) := by decide +kernel
theorem dl_368 : decode code 368 = .ok (.iconst 2, 1) := by decide +kernel
theorem dl_369 : decode code 369 = .ok (.iadd, 1) := by decide +kernel
theorem dl_370 : decode code 370 = .ok (.iaload, 1) := by decide +kernel
theorem dl_371 : decode code 371 = .ok (.ifCond .eq 7, 3) := by decide +kernel
