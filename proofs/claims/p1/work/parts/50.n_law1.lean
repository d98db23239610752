theorem dL_law_224 : decode cL_law 224 = .ok (.aload_n 1, 1) := by decide +kernel
theorem dL_law_225 : decode cL_law 225 = .ok (.aload_n 0, 1) := by decide +kernel
theorem dL_law_226 : decode cL_law 226 = .ok (.iload_n 3, 1) := by decide +kernel
theorem dL_law_227 : decode cL_law 227 = .ok (.iconst 1, 1) := by decide +kernel
theorem dL_law_228 : decode cL_law 228 = .ok (.iadd, 1) := by decide +kernel
theorem dL_law_229 : decode cL_law 229 = .ok (.iaload, 1) := by decide +kernel
theorem dL_law_230 : decode cL_law 230 = .ok (.aload_n 0, 1) := by decide +kernel
theorem dL_law_231 : decode cL_law 231 = .ok (.iload_n 3, 1) := by decide +kernel
theorem dL_law_232 : decode cL_law 232 = .ok (.iconst 2, 1) := by decide +kernel
theorem dL_law_233 : decode cL_law 233 = .ok (.iadd, 1) := by decide +kernel
theorem dL_law_234 : decode cL_law 234 = .ok (.iaload, 1) := by decide +kernel
theorem dL_law_235 : decode cL_law 235 = .ok (.aload_n 0, 1) := by decide +kernel
theorem dL_law_236 : decode cL_law 236 = .ok (.iload_n 3, 1) := by decide +kernel
theorem dL_law_237 : decode cL_law 237 = .ok (.iconst 3, 1) := by decide +kernel
theorem dL_law_238 : decode cL_law 238 = .ok (.iadd, 1) := by decide +kernel
theorem dL_law_239 : decode cL_law 239 = .ok (.iaload, 1) := by decide +kernel
theorem dL_law_240 : decode cL_law 240 = .ok (.invokevirtual 13, 3) := by decide +kernel
theorem lk_RL_13 : Cond.methodLink RL 13 yX11_put ∈ gW := gW_t 489 (by decide +kernel) rfl
theorem mI_X11_put : Cond.instanceMethod yX11_put ∈ gW := gW_t 490 (by decide +kernel) rfl
theorem mS_X11_put : Cond.selects RX11 yX11_put yX11_put ∈ gW := gW_t 491 (by decide +kernel) rfl
theorem mC_X11_put : Cond.code yX11_put cX11_put 7 (some .int) ∈ gW := gW_t 492 (by decide +kernel) rfl
theorem ok_X11_put : okD yX11_put 3 := ⟨by decide +kernel, by decide +kernel, by decide +kernel⟩
theorem dL_law_243 : decode cL_law 243 = .ok (.aload_n 2, 1) := by decide +kernel
theorem dL_law_244 : decode cL_law 244 = .ok (.aload_n 0, 1) := by decide +kernel
theorem dL_law_245 : decode cL_law 245 = .ok (.iload_n 3, 1) := by decide +kernel
theorem dL_law_246 : decode cL_law 246 = .ok (.iconst 1, 1) := by decide +kernel
theorem dL_law_247 : decode cL_law 247 = .ok (.iadd, 1) := by decide +kernel
theorem dL_law_248 : decode cL_law 248 = .ok (.iaload, 1) := by decide +kernel
theorem dL_law_249 : decode cL_law 249 = .ok (.aload_n 0, 1) := by decide +kernel
theorem dL_law_250 : decode cL_law 250 = .ok (.iload_n 3, 1) := by decide +kernel
theorem dL_law_251 : decode cL_law 251 = .ok (.iconst 2, 1) := by decide +kernel
theorem dL_law_252 : decode cL_law 252 = .ok (.iadd, 1) := by decide +kernel
theorem dL_law_253 : decode cL_law 253 = .ok (.iaload, 1) := by decide +kernel
theorem dL_law_254 : decode cL_law 254 = .ok (.aload_n 0, 1) := by decide +kernel
theorem dL_law_255 : decode cL_law 255 = .ok (.iload_n 3, 1) := by decide +kernel
theorem dL_law_256 : decode cL_law 256 = .ok (.iconst 3, 1) := by decide +kernel
theorem dL_law_257 : decode cL_law 257 = .ok (.iadd, 1) := by decide +kernel
theorem dL_law_258 : decode cL_law 258 = .ok (.iaload, 1) := by decide +kernel
theorem dL_law_259 : decode cL_law 259 = .ok (.invokevirtual 17, 3) := by decide +kernel
theorem lk_RL_17 : Cond.methodLink RL 17 yX12_put ∈ gW := gW_t 1478 (by decide +kernel) rfl
theorem mI_X12_put : Cond.instanceMethod yX12_put ∈ gW := gW_t 1479 (by decide +kernel) rfl
theorem mS_X12_put : Cond.selects RX12 yX12_put yX12_put ∈ gW := gW_t 1480 (by decide +kernel) rfl
theorem mC_X12_put : Cond.code yX12_put cX12_put 4 (some .int) ∈ gW := gW_t 1481 (by decide +kernel) rfl
theorem ok_X12_put : okD yX12_put 3 := ⟨by decide +kernel, by decide +kernel, by decide +kernel⟩
theorem dL_law_262 : decode cL_law 262 = .ok (.if_icmp .eq 1198, 3) := by decide +kernel
theorem dL_law_267 : decode cL_law 267 = .ok (.aload_n 1, 1) := by decide +kernel
theorem dL_law_268 : decode cL_law 268 = .ok (.aload_n 0, 1) := by decide +kernel
theorem dL_law_269 : decode cL_law 269 = .ok (.iload_n 3, 1) := by decide +kernel
theorem dL_law_270 : decode cL_law 270 = .ok (.iconst 1, 1) := by decide +kernel
theorem dL_law_271 : decode cL_law 271 = .ok (.iadd, 1) := by decide +kernel
theorem dL_law_272 : decode cL_law 272 = .ok (.iaload, 1) := by decide +kernel
theorem dL_law_273 : decode cL_law 273 = .ok (.aload_n 0, 1) := by decide +kernel
theorem dL_law_274 : decode cL_law 274 = .ok (.iload_n 3, 1) := by decide +kernel
theorem dL_law_275 : decode cL_law 275 = .ok (.iconst 2, 1) := by decide +kernel
theorem dL_law_276 : decode cL_law 276 = .ok (.iadd, 1) := by decide +kernel
theorem dL_law_277 : decode cL_law 277 = .ok (.iaload, 1) := by decide +kernel
theorem dL_law_278 : decode cL_law 278 = .ok (.invokevirtual 18, 3) := by decide +kernel
theorem lk_RL_18 : Cond.methodLink RL 18 yX11_at ∈ gW := gW_t 515 (by decide +kernel) rfl
theorem mI_X11_at : Cond.instanceMethod yX11_at ∈ gW := gW_t 516 (by decide +kernel) rfl
theorem mS_X11_at : Cond.selects RX11 yX11_at yX11_at ∈ gW := gW_t 517 (by decide +kernel) rfl
theorem mC_X11_at : Cond.code yX11_at cX11_at 4 (some .int) ∈ gW := gW_t 518 (by decide +kernel) rfl
theorem ok_X11_at : okD yX11_at 2 := ⟨by decide +kernel, by decide +kernel, by decide +kernel⟩
theorem dL_law_281 : decode cL_law 281 = .ok (.aload_n 2, 1) := by decide +kernel
theorem dL_law_282 : decode cL_law 282 = .ok (.aload_n 0, 1) := by decide +kernel
theorem dL_law_283 : decode cL_law 283 = .ok (.iload_n 3, 1) := by decide +kernel
theorem dL_law_284 : decode cL_law 284 = .ok (.iconst 1, 1) := by decide +kernel
theorem dL_law_285 : decode cL_law 285 = .ok (.iadd, 1) := by decide +kernel
theorem dL_law_286 : decode cL_law 286 = .ok (.iaload, 1) := by decide +kernel
theorem dL_law_287 : decode cL_law 287 = .ok (.aload_n 0, 1) := by decide +kernel
theorem dL_law_288 : decode cL_law 288 = .ok (.iload_n 3, 1) := by decide +kernel
theorem dL_law_289 : decode cL_law 289 = .ok (.iconst 2, 1) := by decide +kernel
theorem dL_law_290 : decode cL_law 290 = .ok (.iadd, 1) := by decide +kernel
theorem dL_law_291 : decode cL_law 291 = .ok (.iaload, 1) := by decide +kernel
theorem dL_law_292 : decode cL_law 292 = .ok (.invokevirtual 22, 3) := by decide +kernel
theorem lk_RL_22 : Cond.methodLink RL 22 yX12_at ∈ gW := gW_t 1499 (by decide +kernel) rfl
theorem mI_X12_at : Cond.instanceMethod yX12_at ∈ gW := gW_t 1500 (by decide +kernel) rfl
theorem mS_X12_at : Cond.selects RX12 yX12_at yX12_at ∈ gW := gW_t 1501 (by decide +kernel) rfl
theorem mC_X12_at : Cond.code yX12_at cX12_at 3 (some .int) ∈ gW := gW_t 1502 (by decide +kernel) rfl
theorem ok_X12_at : okD yX12_at 2 := ⟨by decide +kernel, by decide +kernel, by decide +kernel⟩
theorem dL_law_295 : decode cL_law 295 = .ok (.if_icmp .eq 1165, 3) := by decide +kernel
theorem dL_law_300 : decode cL_law 300 = .ok (.aload_n 1, 1) := by decide +kernel
theorem dL_law_301 : decode cL_law 301 = .ok (.aload_n 0, 1) := by decide +kernel
theorem dL_law_302 : decode cL_law 302 = .ok (.iload_n 3, 1) := by decide +kernel
theorem dL_law_303 : decode cL_law 303 = .ok (.iconst 1, 1) := by decide +kernel
theorem dL_law_304 : decode cL_law 304 = .ok (.iadd, 1) := by decide +kernel
theorem dL_law_305 : decode cL_law 305 = .ok (.iaload, 1) := by decide +kernel
theorem dL_law_306 : decode cL_law 306 = .ok (.invokevirtual 23, 3) := by decide +kernel
theorem lk_RL_23 : Cond.methodLink RL 23 yX11_sink ∈ gW := gW_t 572 (by decide +kernel) rfl
theorem mI_X11_sink : Cond.instanceMethod yX11_sink ∈ gW := gW_t 573 (by decide +kernel) rfl
theorem mS_X11_sink : Cond.selects RX11 yX11_sink yX11_sink ∈ gW := gW_t 574 (by decide +kernel) rfl
theorem mC_X11_sink : Cond.code yX11_sink cX11_sink 4 (some .int) ∈ gW := gW_t 575 (by decide +kernel) rfl
theorem ok_X11_sink : okD yX11_sink 1 := ⟨by decide +kernel, by decide +kernel, by decide +kernel⟩
theorem dL_law_309 : decode cL_law 309 = .ok (.aload_n 2, 1) := by decide +kernel
theorem dL_law_310 : decode cL_law 310 = .ok (.aload_n 0, 1) := by decide +kernel
theorem dL_law_311 : decode cL_law 311 = .ok (.iload_n 3, 1) := by decide +kernel
theorem dL_law_312 : decode cL_law 312 = .ok (.iconst 1, 1) := by decide +kernel
theorem dL_law_313 : decode cL_law 313 = .ok (.iadd, 1) := by decide +kernel
theorem dL_law_314 : decode cL_law 314 = .ok (.iaload, 1) := by decide +kernel
theorem dL_law_315 : decode cL_law 315 = .ok (.invokevirtual 27, 3) := by decide +kernel
theorem lk_RL_27 : Cond.methodLink RL 27 yX12_sink ∈ gW := gW_t 1543 (by decide +kernel) rfl
theorem mI_X12_sink : Cond.instanceMethod yX12_sink ∈ gW := gW_t 1544 (by decide +kernel) rfl
theorem mS_X12_sink : Cond.selects RX12 yX12_sink yX12_sink ∈ gW := gW_t 1545 (by decide +kernel) rfl
theorem mC_X12_sink : Cond.code yX12_sink cX12_sink 3 (some .int) ∈ gW := gW_t 1546 (by decide +kernel) rfl
theorem ok_X12_sink : okD yX12_sink 1 := ⟨by decide +kernel, by decide +kernel, by decide +kernel⟩
theorem dL_law_318 : decode cL_law 318 = .ok (.if_icmp .eq 1142, 3) := by decide +kernel
theorem dL_law_323 : decode cL_law 323 = .ok (.aload_n 1, 1) := by decide +kernel
theorem dL_law_324 : decode cL_law 324 = .ok (.aload_n 0, 1) := by decide +kernel
theorem dL_law_325 : decode cL_law 325 = .ok (.iload_n 3, 1) := by decide +kernel
theorem dL_law_326 : decode cL_law 326 = .ok (.iconst 1, 1) := by decide +kernel
theorem dL_law_327 : decode cL_law 327 = .ok (.iadd, 1) := by decide +kernel
theorem dL_law_328 : decode cL_law 328 = .ok (.iaload, 1) := by decide +kernel
theorem dL_law_329 : decode cL_law 329 = .ok (.aload_n 0, 1) := by decide +kernel
theorem dL_law_330 : decode cL_law 330 = .ok (.iload_n 3, 1) := by decide +kernel
theorem dL_law_331 : decode cL_law 331 = .ok (.iconst 2, 1) := by decide +kernel
theorem dL_law_332 : decode cL_law 332 = .ok (.iadd, 1) := by decide +kernel
theorem dL_law_333 : decode cL_law 333 = .ok (.iaload, 1) := by decide +kernel
theorem dL_law_334 : decode cL_law 334 = .ok (.invokevirtual 28, 3) := by decide +kernel
theorem lk_RL_28 : Cond.methodLink RL 28 yX11_of ∈ gW := gW_t 584 (by decide +kernel) rfl
theorem mI_X11_of : Cond.instanceMethod yX11_of ∈ gW := gW_t 585 (by decide +kernel) rfl
theorem mS_X11_of : Cond.selects RX11 yX11_of yX11_of ∈ gW := gW_t 586 (by decide +kernel) rfl
theorem mC_X11_of : Cond.code yX11_of cX11_of 5 (some .int) ∈ gW := gW_t 587 (by decide +kernel) rfl
theorem ok_X11_of : okD yX11_of 2 := ⟨by decide +kernel, by decide +kernel, by decide +kernel⟩
theorem dL_law_337 : decode cL_law 337 = .ok (.aload_n 2, 1) := by decide +kernel
theorem dL_law_338 : decode cL_law 338 = .ok (.aload_n 0, 1) := by decide +kernel
theorem dL_law_339 : decode cL_law 339 = .ok (.iload_n 3, 1) := by decide +kernel
theorem dL_law_340 : decode cL_law 340 = .ok (.iconst 1, 1) := by decide +kernel
theorem dL_law_341 : decode cL_law 341 = .ok (.iadd, 1) := by decide +kernel
theorem dL_law_342 : decode cL_law 342 = .ok (.iaload, 1) := by decide +kernel
theorem dL_law_343 : decode cL_law 343 = .ok (.aload_n 0, 1) := by decide +kernel
theorem dL_law_344 : decode cL_law 344 = .ok (.iload_n 3, 1) := by decide +kernel
theorem dL_law_345 : decode cL_law 345 = .ok (.iconst 2, 1) := by decide +kernel
theorem dL_law_346 : decode cL_law 346 = .ok (.iadd, 1) := by decide +kernel
theorem dL_law_347 : decode cL_law 347 = .ok (.iaload, 1) := by decide +kernel
theorem dL_law_348 : decode cL_law 348 = .ok (.invokevirtual 31, 3) := by decide +kernel
theorem lk_RL_31 : Cond.methodLink RL 31 yX12_of ∈ gW := gW_t 1551 (by decide +kernel) rfl
theorem mI_X12_of : Cond.instanceMethod yX12_of ∈ gW := gW_t 1552 (by decide +kernel) rfl
theorem mS_X12_of : Cond.selects RX12 yX12_of yX12_of ∈ gW := gW_t 1553 (by decide +kernel) rfl
theorem mC_X12_of : Cond.code yX12_of cX12_of 3 (some .int) ∈ gW := gW_t 1554 (by decide +kernel) rfl
theorem ok_X12_of : okD yX12_of 2 := ⟨by decide +kernel, by decide +kernel, by decide +kernel⟩
theorem dL_law_351 : decode cL_law 351 = .ok (.if_icmp .eq 1109, 3) := by decide +kernel
theorem dL_law_356 : decode cL_law 356 = .ok (.aload_n 1, 1) := by decide +kernel
theorem dL_law_357 : decode cL_law 357 = .ok (.aload_n 0, 1) := by decide +kernel
theorem dL_law_358 : decode cL_law 358 = .ok (.iload_n 3, 1) := by decide +kernel
theorem dL_law_359 : decode cL_law 359 = .ok (.iconst 1, 1) := by decide +kernel
theorem dL_law_360 : decode cL_law 360 = .ok (.iadd, 1) := by decide +kernel
theorem dL_law_361 : decode cL_law 361 = .ok (.iaload, 1) := by decide +kernel
theorem dL_law_362 : decode cL_law 362 = .ok (.aload_n 0, 1) := by decide +kernel
theorem dL_law_363 : decode cL_law 363 = .ok (.iload_n 3, 1) := by decide +kernel
theorem dL_law_364 : decode cL_law 364 = .ok (.iconst 2, 1) := by decide +kernel
theorem dL_law_365 : decode cL_law 365 = .ok (.iadd, 1) := by decide +kernel
theorem dL_law_366 : decode cL_law 366 = .ok (.iaload, 1) := by decide +kernel
theorem dL_law_367 : decode cL_law 367 = .ok (.invokevirtual 32, 3) := by decide +kernel
theorem lk_RL_32 : Cond.methodLink RL 32 yX11_listener ∈ gW := gW_t 606 (by decide +kernel) rfl
theorem mI_X11_listener : Cond.instanceMethod yX11_listener ∈ gW := gW_t 607 (by decide +kernel) rfl
theorem mS_X11_listener : Cond.selects RX11 yX11_listener yX11_listener ∈ gW := gW_t 608 (by decide +kernel) rfl
theorem mC_X11_listener : Cond.code yX11_listener cX11_listener 4 (some .int) ∈ gW := gW_t 609 (by decide +kernel) rfl
theorem ok_X11_listener : okD yX11_listener 2 := ⟨by decide +kernel, by decide +kernel, by decide +kernel⟩
theorem dL_law_370 : decode cL_law 370 = .ok (.aload_n 2, 1) := by decide +kernel
theorem dL_law_371 : decode cL_law 371 = .ok (.aload_n 0, 1) := by decide +kernel
theorem dL_law_372 : decode cL_law 372 = .ok (.iload_n 3, 1) := by decide +kernel
theorem dL_law_373 : decode cL_law 373 = .ok (.iconst 1, 1) := by decide +kernel
theorem dL_law_374 : decode cL_law 374 = .ok (.iadd, 1) := by decide +kernel
theorem dL_law_375 : decode cL_law 375 = .ok (.iaload, 1) := by decide +kernel
theorem dL_law_376 : decode cL_law 376 = .ok (.aload_n 0, 1) := by decide +kernel
theorem dL_law_377 : decode cL_law 377 = .ok (.iload_n 3, 1) := by decide +kernel
theorem dL_law_378 : decode cL_law 378 = .ok (.iconst 2, 1) := by decide +kernel
theorem dL_law_379 : decode cL_law 379 = .ok (.iadd, 1) := by decide +kernel
theorem dL_law_380 : decode cL_law 380 = .ok (.iaload, 1) := by decide +kernel
theorem dL_law_381 : decode cL_law 381 = .ok (.invokevirtual 35, 3) := by decide +kernel
theorem lk_RL_35 : Cond.methodLink RL 35 yX12_listener ∈ gW := gW_t 1588 (by decide +kernel) rfl
theorem mI_X12_listener : Cond.instanceMethod yX12_listener ∈ gW := gW_t 1589 (by decide +kernel) rfl
theorem mS_X12_listener : Cond.selects RX12 yX12_listener yX12_listener ∈ gW := gW_t 1590 (by decide +kernel) rfl
theorem mC_X12_listener : Cond.code yX12_listener cX12_listener 4 (some .int) ∈ gW := gW_t 1591 (by decide +kernel) rfl
theorem ok_X12_listener : okD yX12_listener 2 := ⟨by decide +kernel, by decide +kernel, by decide +kernel⟩
theorem dL_law_384 : decode cL_law 384 = .ok (.if_icmp .eq 1076, 3) := by decide +kernel
theorem dL_law_389 : decode cL_law 389 = .ok (.aload_n 1, 1) := by decide +kernel
theorem dL_law_390 : decode cL_law 390 = .ok (.aload_n 0, 1) := by decide +kernel
theorem dL_law_391 : decode cL_law 391 = .ok (.iload_n 3, 1) := by decide +kernel
theorem dL_law_392 : decode cL_law 392 = .ok (.iconst 1, 1) := by decide +kernel
theorem dL_law_393 : decode cL_law 393 = .ok (.iadd, 1) := by decide +kernel
theorem dL_law_394 : decode cL_law 394 = .ok (.iaload, 1) := by decide +kernel
theorem dL_law_395 : decode cL_law 395 = .ok (.aload_n 0, 1) := by decide +kernel
theorem dL_law_396 : decode cL_law 396 = .ok (.iload_n 3, 1) := by decide +kernel
theorem dL_law_397 : decode cL_law 397 = .ok (.iconst 2, 1) := by decide +kernel
theorem dL_law_398 : decode cL_law 398 = .ok (.iadd, 1) := by decide +kernel
theorem dL_law_399 : decode cL_law 399 = .ok (.iaload, 1) := by decide +kernel
theorem dL_law_400 : decode cL_law 400 = .ok (.invokevirtual 36, 3) := by decide +kernel
theorem lk_RL_36 : Cond.methodLink RL 36 yX11_noise ∈ gW := gW_t 614 (by decide +kernel) rfl
theorem mI_X11_noise : Cond.instanceMethod yX11_noise ∈ gW := gW_t 615 (by decide +kernel) rfl
theorem mS_X11_noise : Cond.selects RX11 yX11_noise yX11_noise ∈ gW := gW_t 616 (by decide +kernel) rfl
theorem mC_X11_noise : Cond.code yX11_noise cX11_noise 4 (some .int) ∈ gW := gW_t 617 (by decide +kernel) rfl
theorem ok_X11_noise : okD yX11_noise 2 := ⟨by decide +kernel, by decide +kernel, by decide +kernel⟩
theorem dL_law_403 : decode cL_law 403 = .ok (.aload_n 2, 1) := by decide +kernel
theorem dL_law_404 : decode cL_law 404 = .ok (.aload_n 0, 1) := by decide +kernel
theorem dL_law_405 : decode cL_law 405 = .ok (.iload_n 3, 1) := by decide +kernel
theorem dL_law_406 : decode cL_law 406 = .ok (.iconst 1, 1) := by decide +kernel
theorem dL_law_407 : decode cL_law 407 = .ok (.iadd, 1) := by decide +kernel
theorem dL_law_408 : decode cL_law 408 = .ok (.iaload, 1) := by decide +kernel
theorem dL_law_409 : decode cL_law 409 = .ok (.aload_n 0, 1) := by decide +kernel
theorem dL_law_410 : decode cL_law 410 = .ok (.iload_n 3, 1) := by decide +kernel
theorem dL_law_411 : decode cL_law 411 = .ok (.iconst 2, 1) := by decide +kernel
theorem dL_law_412 : decode cL_law 412 = .ok (.iadd, 1) := by decide +kernel
theorem dL_law_413 : decode cL_law 413 = .ok (.iaload, 1) := by decide +kernel
theorem dL_law_414 : decode cL_law 414 = .ok (.invokevirtual 39, 3) := by decide +kernel
theorem lk_RL_39 : Cond.methodLink RL 39 yX12_noise ∈ gW := gW_t 1592 (by decide +kernel) rfl
theorem mI_X12_noise : Cond.instanceMethod yX12_noise ∈ gW := gW_t 1593 (by decide +kernel) rfl
theorem mS_X12_noise : Cond.selects RX12 yX12_noise yX12_noise ∈ gW := gW_t 1594 (by decide +kernel) rfl
theorem mC_X12_noise : Cond.code yX12_noise cX12_noise 4 (some .int) ∈ gW := gW_t 1595 (by decide +kernel) rfl
theorem ok_X12_noise : okD yX12_noise 2 := ⟨by decide +kernel, by decide +kernel, by decide +kernel⟩
theorem dL_law_417 : decode cL_law 417 = .ok (.if_icmp .eq 1043, 3) := by decide +kernel
theorem dL_law_422 : decode cL_law 422 = .ok (.aload_n 1, 1) := by decide +kernel
theorem dL_law_423 : decode cL_law 423 = .ok (.aload_n 0, 1) := by decide +kernel
theorem dL_law_424 : decode cL_law 424 = .ok (.iload_n 3, 1) := by decide +kernel
theorem dL_law_425 : decode cL_law 425 = .ok (.iconst 1, 1) := by decide +kernel
theorem dL_law_426 : decode cL_law 426 = .ok (.iadd, 1) := by decide +kernel
theorem dL_law_427 : decode cL_law 427 = .ok (.iaload, 1) := by decide +kernel
theorem dL_law_428 : decode cL_law 428 = .ok (.aload_n 0, 1) := by decide +kernel
theorem dL_law_429 : decode cL_law 429 = .ok (.iload_n 3, 1) := by decide +kernel
theorem dL_law_430 : decode cL_law 430 = .ok (.iconst 2, 1) := by decide +kernel
theorem dL_law_431 : decode cL_law 431 = .ok (.iadd, 1) := by decide +kernel
theorem dL_law_432 : decode cL_law 432 = .ok (.iaload, 1) := by decide +kernel
theorem dL_law_433 : decode cL_law 433 = .ok (.invokevirtual 40, 3) := by decide +kernel
theorem lk_RL_40 : Cond.methodLink RL 40 yX11_who ∈ gW := gW_t 622 (by decide +kernel) rfl
theorem mI_X11_who : Cond.instanceMethod yX11_who ∈ gW := gW_t 623 (by decide +kernel) rfl
theorem mS_X11_who : Cond.selects RX11 yX11_who yX11_who ∈ gW := gW_t 624 (by decide +kernel) rfl
theorem mC_X11_who : Cond.code yX11_who cX11_who 5 (some .int) ∈ gW := gW_t 625 (by decide +kernel) rfl
theorem ok_X11_who : okD yX11_who 2 := ⟨by decide +kernel, by decide +kernel, by decide +kernel⟩
theorem dL_law_436 : decode cL_law 436 = .ok (.aload_n 2, 1) := by decide +kernel
theorem dL_law_437 : decode cL_law 437 = .ok (.aload_n 0, 1) := by decide +kernel
theorem dL_law_438 : decode cL_law 438 = .ok (.iload_n 3, 1) := by decide +kernel
theorem dL_law_439 : decode cL_law 439 = .ok (.iconst 1, 1) := by decide +kernel
theorem dL_law_440 : decode cL_law 440 = .ok (.iadd, 1) := by decide +kernel
theorem dL_law_441 : decode cL_law 441 = .ok (.iaload, 1) := by decide +kernel
theorem dL_law_442 : decode cL_law 442 = .ok (.aload_n 0, 1) := by decide +kernel
theorem dL_law_443 : decode cL_law 443 = .ok (.iload_n 3, 1) := by decide +kernel
theorem dL_law_444 : decode cL_law 444 = .ok (.iconst 2, 1) := by decide +kernel
theorem dL_law_445 : decode cL_law 445 = .ok (.iadd, 1) := by decide +kernel
theorem dL_law_446 : decode cL_law 446 = .ok (.iaload, 1) := by decide +kernel
theorem dL_law_447 : decode cL_law 447 = .ok (.invokevirtual 43, 3) := by decide +kernel
theorem lk_RL_43 : Cond.methodLink RL 43 yX12_who ∈ gW := gW_t 1596 (by decide +kernel) rfl
theorem mI_X12_who : Cond.instanceMethod yX12_who ∈ gW := gW_t 1597 (by decide +kernel) rfl
theorem mS_X12_who : Cond.selects RX12 yX12_who yX12_who ∈ gW := gW_t 1598 (by decide +kernel) rfl
theorem mC_X12_who : Cond.code yX12_who cX12_who 3 (some .int) ∈ gW := gW_t 1599 (by decide +kernel) rfl
theorem ok_X12_who : okD yX12_who 2 := ⟨by decide +kernel, by decide +kernel, by decide +kernel⟩
theorem dL_law_450 : decode cL_law 450 = .ok (.if_icmp .eq 1010, 3) := by decide +kernel
theorem dL_law_455 : decode cL_law 455 = .ok (.aload_n 1, 1) := by decide +kernel
theorem dL_law_456 : decode cL_law 456 = .ok (.aload_n 0, 1) := by decide +kernel
theorem dL_law_457 : decode cL_law 457 = .ok (.iload_n 3, 1) := by decide +kernel
theorem dL_law_458 : decode cL_law 458 = .ok (.iconst 1, 1) := by decide +kernel
theorem dL_law_459 : decode cL_law 459 = .ok (.iadd, 1) := by decide +kernel
theorem dL_law_460 : decode cL_law 460 = .ok (.iaload, 1) := by decide +kernel
theorem dL_law_461 : decode cL_law 461 = .ok (.aload_n 0, 1) := by decide +kernel
theorem dL_law_462 : decode cL_law 462 = .ok (.iload_n 3, 1) := by decide +kernel
theorem dL_law_463 : decode cL_law 463 = .ok (.iconst 2, 1) := by decide +kernel
theorem dL_law_464 : decode cL_law 464 = .ok (.iadd, 1) := by decide +kernel
theorem dL_law_465 : decode cL_law 465 = .ok (.iaload, 1) := by decide +kernel
theorem dL_law_466 : decode cL_law 466 = .ok (.invokevirtual 44, 3) := by decide +kernel
theorem lk_RL_44 : Cond.methodLink RL 44 yX11_terms ∈ gW := gW_t 626 (by decide +kernel) rfl
theorem mI_X11_terms : Cond.instanceMethod yX11_terms ∈ gW := gW_t 627 (by decide +kernel) rfl
theorem mS_X11_terms : Cond.selects RX11 yX11_terms yX11_terms ∈ gW := gW_t 628 (by decide +kernel) rfl
theorem mC_X11_terms : Cond.code yX11_terms cX11_terms 4 (some .int) ∈ gW := gW_t 629 (by decide +kernel) rfl
theorem ok_X11_terms : okD yX11_terms 2 := ⟨by decide +kernel, by decide +kernel, by decide +kernel⟩
theorem dL_law_469 : decode cL_law 469 = .ok (.aload_n 2, 1) := by decide +kernel
theorem dL_law_470 : decode cL_law 470 = .ok (.aload_n 0, 1) := by decide +kernel
theorem dL_law_471 : decode cL_law 471 = .ok (.iload_n 3, 1) := by decide +kernel
theorem dL_law_472 : decode cL_law 472 = .ok (.iconst 1, 1) := by decide +kernel
theorem dL_law_473 : decode cL_law 473 = .ok (.iadd, 1) := by decide +kernel
theorem dL_law_474 : decode cL_law 474 = .ok (.iaload, 1) := by decide +kernel
theorem dL_law_475 : decode cL_law 475 = .ok (.aload_n 0, 1) := by decide +kernel
theorem dL_law_476 : decode cL_law 476 = .ok (.iload_n 3, 1) := by decide +kernel
theorem dL_law_477 : decode cL_law 477 = .ok (.iconst 2, 1) := by decide +kernel
theorem dL_law_478 : decode cL_law 478 = .ok (.iadd, 1) := by decide +kernel
theorem dL_law_479 : decode cL_law 479 = .ok (.iaload, 1) := by decide +kernel
theorem dL_law_480 : decode cL_law 480 = .ok (.invokevirtual 47, 3) := by decide +kernel
theorem lk_RL_47 : Cond.methodLink RL 47 yX12_terms ∈ gW := gW_t 1605 (by decide +kernel) rfl
theorem mI_X12_terms : Cond.instanceMethod yX12_terms ∈ gW := gW_t 1606 (by decide +kernel) rfl
theorem mS_X12_terms : Cond.selects RX12 yX12_terms yX12_terms ∈ gW := gW_t 1607 (by decide +kernel) rfl
theorem mC_X12_terms : Cond.code yX12_terms cX12_terms 4 (some .int) ∈ gW := gW_t 1608 (by decide +kernel) rfl
theorem ok_X12_terms : okD yX12_terms 2 := ⟨by decide +kernel, by decide +kernel, by decide +kernel⟩
theorem dL_law_483 : decode cL_law 483 = .ok (.if_icmp .eq 977, 3) := by decide +kernel
theorem dL_law_488 : decode cL_law 488 = .ok (.aload_n 1, 1) := by decide +kernel
theorem dL_law_489 : decode cL_law 489 = .ok (.aload_n 0, 1) := by decide +kernel
theorem dL_law_490 : decode cL_law 490 = .ok (.iload_n 3, 1) := by decide +kernel
theorem dL_law_491 : decode cL_law 491 = .ok (.iconst 1, 1) := by decide +kernel
theorem dL_law_492 : decode cL_law 492 = .ok (.iadd, 1) := by decide +kernel
theorem dL_law_493 : decode cL_law 493 = .ok (.iaload, 1) := by decide +kernel
theorem dL_law_494 : decode cL_law 494 = .ok (.aload_n 0, 1) := by decide +kernel
theorem dL_law_495 : decode cL_law 495 = .ok (.iload_n 3, 1) := by decide +kernel
theorem dL_law_496 : decode cL_law 496 = .ok (.iconst 2, 1) := by decide +kernel
theorem dL_law_497 : decode cL_law 497 = .ok (.iadd, 1) := by decide +kernel
theorem dL_law_498 : decode cL_law 498 = .ok (.iaload, 1) := by decide +kernel
theorem dL_law_499 : decode cL_law 499 = .ok (.aload_n 0, 1) := by decide +kernel
theorem dL_law_500 : decode cL_law 500 = .ok (.iload_n 3, 1) := by decide +kernel
theorem dL_law_501 : decode cL_law 501 = .ok (.iconst 3, 1) := by decide +kernel
theorem dL_law_502 : decode cL_law 502 = .ok (.iadd, 1) := by decide +kernel
theorem dL_law_503 : decode cL_law 503 = .ok (.iaload, 1) := by decide +kernel
theorem dL_law_504 : decode cL_law 504 = .ok (.aload_n 0, 1) := by decide +kernel
theorem dL_law_505 : decode cL_law 505 = .ok (.iload_n 3, 1) := by decide +kernel
theorem dL_law_506 : decode cL_law 506 = .ok (.iconst 4, 1) := by decide +kernel
theorem dL_law_507 : decode cL_law 507 = .ok (.iadd, 1) := by decide +kernel
theorem dL_law_508 : decode cL_law 508 = .ok (.iaload, 1) := by decide +kernel
theorem dL_law_509 : decode cL_law 509 = .ok (.aload_n 0, 1) := by decide +kernel
theorem dL_law_510 : decode cL_law 510 = .ok (.iload_n 3, 1) := by decide +kernel
theorem dL_law_511 : decode cL_law 511 = .ok (.iconst 5, 1) := by decide +kernel
theorem dL_law_512 : decode cL_law 512 = .ok (.iadd, 1) := by decide +kernel
theorem dL_law_513 : decode cL_law 513 = .ok (.iaload, 1) := by decide +kernel
theorem dL_law_514 : decode cL_law 514 = .ok (.invokevirtual 48, 3) := by decide +kernel
theorem lk_RL_48 : Cond.methodLink RL 48 yX11_feed ∈ gW := gW_t 633 (by decide +kernel) rfl
theorem mI_X11_feed : Cond.instanceMethod yX11_feed ∈ gW := gW_t 634 (by decide +kernel) rfl
theorem mS_X11_feed : Cond.selects RX11 yX11_feed yX11_feed ∈ gW := gW_t 635 (by decide +kernel) rfl
theorem mC_X11_feed : Cond.code yX11_feed cX11_feed 6 (some .int) ∈ gW := gW_t 636 (by decide +kernel) rfl
theorem ok_X11_feed : okD yX11_feed 5 := ⟨by decide +kernel, by decide +kernel, by decide +kernel⟩
theorem dL_law_517 : decode cL_law 517 = .ok (.aload_n 2, 1) := by decide +kernel
theorem dL_law_518 : decode cL_law 518 = .ok (.aload_n 0, 1) := by decide +kernel
theorem dL_law_519 : decode cL_law 519 = .ok (.iload_n 3, 1) := by decide +kernel
theorem dL_law_520 : decode cL_law 520 = .ok (.iconst 1, 1) := by decide +kernel
theorem dL_law_521 : decode cL_law 521 = .ok (.iadd, 1) := by decide +kernel
theorem dL_law_522 : decode cL_law 522 = .ok (.iaload, 1) := by decide +kernel
theorem dL_law_523 : decode cL_law 523 = .ok (.aload_n 0, 1) := by decide +kernel
theorem dL_law_524 : decode cL_law 524 = .ok (.iload_n 3, 1) := by decide +kernel
theorem dL_law_525 : decode cL_law 525 = .ok (.iconst 2, 1) := by decide +kernel
theorem dL_law_526 : decode cL_law 526 = .ok (.iadd, 1) := by decide +kernel
theorem dL_law_527 : decode cL_law 527 = .ok (.iaload, 1) := by decide +kernel
theorem dL_law_528 : decode cL_law 528 = .ok (.aload_n 0, 1) := by decide +kernel
theorem dL_law_529 : decode cL_law 529 = .ok (.iload_n 3, 1) := by decide +kernel
theorem dL_law_530 : decode cL_law 530 = .ok (.iconst 3, 1) := by decide +kernel
theorem dL_law_531 : decode cL_law 531 = .ok (.iadd, 1) := by decide +kernel
theorem dL_law_532 : decode cL_law 532 = .ok (.iaload, 1) := by decide +kernel
theorem dL_law_533 : decode cL_law 533 = .ok (.aload_n 0, 1) := by decide +kernel
theorem dL_law_534 : decode cL_law 534 = .ok (.iload_n 3, 1) := by decide +kernel
theorem dL_law_535 : decode cL_law 535 = .ok (.iconst 4, 1) := by decide +kernel
theorem dL_law_536 : decode cL_law 536 = .ok (.iadd, 1) := by decide +kernel
theorem dL_law_537 : decode cL_law 537 = .ok (.iaload, 1) := by decide +kernel
theorem dL_law_538 : decode cL_law 538 = .ok (.aload_n 0, 1) := by decide +kernel
theorem dL_law_539 : decode cL_law 539 = .ok (.iload_n 3, 1) := by decide +kernel
theorem dL_law_540 : decode cL_law 540 = .ok (.iconst 5, 1) := by decide +kernel
theorem dL_law_541 : decode cL_law 541 = .ok (.iadd, 1) := by decide +kernel
theorem dL_law_542 : decode cL_law 542 = .ok (.iaload, 1) := by decide +kernel
theorem dL_law_543 : decode cL_law 543 = .ok (.invokevirtual 52, 3) := by decide +kernel
theorem lk_RL_52 : Cond.methodLink RL 52 yX12_feed ∈ gW := gW_t 1619 (by decide +kernel) rfl
theorem mI_X12_feed : Cond.instanceMethod yX12_feed ∈ gW := gW_t 1620 (by decide +kernel) rfl
theorem mS_X12_feed : Cond.selects RX12 yX12_feed yX12_feed ∈ gW := gW_t 1621 (by decide +kernel) rfl
theorem mC_X12_feed : Cond.code yX12_feed cX12_feed 6 (some .int) ∈ gW := gW_t 1622 (by decide +kernel) rfl
theorem ok_X12_feed : okD yX12_feed 5 := ⟨by decide +kernel, by decide +kernel, by decide +kernel⟩
theorem dL_law_546 : decode cL_law 546 = .ok (.if_icmp .eq 914, 3) := by decide +kernel
theorem dL_law_551 : decode cL_law 551 = .ok (.aload_n 1, 1) := by decide +kernel
theorem dL_law_552 : decode cL_law 552 = .ok (.aload_n 0, 1) := by decide +kernel
theorem dL_law_553 : decode cL_law 553 = .ok (.iload_n 3, 1) := by decide +kernel
theorem dL_law_554 : decode cL_law 554 = .ok (.iconst 1, 1) := by decide +kernel
theorem dL_law_555 : decode cL_law 555 = .ok (.iadd, 1) := by decide +kernel
theorem dL_law_556 : decode cL_law 556 = .ok (.iaload, 1) := by decide +kernel
theorem dL_law_557 : decode cL_law 557 = .ok (.invokevirtual 53, 3) := by decide +kernel
theorem lk_RL_53 : Cond.methodLink RL 53 yX11_end ∈ gW := gW_t 641 (by decide +kernel) rfl
theorem mI_X11_end : Cond.instanceMethod yX11_end ∈ gW := gW_t 642 (by decide +kernel) rfl
theorem mS_X11_end : Cond.selects RX11 yX11_end yX11_end ∈ gW := gW_t 643 (by decide +kernel) rfl
theorem mC_X11_end : Cond.code yX11_end cX11_end 2 (some .int) ∈ gW := gW_t 644 (by decide +kernel) rfl
theorem ok_X11_end : okD yX11_end 1 := ⟨by decide +kernel, by decide +kernel, by decide +kernel⟩
theorem dL_law_560 : decode cL_law 560 = .ok (.aload_n 2, 1) := by decide +kernel
theorem dL_law_561 : decode cL_law 561 = .ok (.aload_n 0, 1) := by decide +kernel
theorem dL_law_562 : decode cL_law 562 = .ok (.iload_n 3, 1) := by decide +kernel
theorem dL_law_563 : decode cL_law 563 = .ok (.iconst 1, 1) := by decide +kernel
theorem dL_law_564 : decode cL_law 564 = .ok (.iadd, 1) := by decide +kernel
theorem dL_law_565 : decode cL_law 565 = .ok (.iaload, 1) := by decide +kernel
theorem dL_law_566 : decode cL_law 566 = .ok (.invokevirtual 56, 3) := by decide +kernel
theorem lk_RL_56 : Cond.methodLink RL 56 yX12_end ∈ gW := gW_t 1627 (by decide +kernel) rfl
theorem mI_X12_end : Cond.instanceMethod yX12_end ∈ gW := gW_t 1628 (by decide +kernel) rfl
theorem mS_X12_end : Cond.selects RX12 yX12_end yX12_end ∈ gW := gW_t 1629 (by decide +kernel) rfl
theorem mC_X12_end : Cond.code yX12_end cX12_end 2 (some .int) ∈ gW := gW_t 1630 (by decide +kernel) rfl
theorem ok_X12_end : okD yX12_end 1 := ⟨by decide +kernel, by decide +kernel, by decide +kernel⟩
theorem dL_law_569 : decode cL_law 569 = .ok (.if_icmp .eq 891, 3) := by decide +kernel
theorem dL_law_574 : decode cL_law 574 = .ok (.aload_n 1, 1) := by decide +kernel
theorem dL_law_575 : decode cL_law 575 = .ok (.invokevirtual 57, 3) := by decide +kernel
theorem lk_RL_57 : Cond.methodLink RL 57 yX11_row ∈ gW := gW_t 645 (by decide +kernel) rfl
theorem mI_X11_row : Cond.instanceMethod yX11_row ∈ gW := gW_t 646 (by decide +kernel) rfl
theorem mS_X11_row : Cond.selects RX11 yX11_row yX11_row ∈ gW := gW_t 647 (by decide +kernel) rfl
theorem mC_X11_row : Cond.code yX11_row cX11_row 4 (some .int) ∈ gW := gW_t 648 (by decide +kernel) rfl
theorem ok_X11_row : okD yX11_row 0 := ⟨by decide +kernel, by decide +kernel, by decide +kernel⟩
theorem dL_law_578 : decode cL_law 578 = .ok (.aload_n 2, 1) := by decide +kernel
theorem dL_law_579 : decode cL_law 579 = .ok (.invokevirtual 61, 3) := by decide +kernel
theorem lk_RL_61 : Cond.methodLink RL 61 yX12_row ∈ gW := gW_t 1611 (by decide +kernel) rfl
theorem mI_X12_row : Cond.instanceMethod yX12_row ∈ gW := gW_t 1612 (by decide +kernel) rfl
theorem mS_X12_row : Cond.selects RX12 yX12_row yX12_row ∈ gW := gW_t 1613 (by decide +kernel) rfl
theorem mC_X12_row : Cond.code yX12_row cX12_row 5 (some .int) ∈ gW := gW_t 1614 (by decide +kernel) rfl
theorem ok_X12_row : okD yX12_row 0 := ⟨by decide +kernel, by decide +kernel, by decide +kernel⟩
theorem dL_law_582 : decode cL_law 582 = .ok (.if_icmp .eq 878, 3) := by decide +kernel
theorem dL_law_587 : decode cL_law 587 = .ok (.aload_n 1, 1) := by decide +kernel
theorem dL_law_588 : decode cL_law 588 = .ok (.invokevirtual 62, 3) := by decide +kernel
theorem lk_RL_62 : Cond.methodLink RL 62 yX11_mud ∈ gW := gW_t 655 (by decide +kernel) rfl
theorem mI_X11_mud : Cond.instanceMethod yX11_mud ∈ gW := gW_t 656 (by decide +kernel) rfl
theorem mS_X11_mud : Cond.selects RX11 yX11_mud yX11_mud ∈ gW := gW_t 657 (by decide +kernel) rfl
theorem mC_X11_mud : Cond.code yX11_mud cX11_mud 1 (some .int) ∈ gW := gW_t 658 (by decide +kernel) rfl
theorem ok_X11_mud : okD yX11_mud 0 := ⟨by decide +kernel, by decide +kernel, by decide +kernel⟩
theorem dL_law_591 : decode cL_law 591 = .ok (.aload_n 2, 1) := by decide +kernel
theorem dL_law_592 : decode cL_law 592 = .ok (.invokevirtual 65, 3) := by decide +kernel
theorem lk_RL_65 : Cond.methodLink RL 65 yX12_mud ∈ gW := gW_t 1615 (by decide +kernel) rfl
theorem mI_X12_mud : Cond.instanceMethod yX12_mud ∈ gW := gW_t 1616 (by decide +kernel) rfl
theorem mS_X12_mud : Cond.selects RX12 yX12_mud yX12_mud ∈ gW := gW_t 1617 (by decide +kernel) rfl
theorem mC_X12_mud : Cond.code yX12_mud cX12_mud 1 (some .int) ∈ gW := gW_t 1618 (by decide +kernel) rfl
theorem ok_X12_mud : okD yX12_mud 0 := ⟨by decide +kernel, by decide +kernel, by decide +kernel⟩
theorem dL_law_595 : decode cL_law 595 = .ok (.if_icmp .eq 865, 3) := by decide +kernel
theorem dL_law_600 : decode cL_law 600 = .ok (.aload_n 1, 1) := by decide +kernel
theorem dL_law_601 : decode cL_law 601 = .ok (.invokevirtual 66, 3) := by decide +kernel
theorem lk_RL_66 : Cond.methodLink RL 66 yX11_law ∈ gW := gW_t 659 (by decide +kernel) rfl
theorem mI_X11_law : Cond.instanceMethod yX11_law ∈ gW := gW_t 660 (by decide +kernel) rfl
theorem mS_X11_law : Cond.selects RX11 yX11_law yX11_law ∈ gW := gW_t 661 (by decide +kernel) rfl
theorem mC_X11_law : Cond.code yX11_law cX11_law 2 (some .int) ∈ gW := gW_t 662 (by decide +kernel) rfl
theorem ok_X11_law : okD yX11_law 0 := ⟨by decide +kernel, by decide +kernel, by decide +kernel⟩
theorem dL_law_604 : decode cL_law 604 = .ok (.aload_n 2, 1) := by decide +kernel
theorem dL_law_605 : decode cL_law 605 = .ok (.invokevirtual 69, 3) := by decide +kernel
theorem lk_RL_69 : Cond.methodLink RL 69 yX12_law ∈ gW := gW_t 1635 (by decide +kernel) rfl
theorem mI_X12_law : Cond.instanceMethod yX12_law ∈ gW := gW_t 1636 (by decide +kernel) rfl
theorem mS_X12_law : Cond.selects RX12 yX12_law yX12_law ∈ gW := gW_t 1637 (by decide +kernel) rfl
theorem mC_X12_law : Cond.code yX12_law cX12_law 3 (some .int) ∈ gW := gW_t 1638 (by decide +kernel) rfl
theorem ok_X12_law : okD yX12_law 0 := ⟨by decide +kernel, by decide +kernel, by decide +kernel⟩
theorem dL_law_608 : decode cL_law 608 = .ok (.if_icmp .eq 852, 3) := by decide +kernel
theorem dL_law_613 : decode cL_law 613 = .ok (.aload_n 1, 1) := by decide +kernel
theorem dL_law_614 : decode cL_law 614 = .ok (.invokevirtual 70, 3) := by decide +kernel
theorem lk_RL_70 : Cond.methodLink RL 70 yX11_orders ∈ gW := gW_t 831 (by decide +kernel) rfl
theorem mI_X11_orders : Cond.instanceMethod yX11_orders ∈ gW := gW_t 832 (by decide +kernel) rfl
theorem mS_X11_orders : Cond.selects RX11 yX11_orders yX11_orders ∈ gW := gW_t 833 (by decide +kernel) rfl
theorem mC_X11_orders : Cond.code yX11_orders cX11_orders 2 (some .int) ∈ gW := gW_t 834 (by decide +kernel) rfl
theorem ok_X11_orders : okD yX11_orders 0 := ⟨by decide +kernel, by decide +kernel, by decide +kernel⟩
theorem dL_law_617 : decode cL_law 617 = .ok (.aload_n 2, 1) := by decide +kernel
theorem dL_law_618 : decode cL_law 618 = .ok (.invokevirtual 73, 3) := by decide +kernel
theorem lk_RL_73 : Cond.methodLink RL 73 yX12_orders ∈ gW := gW_t 1957 (by decide +kernel) rfl
theorem mI_X12_orders : Cond.instanceMethod yX12_orders ∈ gW := gW_t 1958 (by decide +kernel) rfl
theorem mS_X12_orders : Cond.selects RX12 yX12_orders yX12_orders ∈ gW := gW_t 1959 (by decide +kernel) rfl
theorem mC_X12_orders : Cond.code yX12_orders cX12_orders 4 (some .int) ∈ gW := gW_t 1960 (by decide +kernel) rfl
theorem ok_X12_orders : okD yX12_orders 0 := ⟨by decide +kernel, by decide +kernel, by decide +kernel⟩
theorem dL_law_621 : decode cL_law 621 = .ok (.if_icmp .eq 839, 3) := by decide +kernel
theorem dL_law_626 : decode cL_law 626 = .ok (.aload_n 1, 1) := by decide +kernel
theorem dL_law_627 : decode cL_law 627 = .ok (.invokevirtual 74, 3) := by decide +kernel
theorem lk_RL_74 : Cond.methodLink RL 74 yX11_fault ∈ gW := gW_t 941 (by decide +kernel) rfl
theorem mI_X11_fault : Cond.instanceMethod yX11_fault ∈ gW := gW_t 942 (by decide +kernel) rfl
theorem mS_X11_fault : Cond.selects RX11 yX11_fault yX11_fault ∈ gW := gW_t 943 (by decide +kernel) rfl
theorem mC_X11_fault : Cond.code yX11_fault cX11_fault 1 (some .int) ∈ gW := gW_t 944 (by decide +kernel) rfl
theorem ok_X11_fault : okD yX11_fault 0 := ⟨by decide +kernel, by decide +kernel, by decide +kernel⟩
theorem dL_law_630 : decode cL_law 630 = .ok (.aload_n 2, 1) := by decide +kernel
theorem dL_law_631 : decode cL_law 631 = .ok (.invokevirtual 77, 3) := by decide +kernel
theorem lk_RL_77 : Cond.methodLink RL 77 yX12_fault ∈ gW := gW_t 1631 (by decide +kernel) rfl
theorem mI_X12_fault : Cond.instanceMethod yX12_fault ∈ gW := gW_t 1632 (by decide +kernel) rfl
theorem mS_X12_fault : Cond.selects RX12 yX12_fault yX12_fault ∈ gW := gW_t 1633 (by decide +kernel) rfl
theorem mC_X12_fault : Cond.code yX12_fault cX12_fault 1 (some .int) ∈ gW := gW_t 1634 (by decide +kernel) rfl
theorem ok_X12_fault : okD yX12_fault 0 := ⟨by decide +kernel, by decide +kernel, by decide +kernel⟩
theorem dL_law_634 : decode cL_law 634 = .ok (.if_icmp .eq 826, 3) := by decide +kernel
