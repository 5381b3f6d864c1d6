theorem dX12_spreads_258 : decode cX12_spreads 258 = .ok (.aload_n 0, 1) := by decide +kernel
theorem dX12_spreads_259 : decode cX12_spreads 259 = .ok (.getfield 93, 3) := by decide +kernel
theorem dX12_spreads_262 : decode cX12_spreads 262 = .ok (.if_icmp .ge 52, 3) := by decide +kernel
theorem dX12_spreads_265 : decode cX12_spreads 265 = .ok (.aload_n 0, 1) := by decide +kernel
theorem dX12_spreads_266 : decode cX12_spreads 266 = .ok (.getfield 55, 3) := by decide +kernel
theorem dX12_spreads_269 : decode cX12_spreads 269 = .ok (.iload 5, 2) := by decide +kernel
theorem dX12_spreads_271 : decode cX12_spreads 271 = .ok (.iload_n 3, 1) := by decide +kernel
theorem dX12_spreads_272 : decode cX12_spreads 272 = .ok (.ifCond .ne 7, 3) := by decide +kernel
theorem dX12_spreads_275 : decode cX12_spreads 275 = .ok (.iconst 0, 1) := by decide +kernel
theorem dX12_spreads_276 : decode cX12_spreads 276 = .ok (.goto 19, 3) := by decide +kernel
theorem dX12_spreads_279 : decode cX12_spreads 279 = .ok (.iload_n 2, 1) := by decide +kernel
theorem dX12_spreads_280 : decode cX12_spreads 280 = .ok (.aload_n 0, 1) := by decide +kernel
theorem dX12_spreads_281 : decode cX12_spreads 281 = .ok (.getfield 16, 3) := by decide +kernel
theorem dX12_spreads_284 : decode cX12_spreads 284 = .ok (.aload_n 0, 1) := by decide +kernel
theorem dX12_spreads_285 : decode cX12_spreads 285 = .ok (.getfield 52, 3) := by decide +kernel
theorem dX12_spreads_288 : decode cX12_spreads 288 = .ok (.iload 5, 2) := by decide +kernel
theorem dX12_spreads_290 : decode cX12_spreads 290 = .ok (.iaload, 1) := by decide +kernel
theorem dX12_spreads_291 : decode cX12_spreads 291 = .ok (.iaload, 1) := by decide +kernel
theorem dX12_spreads_292 : decode cX12_spreads 292 = .ok (.imul, 1) := by decide +kernel
theorem dX12_spreads_293 : decode cX12_spreads 293 = .ok (.iload_n 3, 1) := by decide +kernel
theorem dX12_spreads_294 : decode cX12_spreads 294 = .ok (.idiv, 1) := by decide +kernel
theorem dX12_spreads_295 : decode cX12_spreads 295 = .ok (.iastore, 1) := by decide +kernel
theorem dX12_spreads_296 : decode cX12_spreads 296 = .ok (.iload 4, 2) := by decide +kernel
theorem dX12_spreads_298 : decode cX12_spreads 298 = .ok (.aload_n 0, 1) := by decide +kernel
theorem dX12_spreads_299 : decode cX12_spreads 299 = .ok (.getfield 55, 3) := by decide +kernel
theorem dX12_spreads_302 : decode cX12_spreads 302 = .ok (.iload 5, 2) := by decide +kernel
theorem dX12_spreads_304 : decode cX12_spreads 304 = .ok (.iaload, 1) := by decide +kernel
theorem dX12_spreads_305 : decode cX12_spreads 305 = .ok (.isub, 1) := by decide +kernel
theorem dX12_spreads_306 : decode cX12_spreads 306 = .ok (.istore 4, 2) := by decide +kernel
theorem dX12_spreads_308 : decode cX12_spreads 308 = .ok (.iinc 5 1, 3) := by decide +kernel
theorem dX12_spreads_311 : decode cX12_spreads 311 = .ok (.goto (-55), 3) := by decide +kernel
theorem dX12_spreads_314 : decode cX12_spreads 314 = .ok (.iconst 0, 1) := by decide +kernel
theorem dX12_spreads_315 : decode cX12_spreads 315 = .ok (.istore 5, 2) := by decide +kernel
theorem dX12_spreads_317 : decode cX12_spreads 317 = .ok (.iload 5, 2) := by decide +kernel
theorem dX12_spreads_319 : decode cX12_spreads 319 = .ok (.aload_n 0, 1) := by decide +kernel
theorem dX12_spreads_320 : decode cX12_spreads 320 = .ok (.getfield 93, 3) := by decide +kernel
theorem dX12_spreads_323 : decode cX12_spreads 323 = .ok (.if_icmp .ge 84, 3) := by decide +kernel
theorem dX12_spreads_326 : decode cX12_spreads 326 = .ok (.iload 4, 2) := by decide +kernel
theorem dX12_spreads_328 : decode cX12_spreads 328 = .ok (.ifCond .le 22, 3) := by decide +kernel
theorem dX12_spreads_331 : decode cX12_spreads 331 = .ok (.aload_n 0, 1) := by decide +kernel
theorem dX12_spreads_332 : decode cX12_spreads 332 = .ok (.getfield 16, 3) := by decide +kernel
theorem dX12_spreads_335 : decode cX12_spreads 335 = .ok (.aload_n 0, 1) := by decide +kernel
theorem dX12_spreads_336 : decode cX12_spreads 336 = .ok (.getfield 52, 3) := by decide +kernel
theorem dX12_spreads_339 : decode cX12_spreads 339 = .ok (.iload 5, 2) := by decide +kernel
theorem dX12_spreads_341 : decode cX12_spreads 341 = .ok (.iaload, 1) := by decide +kernel
theorem dX12_spreads_342 : decode cX12_spreads 342 = .ok (.iaload, 1) := by decide +kernel
theorem dX12_spreads_343 : decode cX12_spreads 343 = .ok (.ifCond .le 7, 3) := by decide +kernel
theorem dX12_spreads_346 : decode cX12_spreads 346 = .ok (.iconst 1, 1) := by decide +kernel
theorem dX12_spreads_347 : decode cX12_spreads 347 = .ok (.goto 4, 3) := by decide +kernel
theorem dX12_spreads_350 : decode cX12_spreads 350 = .ok (.iconst 0, 1) := by decide +kernel
theorem dX12_spreads_351 : decode cX12_spreads 351 = .ok (.istore 6, 2) := by decide +kernel
theorem dX12_spreads_353 : decode cX12_spreads 353 = .ok (.aload_n 0, 1) := by decide +kernel
theorem dX12_spreads_354 : decode cX12_spreads 354 = .ok (.getfield 16, 3) := by decide +kernel
theorem dX12_spreads_357 : decode cX12_spreads 357 = .ok (.aload_n 0, 1) := by decide +kernel
theorem dX12_spreads_358 : decode cX12_spreads 358 = .ok (.getfield 52, 3) := by decide +kernel
theorem dX12_spreads_361 : decode cX12_spreads 361 = .ok (.iload 5, 2) := by decide +kernel
theorem dX12_spreads_363 : decode cX12_spreads 363 = .ok (.iaload, 1) := by decide +kernel
theorem dX12_spreads_364 : decode cX12_spreads 364 = .ok (.dup2, 1) := by decide +kernel
theorem dX12_spreads_365 : decode cX12_spreads 365 = .ok (.iaload, 1) := by decide +kernel
theorem dX12_spreads_366 : decode cX12_spreads 366 = .ok (.aload_n 0, 1) := by decide +kernel
theorem dX12_spreads_367 : decode cX12_spreads 367 = .ok (.getfield 55, 3) := by decide +kernel
theorem dX12_spreads_370 : decode cX12_spreads 370 = .ok (.iload 5, 2) := by decide +kernel
theorem dX12_spreads_372 : decode cX12_spreads 372 = .ok (.iaload, 1) := by decide +kernel
theorem dX12_spreads_373 : decode cX12_spreads 373 = .ok (.iload 6, 2) := by decide +kernel
theorem dX12_spreads_375 : decode cX12_spreads 375 = .ok (.ifCond .eq 7, 3) := by decide +kernel
theorem dX12_spreads_378 : decode cX12_spreads 378 = .ok (.iconst 1, 1) := by decide +kernel
theorem dX12_spreads_379 : decode cX12_spreads 379 = .ok (.goto 4, 3) := by decide +kernel
theorem dX12_spreads_382 : decode cX12_spreads 382 = .ok (.iconst 0, 1) := by decide +kernel
theorem dX12_spreads_383 : decode cX12_spreads 383 = .ok (.iadd, 1) := by decide +kernel
theorem dX12_spreads_384 : decode cX12_spreads 384 = .ok (.isub, 1) := by decide +kernel
theorem dX12_spreads_385 : decode cX12_spreads 385 = .ok (.iastore, 1) := by decide +kernel
theorem dX12_spreads_386 : decode cX12_spreads 386 = .ok (.iload 4, 2) := by decide +kernel
theorem dX12_spreads_388 : decode cX12_spreads 388 = .ok (.iload 6, 2) := by decide +kernel
theorem dX12_spreads_390 : decode cX12_spreads 390 = .ok (.ifCond .eq 7, 3) := by decide +kernel
theorem dX12_spreads_393 : decode cX12_spreads 393 = .ok (.iconst 1, 1) := by decide +kernel
theorem dX12_spreads_394 : decode cX12_spreads 394 = .ok (.goto 4, 3) := by decide +kernel
theorem dX12_spreads_397 : decode cX12_spreads 397 = .ok (.iconst 0, 1) := by decide +kernel
theorem dX12_spreads_398 : decode cX12_spreads 398 = .ok (.isub, 1) := by decide +kernel
theorem dX12_spreads_399 : decode cX12_spreads 399 = .ok (.istore 4, 2) := by decide +kernel
theorem dX12_spreads_401 : decode cX12_spreads 401 = .ok (.iinc 5 1, 3) := by decide +kernel
theorem dX12_spreads_404 : decode cX12_spreads 404 = .ok (.goto (-87), 3) := by decide +kernel
theorem dX12_spreads_407 : decode cX12_spreads 407 = .ok (.return_, 1) := by decide +kernel
set_option maxRecDepth 20000 in
theorem ggX12_bestDiscount_X12_finds_p0 : GoodIn wsX12_bestDiscount [.code yX12_finds cX12_finds 3 none] := goodIn_r _ [7] (by decide +kernel) (by decide +kernel)
set_option maxRecDepth 20000 in
theorem ggX12_bestDiscount_X12_finds_p1 : GoodIn wsX12_bestDiscount wsX12_finds_r1 := goodIn_r _ [8, 9, 10, 11, 12, 2, 13, 14, 15, 6, 16, 17, 18, 19, 20, 21, 22, 23, 24, 25, 26, 27, 28, 29] (by decide +kernel) (by decide +kernel)
set_option maxRecDepth 20000 in
theorem ggX12_bestDiscount_X12_finds_p2 : GoodIn wsX12_bestDiscount wsX12_finds_r2 := goodIn_r _ [30, 31, 32, 33, 34, 35, 36, 37, 38, 39, 40, 41, 42, 43, 44, 45, 46, 47, 48, 49, 50, 51, 52, 53] (by decide +kernel) (by decide +kernel)
set_option maxRecDepth 20000 in
theorem ggX12_bestDiscount_X12_finds_p3 : GoodIn wsX12_bestDiscount wsX12_finds_r3 := goodIn_r _ [54, 55, 56, 57, 58, 59, 60, 61, 62, 63, 64, 65, 66, 67, 68, 69, 70, 71, 72, 73, 74, 75, 76, 77] (by decide +kernel) (by decide +kernel)
set_option maxRecDepth 20000 in
theorem ggX12_bestDiscount_X12_finds_p4 : GoodIn wsX12_bestDiscount wsX12_finds_r4 := goodIn_r _ [78, 79, 80, 81, 82, 83, 84, 85, 86, 87, 88, 89, 90, 91, 92, 93, 94, 95, 96, 97, 98, 99, 100, 101] (by decide +kernel) (by decide +kernel)
set_option maxRecDepth 20000 in
theorem ggX12_bestDiscount_X12_finds_p5 : GoodIn wsX12_bestDiscount wsX12_finds_r5 := goodIn_r _ [102, 103, 104, 105, 106, 107, 108, 109, 110, 111, 112, 113, 114, 115, 116, 117, 118, 119, 120, 121, 122, 123, 124, 125] (by decide +kernel) (by decide +kernel)
set_option maxRecDepth 20000 in
theorem ggX12_bestDiscount_X12_finds_p6 : GoodIn wsX12_bestDiscount wsX12_finds_r6 := goodIn_r _ [126, 127, 128, 129] (by decide +kernel) (by decide +kernel)
set_option maxRecDepth 20000 in
theorem ggX12_bestDiscount_X12_finds_p7 : GoodIn wsX12_bestDiscount wsX120 := goodIn_r _ [130, 131, 132, 133, 134, 135, 136, 137, 138, 139, 140, 141, 142, 143, 144, 145, 146, 147, 148, 149, 150, 151, 152, 153, 154, 155, 156, 157, 158, 159, 160, 161, 162, 163, 164, 165, 166] (by decide +kernel) (by decide +kernel)
set_option maxRecDepth 20000 in
theorem ggX12_bestDiscount_X12_finds : GoodIn wsX12_bestDiscount wsX12_finds := goodIn_ca (goodIn_ca (goodIn_app ggX12_bestDiscount_X12_finds_p0 (goodIn_app (goodIn_app ggX12_bestDiscount_X12_finds_p1 (goodIn_app ggX12_bestDiscount_X12_finds_p2 (goodIn_app ggX12_bestDiscount_X12_finds_p3 (goodIn_app ggX12_bestDiscount_X12_finds_p4 (goodIn_app ggX12_bestDiscount_X12_finds_p5 ggX12_bestDiscount_X12_finds_p6))))) ggX12_bestDiscount_X12_finds_p7)) (goodIn_sub (fun _ h => List.mem_cons_of_mem _ (List.mem_append_left _ (List.mem_append_right _ h))) (by decide +kernel))) (goodIn_sub (fun _ h => List.mem_cons_of_mem _ (List.mem_append_right _ h)) (by decide +kernel))
set_option maxRecDepth 20000 in
theorem gX12_bestDiscount_X12_finds : GoodIn wsX12_bestDiscount (wsV RX12 211 RX12 yX12_finds wsX12_finds) := goodIn_app (goodIn_of _ (by decide +kernel)) ggX12_bestDiscount_X12_finds
theorem dX12_bestDiscount_0 : decode cX12_bestDiscount 0 = .ok (.aload_n 0, 1) := by decide +kernel
theorem dX12_bestDiscount_1 : decode cX12_bestDiscount 1 = .ok (.iconst 0, 1) := by decide +kernel
theorem dX12_bestDiscount_2 : decode cX12_bestDiscount 2 = .ok (.putfield 89, 3) := by decide +kernel
theorem dX12_bestDiscount_5 : decode cX12_bestDiscount 5 = .ok (.aload_n 0, 1) := by decide +kernel
theorem dX12_bestDiscount_6 : decode cX12_bestDiscount 6 = .ok (.invokevirtual 211, 3) := by decide +kernel
theorem dX12_bestDiscount_9 : decode cX12_bestDiscount 9 = .ok (.aload_n 0, 1) := by decide +kernel
theorem dX12_bestDiscount_10 : decode cX12_bestDiscount 10 = .ok (.getfield 169, 3) := by decide +kernel
theorem dX12_bestDiscount_13 : decode cX12_bestDiscount 13 = .ok (.ireturn, 1) := by decide +kernel
set_option maxRecDepth 20000 in
theorem ggX12_bestByTrying_X12_looks : GoodIn wsX12_bestByTrying wsX12_looks := goodIn_ca (goodIn_r _ [6, 1, 7, 8, 9, 138, 139, 140, 141, 142, 143, 144, 145, 146, 147, 148, 149, 150, 151, 152, 153, 154, 155, 156, 157, 158, 159, 160, 161, 162, 163, 164, 165, 166, 167, 168, 169, 170, 171, 172, 173, 174] (by decide +kernel) (by decide +kernel)) (goodIn_sub (fun _ h => List.mem_cons_of_mem _ (List.mem_append_left _ (List.mem_append_right _ h))) (by decide +kernel))
set_option maxRecDepth 20000 in
theorem gX12_bestByTrying_X12_looks : GoodIn wsX12_bestByTrying (wsV RX12 103 RX12 yX12_looks wsX12_looks) := goodIn_app (goodIn_of _ (by decide +kernel)) ggX12_bestByTrying_X12_looks
set_option maxRecDepth 20000 in
theorem ggX12_bestByTrying_X12_raises : GoodIn wsX12_bestByTrying wsX12_raises := goodIn_r _ [13, 14, 138, 139, 140, 141, 142, 143, 144, 145, 146, 147, 148, 149, 150, 151, 152, 153, 154, 155, 156, 157, 158, 159, 160, 161, 162, 163, 164, 165, 166, 167, 168, 169, 170, 171, 172, 173, 174] (by decide +kernel) (by decide +kernel)
set_option maxRecDepth 20000 in
theorem gX12_bestByTrying_X12_raises : GoodIn wsX12_bestByTrying (wsV RX12 214 RX12 yX12_raises wsX12_raises) := goodIn_app (goodIn_of _ (by decide +kernel)) ggX12_bestByTrying_X12_raises
set_option maxRecDepth 20000 in
theorem ggX12_bestByTrying_X12_bestDiscount_p0 : GoodIn wsX12_bestByTrying [.code yX12_bestDiscount cX12_bestDiscount 1 (some .int)] := goodIn_r _ [18] (by decide +kernel) (by decide +kernel)
set_option maxRecDepth 20000 in
theorem ggX12_bestByTrying_X12_bestDiscount_p1 : GoodIn wsX12_bestByTrying wsX12_bestDiscount_r1 := goodIn_r _ [14, 19, 20, 21, 22, 5, 23, 24, 25, 26, 27, 28, 29, 30, 31, 32, 1, 33, 9, 2, 3, 4, 6, 7] (by decide +kernel) (by decide +kernel)
set_option maxRecDepth 20000 in
theorem ggX12_bestByTrying_X12_bestDiscount_p2 : GoodIn wsX12_bestByTrying wsX12_bestDiscount_r2 := goodIn_r _ [8, 34, 35, 36, 37, 38, 39, 40, 41, 42, 43, 44, 45, 46, 47, 48, 49, 50, 51, 52, 53, 54, 55, 56] (by decide +kernel) (by decide +kernel)
set_option maxRecDepth 20000 in
theorem ggX12_bestByTrying_X12_bestDiscount_p3 : GoodIn wsX12_bestByTrying wsX12_bestDiscount_r3 := goodIn_r _ [57, 58, 59, 60, 61, 62, 63, 64, 65, 66, 67, 68, 69, 70, 71, 72, 73, 74, 75, 76, 77, 78, 79, 80] (by decide +kernel) (by decide +kernel)
set_option maxRecDepth 20000 in
theorem ggX12_bestByTrying_X12_bestDiscount_p4 : GoodIn wsX12_bestByTrying wsX12_bestDiscount_r4 := goodIn_r _ [81, 82, 83, 84, 85, 86, 87, 88, 89, 90, 91, 92, 93, 94, 95, 96, 97, 98, 99, 100, 101, 102, 103, 104] (by decide +kernel) (by decide +kernel)
set_option maxRecDepth 20000 in
theorem ggX12_bestByTrying_X12_bestDiscount_p5 : GoodIn wsX12_bestByTrying wsX12_bestDiscount_r5 := goodIn_r _ [105, 106, 107, 108, 109, 110, 111, 112, 113, 114, 115, 116, 117, 118, 119, 120, 121, 122, 123, 124, 125, 126, 127, 128] (by decide +kernel) (by decide +kernel)
set_option maxRecDepth 20000 in
theorem ggX12_bestByTrying_X12_bestDiscount_p6 : GoodIn wsX12_bestByTrying wsX12_bestDiscount_r6 := goodIn_r _ [129, 130, 131, 132, 133, 134, 135, 136, 137] (by decide +kernel) (by decide +kernel)
set_option maxRecDepth 20000 in
theorem ggX12_bestByTrying_X12_bestDiscount_p7 : GoodIn wsX12_bestByTrying wsX120 := goodIn_r _ [138, 139, 140, 141, 142, 143, 144, 145, 146, 147, 148, 149, 150, 151, 152, 153, 154, 155, 156, 157, 158, 159, 160, 161, 162, 163, 164, 165, 166, 167, 168, 169, 170, 171, 172, 173, 174] (by decide +kernel) (by decide +kernel)
set_option maxRecDepth 20000 in
theorem ggX12_bestByTrying_X12_bestDiscount : GoodIn wsX12_bestByTrying wsX12_bestDiscount := goodIn_ca (goodIn_ca (goodIn_app ggX12_bestByTrying_X12_bestDiscount_p0 (goodIn_app (goodIn_app ggX12_bestByTrying_X12_bestDiscount_p1 (goodIn_app ggX12_bestByTrying_X12_bestDiscount_p2 (goodIn_app ggX12_bestByTrying_X12_bestDiscount_p3 (goodIn_app ggX12_bestByTrying_X12_bestDiscount_p4 (goodIn_app ggX12_bestByTrying_X12_bestDiscount_p5 ggX12_bestByTrying_X12_bestDiscount_p6))))) ggX12_bestByTrying_X12_bestDiscount_p7)) (goodIn_sub (fun _ h => List.mem_cons_of_mem _ (List.mem_append_left _ (List.mem_append_right _ h))) (by decide +kernel))) (goodIn_sub (fun _ h => List.mem_cons_of_mem _ (List.mem_append_right _ h)) (by decide +kernel))
set_option maxRecDepth 20000 in
theorem gX12_bestByTrying_X12_bestDiscount : GoodIn wsX12_bestByTrying (wsV RX12 217 RX12 yX12_bestDiscount wsX12_bestDiscount) := goodIn_app (goodIn_of _ (by decide +kernel)) ggX12_bestByTrying_X12_bestDiscount
theorem dX12_bestByTrying_0 : decode cX12_bestByTrying 0 = .ok (.aload_n 0, 1) := by decide +kernel
theorem dX12_bestByTrying_1 : decode cX12_bestByTrying 1 = .ok (.invokevirtual 103, 3) := by decide +kernel
theorem dX12_bestByTrying_4 : decode cX12_bestByTrying 4 = .ok (.aload_n 0, 1) := by decide +kernel
theorem dX12_bestByTrying_5 : decode cX12_bestByTrying 5 = .ok (.getfield 93, 3) := by decide +kernel
theorem dX12_bestByTrying_8 : decode cX12_bestByTrying 8 = .ok (.iconst 5, 1) := by decide +kernel
theorem dX12_bestByTrying_9 : decode cX12_bestByTrying 9 = .ok (.if_icmp .le 9, 3) := by decide +kernel
theorem dX12_bestByTrying_12 : decode cX12_bestByTrying 12 = .ok (.aload_n 0, 1) := by decide +kernel
theorem dX12_bestByTrying_13 : decode cX12_bestByTrying 13 = .ok (.iconst 1, 1) := by decide +kernel
theorem dX12_bestByTrying_14 : decode cX12_bestByTrying 14 = .ok (.invokevirtual 214, 3) := by decide +kernel
theorem dX12_bestByTrying_17 : decode cX12_bestByTrying 17 = .ok (.ireturn, 1) := by decide +kernel
theorem dX12_bestByTrying_18 : decode cX12_bestByTrying 18 = .ok (.aload_n 0, 1) := by decide +kernel
theorem dX12_bestByTrying_19 : decode cX12_bestByTrying 19 = .ok (.invokevirtual 217, 3) := by decide +kernel
theorem dX12_bestByTrying_22 : decode cX12_bestByTrying 22 = .ok (.ireturn, 1) := by decide +kernel
theorem dX12_placeOf_0 : decode cX12_placeOf 0 = .ok (.iconst 0, 1) := by decide +kernel
theorem dX12_placeOf_1 : decode cX12_placeOf 1 = .ok (.istore_n 2, 1) := by decide +kernel
theorem dX12_placeOf_2 : decode cX12_placeOf 2 = .ok (.aload_n 0, 1) := by decide +kernel
theorem dX12_placeOf_3 : decode cX12_placeOf 3 = .ok (.getfield 52, 3) := by decide +kernel
theorem dX12_placeOf_6 : decode cX12_placeOf 6 = .ok (.iload_n 2, 1) := by decide +kernel
theorem dX12_placeOf_7 : decode cX12_placeOf 7 = .ok (.iaload, 1) := by decide +kernel
theorem dX12_placeOf_8 : decode cX12_placeOf 8 = .ok (.iload_n 1, 1) := by decide +kernel
theorem dX12_placeOf_9 : decode cX12_placeOf 9 = .ok (.if_icmp .eq 9, 3) := by decide +kernel
theorem dX12_placeOf_12 : decode cX12_placeOf 12 = .ok (.iinc 2 1, 3) := by decide +kernel
theorem dX12_placeOf_15 : decode cX12_placeOf 15 = .ok (.goto (-13), 3) := by decide +kernel
theorem dX12_placeOf_18 : decode cX12_placeOf 18 = .ok (.iload_n 2, 1) := by decide +kernel
theorem dX12_placeOf_19 : decode cX12_placeOf 19 = .ok (.ireturn, 1) := by decide +kernel
set_option maxRecDepth 20000 in
theorem ggX12_offerOf_X12_isInBasket : GoodIn wsX12_offerOf wsX12_isInBasket := goodIn_ca (goodIn_r _ [8, 9, 10, 11, 12, 7, 13, 141, 142, 143, 144, 145, 146, 147, 148, 149, 150, 151, 152, 153, 154, 155, 156, 157, 158, 159, 160, 161, 162, 163, 164, 165, 166, 167, 168, 169, 170, 171, 172, 173, 174, 175, 176, 177] (by decide +kernel) (by decide +kernel)) (goodIn_sub (fun _ h => List.mem_cons_of_mem _ (List.mem_append_left _ (List.mem_append_right _ h))) (by decide +kernel))
set_option maxRecDepth 20000 in
theorem gX12_offerOf_X12_isInBasket : GoodIn wsX12_offerOf (wsV RX12 110 RX12 yX12_isInBasket wsX12_isInBasket) := goodIn_app (goodIn_of _ (by decide +kernel)) ggX12_offerOf_X12_isInBasket
set_option maxRecDepth 20000 in
theorem ggX12_offerOf_X12_finds_p0 : GoodIn wsX12_offerOf [.code yX12_finds cX12_finds 3 none] := goodIn_r _ [17] (by decide +kernel) (by decide +kernel)
set_option maxRecDepth 20000 in
theorem ggX12_offerOf_X12_finds_p1 : GoodIn wsX12_offerOf wsX12_finds_r1 := goodIn_r _ [18, 19, 20, 21, 22, 23, 24, 25, 26, 7, 27, 28, 29, 30, 31, 32, 33, 34, 9, 10, 35, 36, 37, 38] (by decide +kernel) (by decide +kernel)
set_option maxRecDepth 20000 in
theorem ggX12_offerOf_X12_finds_p2 : GoodIn wsX12_offerOf wsX12_finds_r2 := goodIn_r _ [39, 40, 41, 42, 43, 44, 45, 46, 47, 48, 49, 50, 51, 52, 53, 54, 55, 56, 57, 58, 59, 60, 61, 62] (by decide +kernel) (by decide +kernel)
set_option maxRecDepth 20000 in
theorem ggX12_offerOf_X12_finds_p3 : GoodIn wsX12_offerOf wsX12_finds_r3 := goodIn_r _ [63, 64, 65, 66, 67, 68, 69, 70, 71, 72, 73, 74, 75, 76, 77, 78, 79, 80, 81, 82, 83, 84, 85, 86] (by decide +kernel) (by decide +kernel)
set_option maxRecDepth 20000 in
theorem ggX12_offerOf_X12_finds_p4 : GoodIn wsX12_offerOf wsX12_finds_r4 := goodIn_r _ [87, 88, 89, 90, 91, 92, 93, 94, 95, 96, 97, 98, 99, 100, 2, 101, 102, 3, 103, 104, 105, 106, 107, 108] (by decide +kernel) (by decide +kernel)
set_option maxRecDepth 20000 in
theorem ggX12_offerOf_X12_finds_p5 : GoodIn wsX12_offerOf wsX12_finds_r5 := goodIn_r _ [109, 110, 111, 112, 113, 114, 115, 116, 117, 118, 119, 120, 121, 122, 123, 124, 125, 126, 127, 128, 129, 130, 131, 132] (by decide +kernel) (by decide +kernel)
set_option maxRecDepth 20000 in
theorem ggX12_offerOf_X12_finds_p6 : GoodIn wsX12_offerOf wsX12_finds_r6 := goodIn_r _ [133, 134, 135, 136] (by decide +kernel) (by decide +kernel)
set_option maxRecDepth 20000 in
theorem ggX12_offerOf_X12_finds_p7 : GoodIn wsX12_offerOf wsX120 := goodIn_r _ [141, 142, 143, 144, 145, 146, 147, 148, 149, 150, 151, 152, 153, 154, 155, 156, 157, 158, 159, 160, 161, 162, 163, 164, 165, 166, 167, 168, 169, 170, 171, 172, 173, 174, 175, 176, 177] (by decide +kernel) (by decide +kernel)
set_option maxRecDepth 20000 in
theorem ggX12_offerOf_X12_finds : GoodIn wsX12_offerOf wsX12_finds := goodIn_ca (goodIn_ca (goodIn_app ggX12_offerOf_X12_finds_p0 (goodIn_app (goodIn_app ggX12_offerOf_X12_finds_p1 (goodIn_app ggX12_offerOf_X12_finds_p2 (goodIn_app ggX12_offerOf_X12_finds_p3 (goodIn_app ggX12_offerOf_X12_finds_p4 (goodIn_app ggX12_offerOf_X12_finds_p5 ggX12_offerOf_X12_finds_p6))))) ggX12_offerOf_X12_finds_p7)) (goodIn_sub (fun _ h => List.mem_cons_of_mem _ (List.mem_append_left _ (List.mem_append_right _ h))) (by decide +kernel))) (goodIn_sub (fun _ h => List.mem_cons_of_mem _ (List.mem_append_right _ h)) (by decide +kernel))
set_option maxRecDepth 20000 in
theorem gX12_offerOf_X12_finds : GoodIn wsX12_offerOf (wsV RX12 211 RX12 yX12_finds wsX12_finds) := goodIn_app (goodIn_of _ (by decide +kernel)) ggX12_offerOf_X12_finds
set_option maxRecDepth 20000 in
theorem ggX12_offerOf_X12_looks : GoodIn wsX12_offerOf wsX12_looks := goodIn_ca (goodIn_r _ [34, 28, 9, 10, 30, 141, 142, 143, 144, 145, 146, 147, 148, 149, 150, 151, 152, 153, 154, 155, 156, 157, 158, 159, 160, 161, 162, 163, 164, 165, 166, 167, 168, 169, 170, 171, 172, 173, 174, 175, 176, 177] (by decide +kernel) (by decide +kernel)) (goodIn_sub (fun _ h => List.mem_cons_of_mem _ (List.mem_append_left _ (List.mem_append_right _ h))) (by decide +kernel))
set_option maxRecDepth 20000 in
theorem gX12_offerOf_X12_looks : GoodIn wsX12_offerOf (wsV RX12 103 RX12 yX12_looks wsX12_looks) := goodIn_app (goodIn_of _ (by decide +kernel)) ggX12_offerOf_X12_looks
set_option maxRecDepth 20000 in
theorem ggX12_offerOf_X12_placeOf : GoodIn wsX12_offerOf wsX12_placeOf := goodIn_ca (goodIn_r _ [140, 30, 141, 142, 143, 144, 145, 146, 147, 148, 149, 150, 151, 152, 153, 154, 155, 156, 157, 158, 159, 160, 161, 162, 163, 164, 165, 166, 167, 168, 169, 170, 171, 172, 173, 174, 175, 176, 177] (by decide +kernel) (by decide +kernel)) (goodIn_sub (fun _ h => List.mem_cons_of_mem _ (List.mem_append_left _ (List.mem_append_right _ h))) (by decide +kernel))
set_option maxRecDepth 20000 in
theorem gX12_offerOf_X12_placeOf : GoodIn wsX12_offerOf (wsV RX12 220 RX12 yX12_placeOf wsX12_placeOf) := goodIn_app (goodIn_of _ (by decide +kernel)) ggX12_offerOf_X12_placeOf
theorem dX12_offerOf_0 : decode cX12_offerOf 0 = .ok (.aload_n 0, 1) := by decide +kernel
theorem dX12_offerOf_1 : decode cX12_offerOf 1 = .ok (.aload_n 0, 1) := by decide +kernel
theorem dX12_offerOf_2 : decode cX12_offerOf 2 = .ok (.iload_n 1, 1) := by decide +kernel
theorem dX12_offerOf_3 : decode cX12_offerOf 3 = .ok (.invokevirtual 110, 3) := by decide +kernel
theorem dX12_offerOf_6 : decode cX12_offerOf 6 = .ok (.ifCond .eq 7, 3) := by decide +kernel
theorem dX12_offerOf_9 : decode cX12_offerOf 9 = .ok (.iconst 0, 1) := by decide +kernel
theorem dX12_offerOf_10 : decode cX12_offerOf 10 = .ok (.goto 4, 3) := by decide +kernel
theorem dX12_offerOf_13 : decode cX12_offerOf 13 = .ok (.iconst 1, 1) := by decide +kernel
theorem dX12_offerOf_14 : decode cX12_offerOf 14 = .ok (.putfield 89, 3) := by decide +kernel
theorem dX12_offerOf_17 : decode cX12_offerOf 17 = .ok (.aload_n 0, 1) := by decide +kernel
theorem dX12_offerOf_18 : decode cX12_offerOf 18 = .ok (.getfield 89, 3) := by decide +kernel
theorem dX12_offerOf_21 : decode cX12_offerOf 21 = .ok (.ifCond .le 5, 3) := by decide +kernel
theorem dX12_offerOf_24 : decode cX12_offerOf 24 = .ok (.iconst 0, 1) := by decide +kernel
theorem dX12_offerOf_25 : decode cX12_offerOf 25 = .ok (.ireturn, 1) := by decide +kernel
theorem dX12_offerOf_26 : decode cX12_offerOf 26 = .ok (.aload_n 0, 1) := by decide +kernel
theorem dX12_offerOf_27 : decode cX12_offerOf 27 = .ok (.invokevirtual 211, 3) := by decide +kernel
theorem dX12_offerOf_30 : decode cX12_offerOf 30 = .ok (.aload_n 0, 1) := by decide +kernel
theorem dX12_offerOf_31 : decode cX12_offerOf 31 = .ok (.invokevirtual 103, 3) := by decide +kernel
theorem dX12_offerOf_34 : decode cX12_offerOf 34 = .ok (.aload_n 0, 1) := by decide +kernel
theorem dX12_offerOf_35 : decode cX12_offerOf 35 = .ok (.getfield 73, 3) := by decide +kernel
theorem dX12_offerOf_38 : decode cX12_offerOf 38 = .ok (.aload_n 0, 1) := by decide +kernel
theorem dX12_offerOf_39 : decode cX12_offerOf 39 = .ok (.iload_n 1, 1) := by decide +kernel
theorem dX12_offerOf_40 : decode cX12_offerOf 40 = .ok (.invokevirtual 220, 3) := by decide +kernel
theorem dX12_offerOf_43 : decode cX12_offerOf 43 = .ok (.iaload, 1) := by decide +kernel
theorem dX12_offerOf_44 : decode cX12_offerOf 44 = .ok (.istore_n 2, 1) := by decide +kernel
theorem dX12_offerOf_45 : decode cX12_offerOf 45 = .ok (.iload_n 2, 1) := by decide +kernel
theorem dX12_offerOf_46 : decode cX12_offerOf 46 = .ok (.iconst (-1), 1) := by decide +kernel
theorem dX12_offerOf_47 : decode cX12_offerOf 47 = .ok (.if_icmp .ne 7, 3) := by decide +kernel
theorem dX12_offerOf_50 : decode cX12_offerOf 50 = .ok (.iconst (-1), 1) := by decide +kernel
theorem dX12_offerOf_51 : decode cX12_offerOf 51 = .ok (.goto 9, 3) := by decide +kernel
theorem dX12_offerOf_54 : decode cX12_offerOf 54 = .ok (.aload_n 0, 1) := by decide +kernel
theorem dX12_offerOf_55 : decode cX12_offerOf 55 = .ok (.getfield 79, 3) := by decide +kernel
theorem dX12_offerOf_58 : decode cX12_offerOf 58 = .ok (.iload_n 2, 1) := by decide +kernel
theorem dX12_offerOf_59 : decode cX12_offerOf 59 = .ok (.iaload, 1) := by decide +kernel
theorem dX12_offerOf_60 : decode cX12_offerOf 60 = .ok (.ireturn, 1) := by decide +kernel
theorem dX12_usesOf_0 : decode cX12_usesOf 0 = .ok (.aload_n 0, 1) := by decide +kernel
theorem dX12_usesOf_1 : decode cX12_usesOf 1 = .ok (.getfield 26, 3) := by decide +kernel
theorem dX12_usesOf_4 : decode cX12_usesOf 4 = .ok (.iload_n 1, 1) := by decide +kernel
theorem dX12_usesOf_5 : decode cX12_usesOf 5 = .ok (.caload, 1) := by decide +kernel
theorem dX12_usesOf_6 : decode cX12_usesOf 6 = .ok (.bipush 116, 2) := by decide +kernel
theorem dX12_usesOf_8 : decode cX12_usesOf 8 = .ok (.if_icmp .ne 20, 3) := by decide +kernel
theorem dX12_usesOf_11 : decode cX12_usesOf 11 = .ok (.aload_n 0, 1) := by decide +kernel
theorem dX12_usesOf_12 : decode cX12_usesOf 12 = .ok (.getfield 85, 3) := by decide +kernel
theorem dX12_usesOf_15 : decode cX12_usesOf 15 = .ok (.iload_n 1, 1) := by decide +kernel
theorem dX12_usesOf_16 : decode cX12_usesOf 16 = .ok (.baload, 1) := by decide +kernel
theorem dX12_usesOf_17 : decode cX12_usesOf 17 = .ok (.ifCond .eq 7, 3) := by decide +kernel
theorem dX12_usesOf_20 : decode cX12_usesOf 20 = .ok (.iconst 1, 1) := by decide +kernel
theorem dX12_usesOf_21 : decode cX12_usesOf 21 = .ok (.goto 13, 3) := by decide +kernel
theorem dX12_usesOf_24 : decode cX12_usesOf 24 = .ok (.iconst 0, 1) := by decide +kernel
theorem dX12_usesOf_25 : decode cX12_usesOf 25 = .ok (.goto 9, 3) := by decide +kernel
theorem dX12_usesOf_28 : decode cX12_usesOf 28 = .ok (.aload_n 0, 1) := by decide +kernel
theorem dX12_usesOf_29 : decode cX12_usesOf 29 = .ok (.getfield 76, 3) := by decide +kernel
theorem dX12_usesOf_32 : decode cX12_usesOf 32 = .ok (.iload_n 1, 1) := by decide +kernel
theorem dX12_usesOf_33 : decode cX12_usesOf 33 = .ok (.iaload, 1) := by decide +kernel
theorem dX12_usesOf_34 : decode cX12_usesOf 34 = .ok (.ireturn, 1) := by decide +kernel
set_option maxRecDepth 20000 in
theorem ggX12_uses_X12_in : GoodIn wsX12_uses wsX12_in := goodIn_r _ [6] (by decide +kernel) (by decide +kernel)
set_option maxRecDepth 20000 in
theorem gX12_uses_X12_in : GoodIn wsX12_uses (va_wsS RX12 99 yX12_in wsX12_in) := goodIn_app (goodIn_of _ (by decide +kernel)) ggX12_uses_X12_in
set_option maxRecDepth 20000 in
theorem ggX12_uses_X12_finds_p0 : GoodIn wsX12_uses [.code yX12_finds cX12_finds 3 none] := goodIn_r _ [10] (by decide +kernel) (by decide +kernel)
set_option maxRecDepth 20000 in
theorem ggX12_uses_X12_finds_p1 : GoodIn wsX12_uses wsX12_finds_r1 := goodIn_r _ [11, 1, 12, 13, 14, 15, 16, 17, 18, 5, 19, 20, 21, 22, 23, 24, 25, 26, 27, 28, 29, 30, 31, 32] (by decide +kernel) (by decide +kernel)
set_option maxRecDepth 20000 in
theorem ggX12_uses_X12_finds_p2 : GoodIn wsX12_uses wsX12_finds_r2 := goodIn_r _ [33, 34, 35, 36, 37, 38, 39, 40, 41, 42, 43, 44, 45, 46, 47, 48, 49, 50, 51, 52, 53, 54, 55, 56] (by decide +kernel) (by decide +kernel)
set_option maxRecDepth 20000 in
theorem ggX12_uses_X12_finds_p3 : GoodIn wsX12_uses wsX12_finds_r3 := goodIn_r _ [57, 58, 59, 60, 61, 62, 63, 64, 65, 66, 67, 68, 69, 70, 71, 72, 73, 74, 75, 76, 77, 78, 79, 80] (by decide +kernel) (by decide +kernel)
set_option maxRecDepth 20000 in
theorem ggX12_uses_X12_finds_p4 : GoodIn wsX12_uses wsX12_finds_r4 := goodIn_r _ [81, 82, 83, 84, 85, 86, 87, 88, 89, 90, 91, 92, 93, 94, 95, 96, 97, 98, 99, 100, 101, 102, 103, 104] (by decide +kernel) (by decide +kernel)
set_option maxRecDepth 20000 in
theorem ggX12_uses_X12_finds_p5 : GoodIn wsX12_uses wsX12_finds_r5 := goodIn_r _ [105, 106, 107, 108, 109, 110, 111, 112, 113, 114, 115, 116, 117, 118, 119, 120, 121, 122, 123, 124, 125, 126, 127, 128] (by decide +kernel) (by decide +kernel)
set_option maxRecDepth 20000 in
theorem ggX12_uses_X12_finds_p6 : GoodIn wsX12_uses wsX12_finds_r6 := goodIn_r _ [129, 130, 131, 132] (by decide +kernel) (by decide +kernel)
set_option maxRecDepth 20000 in
theorem ggX12_uses_X12_finds_p7 : GoodIn wsX12_uses wsX120 := goodIn_r _ [137, 138, 139, 140, 141, 142, 143, 144, 145, 146, 147, 148, 149, 150, 151, 152, 153, 154, 155, 156, 157, 158, 159, 160, 161, 162, 163, 164, 165, 166, 167, 168, 169, 170, 171, 172, 173] (by decide +kernel) (by decide +kernel)
set_option maxRecDepth 20000 in
theorem ggX12_uses_X12_finds : GoodIn wsX12_uses wsX12_finds := goodIn_ca (goodIn_ca (goodIn_app ggX12_uses_X12_finds_p0 (goodIn_app (goodIn_app ggX12_uses_X12_finds_p1 (goodIn_app ggX12_uses_X12_finds_p2 (goodIn_app ggX12_uses_X12_finds_p3 (goodIn_app ggX12_uses_X12_finds_p4 (goodIn_app ggX12_uses_X12_finds_p5 ggX12_uses_X12_finds_p6))))) ggX12_uses_X12_finds_p7)) (goodIn_sub (fun _ h => List.mem_cons_of_mem _ (List.mem_append_left _ (List.mem_append_right _ h))) (by decide +kernel))) (goodIn_sub (fun _ h => List.mem_cons_of_mem _ (List.mem_append_right _ h)) (by decide +kernel))
set_option maxRecDepth 20000 in
theorem gX12_uses_X12_finds : GoodIn wsX12_uses (wsV RX12 211 RX12 yX12_finds wsX12_finds) := goodIn_app (goodIn_of _ (by decide +kernel)) ggX12_uses_X12_finds
set_option maxRecDepth 20000 in
theorem ggX12_uses_X12_usesOf : GoodIn wsX12_uses wsX12_usesOf := goodIn_ca (goodIn_r _ [136, 34, 107, 97, 137, 138, 139, 140, 141, 142, 143, 144, 145, 146, 147, 148, 149, 150, 151, 152, 153, 154, 155, 156, 157, 158, 159, 160, 161, 162, 163, 164, 165, 166, 167, 168, 169, 170, 171, 172, 173] (by decide +kernel) (by decide +kernel)) (goodIn_sub (fun _ h => List.mem_cons_of_mem _ (List.mem_append_left _ (List.mem_append_right _ h))) (by decide +kernel))
set_option maxRecDepth 20000 in
theorem gX12_uses_X12_usesOf : GoodIn wsX12_uses (wsV RX12 223 RX12 yX12_usesOf wsX12_usesOf) := goodIn_app (goodIn_of _ (by decide +kernel)) ggX12_uses_X12_usesOf
theorem dX12_uses_0 : decode cX12_uses 0 = .ok (.aload_n 0, 1) := by decide +kernel
theorem dX12_uses_1 : decode cX12_uses 1 = .ok (.iload_n 1, 1) := by decide +kernel
theorem dX12_uses_2 : decode cX12_uses 2 = .ok (.iconst 0, 1) := by decide +kernel
theorem dX12_uses_3 : decode cX12_uses 3 = .ok (.aload_n 0, 1) := by decide +kernel
theorem dX12_uses_4 : decode cX12_uses 4 = .ok (.getfield 121, 3) := by decide +kernel
theorem dX12_uses_7 : decode cX12_uses 7 = .ok (.iconst 1, 1) := by decide +kernel
theorem dX12_uses_8 : decode cX12_uses 8 = .ok (.isub, 1) := by decide +kernel
theorem dX12_uses_9 : decode cX12_uses 9 = .ok (.invokestatic 99, 3) := by decide +kernel
theorem dX12_uses_12 : decode cX12_uses 12 = .ok (.ifCond .eq 7, 3) := by decide +kernel
theorem dX12_uses_15 : decode cX12_uses 15 = .ok (.iconst 0, 1) := by decide +kernel
theorem dX12_uses_16 : decode cX12_uses 16 = .ok (.goto 4, 3) := by decide +kernel
theorem dX12_uses_19 : decode cX12_uses 19 = .ok (.iconst 1, 1) := by decide +kernel
theorem dX12_uses_20 : decode cX12_uses 20 = .ok (.putfield 89, 3) := by decide +kernel
theorem dX12_uses_23 : decode cX12_uses 23 = .ok (.aload_n 0, 1) := by decide +kernel
theorem dX12_uses_24 : decode cX12_uses 24 = .ok (.getfield 89, 3) := by decide +kernel
theorem dX12_uses_27 : decode cX12_uses 27 = .ok (.ifCond .le 5, 3) := by decide +kernel
theorem dX12_uses_30 : decode cX12_uses 30 = .ok (.iconst 0, 1) := by decide +kernel
theorem dX12_uses_31 : decode cX12_uses 31 = .ok (.ireturn, 1) := by decide +kernel
theorem dX12_uses_32 : decode cX12_uses 32 = .ok (.aload_n 0, 1) := by decide +kernel
theorem dX12_uses_33 : decode cX12_uses 33 = .ok (.invokevirtual 211, 3) := by decide +kernel
theorem dX12_uses_36 : decode cX12_uses 36 = .ok (.aload_n 0, 1) := by decide +kernel
theorem dX12_uses_37 : decode cX12_uses 37 = .ok (.iload_n 1, 1) := by decide +kernel
theorem dX12_uses_38 : decode cX12_uses 38 = .ok (.invokevirtual 223, 3) := by decide +kernel
theorem dX12_uses_41 : decode cX12_uses 41 = .ok (.ireturn, 1) := by decide +kernel
set_option maxRecDepth 20000 in
theorem ggX12_hasItems_X12_sumNow : GoodIn wsX12_hasItems wsX12_sumNow := goodIn_ca (goodIn_r _ [8, 3, 9, 10, 11, 12, 13, 7, 14, 15, 16, 60, 61, 62, 63, 64, 65, 66, 67, 68, 69, 70, 71, 72, 73, 74, 75, 76, 77, 78, 79, 80, 81, 82, 83, 84, 85, 86, 87, 88, 89, 90, 91, 92, 93, 94, 95, 96] (by decide +kernel) (by decide +kernel)) (goodIn_sub (fun _ h => List.mem_cons_of_mem _ (List.mem_append_right _ h)) (by decide +kernel))
set_option maxRecDepth 20000 in
theorem gX12_hasItems_X12_sumNow : GoodIn wsX12_hasItems (wsV RX12 117 RX12 yX12_sumNow wsX12_sumNow) := goodIn_app (goodIn_of _ (by decide +kernel)) ggX12_hasItems_X12_sumNow
set_option maxRecDepth 20000 in
theorem ggX12_hasItems_X12_looks : GoodIn wsX12_hasItems wsX12_looks := goodIn_ca (goodIn_r _ [14, 3, 15, 16, 10, 60, 61, 62, 63, 64, 65, 66, 67, 68, 69, 70, 71, 72, 73, 74, 75, 76, 77, 78, 79, 80, 81, 82, 83, 84, 85, 86, 87, 88, 89, 90, 91, 92, 93, 94, 95, 96] (by decide +kernel) (by decide +kernel)) (goodIn_sub (fun _ h => List.mem_cons_of_mem _ (List.mem_append_right _ h)) (by decide +kernel))
set_option maxRecDepth 20000 in
theorem gX12_hasItems_X12_looks : GoodIn wsX12_hasItems (wsV RX12 103 RX12 yX12_looks wsX12_looks) := goodIn_app (goodIn_of _ (by decide +kernel)) ggX12_hasItems_X12_looks
set_option maxRecDepth 20000 in
theorem ggX12_hasItems_X12_isGood_p0 : GoodIn wsX12_hasItems [.code yX12_isGood cX12_isGood 3 (some .boolean)] := goodIn_r _ [20] (by decide +kernel) (by decide +kernel)
set_option maxRecDepth 20000 in
theorem ggX12_hasItems_X12_isGood_p1 : GoodIn wsX12_hasItems wsX12_isGood_r1 := goodIn_r _ [1, 21, 22, 23, 7, 24, 3, 25, 26, 27, 28, 29, 30, 31, 32, 33, 34, 35, 36, 37, 38, 39, 40, 41] (by decide +kernel) (by decide +kernel)
set_option maxRecDepth 20000 in
theorem ggX12_hasItems_X12_isGood_p2 : GoodIn wsX12_hasItems wsX12_isGood_r2 := goodIn_r _ [42, 10, 43, 44, 45, 46, 2, 47, 48, 49, 50, 51, 52, 53, 54, 55, 56, 57, 58, 59, 9] (by decide +kernel) (by decide +kernel)
set_option maxRecDepth 20000 in
theorem ggX12_hasItems_X12_isGood_p3 : GoodIn wsX12_hasItems wsX120 := goodIn_r _ [60, 61, 62, 63, 64, 65, 66, 67, 68, 69, 70, 71, 72, 73, 74, 75, 76, 77, 78, 79, 80, 81, 82, 83, 84, 85, 86, 87, 88, 89, 90, 91, 92, 93, 94, 95, 96] (by decide +kernel) (by decide +kernel)
set_option maxRecDepth 20000 in
theorem ggX12_hasItems_X12_isGood : GoodIn wsX12_hasItems wsX12_isGood := goodIn_ca (goodIn_app ggX12_hasItems_X12_isGood_p0 (goodIn_app (goodIn_app ggX12_hasItems_X12_isGood_p1 ggX12_hasItems_X12_isGood_p2) ggX12_hasItems_X12_isGood_p3)) (goodIn_sub (fun _ h => List.mem_cons_of_mem _ (List.mem_append_right _ h)) (by decide +kernel))
set_option maxRecDepth 20000 in
theorem gX12_hasItems_X12_isGood : GoodIn wsX12_hasItems (wsV RX12 194 RX12 yX12_isGood wsX12_isGood) := goodIn_app (goodIn_of _ (by decide +kernel)) ggX12_hasItems_X12_isGood
theorem dX12_hasItems_0 : decode cX12_hasItems 0 = .ok (.aload_n 0, 1) := by decide +kernel
theorem dX12_hasItems_1 : decode cX12_hasItems 1 = .ok (.getfield 26, 3) := by decide +kernel
theorem dX12_hasItems_4 : decode cX12_hasItems 4 = .ok (.iload_n 1, 1) := by decide +kernel
theorem dX12_hasItems_5 : decode cX12_hasItems 5 = .ok (.caload, 1) := by decide +kernel
theorem dX12_hasItems_6 : decode cX12_hasItems 6 = .ok (.bipush 116, 2) := by decide +kernel
theorem dX12_hasItems_8 : decode cX12_hasItems 8 = .ok (.if_icmp .ne 22, 3) := by decide +kernel
theorem dX12_hasItems_11 : decode cX12_hasItems 11 = .ok (.aload_n 0, 1) := by decide +kernel
theorem dX12_hasItems_12 : decode cX12_hasItems 12 = .ok (.invokevirtual 117, 3) := by decide +kernel
theorem dX12_hasItems_15 : decode cX12_hasItems 15 = .ok (.aload_n 0, 1) := by decide +kernel
theorem dX12_hasItems_16 : decode cX12_hasItems 16 = .ok (.getfield 29, 3) := by decide +kernel
theorem dX12_hasItems_19 : decode cX12_hasItems 19 = .ok (.iload_n 1, 1) := by decide +kernel
theorem dX12_hasItems_20 : decode cX12_hasItems 20 = .ok (.iaload, 1) := by decide +kernel
theorem dX12_hasItems_21 : decode cX12_hasItems 21 = .ok (.if_icmp .lt 7, 3) := by decide +kernel
theorem dX12_hasItems_24 : decode cX12_hasItems 24 = .ok (.iconst 1, 1) := by decide +kernel
theorem dX12_hasItems_25 : decode cX12_hasItems 25 = .ok (.goto 4, 3) := by decide +kernel
theorem dX12_hasItems_28 : decode cX12_hasItems 28 = .ok (.iconst 0, 1) := by decide +kernel
theorem dX12_hasItems_29 : decode cX12_hasItems 29 = .ok (.ireturn, 1) := by decide +kernel
theorem dX12_hasItems_30 : decode cX12_hasItems 30 = .ok (.aload_n 0, 1) := by decide +kernel
theorem dX12_hasItems_31 : decode cX12_hasItems 31 = .ok (.invokevirtual 103, 3) := by decide +kernel
theorem dX12_hasItems_34 : decode cX12_hasItems 34 = .ok (.iconst 0, 1) := by decide +kernel
theorem dX12_hasItems_35 : decode cX12_hasItems 35 = .ok (.istore_n 2, 1) := by decide +kernel
theorem dX12_hasItems_36 : decode cX12_hasItems 36 = .ok (.iconst 1, 1) := by decide +kernel
theorem dX12_hasItems_37 : decode cX12_hasItems 37 = .ok (.istore_n 3, 1) := by decide +kernel
theorem dX12_hasItems_38 : decode cX12_hasItems 38 = .ok (.iload_n 3, 1) := by decide +kernel
theorem dX12_hasItems_39 : decode cX12_hasItems 39 = .ok (.iconst 1, 1) := by decide +kernel
theorem dX12_hasItems_40 : decode cX12_hasItems 40 = .ok (.aload_n 0, 1) := by decide +kernel
theorem dX12_hasItems_41 : decode cX12_hasItems 41 = .ok (.getfield 93, 3) := by decide +kernel
theorem dX12_hasItems_44 : decode cX12_hasItems 44 = .ok (.ishl, 1) := by decide +kernel
theorem dX12_hasItems_45 : decode cX12_hasItems 45 = .ok (.if_icmp .ge 20, 3) := by decide +kernel
theorem dX12_hasItems_48 : decode cX12_hasItems 48 = .ok (.iload_n 2, 1) := by decide +kernel
theorem dX12_hasItems_49 : decode cX12_hasItems 49 = .ok (.ifCond .ne 16, 3) := by decide +kernel
theorem dX12_hasItems_52 : decode cX12_hasItems 52 = .ok (.aload_n 0, 1) := by decide +kernel
theorem dX12_hasItems_53 : decode cX12_hasItems 53 = .ok (.iload_n 1, 1) := by decide +kernel
theorem dX12_hasItems_54 : decode cX12_hasItems 54 = .ok (.iload_n 3, 1) := by decide +kernel
theorem dX12_hasItems_55 : decode cX12_hasItems 55 = .ok (.invokevirtual 194, 3) := by decide +kernel
theorem dX12_hasItems_58 : decode cX12_hasItems 58 = .ok (.istore_n 2, 1) := by decide +kernel
theorem dX12_hasItems_59 : decode cX12_hasItems 59 = .ok (.iinc 3 1, 3) := by decide +kernel
theorem dX12_hasItems_62 : decode cX12_hasItems 62 = .ok (.goto (-24), 3) := by decide +kernel
theorem dX12_hasItems_65 : decode cX12_hasItems 65 = .ok (.iload_n 2, 1) := by decide +kernel
theorem dX12_hasItems_66 : decode cX12_hasItems 66 = .ok (.ireturn, 1) := by decide +kernel
set_option maxRecDepth 20000 in
theorem ggX12_reason_X12_in : GoodIn wsX12_reason wsX12_in := goodIn_r _ [7] (by decide +kernel) (by decide +kernel)
set_option maxRecDepth 20000 in
theorem gX12_reason_X12_in : GoodIn wsX12_reason (va_wsS RX12 99 yX12_in wsX12_in) := goodIn_app (goodIn_of _ (by decide +kernel)) ggX12_reason_X12_in
set_option maxRecDepth 20000 in
theorem ggX12_reason_X12_finds_p0 : GoodIn wsX12_reason [.code yX12_finds cX12_finds 3 none] := goodIn_r _ [11] (by decide +kernel) (by decide +kernel)
set_option maxRecDepth 20000 in
theorem ggX12_reason_X12_finds_p1 : GoodIn wsX12_reason wsX12_finds_r1 := goodIn_r _ [12, 1, 13, 14, 15, 16, 17, 18, 19, 6, 20, 21, 22, 23, 24, 25, 26, 27, 28, 29, 30, 31, 32, 33] (by decide +kernel) (by decide +kernel)
set_option maxRecDepth 20000 in
theorem ggX12_reason_X12_finds_p2 : GoodIn wsX12_reason wsX12_finds_r2 := goodIn_r _ [34, 35, 36, 37, 38, 39, 40, 41, 42, 43, 44, 45, 46, 47, 48, 49, 50, 51, 52, 53, 54, 55, 56, 57] (by decide +kernel) (by decide +kernel)
set_option maxRecDepth 20000 in
theorem ggX12_reason_X12_finds_p3 : GoodIn wsX12_reason wsX12_finds_r3 := goodIn_r _ [58, 59, 60, 61, 62, 63, 64, 65, 66, 67, 68, 69, 70, 71, 72, 73, 74, 75, 76, 77, 78, 79, 80, 81] (by decide +kernel) (by decide +kernel)
set_option maxRecDepth 20000 in
theorem ggX12_reason_X12_finds_p4 : GoodIn wsX12_reason wsX12_finds_r4 := goodIn_r _ [82, 83, 84, 85, 86, 87, 88, 89, 90, 91, 92, 93, 94, 95, 96, 97, 98, 99, 100, 101, 102, 103, 104, 105] (by decide +kernel) (by decide +kernel)
set_option maxRecDepth 20000 in
theorem ggX12_reason_X12_finds_p5 : GoodIn wsX12_reason wsX12_finds_r5 := goodIn_r _ [106, 3, 107, 108, 109, 110, 111, 112, 113, 114, 115, 116, 117, 118, 119, 120, 121, 122, 123, 124, 125, 126, 127, 128] (by decide +kernel) (by decide +kernel)
set_option maxRecDepth 20000 in
theorem ggX12_reason_X12_finds_p6 : GoodIn wsX12_reason wsX12_finds_r6 := goodIn_r _ [129, 130, 131, 132] (by decide +kernel) (by decide +kernel)
set_option maxRecDepth 20000 in
theorem ggX12_reason_X12_finds_p7 : GoodIn wsX12_reason wsX120 := goodIn_r _ [141, 142, 143, 144, 145, 146, 147, 148, 149, 150, 151, 152, 153, 154, 155, 156, 157, 158, 159, 160, 161, 162, 163, 164, 165, 166, 167, 168, 169, 170, 171, 172, 173, 174, 175, 176, 177] (by decide +kernel) (by decide +kernel)
set_option maxRecDepth 20000 in
theorem ggX12_reason_X12_finds : GoodIn wsX12_reason wsX12_finds := goodIn_ca (goodIn_ca (goodIn_app ggX12_reason_X12_finds_p0 (goodIn_app (goodIn_app ggX12_reason_X12_finds_p1 (goodIn_app ggX12_reason_X12_finds_p2 (goodIn_app ggX12_reason_X12_finds_p3 (goodIn_app ggX12_reason_X12_finds_p4 (goodIn_app ggX12_reason_X12_finds_p5 ggX12_reason_X12_finds_p6))))) ggX12_reason_X12_finds_p7)) (goodIn_sub (fun _ h => List.mem_cons_of_mem _ (List.mem_append_left _ (List.mem_append_right _ h))) (by decide +kernel))) (goodIn_sub (fun _ h => List.mem_cons_of_mem _ (List.mem_append_right _ h)) (by decide +kernel))
set_option maxRecDepth 20000 in
theorem gX12_reason_X12_finds : GoodIn wsX12_reason (wsV RX12 211 RX12 yX12_finds wsX12_finds) := goodIn_app (goodIn_of _ (by decide +kernel)) ggX12_reason_X12_finds
set_option maxRecDepth 20000 in
theorem ggX12_reason_X12_usesOf : GoodIn wsX12_reason wsX12_usesOf := goodIn_ca (goodIn_r _ [136, 35, 107, 98, 141, 142, 143, 144, 145, 146, 147, 148, 149, 150, 151, 152, 153, 154, 155, 156, 157, 158, 159, 160, 161, 162, 163, 164, 165, 166, 167, 168, 169, 170, 171, 172, 173, 174, 175, 176, 177] (by decide +kernel) (by decide +kernel)) (goodIn_sub (fun _ h => List.mem_cons_of_mem _ (List.mem_append_left _ (List.mem_append_right _ h))) (by decide +kernel))
set_option maxRecDepth 20000 in
theorem gX12_reason_X12_usesOf : GoodIn wsX12_reason (wsV RX12 223 RX12 yX12_usesOf wsX12_usesOf) := goodIn_app (goodIn_of _ (by decide +kernel)) ggX12_reason_X12_usesOf
set_option maxRecDepth 20000 in
theorem ggX12_reason_X12_leftOf : GoodIn wsX12_reason wsX12_leftOf := goodIn_ca (goodIn_r _ [43, 44, 45, 46, 141, 142, 143, 144, 145, 146, 147, 148, 149, 150, 151, 152, 153, 154, 155, 156, 157, 158, 159, 160, 161, 162, 163, 164, 165, 166, 167, 168, 169, 170, 171, 172, 173, 174, 175, 176, 177] (by decide +kernel) (by decide +kernel)) (goodIn_sub (fun _ h => List.mem_cons_of_mem _ (List.mem_append_left _ (List.mem_append_right _ h))) (by decide +kernel))
set_option maxRecDepth 20000 in
theorem gX12_reason_X12_leftOf : GoodIn wsX12_reason (wsV RX12 128 RX12 yX12_leftOf wsX12_leftOf) := goodIn_app (goodIn_of _ (by decide +kernel)) ggX12_reason_X12_leftOf
set_option maxRecDepth 20000 in
theorem ggX12_reason_X12_hasItems_p0 : GoodIn wsX12_reason [.code yX12_hasItems cX12_hasItems 4 (some .boolean)] := goodIn_r _ [140] (by decide +kernel) (by decide +kernel)
set_option maxRecDepth 20000 in
theorem ggX12_reason_X12_hasItems_p1 : GoodIn wsX12_reason wsX12_hasItems_r1 := goodIn_r _ [35, 77, 21, 17, 18, 19, 6, 20, 22, 23, 24, 25, 26, 27, 28, 29, 47, 48, 49, 50, 51, 52, 53, 54] (by decide +kernel) (by decide +kernel)
set_option maxRecDepth 20000 in
theorem ggX12_reason_X12_hasItems_p2 : GoodIn wsX12_reason wsX12_hasItems_r2 := goodIn_r _ [55, 56, 57, 58, 59, 60, 61, 62, 63, 64, 65, 66, 67, 68, 69, 70, 71, 72, 73, 74, 75, 76, 78, 79] (by decide +kernel) (by decide +kernel)
set_option maxRecDepth 20000 in
theorem ggX12_reason_X12_hasItems_p3 : GoodIn wsX12_reason wsX12_hasItems_r3 := goodIn_r _ [80, 81, 82, 83, 38, 84, 85, 86, 87, 88, 89] (by decide +kernel) (by decide +kernel)
set_option maxRecDepth 20000 in
theorem ggX12_reason_X12_hasItems_p4 : GoodIn wsX12_reason wsX120 := goodIn_r _ [141, 142, 143, 144, 145, 146, 147, 148, 149, 150, 151, 152, 153, 154, 155, 156, 157, 158, 159, 160, 161, 162, 163, 164, 165, 166, 167, 168, 169, 170, 171, 172, 173, 174, 175, 176, 177] (by decide +kernel) (by decide +kernel)
set_option maxRecDepth 20000 in
theorem ggX12_reason_X12_hasItems : GoodIn wsX12_reason wsX12_hasItems := goodIn_ca (goodIn_app ggX12_reason_X12_hasItems_p0 (goodIn_app (goodIn_app ggX12_reason_X12_hasItems_p1 (goodIn_app ggX12_reason_X12_hasItems_p2 ggX12_reason_X12_hasItems_p3)) ggX12_reason_X12_hasItems_p4)) (goodIn_sub (fun _ h => List.mem_cons_of_mem _ (List.mem_append_left _ (List.mem_append_right _ h))) (by decide +kernel))
set_option maxRecDepth 20000 in
theorem gX12_reason_X12_hasItems : GoodIn wsX12_reason (wsV RX12 226 RX12 yX12_hasItems wsX12_hasItems) := goodIn_app (goodIn_of _ (by decide +kernel)) ggX12_reason_X12_hasItems
theorem dX12_reason_0 : decode cX12_reason 0 = .ok (.aload_n 0, 1) := by decide +kernel
theorem dX12_reason_1 : decode cX12_reason 1 = .ok (.iload_n 1, 1) := by decide +kernel
theorem dX12_reason_2 : decode cX12_reason 2 = .ok (.iconst 0, 1) := by decide +kernel
theorem dX12_reason_3 : decode cX12_reason 3 = .ok (.aload_n 0, 1) := by decide +kernel
theorem dX12_reason_4 : decode cX12_reason 4 = .ok (.getfield 121, 3) := by decide +kernel
theorem dX12_reason_7 : decode cX12_reason 7 = .ok (.iconst 1, 1) := by decide +kernel
theorem dX12_reason_8 : decode cX12_reason 8 = .ok (.isub, 1) := by decide +kernel
theorem dX12_reason_9 : decode cX12_reason 9 = .ok (.invokestatic 99, 3) := by decide +kernel
theorem dX12_reason_12 : decode cX12_reason 12 = .ok (.ifCond .eq 7, 3) := by decide +kernel
theorem dX12_reason_15 : decode cX12_reason 15 = .ok (.iconst 0, 1) := by decide +kernel
theorem dX12_reason_16 : decode cX12_reason 16 = .ok (.goto 4, 3) := by decide +kernel
theorem dX12_reason_19 : decode cX12_reason 19 = .ok (.iconst 1, 1) := by decide +kernel
theorem dX12_reason_20 : decode cX12_reason 20 = .ok (.putfield 89, 3) := by decide +kernel
theorem dX12_reason_23 : decode cX12_reason 23 = .ok (.aload_n 0, 1) := by decide +kernel
theorem dX12_reason_24 : decode cX12_reason 24 = .ok (.getfield 89, 3) := by decide +kernel
theorem dX12_reason_27 : decode cX12_reason 27 = .ok (.ifCond .le 6, 3) := by decide +kernel
theorem dX12_reason_30 : decode cX12_reason 30 = .ok (.bipush 97, 2) := by decide +kernel
theorem dX12_reason_32 : decode cX12_reason 32 = .ok (.ireturn, 1) := by decide +kernel
theorem dX12_reason_33 : decode cX12_reason 33 = .ok (.aload_n 0, 1) := by decide +kernel
theorem dX12_reason_34 : decode cX12_reason 34 = .ok (.invokevirtual 211, 3) := by decide +kernel
theorem dX12_reason_37 : decode cX12_reason 37 = .ok (.iconst 0, 1) := by decide +kernel
theorem dX12_reason_38 : decode cX12_reason 38 = .ok (.istore_n 2, 1) := by decide +kernel
theorem dX12_reason_39 : decode cX12_reason 39 = .ok (.iconst 0, 1) := by decide +kernel
theorem dX12_reason_40 : decode cX12_reason 40 = .ok (.istore_n 3, 1) := by decide +kernel
theorem dX12_reason_41 : decode cX12_reason 41 = .ok (.iload_n 3, 1) := by decide +kernel
theorem dX12_reason_42 : decode cX12_reason 42 = .ok (.aload_n 0, 1) := by decide +kernel
theorem dX12_reason_43 : decode cX12_reason 43 = .ok (.getfield 121, 3) := by decide +kernel
theorem dX12_reason_46 : decode cX12_reason 46 = .ok (.if_icmp .ge 57, 3) := by decide +kernel
theorem dX12_reason_49 : decode cX12_reason 49 = .ok (.iload_n 2, 1) := by decide +kernel
theorem dX12_reason_50 : decode cX12_reason 50 = .ok (.ifCond .ne 41, 3) := by decide +kernel
theorem dX12_reason_53 : decode cX12_reason 53 = .ok (.iload_n 3, 1) := by decide +kernel
theorem dX12_reason_54 : decode cX12_reason 54 = .ok (.iload_n 1, 1) := by decide +kernel
theorem dX12_reason_55 : decode cX12_reason 55 = .ok (.if_icmp .eq 40, 3) := by decide +kernel
theorem dX12_reason_58 : decode cX12_reason 58 = .ok (.aload_n 0, 1) := by decide +kernel
theorem dX12_reason_59 : decode cX12_reason 59 = .ok (.getfield 44, 3) := by decide +kernel
theorem dX12_reason_62 : decode cX12_reason 62 = .ok (.iload_n 1, 1) := by decide +kernel
theorem dX12_reason_63 : decode cX12_reason 63 = .ok (.iaload, 1) := by decide +kernel
theorem dX12_reason_64 : decode cX12_reason 64 = .ok (.iconst (-1), 1) := by decide +kernel
theorem dX12_reason_65 : decode cX12_reason 65 = .ok (.if_icmp .eq 30, 3) := by decide +kernel
theorem dX12_reason_68 : decode cX12_reason 68 = .ok (.aload_n 0, 1) := by decide +kernel
theorem dX12_reason_69 : decode cX12_reason 69 = .ok (.getfield 44, 3) := by decide +kernel
theorem dX12_reason_72 : decode cX12_reason 72 = .ok (.iload_n 3, 1) := by decide +kernel
theorem dX12_reason_73 : decode cX12_reason 73 = .ok (.iaload, 1) := by decide +kernel
theorem dX12_reason_74 : decode cX12_reason 74 = .ok (.aload_n 0, 1) := by decide +kernel
theorem dX12_reason_75 : decode cX12_reason 75 = .ok (.getfield 44, 3) := by decide +kernel
theorem dX12_reason_78 : decode cX12_reason 78 = .ok (.iload_n 1, 1) := by decide +kernel
theorem dX12_reason_79 : decode cX12_reason 79 = .ok (.iaload, 1) := by decide +kernel
theorem dX12_reason_80 : decode cX12_reason 80 = .ok (.if_icmp .ne 15, 3) := by decide +kernel
theorem dX12_reason_83 : decode cX12_reason 83 = .ok (.aload_n 0, 1) := by decide +kernel
theorem dX12_reason_84 : decode cX12_reason 84 = .ok (.iload_n 3, 1) := by decide +kernel
theorem dX12_reason_85 : decode cX12_reason 85 = .ok (.invokevirtual 223, 3) := by decide +kernel
theorem dX12_reason_88 : decode cX12_reason 88 = .ok (.ifCond .le 7, 3) := by decide +kernel
theorem dX12_reason_91 : decode cX12_reason 91 = .ok (.iconst 1, 1) := by decide +kernel
theorem dX12_reason_92 : decode cX12_reason 92 = .ok (.goto 4, 3) := by decide +kernel
theorem dX12_reason_95 : decode cX12_reason 95 = .ok (.iconst 0, 1) := by decide +kernel
theorem dX12_reason_96 : decode cX12_reason 96 = .ok (.istore_n 2, 1) := by decide +kernel
theorem dX12_reason_97 : decode cX12_reason 97 = .ok (.iinc 3 1, 3) := by decide +kernel
theorem dX12_reason_100 : decode cX12_reason 100 = .ok (.goto (-59), 3) := by decide +kernel
theorem dX12_reason_103 : decode cX12_reason 103 = .ok (.aload_n 0, 1) := by decide +kernel
theorem dX12_reason_104 : decode cX12_reason 104 = .ok (.iload_n 1, 1) := by decide +kernel
theorem dX12_reason_105 : decode cX12_reason 105 = .ok (.invokevirtual 223, 3) := by decide +kernel
theorem dX12_reason_108 : decode cX12_reason 108 = .ok (.ifCond .le 8, 3) := by decide +kernel
theorem dX12_reason_111 : decode cX12_reason 111 = .ok (.bipush 117, 2) := by decide +kernel
theorem dX12_reason_113 : decode cX12_reason 113 = .ok (.goto 40, 3) := by decide +kernel
theorem dX12_reason_116 : decode cX12_reason 116 = .ok (.aload_n 0, 1) := by decide +kernel
theorem dX12_reason_117 : decode cX12_reason 117 = .ok (.iload_n 1, 1) := by decide +kernel
theorem dX12_reason_118 : decode cX12_reason 118 = .ok (.invokevirtual 128, 3) := by decide +kernel
theorem dX12_reason_121 : decode cX12_reason 121 = .ok (.ifCond .ne 8, 3) := by decide +kernel
theorem dX12_reason_124 : decode cX12_reason 124 = .ok (.bipush 108, 2) := by decide +kernel
theorem dX12_reason_126 : decode cX12_reason 126 = .ok (.goto 27, 3) := by decide +kernel
theorem dX12_reason_129 : decode cX12_reason 129 = .ok (.aload_n 0, 1) := by decide +kernel
theorem dX12_reason_130 : decode cX12_reason 130 = .ok (.iload_n 1, 1) := by decide +kernel
theorem dX12_reason_131 : decode cX12_reason 131 = .ok (.invokevirtual 226, 3) := by decide +kernel
theorem dX12_reason_134 : decode cX12_reason 134 = .ok (.ifCond .ne 8, 3) := by decide +kernel
theorem dX12_reason_137 : decode cX12_reason 137 = .ok (.bipush 99, 2) := by decide +kernel
theorem dX12_reason_139 : decode cX12_reason 139 = .ok (.goto 14, 3) := by decide +kernel
theorem dX12_reason_142 : decode cX12_reason 142 = .ok (.iload_n 2, 1) := by decide +kernel
theorem dX12_reason_143 : decode cX12_reason 143 = .ok (.ifCond .eq 8, 3) := by decide +kernel
theorem dX12_reason_146 : decode cX12_reason 146 = .ok (.bipush 103, 2) := by decide +kernel
theorem dX12_reason_148 : decode cX12_reason 148 = .ok (.goto 5, 3) := by decide +kernel
theorem dX12_reason_151 : decode cX12_reason 151 = .ok (.bipush 98, 2) := by decide +kernel
theorem dX12_reason_153 : decode cX12_reason 153 = .ok (.ireturn, 1) := by decide +kernel
set_option maxRecDepth 20000 in
theorem ggX12_netPrice_X12_isInBasket : GoodIn wsX12_netPrice wsX12_isInBasket := goodIn_ca (goodIn_r _ [7, 8, 9, 10, 11, 6, 12, 137, 138, 139, 140, 141, 142, 143, 144, 145, 146, 147, 148, 149, 150, 151, 152, 153, 154, 155, 156, 157, 158, 159, 160, 161, 162, 163, 164, 165, 166, 167, 168, 169, 170, 171, 172, 173] (by decide +kernel) (by decide +kernel)) (goodIn_sub (fun _ h => List.mem_cons_of_mem _ (List.mem_append_left _ (List.mem_append_right _ h))) (by decide +kernel))
set_option maxRecDepth 20000 in
theorem gX12_netPrice_X12_isInBasket : GoodIn wsX12_netPrice (wsV RX12 110 RX12 yX12_isInBasket wsX12_isInBasket) := goodIn_app (goodIn_of _ (by decide +kernel)) ggX12_netPrice_X12_isInBasket
set_option maxRecDepth 20000 in
theorem ggX12_netPrice_X12_finds_p0 : GoodIn wsX12_netPrice [.code yX12_finds cX12_finds 3 none] := goodIn_r _ [16] (by decide +kernel) (by decide +kernel)
set_option maxRecDepth 20000 in
theorem ggX12_netPrice_X12_finds_p1 : GoodIn wsX12_netPrice wsX12_finds_r1 := goodIn_r _ [17, 18, 19, 20, 21, 22, 23, 24, 25, 6, 26, 27, 28, 29, 30, 31, 32, 33, 8, 9, 34, 35, 36, 37] (by decide +kernel) (by decide +kernel)
set_option maxRecDepth 20000 in
theorem ggX12_netPrice_X12_finds_p2 : GoodIn wsX12_netPrice wsX12_finds_r2 := goodIn_r _ [38, 39, 40, 41, 42, 43, 44, 45, 46, 47, 48, 49, 50, 51, 52, 53, 54, 55, 56, 57, 58, 59, 60, 61] (by decide +kernel) (by decide +kernel)
set_option maxRecDepth 20000 in
theorem ggX12_netPrice_X12_finds_p3 : GoodIn wsX12_netPrice wsX12_finds_r3 := goodIn_r _ [62, 63, 64, 65, 66, 67, 68, 69, 70, 71, 72, 73, 74, 75, 76, 77, 78, 79, 80, 81, 82, 83, 84, 85] (by decide +kernel) (by decide +kernel)
set_option maxRecDepth 20000 in
theorem ggX12_netPrice_X12_finds_p4 : GoodIn wsX12_netPrice wsX12_finds_r4 := goodIn_r _ [86, 87, 88, 89, 90, 91, 92, 93, 94, 95, 96, 97, 98, 99, 100, 101, 102, 103, 104, 105, 106, 107, 108, 109] (by decide +kernel) (by decide +kernel)
set_option maxRecDepth 20000 in
theorem ggX12_netPrice_X12_finds_p5 : GoodIn wsX12_netPrice wsX12_finds_r5 := goodIn_r _ [110, 111, 112, 113, 114, 115, 116, 117, 118, 119, 120, 121, 122, 123, 124, 125, 126, 127, 128, 129, 130, 131, 132, 133] (by decide +kernel) (by decide +kernel)
set_option maxRecDepth 20000 in
theorem ggX12_netPrice_X12_finds_p6 : GoodIn wsX12_netPrice wsX12_finds_r6 := goodIn_r _ [134, 135, 136, 2] (by decide +kernel) (by decide +kernel)
set_option maxRecDepth 20000 in
theorem ggX12_netPrice_X12_finds_p7 : GoodIn wsX12_netPrice wsX120 := goodIn_r _ [137, 138, 139, 140, 141, 142, 143, 144, 145, 146, 147, 148, 149, 150, 151, 152, 153, 154, 155, 156, 157, 158, 159, 160, 161, 162, 163, 164, 165, 166, 167, 168, 169, 170, 171, 172, 173] (by decide +kernel) (by decide +kernel)
set_option maxRecDepth 20000 in
theorem ggX12_netPrice_X12_finds : GoodIn wsX12_netPrice wsX12_finds := goodIn_ca (goodIn_ca (goodIn_app ggX12_netPrice_X12_finds_p0 (goodIn_app (goodIn_app ggX12_netPrice_X12_finds_p1 (goodIn_app ggX12_netPrice_X12_finds_p2 (goodIn_app ggX12_netPrice_X12_finds_p3 (goodIn_app ggX12_netPrice_X12_finds_p4 (goodIn_app ggX12_netPrice_X12_finds_p5 ggX12_netPrice_X12_finds_p6))))) ggX12_netPrice_X12_finds_p7)) (goodIn_sub (fun _ h => List.mem_cons_of_mem _ (List.mem_append_left _ (List.mem_append_right _ h))) (by decide +kernel))) (goodIn_sub (fun _ h => List.mem_cons_of_mem _ (List.mem_append_right _ h)) (by decide +kernel))

