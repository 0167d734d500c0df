theorem dL_law_317 : decode cL_law 317 = .ok (.iconst 0, 1) := by decide +kernel
theorem dL_law_318 : decode cL_law 318 = .ok (.istore 11, 2) := by decide +kernel
theorem dL_law_320 : decode cL_law 320 = .ok (.iload 11, 2) := by decide +kernel
theorem dL_law_322 : decode cL_law 322 = .ok (.iload_n 3, 1) := by decide +kernel
theorem dL_law_323 : decode cL_law 323 = .ok (.if_icmp .ge 38, 3) := by decide +kernel
theorem dL_law_326 : decode cL_law 326 = .ok (.aload_n 1, 1) := by decide +kernel
theorem dL_law_327 : decode cL_law 327 = .ok (.iload 11, 2) := by decide +kernel
theorem dL_law_329 : decode cL_law 329 = .ok (.iconst 0, 1) := by decide +kernel
theorem dL_law_330 : decode cL_law 330 = .ok (.invokevirtual 45, 3) := by decide +kernel
theorem dL_law_333 : decode cL_law 333 = .ok (.aload_n 2, 1) := by decide +kernel
theorem dL_law_334 : decode cL_law 334 = .ok (.iload 11, 2) := by decide +kernel
theorem dL_law_336 : decode cL_law 336 = .ok (.iconst 0, 1) := by decide +kernel
theorem dL_law_337 : decode cL_law 337 = .ok (.invokevirtual 45, 3) := by decide +kernel
theorem dL_law_340 : decode cL_law 340 = .ok (.if_icmp .ne 13, 3) := by decide +kernel
theorem dL_law_343 : decode cL_law 343 = .ok (.aload_n 1, 1) := by decide +kernel
theorem dL_law_344 : decode cL_law 344 = .ok (.iload 11, 2) := by decide +kernel
theorem dL_law_346 : decode cL_law 346 = .ok (.iconst 4, 1) := by decide +kernel
theorem dL_law_347 : decode cL_law 347 = .ok (.invokevirtual 45, 3) := by decide +kernel
theorem dL_law_350 : decode cL_law 350 = .ok (.ifCond .eq 5, 3) := by decide +kernel
theorem dL_law_353 : decode cL_law 353 = .ok (.iconst 0, 1) := by decide +kernel
theorem dL_law_354 : decode cL_law 354 = .ok (.ireturn, 1) := by decide +kernel
theorem dL_law_355 : decode cL_law 355 = .ok (.iinc 11 1, 3) := by decide +kernel
theorem dL_law_358 : decode cL_law 358 = .ok (.goto (-38), 3) := by decide +kernel
theorem dL_law_361 : decode cL_law 361 = .ok (.aload_n 1, 1) := by decide +kernel
theorem dL_law_362 : decode cL_law 362 = .ok (.iconst 4, 1) := by decide +kernel
theorem dL_law_363 : decode cL_law 363 = .ok (.invokevirtual 65, 3) := by decide +kernel
theorem dL_law_366 : decode cL_law 366 = .ok (.aload_n 2, 1) := by decide +kernel
theorem dL_law_367 : decode cL_law 367 = .ok (.iconst 4, 1) := by decide +kernel
theorem dL_law_368 : decode cL_law 368 = .ok (.invokevirtual 65, 3) := by decide +kernel
theorem dL_law_371 : decode cL_law 371 = .ok (.if_icmp .ne 16, 3) := by decide +kernel
theorem dL_law_374 : decode cL_law 374 = .ok (.aload_n 1, 1) := by decide +kernel
theorem dL_law_375 : decode cL_law 375 = .ok (.iconst 3, 1) := by decide +kernel
theorem dL_law_376 : decode cL_law 376 = .ok (.invokevirtual 65, 3) := by decide +kernel
theorem dL_law_379 : decode cL_law 379 = .ok (.aload_n 2, 1) := by decide +kernel
theorem dL_law_380 : decode cL_law 380 = .ok (.iconst 3, 1) := by decide +kernel
theorem dL_law_381 : decode cL_law 381 = .ok (.invokevirtual 65, 3) := by decide +kernel
theorem dL_law_384 : decode cL_law 384 = .ok (.if_icmp .eq 5, 3) := by decide +kernel
theorem dL_law_387 : decode cL_law 387 = .ok (.iconst 0, 1) := by decide +kernel
theorem dL_law_388 : decode cL_law 388 = .ok (.ireturn, 1) := by decide +kernel
theorem dL_law_389 : decode cL_law 389 = .ok (.aload_n 1, 1) := by decide +kernel
theorem dL_law_390 : decode cL_law 390 = .ok (.iconst 2, 1) := by decide +kernel
theorem dL_law_391 : decode cL_law 391 = .ok (.invokevirtual 65, 3) := by decide +kernel
theorem dL_law_394 : decode cL_law 394 = .ok (.aload_n 1, 1) := by decide +kernel
theorem dL_law_395 : decode cL_law 395 = .ok (.iconst 3, 1) := by decide +kernel
theorem dL_law_396 : decode cL_law 396 = .ok (.invokevirtual 65, 3) := by decide +kernel
theorem dL_law_399 : decode cL_law 399 = .ok (.iadd, 1) := by decide +kernel
theorem dL_law_400 : decode cL_law 400 = .ok (.iload 4, 2) := by decide +kernel
theorem dL_law_402 : decode cL_law 402 = .ok (.if_icmp .ne 30, 3) := by decide +kernel
theorem dL_law_405 : decode cL_law 405 = .ok (.aload_n 2, 1) := by decide +kernel
theorem dL_law_406 : decode cL_law 406 = .ok (.iconst 2, 1) := by decide +kernel
theorem dL_law_407 : decode cL_law 407 = .ok (.invokevirtual 65, 3) := by decide +kernel
theorem dL_law_410 : decode cL_law 410 = .ok (.aload_n 2, 1) := by decide +kernel
theorem dL_law_411 : decode cL_law 411 = .ok (.iconst 3, 1) := by decide +kernel
theorem dL_law_412 : decode cL_law 412 = .ok (.invokevirtual 65, 3) := by decide +kernel
theorem dL_law_415 : decode cL_law 415 = .ok (.iadd, 1) := by decide +kernel
theorem dL_law_416 : decode cL_law 416 = .ok (.iload 4, 2) := by decide +kernel
theorem dL_law_418 : decode cL_law 418 = .ok (.if_icmp .ne 14, 3) := by decide +kernel
theorem dL_law_421 : decode cL_law 421 = .ok (.aload_n 1, 1) := by decide +kernel
theorem dL_law_422 : decode cL_law 422 = .ok (.bipush 9, 2) := by decide +kernel
theorem dL_law_424 : decode cL_law 424 = .ok (.invokevirtual 65, 3) := by decide +kernel
theorem dL_law_427 : decode cL_law 427 = .ok (.iload 5, 2) := by decide +kernel
theorem dL_law_429 : decode cL_law 429 = .ok (.if_icmp .eq 5, 3) := by decide +kernel
theorem dL_law_432 : decode cL_law 432 = .ok (.iconst 0, 1) := by decide +kernel
theorem dL_law_433 : decode cL_law 433 = .ok (.ireturn, 1) := by decide +kernel
theorem dL_law_434 : decode cL_law 434 = .ok (.iinc 6 1, 3) := by decide +kernel
theorem dL_law_437 : decode cL_law 437 = .ok (.goto (-384), 3) := by decide +kernel
theorem dL_law_440 : decode cL_law 440 = .ok (.aload_n 1, 1) := by decide +kernel
theorem dL_law_441 : decode cL_law 441 = .ok (.iload_n 3, 1) := by decide +kernel
theorem dL_law_442 : decode cL_law 442 = .ok (.invokestatic 68, 3) := by decide +kernel
theorem dL_law_445 : decode cL_law 445 = .ok (.ireturn, 1) := by decide +kernel
set_option maxRecDepth 20000 in
theorem ggL_isAsked_X4_settle : GoodIn wsL_isAsked wsX4_settle := goodIn_ca (goodIn_r _ [5, 6, 7, 8, 4, 9, 10, 11, 12, 13, 14, 15, 16, 17, 18, 19, 20, 21, 22, 23, 24, 25, 26, 27, 28, 29, 30, 31, 32, 33, 34, 35, 36, 37, 38, 39, 40, 41, 42, 43, 44, 45, 46, 47, 48, 49, 50, 51, 52, 53, 54, 55, 56, 57, 58, 59, 60, 61, 62, 63, 64, 65, 66, 67, 68, 69, 304, 305, 306, 307, 308, 309, 310, 311, 312, 313, 314, 315, 316, 317, 318, 319, 320, 321] (by decide +kernel) (by decide +kernel)) (goodIn_sub (fun _ h => List.mem_cons_of_mem _ (List.mem_append_left _ (List.mem_append_left _ (List.mem_append_right _ h)))) (by decide +kernel))
set_option maxRecDepth 20000 in
theorem gL_isAsked_X4_settle : GoodIn wsL_isAsked (wsV RL 62 RX4 yX4_settle wsX4_settle) := goodIn_app (goodIn_of _ (by decide +kernel)) ggL_isAsked_X4_settle
set_option maxRecDepth 20000 in
theorem ggL_isAsked_X4_digest : GoodIn wsL_isAsked wsX4_digest := goodIn_r _ [73, 74, 75, 12, 76, 35, 77, 78, 79, 4, 80, 37, 36, 81, 82, 83, 84, 85, 86, 87, 16, 88, 89, 90, 91, 92, 41, 93, 53, 54, 56, 62, 63, 64, 65, 43, 94, 95, 96, 97, 98, 99, 100, 101, 55, 13, 14, 15, 17, 18, 19, 20, 21, 22, 23, 24, 25, 26, 27, 28, 29, 30, 102, 103, 104, 105, 106, 107, 108, 109, 110, 111, 112, 113, 114, 115, 116, 117, 118, 119, 120, 121, 122, 123, 124, 125, 126, 127, 128, 129, 130, 131, 132, 133, 134, 135, 136, 137, 138, 139, 140, 141, 142, 143, 144, 145, 146, 147, 148, 149, 150, 151, 152, 153, 154, 155, 156, 157, 158, 159, 160, 161, 162, 163, 164, 165, 166, 167, 168, 169, 170, 171, 172, 173, 174, 175, 176, 177, 178, 179, 180, 181, 182, 183, 184, 185, 186, 187, 188, 189, 190, 191, 192, 193, 194, 195, 196, 197, 198, 199, 200, 61, 38, 39, 40, 42, 44, 45, 46, 47, 48, 49, 50, 51, 52, 57, 58, 59, 60, 201, 202, 203, 204, 205, 206, 207, 208, 209, 210, 211, 212, 213, 214, 215, 216, 217, 218, 219, 220, 221, 222, 223, 224, 225, 226, 227, 228, 229, 230, 231, 232, 233, 234, 235, 236, 237, 238, 239, 240, 241, 242, 243, 244, 245, 304, 305, 306, 307, 308, 309, 310, 311, 312, 313, 314, 315, 316, 317, 318, 322, 323, 324, 319, 320, 321, 325, 326, 327, 328] (by decide +kernel) (by decide +kernel)
set_option maxRecDepth 20000 in
theorem gL_isAsked_X4_digest : GoodIn wsL_isAsked (wsV RL 72 RX4 yX4_digest wsX4_digest) := goodIn_app (goodIn_of _ (by decide +kernel)) ggL_isAsked_X4_digest
set_option maxRecDepth 20000 in
theorem ggL_isAsked_X4_order : GoodIn wsL_isAsked wsX4_order := goodIn_ca (goodIn_r _ [249, 184, 35, 140, 183, 250, 6, 7, 8, 4, 9, 10, 11, 12, 13, 14, 15, 16, 17, 18, 19, 20, 21, 22, 23, 24, 25, 26, 27, 28, 29, 30, 189, 190, 191, 41, 192, 56, 193, 194, 195, 196, 38, 39, 40, 42, 43, 44, 45, 46, 47, 48, 49, 50, 51, 52, 53, 54, 55, 57, 58, 59, 60, 61, 205, 206, 207, 208, 209, 251, 252, 253, 254, 255, 256, 257, 258, 304, 305, 306, 307, 308, 309, 310, 311, 312, 313, 314, 319, 320, 321, 315, 316, 317, 318] (by decide +kernel) (by decide +kernel)) (goodIn_sub (fun _ h => List.mem_cons_of_mem _ (List.mem_append_left _ (List.mem_append_left _ (List.mem_append_right _ h)))) (by decide +kernel))
set_option maxRecDepth 20000 in
theorem gL_isAsked_X4_order : GoodIn wsL_isAsked (wsV RL 76 RX4 yX4_order wsX4_order) := goodIn_app (goodIn_of _ (by decide +kernel)) ggL_isAsked_X4_order
set_option maxRecDepth 20000 in
theorem ggL_isAsked_X4_count : GoodIn wsL_isAsked wsX4_count := goodIn_r _ [262, 12, 157, 158, 159, 16, 160, 18, 161, 162, 163, 164, 165, 89, 23, 166, 167, 168, 169, 304, 305, 306, 307, 308, 309, 310, 311, 312, 313, 314, 315, 316, 317, 318] (by decide +kernel) (by decide +kernel)
set_option maxRecDepth 20000 in
theorem gL_isAsked_X4_count : GoodIn wsL_isAsked (wsV RL 79 RX4 yX4_count wsX4_count) := goodIn_app (goodIn_of _ (by decide +kernel)) ggL_isAsked_X4_count
set_option maxRecDepth 20000 in
theorem ggL_isAsked_X4_weakest : GoodIn wsL_isAsked wsX4_weakest := goodIn_ca (goodIn_r _ [266, 82, 6, 7, 8, 4, 9, 10, 11, 12, 13, 14, 15, 16, 17, 18, 19, 20, 21, 22, 23, 24, 25, 26, 27, 28, 29, 30, 240, 241, 242, 105, 243, 223, 224, 244, 218, 225, 219, 220, 221, 222, 107, 226, 227, 228, 229, 230, 231, 232, 39, 40, 41, 42, 43, 44, 45, 46, 47, 48, 49, 50, 51, 52, 53, 54, 55, 56, 57, 58, 59, 60, 61, 233, 198, 199, 200, 234, 202, 203, 204, 235, 103, 104, 106, 245, 190, 191, 192, 193, 194, 195, 196, 236, 237, 238, 239, 304, 305, 306, 307, 308, 309, 310, 311, 312, 313, 314, 315, 316, 317, 318, 325, 326, 327, 328, 319, 320, 321] (by decide +kernel) (by decide +kernel)) (goodIn_sub (fun _ h => List.mem_cons_of_mem _ (List.mem_append_left _ (List.mem_append_left _ (List.mem_append_right _ h)))) (by decide +kernel))
set_option maxRecDepth 20000 in
theorem gL_isAsked_X4_weakest : GoodIn wsL_isAsked (wsV RL 82 RX4 yX4_weakest wsX4_weakest) := goodIn_app (goodIn_of _ (by decide +kernel)) ggL_isAsked_X4_weakest
set_option maxRecDepth 20000 in
theorem ggL_isAsked_X4_canPay : GoodIn wsL_isAsked wsX4_canPay := goodIn_ca (goodIn_r _ [270, 82, 6, 7, 8, 4, 9, 10, 11, 12, 13, 14, 15, 16, 17, 18, 19, 20, 21, 22, 23, 24, 25, 26, 27, 28, 29, 30, 214, 215, 216, 105, 217, 218, 219, 220, 221, 222, 223, 224, 225, 107, 226, 227, 228, 229, 230, 231, 232, 39, 40, 41, 42, 43, 44, 45, 46, 47, 48, 49, 50, 51, 52, 53, 54, 55, 56, 57, 58, 59, 60, 61, 233, 198, 199, 200, 234, 202, 203, 204, 235, 103, 104, 106, 236, 237, 238, 239, 304, 305, 306, 307, 308, 309, 310, 311, 312, 313, 314, 315, 316, 317, 318, 325, 326, 327, 328, 319, 320, 321] (by decide +kernel) (by decide +kernel)) (goodIn_sub (fun _ h => List.mem_cons_of_mem _ (List.mem_append_left _ (List.mem_append_left _ (List.mem_append_right _ h)))) (by decide +kernel))
set_option maxRecDepth 20000 in
theorem gL_isAsked_X4_canPay : GoodIn wsL_isAsked (wsV RL 85 RX4 yX4_canPay wsX4_canPay) := goodIn_app (goodIn_of _ (by decide +kernel)) ggL_isAsked_X4_canPay
set_option maxRecDepth 20000 in
theorem ggL_isAsked_X4_sweep : GoodIn wsL_isAsked wsX4_sweep := goodIn_r _ [274, 35, 140, 90, 91, 92, 41, 93, 53, 54, 56, 275, 46, 47, 48, 304, 305, 306, 307, 308, 309, 310, 311, 312, 313, 314, 319, 320, 321, 315, 316, 317, 318] (by decide +kernel) (by decide +kernel)
set_option maxRecDepth 20000 in
theorem gL_isAsked_X4_sweep : GoodIn wsL_isAsked (wsV RL 89 RX4 yX4_sweep wsX4_sweep) := goodIn_app (goodIn_of _ (by decide +kernel)) ggL_isAsked_X4_sweep
set_option maxRecDepth 20000 in
theorem ggL_isAsked_X4_neutral : GoodIn wsL_isAsked wsX4_neutral := goodIn_ca (goodIn_ca (goodIn_r _ [279, 183, 140, 280, 281, 282, 4, 283, 284, 285, 12, 286, 124, 125, 16, 126, 18, 6, 7, 8, 9, 10, 11, 13, 14, 15, 17, 19, 20, 21, 22, 23, 24, 25, 26, 27, 28, 29, 30, 205, 206, 207, 41, 208, 53, 54, 56, 55, 209, 39, 40, 42, 43, 44, 45, 46, 47, 48, 49, 50, 51, 52, 57, 58, 59, 60, 61, 304, 305, 306, 307, 308, 309, 310, 311, 312, 313, 314, 319, 320, 321, 315, 316, 317, 318] (by decide +kernel) (by decide +kernel)) (goodIn_sub (fun _ h => List.mem_cons_of_mem _ (List.mem_append_left _ (List.mem_append_right _ h))) (by decide +kernel))) (goodIn_sub (fun _ h => List.mem_cons_of_mem _ (List.mem_append_left _ (List.mem_append_left _ (List.mem_append_right _ h)))) (by decide +kernel))
set_option maxRecDepth 20000 in
theorem gL_isAsked_X4_neutral : GoodIn wsL_isAsked (wsV RL 92 RX4 yX4_neutral wsX4_neutral) := goodIn_app (goodIn_of _ (by decide +kernel)) ggL_isAsked_X4_neutral
set_option maxRecDepth 20000 in
theorem ggL_isAsked_X4_drop : GoodIn wsL_isAsked wsX4_drop := goodIn_ca (goodIn_ca (goodIn_ca (goodIn_r _ [290, 10, 11, 35, 140, 280, 281, 282, 4, 283, 284, 285, 12, 286, 124, 125, 16, 126, 18, 291, 292, 293, 294, 295, 304, 305, 306, 307, 308, 309, 310, 311, 312, 313, 314, 319, 320, 321, 315, 316, 317, 318] (by decide +kernel) (by decide +kernel)) (goodIn_sub (fun _ h => List.mem_cons_of_mem _ (List.mem_append_left _ (List.mem_append_left _ (List.mem_append_right _ h)))) (by decide +kernel))) (goodIn_sub (fun _ h => List.mem_cons_of_mem _ (List.mem_append_left _ (List.mem_append_right _ h))) (by decide +kernel))) (goodIn_sub (fun _ h => List.mem_cons_of_mem _ (List.mem_append_right _ h)) (by decide +kernel))
set_option maxRecDepth 20000 in
theorem gL_isAsked_X4_drop : GoodIn wsL_isAsked (wsV RL 48 RX4 yX4_drop wsX4_drop) := goodIn_app (goodIn_of _ (by decide +kernel)) ggL_isAsked_X4_drop
set_option maxRecDepth 20000 in
theorem ggL_isAsked_X4_isLasting : GoodIn wsL_isAsked wsX4_isLasting := goodIn_ca (goodIn_r _ [299, 6, 7, 8, 4, 9, 10, 11, 12, 13, 14, 15, 16, 17, 18, 19, 20, 21, 22, 23, 24, 25, 26, 27, 28, 29, 30, 185, 186, 187, 188, 35, 184, 140, 94, 95, 96, 41, 97, 53, 54, 98, 99, 100, 101, 55, 56, 189, 190, 191, 192, 193, 194, 195, 196, 197, 198, 199, 200, 61, 38, 39, 40, 42, 43, 44, 45, 46, 47, 48, 49, 50, 51, 52, 57, 58, 59, 60, 201, 202, 203, 204, 304, 305, 306, 307, 308, 309, 310, 311, 312, 313, 314, 315, 316, 317, 318, 319, 320, 321] (by decide +kernel) (by decide +kernel)) (goodIn_sub (fun _ h => List.mem_cons_of_mem _ (List.mem_append_left _ (List.mem_append_left _ (List.mem_append_right _ h)))) (by decide +kernel))
set_option maxRecDepth 20000 in
theorem gL_isAsked_X4_isLasting : GoodIn wsL_isAsked (wsV RL 95 RX4 yX4_isLasting wsX4_isLasting) := goodIn_app (goodIn_of _ (by decide +kernel)) ggL_isAsked_X4_isLasting
set_option maxRecDepth 20000 in
theorem ggL_isAsked_X4_many : GoodIn wsL_isAsked wsX4_many := goodIn_ca (goodIn_r _ [303, 291, 292, 4, 293, 294, 295, 77, 78, 79, 80, 12, 76, 35, 37, 36, 81, 82, 83, 84, 85, 86, 87, 16, 88, 89, 90, 91, 92, 41, 93, 53, 54, 56, 62, 63, 64, 65, 43, 94, 95, 96, 97, 98, 99, 100, 101, 55, 13, 14, 15, 17, 18, 19, 20, 21, 22, 23, 24, 25, 26, 27, 28, 29, 30, 102, 103, 104, 105, 106, 107, 108, 109, 110, 111, 112, 113, 114, 115, 116, 117, 118, 119, 120, 121, 122, 123, 124, 125, 126, 127, 128, 129, 130, 131, 132, 133, 134, 135, 304, 305, 306, 307, 308, 309, 310, 311, 312, 313, 314, 315, 316, 317, 318, 322, 323, 324, 319, 320, 321, 325, 326, 327, 328] (by decide +kernel) (by decide +kernel)) (goodIn_sub (fun _ h => List.mem_cons_of_mem _ (List.mem_append_right _ h)) (by decide +kernel))
set_option maxRecDepth 20000 in
theorem gL_isAsked_X4_many : GoodIn wsL_isAsked (wsV RL 65 RX4 yX4_many wsX4_many) := goodIn_app (goodIn_of _ (by decide +kernel)) ggL_isAsked_X4_many
theorem dL_isAsked_0 : decode cL_isAsked 0 = .ok (.aload_n 0, 1) := by decide +kernel
theorem dL_isAsked_1 : decode cL_isAsked 1 = .ok (.invokevirtual 62, 3) := by decide +kernel
theorem dL_isAsked_4 : decode cL_isAsked 4 = .ok (.pop, 1) := by decide +kernel
theorem dL_isAsked_5 : decode cL_isAsked 5 = .ok (.aload_n 0, 1) := by decide +kernel
theorem dL_isAsked_6 : decode cL_isAsked 6 = .ok (.invokevirtual 72, 3) := by decide +kernel
theorem dL_isAsked_9 : decode cL_isAsked 9 = .ok (.lstore_n 2, 1) := by decide +kernel
theorem dL_isAsked_10 : decode cL_isAsked 10 = .ok (.aload_n 0, 1) := by decide +kernel
theorem dL_isAsked_11 : decode cL_isAsked 11 = .ok (.invokevirtual 76, 3) := by decide +kernel
theorem dL_isAsked_14 : decode cL_isAsked 14 = .ok (.istore 4, 2) := by decide +kernel
theorem dL_isAsked_16 : decode cL_isAsked 16 = .ok (.iload 4, 2) := by decide +kernel
theorem dL_isAsked_18 : decode cL_isAsked 18 = .ok (.ifCond .eq 40, 3) := by decide +kernel
theorem dL_isAsked_21 : decode cL_isAsked 21 = .ok (.iload 4, 2) := by decide +kernel
theorem dL_isAsked_23 : decode cL_isAsked 23 = .ok (.iconst (-1), 1) := by decide +kernel
theorem dL_isAsked_24 : decode cL_isAsked 24 = .ok (.if_icmp .lt 34, 3) := by decide +kernel
theorem dL_isAsked_27 : decode cL_isAsked 27 = .ok (.iload 4, 2) := by decide +kernel
theorem dL_isAsked_29 : decode cL_isAsked 29 = .ok (.bipush 100, 2) := by decide +kernel
theorem dL_isAsked_31 : decode cL_isAsked 31 = .ok (.if_icmp .gt 27, 3) := by decide +kernel
theorem dL_isAsked_34 : decode cL_isAsked 34 = .ok (.aload_n 0, 1) := by decide +kernel
theorem dL_isAsked_35 : decode cL_isAsked 35 = .ok (.invokevirtual 79, 3) := by decide +kernel
theorem dL_isAsked_38 : decode cL_isAsked 38 = .ok (.lconst 1, 1) := by decide +kernel
theorem dL_isAsked_39 : decode cL_isAsked 39 = .ok (.lcmp, 1) := by decide +kernel
theorem dL_isAsked_40 : decode cL_isAsked 40 = .ok (.ifCond .lt 18, 3) := by decide +kernel
theorem dL_isAsked_43 : decode cL_isAsked 43 = .ok (.aload_n 0, 1) := by decide +kernel
theorem dL_isAsked_44 : decode cL_isAsked 44 = .ok (.invokevirtual 82, 3) := by decide +kernel
theorem dL_isAsked_47 : decode cL_isAsked 47 = .ok (.iconst (-1), 1) := by decide +kernel
theorem dL_isAsked_48 : decode cL_isAsked 48 = .ok (.if_icmp .ne 12, 3) := by decide +kernel
theorem dL_isAsked_51 : decode cL_isAsked 51 = .ok (.aload_n 0, 1) := by decide +kernel
theorem dL_isAsked_52 : decode cL_isAsked 52 = .ok (.invokevirtual 85, 3) := by decide +kernel
theorem dL_isAsked_55 : decode cL_isAsked 55 = .ok (.ifCond .ne 5, 3) := by decide +kernel
theorem dL_isAsked_58 : decode cL_isAsked 58 = .ok (.iconst 0, 1) := by decide +kernel
theorem dL_isAsked_59 : decode cL_isAsked 59 = .ok (.ireturn, 1) := by decide +kernel
theorem dL_isAsked_60 : decode cL_isAsked 60 = .ok (.aload_n 0, 1) := by decide +kernel
theorem dL_isAsked_61 : decode cL_isAsked 61 = .ok (.invokevirtual 72, 3) := by decide +kernel
theorem dL_isAsked_64 : decode cL_isAsked 64 = .ok (.lload_n 2, 1) := by decide +kernel
theorem dL_isAsked_65 : decode cL_isAsked 65 = .ok (.lcmp, 1) := by decide +kernel
theorem dL_isAsked_66 : decode cL_isAsked 66 = .ok (.ifCond .eq 5, 3) := by decide +kernel
theorem dL_isAsked_69 : decode cL_isAsked 69 = .ok (.iconst 0, 1) := by decide +kernel
theorem dL_isAsked_70 : decode cL_isAsked 70 = .ok (.ireturn, 1) := by decide +kernel
theorem dL_isAsked_71 : decode cL_isAsked 71 = .ok (.aload_n 0, 1) := by decide +kernel
theorem dL_isAsked_72 : decode cL_isAsked 72 = .ok (.invokevirtual 89, 3) := by decide +kernel
theorem dL_isAsked_75 : decode cL_isAsked 75 = .ok (.pop, 1) := by decide +kernel
theorem dL_isAsked_76 : decode cL_isAsked 76 = .ok (.iconst 0, 1) := by decide +kernel
theorem dL_isAsked_77 : decode cL_isAsked 77 = .ok (.istore 5, 2) := by decide +kernel
theorem dL_isAsked_79 : decode cL_isAsked 79 = .ok (.iload 5, 2) := by decide +kernel
theorem dL_isAsked_81 : decode cL_isAsked 81 = .ok (.iload_n 1, 1) := by decide +kernel
theorem dL_isAsked_82 : decode cL_isAsked 82 = .ok (.if_icmp .ge 31, 3) := by decide +kernel
theorem dL_isAsked_85 : decode cL_isAsked 85 = .ok (.aload_n 0, 1) := by decide +kernel
theorem dL_isAsked_86 : decode cL_isAsked 86 = .ok (.iload 5, 2) := by decide +kernel
theorem dL_isAsked_88 : decode cL_isAsked 88 = .ok (.invokevirtual 92, 3) := by decide +kernel
theorem dL_isAsked_91 : decode cL_isAsked 91 = .ok (.ifCond .le 16, 3) := by decide +kernel
theorem dL_isAsked_94 : decode cL_isAsked 94 = .ok (.aload_n 0, 1) := by decide +kernel
theorem dL_isAsked_95 : decode cL_isAsked 95 = .ok (.iload 5, 2) := by decide +kernel
theorem dL_isAsked_97 : decode cL_isAsked 97 = .ok (.aload_n 0, 1) := by decide +kernel
theorem dL_isAsked_98 : decode cL_isAsked 98 = .ok (.iload 5, 2) := by decide +kernel
theorem dL_isAsked_100 : decode cL_isAsked 100 = .ok (.invokevirtual 92, 3) := by decide +kernel
theorem dL_isAsked_103 : decode cL_isAsked 103 = .ok (.invokevirtual 48, 3) := by decide +kernel
theorem dL_isAsked_106 : decode cL_isAsked 106 = .ok (.pop, 1) := by decide +kernel
theorem dL_isAsked_107 : decode cL_isAsked 107 = .ok (.iinc 5 1, 3) := by decide +kernel
theorem dL_isAsked_110 : decode cL_isAsked 110 = .ok (.goto (-31), 3) := by decide +kernel
theorem dL_isAsked_113 : decode cL_isAsked 113 = .ok (.aload_n 0, 1) := by decide +kernel
theorem dL_isAsked_114 : decode cL_isAsked 114 = .ok (.invokevirtual 95, 3) := by decide +kernel
theorem dL_isAsked_117 : decode cL_isAsked 117 = .ok (.ifCond .eq 24, 3) := by decide +kernel
theorem dL_isAsked_120 : decode cL_isAsked 120 = .ok (.aload_n 0, 1) := by decide +kernel
theorem dL_isAsked_121 : decode cL_isAsked 121 = .ok (.invokevirtual 76, 3) := by decide +kernel
theorem dL_isAsked_124 : decode cL_isAsked 124 = .ok (.iconst 1, 1) := by decide +kernel
theorem dL_isAsked_125 : decode cL_isAsked 125 = .ok (.if_icmp .ne 16, 3) := by decide +kernel
theorem dL_isAsked_128 : decode cL_isAsked 128 = .ok (.aload_n 0, 1) := by decide +kernel
theorem dL_isAsked_129 : decode cL_isAsked 129 = .ok (.bipush 6, 2) := by decide +kernel
theorem dL_isAsked_131 : decode cL_isAsked 131 = .ok (.invokevirtual 65, 3) := by decide +kernel
theorem dL_isAsked_134 : decode cL_isAsked 134 = .ok (.ifCond .ne 7, 3) := by decide +kernel
theorem dL_isAsked_137 : decode cL_isAsked 137 = .ok (.iconst 1, 1) := by decide +kernel
theorem dL_isAsked_138 : decode cL_isAsked 138 = .ok (.goto 4, 3) := by decide +kernel
theorem dL_isAsked_141 : decode cL_isAsked 141 = .ok (.iconst 0, 1) := by decide +kernel
theorem dL_isAsked_142 : decode cL_isAsked 142 = .ok (.ireturn, 1) := by decide +kernel
