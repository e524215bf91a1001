theorem dX5_reckon_397 : decode cX5_reckon 397 = .ok (.getfield 52, 3) := by decide +kernel
theorem dX5_reckon_400 : decode cX5_reckon 400 = .ok (.iconst 4, 1) := by decide +kernel
theorem dX5_reckon_401 : decode cX5_reckon 401 = .ok (.aload_n 0, 1) := by decide +kernel
theorem dX5_reckon_402 : decode cX5_reckon 402 = .ok (.getfield 52, 3) := by decide +kernel
theorem dX5_reckon_405 : decode cX5_reckon 405 = .ok (.iconst 4, 1) := by decide +kernel
theorem dX5_reckon_406 : decode cX5_reckon 406 = .ok (.iaload, 1) := by decide +kernel
theorem dX5_reckon_407 : decode cX5_reckon 407 = .ok (.iload 7, 2) := by decide +kernel
theorem dX5_reckon_409 : decode cX5_reckon 409 = .ok (.iadd, 1) := by decide +kernel
theorem dX5_reckon_410 : decode cX5_reckon 410 = .ok (.iastore, 1) := by decide +kernel
theorem dX5_reckon_411 : decode cX5_reckon 411 = .ok (.aload_n 0, 1) := by decide +kernel
theorem dX5_reckon_412 : decode cX5_reckon 412 = .ok (.getfield 52, 3) := by decide +kernel
theorem dX5_reckon_415 : decode cX5_reckon 415 = .ok (.iconst 0, 1) := by decide +kernel
theorem dX5_reckon_416 : decode cX5_reckon 416 = .ok (.iload 7, 2) := by decide +kernel
theorem dX5_reckon_418 : decode cX5_reckon 418 = .ok (.iload 8, 2) := by decide +kernel
theorem dX5_reckon_420 : decode cX5_reckon 420 = .ok (.iadd, 1) := by decide +kernel
theorem dX5_reckon_421 : decode cX5_reckon 421 = .ok (.iastore, 1) := by decide +kernel
theorem dX5_reckon_422 : decode cX5_reckon 422 = .ok (.iinc 4 1, 3) := by decide +kernel
theorem dX5_reckon_425 : decode cX5_reckon 425 = .ok (.goto (-213), 3) := by decide +kernel
theorem dX5_reckon_428 : decode cX5_reckon 428 = .ok (.iconst 0, 1) := by decide +kernel
theorem dX5_reckon_429 : decode cX5_reckon 429 = .ok (.istore 4, 2) := by decide +kernel
theorem dX5_reckon_431 : decode cX5_reckon 431 = .ok (.iload 4, 2) := by decide +kernel
theorem dX5_reckon_433 : decode cX5_reckon 433 = .ok (.bipush 32, 2) := by decide +kernel
theorem dX5_reckon_435 : decode cX5_reckon 435 = .ok (.if_icmp .ge 47, 3) := by decide +kernel
theorem dX5_reckon_438 : decode cX5_reckon 438 = .ok (.aload_n 0, 1) := by decide +kernel
theorem dX5_reckon_439 : decode cX5_reckon 439 = .ok (.getfield 46, 3) := by decide +kernel
theorem dX5_reckon_442 : decode cX5_reckon 442 = .ok (.iload 4, 2) := by decide +kernel
theorem dX5_reckon_444 : decode cX5_reckon 444 = .ok (.aload_n 0, 1) := by decide +kernel
theorem dX5_reckon_445 : decode cX5_reckon 445 = .ok (.getfield 52, 3) := by decide +kernel
theorem dX5_reckon_448 : decode cX5_reckon 448 = .ok (.iload 4, 2) := by decide +kernel
theorem dX5_reckon_450 : decode cX5_reckon 450 = .ok (.iconst 4, 1) := by decide +kernel
theorem dX5_reckon_451 : decode cX5_reckon 451 = .ok (.idiv, 1) := by decide +kernel
theorem dX5_reckon_452 : decode cX5_reckon 452 = .ok (.iaload, 1) := by decide +kernel
theorem dX5_reckon_453 : decode cX5_reckon 453 = .ok (.aload_n 0, 1) := by decide +kernel
theorem dX5_reckon_454 : decode cX5_reckon 454 = .ok (.getfield 130, 3) := by decide +kernel
theorem dX5_reckon_457 : decode cX5_reckon 457 = .ok (.iload 4, 2) := by decide +kernel
theorem dX5_reckon_459 : decode cX5_reckon 459 = .ok (.iconst 4, 1) := by decide +kernel
theorem dX5_reckon_460 : decode cX5_reckon 460 = .ok (.idiv, 1) := by decide +kernel
theorem dX5_reckon_461 : decode cX5_reckon 461 = .ok (.iaload, 1) := by decide +kernel
theorem dX5_reckon_462 : decode cX5_reckon 462 = .ok (.iadd, 1) := by decide +kernel
theorem dX5_reckon_463 : decode cX5_reckon 463 = .ok (.bipush 24, 2) := by decide +kernel
theorem dX5_reckon_465 : decode cX5_reckon 465 = .ok (.bipush 8, 2) := by decide +kernel
theorem dX5_reckon_467 : decode cX5_reckon 467 = .ok (.iload 4, 2) := by decide +kernel
theorem dX5_reckon_469 : decode cX5_reckon 469 = .ok (.iconst 4, 1) := by decide +kernel
theorem dX5_reckon_470 : decode cX5_reckon 470 = .ok (.irem, 1) := by decide +kernel
theorem dX5_reckon_471 : decode cX5_reckon 471 = .ok (.imul, 1) := by decide +kernel
theorem dX5_reckon_472 : decode cX5_reckon 472 = .ok (.isub, 1) := by decide +kernel
theorem dX5_reckon_473 : decode cX5_reckon 473 = .ok (.ishr, 1) := by decide +kernel
theorem dX5_reckon_474 : decode cX5_reckon 474 = .ok (.i2b, 1) := by decide +kernel
theorem dX5_reckon_475 : decode cX5_reckon 475 = .ok (.bastore, 1) := by decide +kernel
theorem dX5_reckon_476 : decode cX5_reckon 476 = .ok (.iinc 4 1, 3) := by decide +kernel
theorem dX5_reckon_479 : decode cX5_reckon 479 = .ok (.goto (-48), 3) := by decide +kernel
theorem dX5_reckon_482 : decode cX5_reckon 482 = .ok (.aload_n 0, 1) := by decide +kernel
theorem dX5_reckon_483 : decode cX5_reckon 483 = .ok (.iconst 1, 1) := by decide +kernel
theorem dX5_reckon_484 : decode cX5_reckon 484 = .ok (.putfield 157, 3) := by decide +kernel
theorem dX5_reckon_487 : decode cX5_reckon 487 = .ok (.return_, 1) := by decide +kernel
theorem dX5_five_0 : decode cX5_five 0 = .ok (.iconst 0, 1) := by decide +kernel
theorem dX5_five_1 : decode cX5_five 1 = .ok (.istore_n 2, 1) := by decide +kernel
theorem dX5_five_2 : decode cX5_five 2 = .ok (.iconst 5, 1) := by decide +kernel
theorem dX5_five_3 : decode cX5_five 3 = .ok (.iload_n 1, 1) := by decide +kernel
theorem dX5_five_4 : decode cX5_five 4 = .ok (.imul, 1) := by decide +kernel
theorem dX5_five_5 : decode cX5_five 5 = .ok (.istore_n 3, 1) := by decide +kernel
theorem dX5_five_6 : decode cX5_five 6 = .ok (.iload_n 3, 1) := by decide +kernel
theorem dX5_five_7 : decode cX5_five 7 = .ok (.iconst 5, 1) := by decide +kernel
theorem dX5_five_8 : decode cX5_five 8 = .ok (.iload_n 1, 1) := by decide +kernel
theorem dX5_five_9 : decode cX5_five 9 = .ok (.imul, 1) := by decide +kernel
theorem dX5_five_10 : decode cX5_five 10 = .ok (.iconst 5, 1) := by decide +kernel
theorem dX5_five_11 : decode cX5_five 11 = .ok (.iadd, 1) := by decide +kernel
theorem dX5_five_12 : decode cX5_five 12 = .ok (.if_icmp .ge 33, 3) := by decide +kernel
theorem dX5_five_15 : decode cX5_five 15 = .ok (.iconst 2, 1) := by decide +kernel
theorem dX5_five_16 : decode cX5_five 16 = .ok (.iload_n 2, 1) := by decide +kernel
theorem dX5_five_17 : decode cX5_five 17 = .ok (.imul, 1) := by decide +kernel
theorem dX5_five_18 : decode cX5_five 18 = .ok (.aload_n 0, 1) := by decide +kernel
theorem dX5_five_19 : decode cX5_five 19 = .ok (.getfield 46, 3) := by decide +kernel
theorem dX5_five_22 : decode cX5_five 22 = .ok (.iload_n 3, 1) := by decide +kernel
theorem dX5_five_23 : decode cX5_five 23 = .ok (.bipush 8, 2) := by decide +kernel
theorem dX5_five_25 : decode cX5_five 25 = .ok (.idiv, 1) := by decide +kernel
theorem dX5_five_26 : decode cX5_five 26 = .ok (.baload, 1) := by decide +kernel
theorem dX5_five_27 : decode cX5_five 27 = .ok (.bipush 7, 2) := by decide +kernel
theorem dX5_five_29 : decode cX5_five 29 = .ok (.iload_n 3, 1) := by decide +kernel
theorem dX5_five_30 : decode cX5_five 30 = .ok (.bipush 8, 2) := by decide +kernel
theorem dX5_five_32 : decode cX5_five 32 = .ok (.irem, 1) := by decide +kernel
theorem dX5_five_33 : decode cX5_five 33 = .ok (.isub, 1) := by decide +kernel
theorem dX5_five_34 : decode cX5_five 34 = .ok (.ishr, 1) := by decide +kernel
theorem dX5_five_35 : decode cX5_five 35 = .ok (.iconst 1, 1) := by decide +kernel
theorem dX5_five_36 : decode cX5_five 36 = .ok (.iand, 1) := by decide +kernel
theorem dX5_five_37 : decode cX5_five 37 = .ok (.iadd, 1) := by decide +kernel
theorem dX5_five_38 : decode cX5_five 38 = .ok (.istore_n 2, 1) := by decide +kernel
theorem dX5_five_39 : decode cX5_five 39 = .ok (.iinc 3 1, 3) := by decide +kernel
theorem dX5_five_42 : decode cX5_five 42 = .ok (.goto (-36), 3) := by decide +kernel
theorem dX5_five_45 : decode cX5_five 45 = .ok (.iload_n 2, 1) := by decide +kernel
theorem dX5_five_46 : decode cX5_five 46 = .ok (.ireturn, 1) := by decide +kernel
set_option maxRecDepth 20000 in
theorem ggX5_sign_J0_charAt_5068e : GoodIn wsX5_sign wsJ0_charAt_5068e := goodIn_r _ [5, 6, 7, 8, 9, 4, 10, 11, 12, 13, 14, 15, 16, 17, 18, 19, 20, 21, 22, 23, 24, 25, 26, 27, 28, 29, 30, 31, 32, 33, 34, 35, 36, 37, 38, 39, 40, 41, 42, 43] (by decide +kernel) (by decide +kernel)
set_option maxRecDepth 20000 in
theorem gX5_sign_J0_charAt_5068e : GoodIn wsX5_sign (wsV RX5 163 RJ0 yJ0_charAt_5068e wsJ0_charAt_5068e) := goodIn_app (goodIn_of _ (by decide +kernel)) ggX5_sign_J0_charAt_5068e
theorem dX5_sign_0 : decode cX5_sign 0 = .ok (.ldc 161, 2) := by decide +kernel
theorem dX5_sign_2 : decode cX5_sign 2 = .ok (.iload_n 0, 1) := by decide +kernel
theorem dX5_sign_3 : decode cX5_sign 3 = .ok (.invokevirtual 163, 3) := by decide +kernel
theorem dX5_sign_6 : decode cX5_sign 6 = .ok (.ireturn, 1) := by decide +kernel
set_option maxRecDepth 20000 in
theorem ggX5_valueOf_X5_sign : GoodIn wsX5_valueOf wsX5_sign := goodIn_r _ [4, 5, 6, 7, 8, 9, 10, 11, 12, 13, 14, 15, 16, 17, 18, 19, 20, 21, 22, 23, 24, 25, 26, 27, 28, 29, 30, 31, 32, 33, 34, 35, 36, 37, 38, 39, 40, 41, 42, 43, 44, 45, 46, 47] rfl (by decide +kernel)
set_option maxRecDepth 20000 in
theorem gX5_valueOf_X5_sign : GoodIn wsX5_valueOf (va_wsS RX5 169 yX5_sign wsX5_sign) := goodIn_app (goodIn_of _ (by decide +kernel)) ggX5_valueOf_X5_sign
theorem dX5_valueOf_0 : decode cX5_valueOf 0 = .ok (.iconst 0, 1) := by decide +kernel
theorem dX5_valueOf_1 : decode cX5_valueOf 1 = .ok (.istore_n 1, 1) := by decide +kernel
theorem dX5_valueOf_2 : decode cX5_valueOf 2 = .ok (.iload_n 1, 1) := by decide +kernel
theorem dX5_valueOf_3 : decode cX5_valueOf 3 = .ok (.bipush 32, 2) := by decide +kernel
theorem dX5_valueOf_5 : decode cX5_valueOf 5 = .ok (.if_icmp .ge 19, 3) := by decide +kernel
theorem dX5_valueOf_8 : decode cX5_valueOf 8 = .ok (.iload_n 1, 1) := by decide +kernel
theorem dX5_valueOf_9 : decode cX5_valueOf 9 = .ok (.invokestatic 169, 3) := by decide +kernel
theorem dX5_valueOf_12 : decode cX5_valueOf 12 = .ok (.iload_n 0, 1) := by decide +kernel
theorem dX5_valueOf_13 : decode cX5_valueOf 13 = .ok (.if_icmp .ne 5, 3) := by decide +kernel
theorem dX5_valueOf_16 : decode cX5_valueOf 16 = .ok (.iload_n 1, 1) := by decide +kernel
theorem dX5_valueOf_17 : decode cX5_valueOf 17 = .ok (.ireturn, 1) := by decide +kernel
theorem dX5_valueOf_18 : decode cX5_valueOf 18 = .ok (.iinc 1 1, 3) := by decide +kernel
theorem dX5_valueOf_21 : decode cX5_valueOf 21 = .ok (.goto (-19), 3) := by decide +kernel
theorem dX5_valueOf_24 : decode cX5_valueOf 24 = .ok (.iconst (-1), 1) := by decide +kernel
theorem dX5_valueOf_25 : decode cX5_valueOf 25 = .ok (.ireturn, 1) := by decide +kernel
set_option maxRecDepth 20000 in
theorem ggX5_make_X5_isKey : GoodIn wsX5_make wsX5_isKey := goodIn_r _ [20, 21, 22, 23, 19, 24, 92, 93, 94, 95, 96, 97, 98, 99, 100, 101, 102, 103, 104, 105, 106, 107, 108, 109, 110, 111, 112, 113, 114] (by decide +kernel) (by decide +kernel)
set_option maxRecDepth 20000 in
theorem gX5_make_X5_isKey : GoodIn wsX5_make (wsV RX5 145 RX5 yX5_isKey wsX5_isKey) := goodIn_app (goodIn_of _ (by decide +kernel)) ggX5_make_X5_isKey
set_option maxRecDepth 20000 in
theorem ggX5_make_X5_within : GoodIn wsX5_make wsX5_within := goodIn_r _ [24] (by decide +kernel) (by decide +kernel)
set_option maxRecDepth 20000 in
theorem gX5_make_X5_within : GoodIn wsX5_make (va_wsS RX5 139 yX5_within wsX5_within) := goodIn_app (goodIn_of _ (by decide +kernel)) ggX5_make_X5_within
set_option maxRecDepth 20000 in
theorem ggX5_make_X5_reckon : GoodIn wsX5_make wsX5_reckon := goodIn_ca (goodIn_r _ [28, 29, 30, 31, 32, 33, 34, 35, 36, 37, 19, 38, 39, 40, 41, 42, 43, 92, 93, 94, 95, 96, 97, 98, 99, 100, 101, 102, 103, 104, 105, 106, 107, 108, 109, 110, 111, 112, 113, 114] (by decide +kernel) (by decide +kernel)) (goodIn_sub (fun _ h => List.mem_cons_of_mem _ (List.mem_append_right _ h)) (by decide +kernel))
set_option maxRecDepth 20000 in
theorem gX5_make_X5_reckon : GoodIn wsX5_make (wsV RX5 188 RX5 yX5_reckon wsX5_reckon) := goodIn_app (goodIn_of _ (by decide +kernel)) ggX5_make_X5_reckon
set_option maxRecDepth 20000 in
theorem ggX5_make_X5_five : GoodIn wsX5_make wsX5_five := goodIn_ca (goodIn_r _ [47, 33, 92, 93, 94, 95, 96, 97, 98, 99, 100, 101, 102, 103, 104, 105, 106, 107, 108, 109, 110, 111, 112, 113, 114] (by decide +kernel) (by decide +kernel)) (goodIn_sub (fun _ h => List.mem_cons_of_mem _ (List.mem_append_right _ h)) (by decide +kernel))
set_option maxRecDepth 20000 in
theorem gX5_make_X5_five : GoodIn wsX5_make (wsV RX5 194 RX5 yX5_five wsX5_five) := goodIn_app (goodIn_of _ (by decide +kernel)) ggX5_make_X5_five
set_option maxRecDepth 20000 in
theorem ggX5_make_X5_sign : GoodIn wsX5_make wsX5_sign := goodIn_r _ [50, 51, 52, 53, 54, 55, 56, 57, 58, 59, 60, 61, 62, 63, 64, 65, 66, 67, 68, 69, 70, 71, 72, 73, 74, 75, 76, 77, 78, 79, 80, 81, 82, 83, 84, 85, 86, 87, 88, 89, 90, 91, 115, 116] rfl (by decide +kernel)
set_option maxRecDepth 20000 in
theorem gX5_make_X5_sign : GoodIn wsX5_make (va_wsS RX5 169 yX5_sign wsX5_sign) := goodIn_app (goodIn_of _ (by decide +kernel)) ggX5_make_X5_sign
theorem dX5_make_0 : decode cX5_make 0 = .ok (.aload_n 0, 1) := by decide +kernel
theorem dX5_make_1 : decode cX5_make 1 = .ok (.iconst 0, 1) := by decide +kernel
theorem dX5_make_2 : decode cX5_make 2 = .ok (.putfield 136, 3) := by decide +kernel
theorem dX5_make_5 : decode cX5_make 5 = .ok (.aload_n 0, 1) := by decide +kernel
theorem dX5_make_6 : decode cX5_make 6 = .ok (.iload_n 1, 1) := by decide +kernel
theorem dX5_make_7 : decode cX5_make 7 = .ok (.invokevirtual 145, 3) := by decide +kernel
theorem dX5_make_10 : decode cX5_make 10 = .ok (.ifCond .ne 6, 3) := by decide +kernel
theorem dX5_make_13 : decode cX5_make 13 = .ok (.bipush (-21), 2) := by decide +kernel
theorem dX5_make_15 : decode cX5_make 15 = .ok (.ireturn, 1) := by decide +kernel
theorem dX5_make_16 : decode cX5_make 16 = .ok (.iload_n 2, 1) := by decide +kernel
theorem dX5_make_17 : decode cX5_make 17 = .ok (.i2l, 1) := by decide +kernel
theorem dX5_make_18 : decode cX5_make 18 = .ok (.lconst 1, 1) := by decide +kernel
theorem dX5_make_19 : decode cX5_make 19 = .ok (.ldc2_w 173, 3) := by decide +kernel
theorem dX5_make_22 : decode cX5_make 22 = .ok (.invokestatic 139, 3) := by decide +kernel
theorem dX5_make_25 : decode cX5_make 25 = .ok (.ifCond .eq 27, 3) := by decide +kernel
theorem dX5_make_28 : decode cX5_make 28 = .ok (.iload_n 3, 1) := by decide +kernel
theorem dX5_make_29 : decode cX5_make 29 = .ok (.i2l, 1) := by decide +kernel
theorem dX5_make_30 : decode cX5_make 30 = .ok (.lconst 0, 1) := by decide +kernel
theorem dX5_make_31 : decode cX5_make 31 = .ok (.ldc2_w 175, 3) := by decide +kernel
theorem dX5_make_34 : decode cX5_make 34 = .ok (.invokestatic 139, 3) := by decide +kernel
theorem dX5_make_37 : decode cX5_make 37 = .ok (.ifCond .eq 15, 3) := by decide +kernel
theorem dX5_make_40 : decode cX5_make 40 = .ok (.lload 4, 2) := by decide +kernel
