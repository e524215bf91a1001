theorem dX5_init_491 : decode cX5_init 491 = .ok (.ldc 117, 2) := by decide +kernel
theorem dX5_init_493 : decode cX5_init 493 = .ok (.iastore, 1) := by decide +kernel
theorem dX5_init_494 : decode cX5_init 494 = .ok (.dup, 1) := by decide +kernel
theorem dX5_init_495 : decode cX5_init 495 = .ok (.bipush 63, 2) := by decide +kernel
theorem dX5_init_497 : decode cX5_init 497 = .ok (.ldc 118, 2) := by decide +kernel
theorem dX5_init_499 : decode cX5_init 499 = .ok (.iastore, 1) := by decide +kernel
theorem dX5_init_500 : decode cX5_init 500 = .ok (.putfield 119, 3) := by decide +kernel
theorem dX5_init_503 : decode cX5_init 503 = .ok (.aload_n 0, 1) := by decide +kernel
theorem dX5_init_504 : decode cX5_init 504 = .ok (.bipush 8, 2) := by decide +kernel
theorem dX5_init_506 : decode cX5_init 506 = .ok (.newarray .int, 2) := by decide +kernel
theorem dX5_init_508 : decode cX5_init 508 = .ok (.dup, 1) := by decide +kernel
theorem dX5_init_509 : decode cX5_init 509 = .ok (.iconst 0, 1) := by decide +kernel
theorem dX5_init_510 : decode cX5_init 510 = .ok (.ldc 122, 2) := by decide +kernel
theorem dX5_init_512 : decode cX5_init 512 = .ok (.iastore, 1) := by decide +kernel
theorem dX5_init_513 : decode cX5_init 513 = .ok (.dup, 1) := by decide +kernel
theorem dX5_init_514 : decode cX5_init 514 = .ok (.iconst 1, 1) := by decide +kernel
theorem dX5_init_515 : decode cX5_init 515 = .ok (.ldc 123, 2) := by decide +kernel
theorem dX5_init_517 : decode cX5_init 517 = .ok (.iastore, 1) := by decide +kernel
theorem dX5_init_518 : decode cX5_init 518 = .ok (.dup, 1) := by decide +kernel
theorem dX5_init_519 : decode cX5_init 519 = .ok (.iconst 2, 1) := by decide +kernel
theorem dX5_init_520 : decode cX5_init 520 = .ok (.ldc 124, 2) := by decide +kernel
theorem dX5_init_522 : decode cX5_init 522 = .ok (.iastore, 1) := by decide +kernel
theorem dX5_init_523 : decode cX5_init 523 = .ok (.dup, 1) := by decide +kernel
theorem dX5_init_524 : decode cX5_init 524 = .ok (.iconst 3, 1) := by decide +kernel
theorem dX5_init_525 : decode cX5_init 525 = .ok (.ldc 125, 2) := by decide +kernel
theorem dX5_init_527 : decode cX5_init 527 = .ok (.iastore, 1) := by decide +kernel
theorem dX5_init_528 : decode cX5_init 528 = .ok (.dup, 1) := by decide +kernel
theorem dX5_init_529 : decode cX5_init 529 = .ok (.iconst 4, 1) := by decide +kernel
theorem dX5_init_530 : decode cX5_init 530 = .ok (.ldc 126, 2) := by decide +kernel
theorem dX5_init_532 : decode cX5_init 532 = .ok (.iastore, 1) := by decide +kernel
theorem dX5_init_533 : decode cX5_init 533 = .ok (.dup, 1) := by decide +kernel
theorem dX5_init_534 : decode cX5_init 534 = .ok (.iconst 5, 1) := by decide +kernel
theorem dX5_init_535 : decode cX5_init 535 = .ok (.ldc 127, 2) := by decide +kernel
theorem dX5_init_537 : decode cX5_init 537 = .ok (.iastore, 1) := by decide +kernel
theorem dX5_init_538 : decode cX5_init 538 = .ok (.dup, 1) := by decide +kernel
theorem dX5_init_539 : decode cX5_init 539 = .ok (.bipush 6, 2) := by decide +kernel
theorem dX5_init_541 : decode cX5_init 541 = .ok (.ldc 128, 2) := by decide +kernel
theorem dX5_init_543 : decode cX5_init 543 = .ok (.iastore, 1) := by decide +kernel
theorem dX5_init_544 : decode cX5_init 544 = .ok (.dup, 1) := by decide +kernel
theorem dX5_init_545 : decode cX5_init 545 = .ok (.bipush 7, 2) := by decide +kernel
theorem dX5_init_547 : decode cX5_init 547 = .ok (.ldc 129, 2) := by decide +kernel
theorem dX5_init_549 : decode cX5_init 549 = .ok (.iastore, 1) := by decide +kernel
theorem dX5_init_550 : decode cX5_init 550 = .ok (.putfield 130, 3) := by decide +kernel
theorem dX5_init_553 : decode cX5_init 553 = .ok (.aload_n 0, 1) := by decide +kernel
theorem dX5_init_554 : decode cX5_init 554 = .ok (.iconst 0, 1) := by decide +kernel
theorem dX5_init_555 : decode cX5_init 555 = .ok (.putfield 133, 3) := by decide +kernel
theorem dX5_init_558 : decode cX5_init 558 = .ok (.return_, 1) := by decide +kernel
theorem dX5_thrown_0 : decode cX5_thrown 0 = .ok (.aload_n 0, 1) := by decide +kernel
theorem dX5_thrown_1 : decode cX5_thrown 1 = .ok (.getfield 136, 3) := by decide +kernel
theorem dX5_thrown_4 : decode cX5_thrown 4 = .ok (.ireturn, 1) := by decide +kernel
theorem dX5_within_0 : decode cX5_within 0 = .ok (.lload_n 0, 1) := by decide +kernel
theorem dX5_within_1 : decode cX5_within 1 = .ok (.lload_n 2, 1) := by decide +kernel
theorem dX5_within_2 : decode cX5_within 2 = .ok (.lcmp, 1) := by decide +kernel
theorem dX5_within_3 : decode cX5_within 3 = .ok (.ifCond .lt 14, 3) := by decide +kernel
theorem dX5_within_6 : decode cX5_within 6 = .ok (.lload_n 0, 1) := by decide +kernel
theorem dX5_within_7 : decode cX5_within 7 = .ok (.lload 4, 2) := by decide +kernel
theorem dX5_within_9 : decode cX5_within 9 = .ok (.lcmp, 1) := by decide +kernel
theorem dX5_within_10 : decode cX5_within 10 = .ok (.ifCond .gt 7, 3) := by decide +kernel
theorem dX5_within_13 : decode cX5_within 13 = .ok (.iconst 1, 1) := by decide +kernel
theorem dX5_within_14 : decode cX5_within 14 = .ok (.goto 4, 3) := by decide +kernel
theorem dX5_within_17 : decode cX5_within 17 = .ok (.iconst 0, 1) := by decide +kernel
theorem dX5_within_18 : decode cX5_within 18 = .ok (.ireturn, 1) := by decide +kernel
set_option maxRecDepth 20000 in
theorem ggX5_isKey_X5_within : GoodIn wsX5_isKey wsX5_within := goodIn_r _ [5] (by decide +kernel) (by decide +kernel)
set_option maxRecDepth 20000 in
theorem gX5_isKey_X5_within : GoodIn wsX5_isKey (va_wsS RX5 139 yX5_within wsX5_within) := goodIn_app (goodIn_of _ (by decide +kernel)) ggX5_isKey_X5_within
theorem dX5_isKey_0 : decode cX5_isKey 0 = .ok (.iload_n 1, 1) := by decide +kernel
theorem dX5_isKey_1 : decode cX5_isKey 1 = .ok (.i2l, 1) := by decide +kernel
theorem dX5_isKey_2 : decode cX5_isKey 2 = .ok (.lconst 0, 1) := by decide +kernel
theorem dX5_isKey_3 : decode cX5_isKey 3 = .ok (.aload_n 0, 1) := by decide +kernel
theorem dX5_isKey_4 : decode cX5_isKey 4 = .ok (.getfield 133, 3) := by decide +kernel
theorem dX5_isKey_7 : decode cX5_isKey 7 = .ok (.iconst 1, 1) := by decide +kernel
theorem dX5_isKey_8 : decode cX5_isKey 8 = .ok (.isub, 1) := by decide +kernel
theorem dX5_isKey_9 : decode cX5_isKey 9 = .ok (.i2l, 1) := by decide +kernel
theorem dX5_isKey_10 : decode cX5_isKey 10 = .ok (.invokestatic 139, 3) := by decide +kernel
theorem dX5_isKey_13 : decode cX5_isKey 13 = .ok (.ireturn, 1) := by decide +kernel
theorem dX5_key_0 : decode cX5_key 0 = .ok (.aload_n 0, 1) := by decide +kernel
theorem dX5_key_1 : decode cX5_key 1 = .ok (.iconst 0, 1) := by decide +kernel
theorem dX5_key_2 : decode cX5_key 2 = .ok (.putfield 136, 3) := by decide +kernel
theorem dX5_key_5 : decode cX5_key 5 = .ok (.lload_n 1, 1) := by decide +kernel
theorem dX5_key_6 : decode cX5_key 6 = .ok (.lconst 0, 1) := by decide +kernel
theorem dX5_key_7 : decode cX5_key 7 = .ok (.lcmp, 1) := by decide +kernel
theorem dX5_key_8 : decode cX5_key 8 = .ok (.ifCond .lt 17, 3) := by decide +kernel
theorem dX5_key_11 : decode cX5_key 11 = .ok (.lload_n 3, 1) := by decide +kernel
theorem dX5_key_12 : decode cX5_key 12 = .ok (.lload_n 1, 1) := by decide +kernel
theorem dX5_key_13 : decode cX5_key 13 = .ok (.lcmp, 1) := by decide +kernel
theorem dX5_key_14 : decode cX5_key 14 = .ok (.ifCond .lt 11, 3) := by decide +kernel
theorem dX5_key_17 : decode cX5_key 17 = .ok (.lload_n 3, 1) := by decide +kernel
theorem dX5_key_18 : decode cX5_key 18 = .ok (.ldc2_w 143, 3) := by decide +kernel
theorem dX5_key_21 : decode cX5_key 21 = .ok (.lcmp, 1) := by decide +kernel
theorem dX5_key_22 : decode cX5_key 22 = .ok (.ifCond .le 6, 3) := by decide +kernel
theorem dX5_key_25 : decode cX5_key 25 = .ok (.bipush (-22), 2) := by decide +kernel
theorem dX5_key_27 : decode cX5_key 27 = .ok (.ireturn, 1) := by decide +kernel
theorem dX5_key_28 : decode cX5_key 28 = .ok (.aload_n 0, 1) := by decide +kernel
theorem dX5_key_29 : decode cX5_key 29 = .ok (.getfield 133, 3) := by decide +kernel
theorem dX5_key_32 : decode cX5_key 32 = .ok (.bipush 15, 2) := by decide +kernel
theorem dX5_key_34 : decode cX5_key 34 = .ok (.if_icmp .ne 6, 3) := by decide +kernel
theorem dX5_key_37 : decode cX5_key 37 = .ok (.bipush (-24), 2) := by decide +kernel
theorem dX5_key_39 : decode cX5_key 39 = .ok (.ireturn, 1) := by decide +kernel
theorem dX5_key_40 : decode cX5_key 40 = .ok (.aload_n 0, 1) := by decide +kernel
theorem dX5_key_41 : decode cX5_key 41 = .ok (.getfield 7, 3) := by decide +kernel
theorem dX5_key_44 : decode cX5_key 44 = .ok (.aload_n 0, 1) := by decide +kernel
theorem dX5_key_45 : decode cX5_key 45 = .ok (.getfield 133, 3) := by decide +kernel
theorem dX5_key_48 : decode cX5_key 48 = .ok (.lload_n 1, 1) := by decide +kernel
theorem dX5_key_49 : decode cX5_key 49 = .ok (.l2i, 1) := by decide +kernel
theorem dX5_key_50 : decode cX5_key 50 = .ok (.iastore, 1) := by decide +kernel
theorem dX5_key_51 : decode cX5_key 51 = .ok (.aload_n 0, 1) := by decide +kernel
theorem dX5_key_52 : decode cX5_key 52 = .ok (.getfield 13, 3) := by decide +kernel
theorem dX5_key_55 : decode cX5_key 55 = .ok (.aload_n 0, 1) := by decide +kernel
theorem dX5_key_56 : decode cX5_key 56 = .ok (.getfield 133, 3) := by decide +kernel
theorem dX5_key_59 : decode cX5_key 59 = .ok (.lload_n 3, 1) := by decide +kernel
theorem dX5_key_60 : decode cX5_key 60 = .ok (.l2i, 1) := by decide +kernel
theorem dX5_key_61 : decode cX5_key 61 = .ok (.iastore, 1) := by decide +kernel
theorem dX5_key_62 : decode cX5_key 62 = .ok (.aload_n 0, 1) := by decide +kernel
theorem dX5_key_63 : decode cX5_key 63 = .ok (.dup, 1) := by decide +kernel
theorem dX5_key_64 : decode cX5_key 64 = .ok (.getfield 133, 3) := by decide +kernel
theorem dX5_key_67 : decode cX5_key 67 = .ok (.iconst 1, 1) := by decide +kernel
theorem dX5_key_68 : decode cX5_key 68 = .ok (.iadd, 1) := by decide +kernel
theorem dX5_key_69 : decode cX5_key 69 = .ok (.putfield 133, 3) := by decide +kernel
theorem dX5_key_72 : decode cX5_key 72 = .ok (.aload_n 0, 1) := by decide +kernel
theorem dX5_key_73 : decode cX5_key 73 = .ok (.getfield 133, 3) := by decide +kernel
theorem dX5_key_76 : decode cX5_key 76 = .ok (.iconst 1, 1) := by decide +kernel
theorem dX5_key_77 : decode cX5_key 77 = .ok (.isub, 1) := by decide +kernel
theorem dX5_key_78 : decode cX5_key 78 = .ok (.ireturn, 1) := by decide +kernel
set_option maxRecDepth 20000 in
theorem ggX5_octet_X5_isKey : GoodIn wsX5_octet wsX5_isKey := goodIn_r _ [9, 10, 11, 12, 8, 13, 14, 15, 16, 17, 18, 19, 20, 21, 22, 23, 24, 25, 26, 27, 28, 29, 30, 31, 32, 33, 34, 35, 36] (by decide +kernel) (by decide +kernel)
set_option maxRecDepth 20000 in
theorem gX5_octet_X5_isKey : GoodIn wsX5_octet (wsV RX5 145 RX5 yX5_isKey wsX5_isKey) := goodIn_app (goodIn_of _ (by decide +kernel)) ggX5_octet_X5_isKey
theorem dX5_octet_0 : decode cX5_octet 0 = .ok (.aload_n 0, 1) := by decide +kernel
theorem dX5_octet_1 : decode cX5_octet 1 = .ok (.iconst 0, 1) := by decide +kernel
theorem dX5_octet_2 : decode cX5_octet 2 = .ok (.putfield 136, 3) := by decide +kernel
theorem dX5_octet_5 : decode cX5_octet 5 = .ok (.aload_n 0, 1) := by decide +kernel
theorem dX5_octet_6 : decode cX5_octet 6 = .ok (.iload_n 1, 1) := by decide +kernel
theorem dX5_octet_7 : decode cX5_octet 7 = .ok (.invokevirtual 145, 3) := by decide +kernel
theorem dX5_octet_10 : decode cX5_octet 10 = .ok (.ifCond .eq 50, 3) := by decide +kernel
theorem dX5_octet_13 : decode cX5_octet 13 = .ok (.aload_n 0, 1) := by decide +kernel
theorem dX5_octet_14 : decode cX5_octet 14 = .ok (.getfield 16, 3) := by decide +kernel
theorem dX5_octet_17 : decode cX5_octet 17 = .ok (.iload_n 1, 1) := by decide +kernel
theorem dX5_octet_18 : decode cX5_octet 18 = .ok (.iaload, 1) := by decide +kernel
theorem dX5_octet_19 : decode cX5_octet 19 = .ok (.bipush 32, 2) := by decide +kernel
theorem dX5_octet_21 : decode cX5_octet 21 = .ok (.if_icmp .ge 39, 3) := by decide +kernel
theorem dX5_octet_24 : decode cX5_octet 24 = .ok (.aload_n 0, 1) := by decide +kernel
theorem dX5_octet_25 : decode cX5_octet 25 = .ok (.getfield 19, 3) := by decide +kernel
theorem dX5_octet_28 : decode cX5_octet 28 = .ok (.iload_n 1, 1) := by decide +kernel
theorem dX5_octet_29 : decode cX5_octet 29 = .ok (.baload, 1) := by decide +kernel
theorem dX5_octet_30 : decode cX5_octet 30 = .ok (.ifCond .ne 30, 3) := by decide +kernel
theorem dX5_octet_33 : decode cX5_octet 33 = .ok (.aload_n 0, 1) := by decide +kernel
theorem dX5_octet_34 : decode cX5_octet 34 = .ok (.getfield 23, 3) := by decide +kernel
theorem dX5_octet_37 : decode cX5_octet 37 = .ok (.bipush 32, 2) := by decide +kernel
theorem dX5_octet_39 : decode cX5_octet 39 = .ok (.iload_n 1, 1) := by decide +kernel
theorem dX5_octet_40 : decode cX5_octet 40 = .ok (.imul, 1) := by decide +kernel
theorem dX5_octet_41 : decode cX5_octet 41 = .ok (.aload_n 0, 1) := by decide +kernel
theorem dX5_octet_42 : decode cX5_octet 42 = .ok (.getfield 16, 3) := by decide +kernel
theorem dX5_octet_45 : decode cX5_octet 45 = .ok (.iload_n 1, 1) := by decide +kernel
theorem dX5_octet_46 : decode cX5_octet 46 = .ok (.iaload, 1) := by decide +kernel
theorem dX5_octet_47 : decode cX5_octet 47 = .ok (.iadd, 1) := by decide +kernel
theorem dX5_octet_48 : decode cX5_octet 48 = .ok (.iload_n 2, 1) := by decide +kernel
theorem dX5_octet_49 : decode cX5_octet 49 = .ok (.bastore, 1) := by decide +kernel
theorem dX5_octet_50 : decode cX5_octet 50 = .ok (.aload_n 0, 1) := by decide +kernel
theorem dX5_octet_51 : decode cX5_octet 51 = .ok (.getfield 16, 3) := by decide +kernel
