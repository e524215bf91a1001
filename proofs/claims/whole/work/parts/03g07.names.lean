theorem dX4_digest_20 : decode cX4_digest 20 = .ok (.new 135, 3) := by decide +kernel
theorem dX4_digest_23 : decode cX4_digest 23 = .ok (.dup, 1) := by decide +kernel
theorem dX4_digest_24 : decode cX4_digest 24 = .ok (.invokespecial 137, 3) := by decide +kernel
theorem dX4_digest_27 : decode cX4_digest 27 = .ok (.athrow, 1) := by decide +kernel
theorem dX4_digest_28 : decode cX4_digest 28 = .ok (.aload_n 0, 1) := by decide +kernel
theorem dX4_digest_29 : decode cX4_digest 29 = .ok (.getfield 36, 3) := by decide +kernel
theorem dX4_digest_32 : decode cX4_digest 32 = .ok (.iload_n 1, 1) := by decide +kernel
theorem dX4_digest_33 : decode cX4_digest 33 = .ok (.invokevirtual 138, 3) := by decide +kernel
theorem dX4_digest_36 : decode cX4_digest 36 = .ok (.ireturn, 1) := by decide +kernel
set_option maxRecDepth 20000 in
theorem ggX4_spent_X3_fateOf : GoodIn wsX4_spent wsX3_fateOf := goodIn_ca (goodIn_r _ [6, 7, 8, 9, 5, 10, 11, 22, 23, 24] (by decide +kernel) (by decide +kernel)) (goodIn_sub (fun _ h => List.mem_cons_of_mem _ (List.mem_append_right _ h)) (by decide +kernel))
set_option maxRecDepth 20000 in
theorem gX4_spent_X3_fateOf : GoodIn wsX4_spent (wsV RX4 124 RX3 yX3_fateOf wsX3_fateOf) := goodIn_app (goodIn_of _ (by decide +kernel)) ggX4_spent_X3_fateOf
theorem dX4_spent_0 : decode cX4_spent 0 = .ok (.aload_n 0, 1) := by decide +kernel
theorem dX4_spent_1 : decode cX4_spent 1 = .ok (.getfield 29, 3) := by decide +kernel
theorem dX4_spent_4 : decode cX4_spent 4 = .ok (.lload_n 1, 1) := by decide +kernel
theorem dX4_spent_5 : decode cX4_spent 5 = .ok (.invokevirtual 124, 3) := by decide +kernel
theorem dX4_spent_8 : decode cX4_spent 8 = .ok (.ireturn, 1) := by decide +kernel
theorem dX4_serial_0 : decode cX4_serial 0 = .ok (.aload_n 0, 1) := by decide +kernel
theorem dX4_serial_1 : decode cX4_serial 1 = .ok (.getfield 68, 3) := by decide +kernel
theorem dX4_serial_4 : decode cX4_serial 4 = .ok (.i2l, 1) := by decide +kernel
theorem dX4_serial_5 : decode cX4_serial 5 = .ok (.lreturn, 1) := by decide +kernel
theorem dX4_keyNumbered_0 : decode cX4_keyNumbered 0 = .ok (.iload_n 1, 1) := by decide +kernel
theorem dX4_keyNumbered_1 : decode cX4_keyNumbered 1 = .ok (.ifCond .lt 26, 3) := by decide +kernel
theorem dX4_keyNumbered_4 : decode cX4_keyNumbered 4 = .ok (.iload_n 1, 1) := by decide +kernel
theorem dX4_keyNumbered_5 : decode cX4_keyNumbered 5 = .ok (.aload_n 0, 1) := by decide +kernel
theorem dX4_keyNumbered_6 : decode cX4_keyNumbered 6 = .ok (.getfield 44, 3) := by decide +kernel
theorem dX4_keyNumbered_9 : decode cX4_keyNumbered 9 = .ok (.if_icmp .ge 18, 3) := by decide +kernel
theorem dX4_keyNumbered_12 : decode cX4_keyNumbered 12 = .ok (.iload_n 1, 1) := by decide +kernel
theorem dX4_keyNumbered_13 : decode cX4_keyNumbered 13 = .ok (.bipush 15, 2) := by decide +kernel
theorem dX4_keyNumbered_15 : decode cX4_keyNumbered 15 = .ok (.if_icmp .ge 12, 3) := by decide +kernel
theorem dX4_keyNumbered_18 : decode cX4_keyNumbered 18 = .ok (.aload_n 0, 1) := by decide +kernel
theorem dX4_keyNumbered_19 : decode cX4_keyNumbered 19 = .ok (.getfield 11, 3) := by decide +kernel
theorem dX4_keyNumbered_22 : decode cX4_keyNumbered 22 = .ok (.iload_n 1, 1) := by decide +kernel
theorem dX4_keyNumbered_23 : decode cX4_keyNumbered 23 = .ok (.aaload, 1) := by decide +kernel
theorem dX4_keyNumbered_24 : decode cX4_keyNumbered 24 = .ok (.goto 4, 3) := by decide +kernel
theorem dX4_keyNumbered_27 : decode cX4_keyNumbered 27 = .ok (.aconst_null, 1) := by decide +kernel
theorem dX4_keyNumbered_28 : decode cX4_keyNumbered 28 = .ok (.areturn, 1) := by decide +kernel
theorem dX4_isDay_0 : decode cX4_isDay 0 = .ok (.lload_n 0, 1) := by decide +kernel
theorem dX4_isDay_1 : decode cX4_isDay 1 = .ok (.lconst 0, 1) := by decide +kernel
theorem dX4_isDay_2 : decode cX4_isDay 2 = .ok (.lcmp, 1) := by decide +kernel
theorem dX4_isDay_3 : decode cX4_isDay 3 = .ok (.ifCond .lt 15, 3) := by decide +kernel
theorem dX4_isDay_6 : decode cX4_isDay 6 = .ok (.lload_n 0, 1) := by decide +kernel
theorem dX4_isDay_7 : decode cX4_isDay 7 = .ok (.ldc2_w 142, 3) := by decide +kernel
theorem dX4_isDay_10 : decode cX4_isDay 10 = .ok (.lcmp, 1) := by decide +kernel
theorem dX4_isDay_11 : decode cX4_isDay 11 = .ok (.ifCond .gt 7, 3) := by decide +kernel
theorem dX4_isDay_14 : decode cX4_isDay 14 = .ok (.iconst 1, 1) := by decide +kernel
theorem dX4_isDay_15 : decode cX4_isDay 15 = .ok (.goto 4, 3) := by decide +kernel
theorem dX4_isDay_18 : decode cX4_isDay 18 = .ok (.iconst 0, 1) := by decide +kernel
theorem dX4_isDay_19 : decode cX4_isDay 19 = .ok (.ireturn, 1) := by decide +kernel
theorem dX4_isValue_0 : decode cX4_isValue 0 = .ok (.iload_n 0, 1) := by decide +kernel
theorem dX4_isValue_1 : decode cX4_isValue 1 = .ok (.iconst 1, 1) := by decide +kernel
theorem dX4_isValue_2 : decode cX4_isValue 2 = .ok (.if_icmp .lt 13, 3) := by decide +kernel
theorem dX4_isValue_5 : decode cX4_isValue 5 = .ok (.iload_n 0, 1) := by decide +kernel
theorem dX4_isValue_6 : decode cX4_isValue 6 = .ok (.ldc 144, 2) := by decide +kernel
theorem dX4_isValue_8 : decode cX4_isValue 8 = .ok (.if_icmp .gt 7, 3) := by decide +kernel
theorem dX4_isValue_11 : decode cX4_isValue 11 = .ok (.iconst 1, 1) := by decide +kernel
theorem dX4_isValue_12 : decode cX4_isValue 12 = .ok (.goto 4, 3) := by decide +kernel
theorem dX4_isValue_15 : decode cX4_isValue 15 = .ok (.iconst 0, 1) := by decide +kernel
theorem dX4_isValue_16 : decode cX4_isValue 16 = .ok (.ireturn, 1) := by decide +kernel
theorem dX4_isKind_0 : decode cX4_isKind 0 = .ok (.iload_n 0, 1) := by decide +kernel
theorem dX4_isKind_1 : decode cX4_isKind 1 = .ok (.ifCond .lt 13, 3) := by decide +kernel
theorem dX4_isKind_4 : decode cX4_isKind 4 = .ok (.iload_n 0, 1) := by decide +kernel
theorem dX4_isKind_5 : decode cX4_isKind 5 = .ok (.bipush 9, 2) := by decide +kernel
theorem dX4_isKind_7 : decode cX4_isKind 7 = .ok (.if_icmp .gt 7, 3) := by decide +kernel
theorem dX4_isKind_10 : decode cX4_isKind 10 = .ok (.iconst 1, 1) := by decide +kernel
theorem dX4_isKind_11 : decode cX4_isKind 11 = .ok (.goto 4, 3) := by decide +kernel
theorem dX4_isKind_14 : decode cX4_isKind 14 = .ok (.iconst 0, 1) := by decide +kernel
theorem dX4_isKind_15 : decode cX4_isKind 15 = .ok (.ireturn, 1) := by decide +kernel
set_option maxRecDepth 20000 in
theorem ggX4_writeLetters_X4_letterFor : GoodIn wsX4_writeLetters wsX4_letterFor := goodIn_r _ [5, 6, 7, 8, 9, 10, 11, 12, 13, 14, 15, 16, 17, 18, 19, 20, 21, 22, 23, 24, 25, 26, 27, 28, 29, 30, 31, 32, 33, 34, 35, 36, 37, 38, 39, 40, 41, 42, 43, 44, 45, 46, 57, 58] rfl (by decide +kernel)
set_option maxRecDepth 20000 in
theorem gX4_writeLetters_X4_letterFor : GoodIn wsX4_writeLetters (va_wsS RX4 145 yX4_letterFor wsX4_letterFor) := goodIn_app (goodIn_of _ (by decide +kernel)) ggX4_writeLetters_X4_letterFor
theorem dX4_writeLetters_0 : decode cX4_writeLetters 0 = .ok (.iconst 0, 1) := by decide +kernel
theorem dX4_writeLetters_1 : decode cX4_writeLetters 1 = .ok (.istore 4, 2) := by decide +kernel
theorem dX4_writeLetters_3 : decode cX4_writeLetters 3 = .ok (.iload 4, 2) := by decide +kernel
theorem dX4_writeLetters_5 : decode cX4_writeLetters 5 = .ok (.bipush 11, 2) := by decide +kernel
theorem dX4_writeLetters_7 : decode cX4_writeLetters 7 = .ok (.if_icmp .ge 29, 3) := by decide +kernel
theorem dX4_writeLetters_10 : decode cX4_writeLetters 10 = .ok (.aload_n 0, 1) := by decide +kernel
theorem dX4_writeLetters_11 : decode cX4_writeLetters 11 = .ok (.getfield 15, 3) := by decide +kernel
theorem dX4_writeLetters_14 : decode cX4_writeLetters 14 = .ok (.iload 4, 2) := by decide +kernel
theorem dX4_writeLetters_16 : decode cX4_writeLetters 16 = .ok (.lload_n 1, 1) := by decide +kernel
theorem dX4_writeLetters_17 : decode cX4_writeLetters 17 = .ok (.bipush 50, 2) := by decide +kernel
theorem dX4_writeLetters_19 : decode cX4_writeLetters 19 = .ok (.iconst 5, 1) := by decide +kernel
theorem dX4_writeLetters_20 : decode cX4_writeLetters 20 = .ok (.iload 4, 2) := by decide +kernel
theorem dX4_writeLetters_22 : decode cX4_writeLetters 22 = .ok (.imul, 1) := by decide +kernel
theorem dX4_writeLetters_23 : decode cX4_writeLetters 23 = .ok (.isub, 1) := by decide +kernel
theorem dX4_writeLetters_24 : decode cX4_writeLetters 24 = .ok (.lushr, 1) := by decide +kernel
theorem dX4_writeLetters_25 : decode cX4_writeLetters 25 = .ok (.l2i, 1) := by decide +kernel
theorem dX4_writeLetters_26 : decode cX4_writeLetters 26 = .ok (.invokestatic 145, 3) := by decide +kernel
theorem dX4_writeLetters_29 : decode cX4_writeLetters 29 = .ok (.iastore, 1) := by decide +kernel
theorem dX4_writeLetters_30 : decode cX4_writeLetters 30 = .ok (.iinc 4 1, 3) := by decide +kernel
theorem dX4_writeLetters_33 : decode cX4_writeLetters 33 = .ok (.goto (-30), 3) := by decide +kernel
theorem dX4_writeLetters_36 : decode cX4_writeLetters 36 = .ok (.bipush 11, 2) := by decide +kernel
theorem dX4_writeLetters_38 : decode cX4_writeLetters 38 = .ok (.istore 4, 2) := by decide +kernel
theorem dX4_writeLetters_40 : decode cX4_writeLetters 40 = .ok (.iload 4, 2) := by decide +kernel
theorem dX4_writeLetters_42 : decode cX4_writeLetters 42 = .ok (.bipush 16, 2) := by decide +kernel
theorem dX4_writeLetters_44 : decode cX4_writeLetters 44 = .ok (.if_icmp .ge 28, 3) := by decide +kernel
theorem dX4_writeLetters_47 : decode cX4_writeLetters 47 = .ok (.aload_n 0, 1) := by decide +kernel
theorem dX4_writeLetters_48 : decode cX4_writeLetters 48 = .ok (.getfield 15, 3) := by decide +kernel
theorem dX4_writeLetters_51 : decode cX4_writeLetters 51 = .ok (.iload 4, 2) := by decide +kernel
theorem dX4_writeLetters_53 : decode cX4_writeLetters 53 = .ok (.iload_n 3, 1) := by decide +kernel
theorem dX4_writeLetters_54 : decode cX4_writeLetters 54 = .ok (.bipush 75, 2) := by decide +kernel
theorem dX4_writeLetters_56 : decode cX4_writeLetters 56 = .ok (.iconst 5, 1) := by decide +kernel
theorem dX4_writeLetters_57 : decode cX4_writeLetters 57 = .ok (.iload 4, 2) := by decide +kernel
theorem dX4_writeLetters_59 : decode cX4_writeLetters 59 = .ok (.imul, 1) := by decide +kernel
theorem dX4_writeLetters_60 : decode cX4_writeLetters 60 = .ok (.isub, 1) := by decide +kernel
theorem dX4_writeLetters_61 : decode cX4_writeLetters 61 = .ok (.iushr, 1) := by decide +kernel
theorem dX4_writeLetters_62 : decode cX4_writeLetters 62 = .ok (.invokestatic 145, 3) := by decide +kernel
theorem dX4_writeLetters_65 : decode cX4_writeLetters 65 = .ok (.iastore, 1) := by decide +kernel
theorem dX4_writeLetters_66 : decode cX4_writeLetters 66 = .ok (.iinc 4 1, 3) := by decide +kernel
theorem dX4_writeLetters_69 : decode cX4_writeLetters 69 = .ok (.goto (-29), 3) := by decide +kernel
theorem dX4_writeLetters_72 : decode cX4_writeLetters 72 = .ok (.return_, 1) := by decide +kernel
set_option maxRecDepth 20000 in
theorem ggX4_letterFor_J0_charAt_5068e : GoodIn wsX4_letterFor wsJ0_charAt_5068e := goodIn_r _ [5, 6, 7, 8, 9, 4, 10, 11, 12, 13, 14, 15, 16, 17, 18, 19, 20, 21, 22, 23, 24, 25, 26, 27, 28, 29, 30, 31, 32, 33, 34, 35, 36, 37, 38, 39, 40, 41, 42, 43] (by decide +kernel) (by decide +kernel)
set_option maxRecDepth 20000 in
theorem gX4_letterFor_J0_charAt_5068e : GoodIn wsX4_letterFor (wsV RX4 150 RJ0 yJ0_charAt_5068e wsJ0_charAt_5068e) := goodIn_app (goodIn_of _ (by decide +kernel)) ggX4_letterFor_J0_charAt_5068e
theorem dX4_letterFor_0 : decode cX4_letterFor 0 = .ok (.ldc 148, 2) := by decide +kernel
theorem dX4_letterFor_2 : decode cX4_letterFor 2 = .ok (.iload_n 0, 1) := by decide +kernel
theorem dX4_letterFor_3 : decode cX4_letterFor 3 = .ok (.bipush 31, 2) := by decide +kernel
theorem dX4_letterFor_5 : decode cX4_letterFor 5 = .ok (.iand, 1) := by decide +kernel
theorem dX4_letterFor_6 : decode cX4_letterFor 6 = .ok (.invokevirtual 150, 3) := by decide +kernel
theorem dX4_letterFor_9 : decode cX4_letterFor 9 = .ok (.ireturn, 1) := by decide +kernel
theorem dX4_refusedFor_0 : decode cX4_refusedFor 0 = .ok (.iconst (-1), 1) := by decide +kernel
theorem dX4_refusedFor_1 : decode cX4_refusedFor 1 = .ok (.iload_n 0, 1) := by decide +kernel
theorem dX4_refusedFor_2 : decode cX4_refusedFor 2 = .ok (.isub, 1) := by decide +kernel
theorem dX4_refusedFor_3 : decode cX4_refusedFor 3 = .ok (.ireturn, 1) := by decide +kernel
set_option maxRecDepth 20000 in
theorem ggX4_typedBits_X4_typedWorth : GoodIn wsX4_typedBits wsX4_typedWorth := goodIn_ca (goodIn_r _ [6, 7, 8, 9, 5, 10, 11, 12, 13, 14, 15, 16, 17, 18, 19, 20, 21, 22, 23, 24, 25, 26, 27, 28, 29, 30, 31, 32, 33, 34, 35, 36, 37, 38, 39, 40, 41, 42, 43, 44, 45, 46, 47, 48, 49, 50, 51, 52, 53, 54, 55, 56, 57, 58, 59, 60, 61, 62, 63, 64, 65, 66, 67, 68, 69, 70, 71] rfl (by decide +kernel)) (goodIn_sub (fun _ h => List.mem_cons_of_mem _ (List.mem_append_right _ h)) (by decide +kernel))
set_option maxRecDepth 20000 in
theorem gX4_typedBits_X4_typedWorth : GoodIn wsX4_typedBits (wsV RX4 156 RX4 yX4_typedWorth wsX4_typedWorth) := goodIn_app (goodIn_of _ (by decide +kernel)) ggX4_typedBits_X4_typedWorth
theorem dX4_typedBits_0 : decode cX4_typedBits 0 = .ok (.lconst 0, 1) := by decide +kernel
theorem dX4_typedBits_1 : decode cX4_typedBits 1 = .ok (.lstore_n 3, 1) := by decide +kernel
theorem dX4_typedBits_2 : decode cX4_typedBits 2 = .ok (.iload_n 1, 1) := by decide +kernel
theorem dX4_typedBits_3 : decode cX4_typedBits 3 = .ok (.istore 5, 2) := by decide +kernel
theorem dX4_typedBits_5 : decode cX4_typedBits 5 = .ok (.iload 5, 2) := by decide +kernel
theorem dX4_typedBits_7 : decode cX4_typedBits 7 = .ok (.iload_n 2, 1) := by decide +kernel
theorem dX4_typedBits_8 : decode cX4_typedBits 8 = .ok (.if_icmp .ge 34, 3) := by decide +kernel
theorem dX4_typedBits_11 : decode cX4_typedBits 11 = .ok (.aload_n 0, 1) := by decide +kernel
theorem dX4_typedBits_12 : decode cX4_typedBits 12 = .ok (.iload 5, 2) := by decide +kernel
theorem dX4_typedBits_14 : decode cX4_typedBits 14 = .ok (.invokevirtual 156, 3) := by decide +kernel
theorem dX4_typedBits_17 : decode cX4_typedBits 17 = .ok (.istore 6, 2) := by decide +kernel
theorem dX4_typedBits_19 : decode cX4_typedBits 19 = .ok (.iload 6, 2) := by decide +kernel
theorem dX4_typedBits_21 : decode cX4_typedBits 21 = .ok (.ifCond .ge 7, 3) := by decide +kernel
theorem dX4_typedBits_24 : decode cX4_typedBits 24 = .ok (.ldc2_w 159, 3) := by decide +kernel
theorem dX4_typedBits_27 : decode cX4_typedBits 27 = .ok (.lreturn, 1) := by decide +kernel
theorem dX4_typedBits_28 : decode cX4_typedBits 28 = .ok (.lload_n 3, 1) := by decide +kernel
theorem dX4_typedBits_29 : decode cX4_typedBits 29 = .ok (.iconst 5, 1) := by decide +kernel
theorem dX4_typedBits_30 : decode cX4_typedBits 30 = .ok (.lshl, 1) := by decide +kernel
theorem dX4_typedBits_31 : decode cX4_typedBits 31 = .ok (.iload 6, 2) := by decide +kernel
theorem dX4_typedBits_33 : decode cX4_typedBits 33 = .ok (.i2l, 1) := by decide +kernel
theorem dX4_typedBits_34 : decode cX4_typedBits 34 = .ok (.lor, 1) := by decide +kernel
theorem dX4_typedBits_35 : decode cX4_typedBits 35 = .ok (.lstore_n 3, 1) := by decide +kernel
theorem dX4_typedBits_36 : decode cX4_typedBits 36 = .ok (.iinc 5 1, 3) := by decide +kernel
theorem dX4_typedBits_39 : decode cX4_typedBits 39 = .ok (.goto (-34), 3) := by decide +kernel
theorem dX4_typedBits_42 : decode cX4_typedBits 42 = .ok (.lload_n 3, 1) := by decide +kernel
theorem dX4_typedBits_43 : decode cX4_typedBits 43 = .ok (.lreturn, 1) := by decide +kernel
set_option maxRecDepth 20000 in
theorem ggX4_typedWorth_X4_worthOf : GoodIn wsX4_typedWorth wsX4_worthOf := goodIn_r _ [5, 6, 7, 8, 9, 10, 11, 12, 13, 14, 15, 16, 17, 18, 19, 20, 21, 22, 23, 24, 25, 26, 27, 28, 29, 30, 31, 32, 33, 34, 35, 36, 37, 38, 39, 40, 41, 42, 43, 44, 45, 46, 47, 48, 49, 50, 51, 52, 53, 54, 65, 66] rfl (by decide +kernel)
set_option maxRecDepth 20000 in
theorem gX4_typedWorth_X4_worthOf : GoodIn wsX4_typedWorth (va_wsS RX4 161 yX4_worthOf wsX4_worthOf) := goodIn_app (goodIn_of _ (by decide +kernel)) ggX4_typedWorth_X4_worthOf
