set_option maxRecDepth 20000 in
theorem ggX4_spent_X3_fateOf : GoodIn wsX4_spent wsX3_fateOf := goodIn_ca (goodIn_r _ [6, 7, 8, 9, 5, 10, 11, 22, 23, 24] (by decide +kernel) (by decide +kernel)) (goodIn_sub (fun _ h => List.mem_cons_of_mem _ (List.mem_append_right _ h)) (by decide +kernel))
set_option maxRecDepth 20000 in
theorem gX4_spent_X3_fateOf : GoodIn wsX4_spent (wsV RX4 121 RX3 yX3_fateOf wsX3_fateOf) := goodIn_app (goodIn_of _ (by decide +kernel)) ggX4_spent_X3_fateOf
theorem dX4_spent_0 : decode cX4_spent 0 = .ok (.aload_n 0, 1) := by decide +kernel
theorem dX4_spent_1 : decode cX4_spent 1 = .ok (.getfield 29, 3) := by decide +kernel
theorem dX4_spent_4 : decode cX4_spent 4 = .ok (.lload_n 1, 1) := by decide +kernel
theorem dX4_spent_5 : decode cX4_spent 5 = .ok (.invokevirtual 121, 3) := by decide +kernel
theorem dX4_spent_8 : decode cX4_spent 8 = .ok (.ireturn, 1) := by decide +kernel
theorem dX4_serial_0 : decode cX4_serial 0 = .ok (.aload_n 0, 1) := by decide +kernel
theorem dX4_serial_1 : decode cX4_serial 1 = .ok (.getfield 68, 3) := by decide +kernel
theorem dX4_serial_4 : decode cX4_serial 4 = .ok (.i2l, 1) := by decide +kernel
theorem dX4_serial_5 : decode cX4_serial 5 = .ok (.lreturn, 1) := by decide +kernel
theorem dX4_keyNumbered_0 : decode cX4_keyNumbered 0 = .ok (.iload_n 1, 1) := by decide +kernel
theorem dX4_keyNumbered_1 : decode cX4_keyNumbered 1 = .ok (.ifCond .lt 26, 3) := by decide +kernel
theorem dX4_keyNumbered_4 : decode cX4_keyNumbered 4 = .ok (.iload_n 1, 1) := by decide +kernel
theorem dX4_keyNumbered_5 : decode cX4_keyNumbered 5 = .ok (.aload_n 0, 1) := by decide +kernel
theorem dX4_keyNumbered_6 : decode cX4_keyNumbered 6 = .ok (.getfield 44, 3) := by decide +kernel
theorem dX4_keyNumbered_9 : decode cX4_keyNumbered 9 = .ok (.if_icmp .ge 18, 3) := by decide +kernel
theorem dX4_keyNumbered_12 : decode cX4_keyNumbered 12 = .ok (.iload_n 1, 1) := by decide +kernel
theorem dX4_keyNumbered_13 : decode cX4_keyNumbered 13 = .ok (.bipush 15, 2) := by decide +kernel
theorem dX4_keyNumbered_15 : decode cX4_keyNumbered 15 = .ok (.if_icmp .ge 12, 3) := by decide +kernel
theorem dX4_keyNumbered_18 : decode cX4_keyNumbered 18 = .ok (.aload_n 0, 1) := by decide +kernel
theorem dX4_keyNumbered_19 : decode cX4_keyNumbered 19 = .ok (.getfield 11, 3) := by decide +kernel
theorem dX4_keyNumbered_22 : decode cX4_keyNumbered 22 = .ok (.iload_n 1, 1) := by decide +kernel
theorem dX4_keyNumbered_23 : decode cX4_keyNumbered 23 = .ok (.aaload, 1) := by decide +kernel
theorem dX4_keyNumbered_24 : decode cX4_keyNumbered 24 = .ok (.goto 4, 3) := by decide +kernel
theorem dX4_keyNumbered_27 : decode cX4_keyNumbered 27 = .ok (.aconst_null, 1) := by decide +kernel
theorem dX4_keyNumbered_28 : decode cX4_keyNumbered 28 = .ok (.areturn, 1) := by decide +kernel
theorem dX4_isDay_0 : decode cX4_isDay 0 = .ok (.lload_n 0, 1) := by decide +kernel
theorem dX4_isDay_1 : decode cX4_isDay 1 = .ok (.lconst 0, 1) := by decide +kernel
theorem dX4_isDay_2 : decode cX4_isDay 2 = .ok (.lcmp, 1) := by decide +kernel
theorem dX4_isDay_3 : decode cX4_isDay 3 = .ok (.ifCond .lt 15, 3) := by decide +kernel
theorem dX4_isDay_6 : decode cX4_isDay 6 = .ok (.lload_n 0, 1) := by decide +kernel
theorem dX4_isDay_7 : decode cX4_isDay 7 = .ok (.ldc2_w 139, 3) := by decide +kernel
theorem dX4_isDay_10 : decode cX4_isDay 10 = .ok (.lcmp, 1) := by decide +kernel
theorem dX4_isDay_11 : decode cX4_isDay 11 = .ok (.ifCond .gt 7, 3) := by decide +kernel
theorem dX4_isDay_14 : decode cX4_isDay 14 = .ok (.iconst 1, 1) := by decide +kernel
theorem dX4_isDay_15 : decode cX4_isDay 15 = .ok (.goto 4, 3) := by decide +kernel
theorem dX4_isDay_18 : decode cX4_isDay 18 = .ok (.iconst 0, 1) := by decide +kernel
theorem dX4_isDay_19 : decode cX4_isDay 19 = .ok (.ireturn, 1) := by decide +kernel
theorem dX4_isValue_0 : decode cX4_isValue 0 = .ok (.iload_n 0, 1) := by decide +kernel
theorem dX4_isValue_1 : decode cX4_isValue 1 = .ok (.iconst 1, 1) := by decide +kernel
theorem dX4_isValue_2 : decode cX4_isValue 2 = .ok (.if_icmp .lt 13, 3) := by decide +kernel
theorem dX4_isValue_5 : decode cX4_isValue 5 = .ok (.iload_n 0, 1) := by decide +kernel
theorem dX4_isValue_6 : decode cX4_isValue 6 = .ok (.ldc 141, 2) := by decide +kernel
theorem dX4_isValue_8 : decode cX4_isValue 8 = .ok (.if_icmp .gt 7, 3) := by decide +kernel
theorem dX4_isValue_11 : decode cX4_isValue 11 = .ok (.iconst 1, 1) := by decide +kernel
theorem dX4_isValue_12 : decode cX4_isValue 12 = .ok (.goto 4, 3) := by decide +kernel
theorem dX4_isValue_15 : decode cX4_isValue 15 = .ok (.iconst 0, 1) := by decide +kernel
theorem dX4_isValue_16 : decode cX4_isValue 16 = .ok (.ireturn, 1) := by decide +kernel
theorem dX4_isKind_0 : decode cX4_isKind 0 = .ok (.iload_n 0, 1) := by decide +kernel
theorem dX4_isKind_1 : decode cX4_isKind 1 = .ok (.ifCond .lt 13, 3) := by decide +kernel
theorem dX4_isKind_4 : decode cX4_isKind 4 = .ok (.iload_n 0, 1) := by decide +kernel
theorem dX4_isKind_5 : decode cX4_isKind 5 = .ok (.bipush 9, 2) := by decide +kernel
theorem dX4_isKind_7 : decode cX4_isKind 7 = .ok (.if_icmp .gt 7, 3) := by decide +kernel
theorem dX4_isKind_10 : decode cX4_isKind 10 = .ok (.iconst 1, 1) := by decide +kernel
theorem dX4_isKind_11 : decode cX4_isKind 11 = .ok (.goto 4, 3) := by decide +kernel
theorem dX4_isKind_14 : decode cX4_isKind 14 = .ok (.iconst 0, 1) := by decide +kernel
theorem dX4_isKind_15 : decode cX4_isKind 15 = .ok (.ireturn, 1) := by decide +kernel
set_option maxRecDepth 20000 in
theorem ggX4_writeLetters_X4_letterFor : GoodIn wsX4_writeLetters wsX4_letterFor := goodIn_r _ [5, 6, 7, 8, 9, 10, 11, 12, 13, 14, 15, 16, 17, 18, 19, 20, 21, 22, 23, 24, 25, 26, 27, 28, 29, 30, 31, 32, 33, 34, 35, 36, 37, 38, 39, 40, 41, 42, 43, 44, 45, 46, 57, 58] (by decide +kernel) (by decide +kernel)
set_option maxRecDepth 20000 in
theorem gX4_writeLetters_X4_letterFor : GoodIn wsX4_writeLetters (va_wsS RX4 142 yX4_letterFor wsX4_letterFor) := goodIn_app (goodIn_of _ (by decide +kernel)) ggX4_writeLetters_X4_letterFor
theorem dX4_writeLetters_0 : decode cX4_writeLetters 0 = .ok (.iconst 0, 1) := by decide +kernel
theorem dX4_writeLetters_1 : decode cX4_writeLetters 1 = .ok (.istore 4, 2) := by decide +kernel
theorem dX4_writeLetters_3 : decode cX4_writeLetters 3 = .ok (.iload 4, 2) := by decide +kernel
theorem dX4_writeLetters_5 : decode cX4_writeLetters 5 = .ok (.bipush 11, 2) := by decide +kernel
theorem dX4_writeLetters_7 : decode cX4_writeLetters 7 = .ok (.if_icmp .ge 29, 3) := by decide +kernel
theorem dX4_writeLetters_10 : decode cX4_writeLetters 10 = .ok (.aload_n 0, 1) := by decide +kernel
theorem dX4_writeLetters_11 : decode cX4_writeLetters 11 = .ok (.getfield 15, 3) := by decide +kernel
theorem dX4_writeLetters_14 : decode cX4_writeLetters 14 = .ok (.iload 4, 2) := by decide +kernel
theorem dX4_writeLetters_16 : decode cX4_writeLetters 16 = .ok (.lload_n 1, 1) := by decide +kernel
theorem dX4_writeLetters_17 : decode cX4_writeLetters 17 = .ok (.bipush 50, 2) := by decide +kernel
theorem dX4_writeLetters_19 : decode cX4_writeLetters 19 = .ok (.iconst 5, 1) := by decide +kernel
theorem dX4_writeLetters_20 : decode cX4_writeLetters 20 = .ok (.iload 4, 2) := by decide +kernel
theorem dX4_writeLetters_22 : decode cX4_writeLetters 22 = .ok (.imul, 1) := by decide +kernel
theorem dX4_writeLetters_23 : decode cX4_writeLetters 23 = .ok (.isub, 1) := by decide +kernel
theorem dX4_writeLetters_24 : decode cX4_writeLetters 24 = .ok (.lushr, 1) := by decide +kernel
theorem dX4_writeLetters_25 : decode cX4_writeLetters 25 = .ok (.l2i, 1) := by decide +kernel
theorem dX4_writeLetters_26 : decode cX4_writeLetters 26 = .ok (.invokestatic 142, 3) := by decide +kernel
theorem dX4_writeLetters_29 : decode cX4_writeLetters 29 = .ok (.iastore, 1) := by decide +kernel
theorem dX4_writeLetters_30 : decode cX4_writeLetters 30 = .ok (.iinc 4 1, 3) := by decide +kernel
theorem dX4_writeLetters_33 : decode cX4_writeLetters 33 = .ok (.goto (-30), 3) := by decide +kernel
theorem dX4_writeLetters_36 : decode cX4_writeLetters 36 = .ok (.bipush 11, 2) := by decide +kernel
theorem dX4_writeLetters_38 : decode cX4_writeLetters 38 = .ok (.istore 4, 2) := by decide +kernel
theorem dX4_writeLetters_40 : decode cX4_writeLetters 40 = .ok (.iload 4, 2) := by decide +kernel
theorem dX4_writeLetters_42 : decode cX4_writeLetters 42 = .ok (.bipush 16, 2) := by decide +kernel
theorem dX4_writeLetters_44 : decode cX4_writeLetters 44 = .ok (.if_icmp .ge 28, 3) := by decide +kernel
theorem dX4_writeLetters_47 : decode cX4_writeLetters 47 = .ok (.aload_n 0, 1) := by decide +kernel
theorem dX4_writeLetters_48 : decode cX4_writeLetters 48 = .ok (.getfield 15, 3) := by decide +kernel
theorem dX4_writeLetters_51 : decode cX4_writeLetters 51 = .ok (.iload 4, 2) := by decide +kernel
theorem dX4_writeLetters_53 : decode cX4_writeLetters 53 = .ok (.iload_n 3, 1) := by decide +kernel
theorem dX4_writeLetters_54 : decode cX4_writeLetters 54 = .ok (.bipush 75, 2) := by decide +kernel
theorem dX4_writeLetters_56 : decode cX4_writeLetters 56 = .ok (.iconst 5, 1) := by decide +kernel
theorem dX4_writeLetters_57 : decode cX4_writeLetters 57 = .ok (.iload 4, 2) := by decide +kernel
theorem dX4_writeLetters_59 : decode cX4_writeLetters 59 = .ok (.imul, 1) := by decide +kernel
theorem dX4_writeLetters_60 : decode cX4_writeLetters 60 = .ok (.isub, 1) := by decide +kernel
theorem dX4_writeLetters_61 : decode cX4_writeLetters 61 = .ok (.iushr, 1) := by decide +kernel
theorem dX4_writeLetters_62 : decode cX4_writeLetters 62 = .ok (.invokestatic 142, 3) := by decide +kernel
theorem dX4_writeLetters_65 : decode cX4_writeLetters 65 = .ok (.iastore, 1) := by decide +kernel
theorem dX4_writeLetters_66 : decode cX4_writeLetters 66 = .ok (.iinc 4 1, 3) := by decide +kernel
theorem dX4_writeLetters_69 : decode cX4_writeLetters 69 = .ok (.goto (-29), 3) := by decide +kernel
theorem dX4_writeLetters_72 : decode cX4_writeLetters 72 = .ok (.return_, 1) := by decide +kernel
set_option maxRecDepth 20000 in
theorem ggX4_letterFor_J0_charAt_5068e : GoodIn wsX4_letterFor wsJ0_charAt_5068e := goodIn_r _ [5, 6, 7, 8, 9, 4, 10, 11, 12, 13, 14, 15, 16, 17, 18, 19, 20, 21, 22, 23, 24, 25, 26, 27, 28, 29, 30, 31, 32, 33, 34, 35, 36, 37, 38, 39, 40, 41, 42, 43] (by decide +kernel) (by decide +kernel)
set_option maxRecDepth 20000 in
theorem gX4_letterFor_J0_charAt_5068e : GoodIn wsX4_letterFor (wsV RX4 147 RJ0 yJ0_charAt_5068e wsJ0_charAt_5068e) := goodIn_app (goodIn_of _ (by decide +kernel)) ggX4_letterFor_J0_charAt_5068e
theorem dX4_letterFor_0 : decode cX4_letterFor 0 = .ok (.ldc 145, 2) := by decide +kernel
theorem dX4_letterFor_2 : decode cX4_letterFor 2 = .ok (.iload_n 0, 1) := by decide +kernel
theorem dX4_letterFor_3 : decode cX4_letterFor 3 = .ok (.bipush 31, 2) := by decide +kernel
theorem dX4_letterFor_5 : decode cX4_letterFor 5 = .ok (.iand, 1) := by decide +kernel
theorem dX4_letterFor_6 : decode cX4_letterFor 6 = .ok (.invokevirtual 147, 3) := by decide +kernel
theorem dX4_letterFor_9 : decode cX4_letterFor 9 = .ok (.ireturn, 1) := by decide +kernel
set_option maxRecDepth 20000 in
theorem ggX4_typedBits_X4_worthOf : GoodIn wsX4_typedBits wsX4_worthOf := goodIn_r _ [6, 7, 8, 9, 10, 11, 12, 13, 14, 15, 16, 17, 18, 19, 20, 21, 22, 23, 24, 25, 26, 27, 28, 29, 30, 31, 32, 33, 34, 35, 36, 37, 38, 39, 40, 41, 42, 43, 44, 45, 46, 47, 48, 49, 50, 51, 52, 53, 54, 55, 66, 67] (by decide +kernel) (by decide +kernel)
set_option maxRecDepth 20000 in
theorem gX4_typedBits_X4_worthOf : GoodIn wsX4_typedBits (va_wsS RX4 153 yX4_worthOf wsX4_worthOf) := goodIn_app (goodIn_of _ (by decide +kernel)) ggX4_typedBits_X4_worthOf
theorem dX4_typedBits_0 : decode cX4_typedBits 0 = .ok (.lconst 0, 1) := by decide +kernel
theorem dX4_typedBits_1 : decode cX4_typedBits 1 = .ok (.lstore_n 3, 1) := by decide +kernel
theorem dX4_typedBits_2 : decode cX4_typedBits 2 = .ok (.iload_n 1, 1) := by decide +kernel
theorem dX4_typedBits_3 : decode cX4_typedBits 3 = .ok (.istore 5, 2) := by decide +kernel
theorem dX4_typedBits_5 : decode cX4_typedBits 5 = .ok (.iload 5, 2) := by decide +kernel
theorem dX4_typedBits_7 : decode cX4_typedBits 7 = .ok (.iload_n 2, 1) := by decide +kernel
theorem dX4_typedBits_8 : decode cX4_typedBits 8 = .ok (.if_icmp .ge 38, 3) := by decide +kernel
theorem dX4_typedBits_11 : decode cX4_typedBits 11 = .ok (.aload_n 0, 1) := by decide +kernel
theorem dX4_typedBits_12 : decode cX4_typedBits 12 = .ok (.getfield 19, 3) := by decide +kernel
theorem dX4_typedBits_15 : decode cX4_typedBits 15 = .ok (.iload 5, 2) := by decide +kernel
theorem dX4_typedBits_17 : decode cX4_typedBits 17 = .ok (.iaload, 1) := by decide +kernel
theorem dX4_typedBits_18 : decode cX4_typedBits 18 = .ok (.invokestatic 153, 3) := by decide +kernel
theorem dX4_typedBits_21 : decode cX4_typedBits 21 = .ok (.istore 6, 2) := by decide +kernel
theorem dX4_typedBits_23 : decode cX4_typedBits 23 = .ok (.iload 6, 2) := by decide +kernel
theorem dX4_typedBits_25 : decode cX4_typedBits 25 = .ok (.ifCond .ge 7, 3) := by decide +kernel
theorem dX4_typedBits_28 : decode cX4_typedBits 28 = .ok (.ldc2_w 156, 3) := by decide +kernel
theorem dX4_typedBits_31 : decode cX4_typedBits 31 = .ok (.lreturn, 1) := by decide +kernel
theorem dX4_typedBits_32 : decode cX4_typedBits 32 = .ok (.lload_n 3, 1) := by decide +kernel
theorem dX4_typedBits_33 : decode cX4_typedBits 33 = .ok (.iconst 5, 1) := by decide +kernel
theorem dX4_typedBits_34 : decode cX4_typedBits 34 = .ok (.lshl, 1) := by decide +kernel
theorem dX4_typedBits_35 : decode cX4_typedBits 35 = .ok (.iload 6, 2) := by decide +kernel
theorem dX4_typedBits_37 : decode cX4_typedBits 37 = .ok (.i2l, 1) := by decide +kernel
theorem dX4_typedBits_38 : decode cX4_typedBits 38 = .ok (.lor, 1) := by decide +kernel
theorem dX4_typedBits_39 : decode cX4_typedBits 39 = .ok (.lstore_n 3, 1) := by decide +kernel
theorem dX4_typedBits_40 : decode cX4_typedBits 40 = .ok (.iinc 5 1, 3) := by decide +kernel
theorem dX4_typedBits_43 : decode cX4_typedBits 43 = .ok (.goto (-38), 3) := by decide +kernel
theorem dX4_typedBits_46 : decode cX4_typedBits 46 = .ok (.lload_n 3, 1) := by decide +kernel
theorem dX4_typedBits_47 : decode cX4_typedBits 47 = .ok (.lreturn, 1) := by decide +kernel
set_option maxRecDepth 20000 in
theorem ggX4_worthOf_J0_length_8abf5 : GoodIn wsX4_worthOf wsJ0_length_8abf5 := goodIn_r _ [5, 6, 7, 8, 9, 4, 10, 11, 12, 50, 51] (by decide +kernel) (by decide +kernel)
set_option maxRecDepth 20000 in
theorem gX4_worthOf_J0_length_8abf5 : GoodIn wsX4_worthOf (wsV RX4 158 RJ0 yJ0_length_8abf5 wsJ0_length_8abf5) := goodIn_app (goodIn_of _ (by decide +kernel)) ggX4_worthOf_J0_length_8abf5
set_option maxRecDepth 20000 in
theorem ggX4_worthOf_J0_charAt_5068e : GoodIn wsX4_worthOf wsJ0_charAt_5068e := goodIn_r _ [16, 6, 17, 18, 19, 4, 20, 11, 12, 21, 22, 23, 24, 25, 26, 27, 28, 29, 30, 31, 32, 33, 34, 35, 36, 37, 38, 39, 40, 41, 42, 43, 44, 45, 46, 47, 48, 49, 50, 51] (by decide +kernel) (by decide +kernel)
set_option maxRecDepth 20000 in
theorem gX4_worthOf_J0_charAt_5068e : GoodIn wsX4_worthOf (wsV RX4 147 RJ0 yJ0_charAt_5068e wsJ0_charAt_5068e) := goodIn_app (goodIn_of _ (by decide +kernel)) ggX4_worthOf_J0_charAt_5068e
theorem dX4_worthOf_0 : decode cX4_worthOf 0 = .ok (.iconst 0, 1) := by decide +kernel
theorem dX4_worthOf_1 : decode cX4_worthOf 1 = .ok (.istore_n 1, 1) := by decide +kernel
theorem dX4_worthOf_2 : decode cX4_worthOf 2 = .ok (.iload_n 1, 1) := by decide +kernel
theorem dX4_worthOf_3 : decode cX4_worthOf 3 = .ok (.ldc 145, 2) := by decide +kernel
theorem dX4_worthOf_5 : decode cX4_worthOf 5 = .ok (.invokevirtual 158, 3) := by decide +kernel
theorem dX4_worthOf_8 : decode cX4_worthOf 8 = .ok (.if_icmp .ge 21, 3) := by decide +kernel
theorem dX4_worthOf_11 : decode cX4_worthOf 11 = .ok (.ldc 145, 2) := by decide +kernel
theorem dX4_worthOf_13 : decode cX4_worthOf 13 = .ok (.iload_n 1, 1) := by decide +kernel
theorem dX4_worthOf_14 : decode cX4_worthOf 14 = .ok (.invokevirtual 147, 3) := by decide +kernel
theorem dX4_worthOf_17 : decode cX4_worthOf 17 = .ok (.iload_n 0, 1) := by decide +kernel
theorem dX4_worthOf_18 : decode cX4_worthOf 18 = .ok (.if_icmp .ne 5, 3) := by decide +kernel
theorem dX4_worthOf_21 : decode cX4_worthOf 21 = .ok (.iload_n 1, 1) := by decide +kernel
theorem dX4_worthOf_22 : decode cX4_worthOf 22 = .ok (.ireturn, 1) := by decide +kernel
theorem dX4_worthOf_23 : decode cX4_worthOf 23 = .ok (.iinc 1 1, 3) := by decide +kernel
theorem dX4_worthOf_26 : decode cX4_worthOf 26 = .ok (.goto (-24), 3) := by decide +kernel
theorem dX4_worthOf_29 : decode cX4_worthOf 29 = .ok (.iconst (-1), 1) := by decide +kernel
theorem dX4_worthOf_30 : decode cX4_worthOf 30 = .ok (.ireturn, 1) := by decide +kernel
set_option maxRecDepth 20000 in
theorem ggX4_reasonAgainst_X1_keyOf : GoodIn wsX4_reasonAgainst wsX1_keyOf := goodIn_r _ [5] (by decide +kernel) (by decide +kernel)
set_option maxRecDepth 20000 in
theorem gX4_reasonAgainst_X1_keyOf : GoodIn wsX4_reasonAgainst (va_wsS RX4 161 yX1_keyOf wsX1_keyOf) := goodIn_app (goodIn_of _ (by decide +kernel)) ggX4_reasonAgainst_X1_keyOf
set_option maxRecDepth 20000 in
theorem ggX4_reasonAgainst_X4_keyNumbered : GoodIn wsX4_reasonAgainst wsX4_keyNumbered := goodIn_r _ [10, 11, 12, 79, 80, 81, 82, 83, 84, 85, 86, 87, 88] (by decide +kernel) (by decide +kernel)
set_option maxRecDepth 20000 in
theorem gX4_reasonAgainst_X4_keyNumbered : GoodIn wsX4_reasonAgainst (wsV RX4 50 RX4 yX4_keyNumbered wsX4_keyNumbered) := goodIn_app (goodIn_of _ (by decide +kernel)) ggX4_reasonAgainst_X4_keyNumbered
set_option maxRecDepth 20000 in
theorem ggX4_reasonAgainst_X1_kindOf : GoodIn wsX4_reasonAgainst wsX1_kindOf := goodIn_r _ [15] (by decide +kernel) (by decide +kernel)
set_option maxRecDepth 20000 in
theorem gX4_reasonAgainst_X1_kindOf : GoodIn wsX4_reasonAgainst (va_wsS RX4 164 yX1_kindOf wsX1_kindOf) := goodIn_app (goodIn_of _ (by decide +kernel)) ggX4_reasonAgainst_X1_kindOf
set_option maxRecDepth 20000 in
theorem ggX4_reasonAgainst_X4_isKind : GoodIn wsX4_reasonAgainst wsX4_isKind := goodIn_r _ [18] (by decide +kernel) (by decide +kernel)
set_option maxRecDepth 20000 in
theorem gX4_reasonAgainst_X4_isKind : GoodIn wsX4_reasonAgainst (va_wsS RX4 62 yX4_isKind wsX4_isKind) := goodIn_app (goodIn_of _ (by decide +kernel)) ggX4_reasonAgainst_X4_isKind
set_option maxRecDepth 20000 in
theorem ggX4_reasonAgainst_X1_valueOf : GoodIn wsX4_reasonAgainst wsX1_valueOf := goodIn_r _ [21, 22] (by decide +kernel) (by decide +kernel)
set_option maxRecDepth 20000 in
theorem gX4_reasonAgainst_X1_valueOf : GoodIn wsX4_reasonAgainst (va_wsS RX4 167 yX1_valueOf wsX1_valueOf) := goodIn_app (goodIn_of _ (by decide +kernel)) ggX4_reasonAgainst_X1_valueOf
set_option maxRecDepth 20000 in
theorem ggX4_reasonAgainst_X4_isValue : GoodIn wsX4_reasonAgainst wsX4_isValue := goodIn_r _ [25, 26] (by decide +kernel) (by decide +kernel)
set_option maxRecDepth 20000 in
theorem gX4_reasonAgainst_X4_isValue : GoodIn wsX4_reasonAgainst (va_wsS RX4 58 yX4_isValue wsX4_isValue) := goodIn_app (goodIn_of _ (by decide +kernel)) ggX4_reasonAgainst_X4_isValue
set_option maxRecDepth 20000 in
theorem ggX4_reasonAgainst_X0_reckon : GoodIn wsX4_reasonAgainst wsX0_reckon := goodIn_ca (goodIn_r _ [31, 32, 33, 34, 35, 36, 37, 30, 38, 39, 40, 41, 42, 43, 44, 45, 46, 47, 48, 49, 50, 51, 52, 53, 54, 55, 56, 57, 58, 59, 60, 61, 62, 63, 64, 89, 90, 91, 92, 93, 94, 95, 96] (by decide +kernel) (by decide +kernel)) (goodIn_sub (fun _ h => List.mem_cons_of_mem _ (List.mem_append_right _ h)) (by decide +kernel))
set_option maxRecDepth 20000 in
theorem gX4_reasonAgainst_X0_reckon : GoodIn wsX4_reasonAgainst (wsV RX4 80 RX0 yX0_reckon wsX0_reckon) := goodIn_app (goodIn_of _ (by decide +kernel)) ggX4_reasonAgainst_X0_reckon
set_option maxRecDepth 20000 in
theorem ggX4_reasonAgainst_X0_firstBits : GoodIn wsX4_reasonAgainst wsX0_firstBits := goodIn_ca (goodIn_r _ [68, 33, 89, 90, 91] (by decide +kernel) (by decide +kernel)) (goodIn_sub (fun _ h => List.mem_cons_of_mem _ (List.mem_append_right _ h)) (by decide +kernel))
set_option maxRecDepth 20000 in
theorem gX4_reasonAgainst_X0_firstBits : GoodIn wsX4_reasonAgainst (wsV RX4 84 RX0 yX0_firstBits wsX0_firstBits) := goodIn_app (goodIn_of _ (by decide +kernel)) ggX4_reasonAgainst_X0_firstBits
set_option maxRecDepth 20000 in
theorem ggX4_reasonAgainst_X1_dayOf : GoodIn wsX4_reasonAgainst wsX1_dayOf := goodIn_r _ [71, 72] (by decide +kernel) (by decide +kernel)
set_option maxRecDepth 20000 in
theorem gX4_reasonAgainst_X1_dayOf : GoodIn wsX4_reasonAgainst (va_wsS RX4 170 yX1_dayOf wsX1_dayOf) := goodIn_app (goodIn_of _ (by decide +kernel)) ggX4_reasonAgainst_X1_dayOf
set_option maxRecDepth 20000 in
theorem ggX4_reasonAgainst_X2_holdsOn : GoodIn wsX4_reasonAgainst wsX2_holdsOn := goodIn_r _ [76, 77, 78, 92, 93, 94, 95, 96] (by decide +kernel) (by decide +kernel)
set_option maxRecDepth 20000 in
theorem gX4_reasonAgainst_X2_holdsOn : GoodIn wsX4_reasonAgainst (wsV RX4 65 RX2 yX2_holdsOn wsX2_holdsOn) := goodIn_app (goodIn_of _ (by decide +kernel)) ggX4_reasonAgainst_X2_holdsOn
theorem dX4_reasonAgainst_0 : decode cX4_reasonAgainst 0 = .ok (.aload_n 0, 1) := by decide +kernel
theorem dX4_reasonAgainst_1 : decode cX4_reasonAgainst 1 = .ok (.lload_n 1, 1) := by decide +kernel
theorem dX4_reasonAgainst_2 : decode cX4_reasonAgainst 2 = .ok (.invokestatic 161, 3) := by decide +kernel
theorem dX4_reasonAgainst_5 : decode cX4_reasonAgainst 5 = .ok (.invokevirtual 50, 3) := by decide +kernel
theorem dX4_reasonAgainst_8 : decode cX4_reasonAgainst 8 = .ok (.astore 6, 2) := by decide +kernel
theorem dX4_reasonAgainst_10 : decode cX4_reasonAgainst 10 = .ok (.aload 6, 2) := by decide +kernel
theorem dX4_reasonAgainst_12 : decode cX4_reasonAgainst 12 = .ok (.ifnull 23, 3) := by decide +kernel
theorem dX4_reasonAgainst_15 : decode cX4_reasonAgainst 15 = .ok (.lload_n 1, 1) := by decide +kernel
theorem dX4_reasonAgainst_16 : decode cX4_reasonAgainst 16 = .ok (.invokestatic 164, 3) := by decide +kernel
theorem dX4_reasonAgainst_19 : decode cX4_reasonAgainst 19 = .ok (.invokestatic 62, 3) := by decide +kernel
theorem dX4_reasonAgainst_22 : decode cX4_reasonAgainst 22 = .ok (.ifCond .eq 13, 3) := by decide +kernel
theorem dX4_reasonAgainst_25 : decode cX4_reasonAgainst 25 = .ok (.lload_n 1, 1) := by decide +kernel
theorem dX4_reasonAgainst_26 : decode cX4_reasonAgainst 26 = .ok (.invokestatic 167, 3) := by decide +kernel
theorem dX4_reasonAgainst_29 : decode cX4_reasonAgainst 29 = .ok (.invokestatic 58, 3) := by decide +kernel
theorem dX4_reasonAgainst_32 : decode cX4_reasonAgainst 32 = .ok (.ifCond .ne 5, 3) := by decide +kernel
theorem dX4_reasonAgainst_35 : decode cX4_reasonAgainst 35 = .ok (.iconst 3, 1) := by decide +kernel
theorem dX4_reasonAgainst_36 : decode cX4_reasonAgainst 36 = .ok (.ireturn, 1) := by decide +kernel
theorem dX4_reasonAgainst_37 : decode cX4_reasonAgainst 37 = .ok (.aload_n 0, 1) := by decide +kernel
theorem dX4_reasonAgainst_38 : decode cX4_reasonAgainst 38 = .ok (.getfield 36, 3) := by decide +kernel
theorem dX4_reasonAgainst_41 : decode cX4_reasonAgainst 41 = .ok (.aload 6, 2) := by decide +kernel
theorem dX4_reasonAgainst_43 : decode cX4_reasonAgainst 43 = .ok (.lload_n 1, 1) := by decide +kernel
theorem dX4_reasonAgainst_44 : decode cX4_reasonAgainst 44 = .ok (.invokevirtual 80, 3) := by decide +kernel
theorem dX4_reasonAgainst_47 : decode cX4_reasonAgainst 47 = .ok (.lload_n 3, 1) := by decide +kernel
theorem dX4_reasonAgainst_48 : decode cX4_reasonAgainst 48 = .ok (.aload_n 0, 1) := by decide +kernel
theorem dX4_reasonAgainst_49 : decode cX4_reasonAgainst 49 = .ok (.getfield 36, 3) := by decide +kernel
theorem dX4_reasonAgainst_52 : decode cX4_reasonAgainst 52 = .ok (.invokevirtual 84, 3) := by decide +kernel
theorem dX4_reasonAgainst_55 : decode cX4_reasonAgainst 55 = .ok (.i2l, 1) := by decide +kernel
theorem dX4_reasonAgainst_56 : decode cX4_reasonAgainst 56 = .ok (.lcmp, 1) := by decide +kernel
theorem dX4_reasonAgainst_57 : decode cX4_reasonAgainst 57 = .ok (.ifCond .eq 5, 3) := by decide +kernel
theorem dX4_reasonAgainst_60 : decode cX4_reasonAgainst 60 = .ok (.iconst 4, 1) := by decide +kernel
theorem dX4_reasonAgainst_61 : decode cX4_reasonAgainst 61 = .ok (.ireturn, 1) := by decide +kernel
theorem dX4_reasonAgainst_62 : decode cX4_reasonAgainst 62 = .ok (.iload 5, 2) := by decide +kernel
theorem dX4_reasonAgainst_64 : decode cX4_reasonAgainst 64 = .ok (.lload_n 1, 1) := by decide +kernel
theorem dX4_reasonAgainst_65 : decode cX4_reasonAgainst 65 = .ok (.invokestatic 170, 3) := by decide +kernel
theorem dX4_reasonAgainst_68 : decode cX4_reasonAgainst 68 = .ok (.isub, 1) := by decide +kernel
theorem dX4_reasonAgainst_69 : decode cX4_reasonAgainst 69 = .ok (.istore 7, 2) := by decide +kernel
theorem dX4_reasonAgainst_71 : decode cX4_reasonAgainst 71 = .ok (.iload 7, 2) := by decide +kernel
theorem dX4_reasonAgainst_73 : decode cX4_reasonAgainst 73 = .ok (.ifCond .lt 21, 3) := by decide +kernel
theorem dX4_reasonAgainst_76 : decode cX4_reasonAgainst 76 = .ok (.iload 7, 2) := by decide +kernel
theorem dX4_reasonAgainst_78 : decode cX4_reasonAgainst 78 = .ok (.bipush 100, 2) := by decide +kernel
theorem dX4_reasonAgainst_80 : decode cX4_reasonAgainst 80 = .ok (.if_icmp .gt 14, 3) := by decide +kernel
theorem dX4_reasonAgainst_83 : decode cX4_reasonAgainst 83 = .ok (.aload 6, 2) := by decide +kernel
theorem dX4_reasonAgainst_85 : decode cX4_reasonAgainst 85 = .ok (.iload 5, 2) := by decide +kernel
theorem dX4_reasonAgainst_87 : decode cX4_reasonAgainst 87 = .ok (.i2l, 1) := by decide +kernel
theorem dX4_reasonAgainst_88 : decode cX4_reasonAgainst 88 = .ok (.invokevirtual 65, 3) := by decide +kernel
theorem dX4_reasonAgainst_91 : decode cX4_reasonAgainst 91 = .ok (.ifCond .ne 7, 3) := by decide +kernel
theorem dX4_reasonAgainst_94 : decode cX4_reasonAgainst 94 = .ok (.iconst 5, 1) := by decide +kernel
theorem dX4_reasonAgainst_95 : decode cX4_reasonAgainst 95 = .ok (.goto 4, 3) := by decide +kernel
theorem dX4_reasonAgainst_98 : decode cX4_reasonAgainst 98 = .ok (.iconst 0, 1) := by decide +kernel
theorem dX4_reasonAgainst_99 : decode cX4_reasonAgainst 99 = .ok (.ireturn, 1) := by decide +kernel
set_option maxRecDepth 20000 in
theorem ggX4_accepted_X3_fateOf : GoodIn wsX4_accepted wsX3_fateOf := goodIn_ca (goodIn_r _ [8, 9, 10, 11, 7, 12, 13, 30, 31, 32] (by decide +kernel) (by decide +kernel)) (goodIn_sub (fun _ h => List.mem_cons_of_mem _ (List.mem_append_right _ h)) (by decide +kernel))
set_option maxRecDepth 20000 in
theorem gX4_accepted_X3_fateOf : GoodIn wsX4_accepted (wsV RX4 121 RX3 yX3_fateOf wsX3_fateOf) := goodIn_app (goodIn_of _ (by decide +kernel)) ggX4_accepted_X3_fateOf
set_option maxRecDepth 20000 in
theorem ggX4_accepted_X3_spend : GoodIn wsX4_accepted wsX3_spend := goodIn_ca (goodIn_r _ [17, 9, 18, 19, 10, 11, 7, 12, 13, 30, 31, 32] (by decide +kernel) (by decide +kernel)) (goodIn_sub (fun _ h => List.mem_cons_of_mem _ (List.mem_append_right _ h)) (by decide +kernel))
set_option maxRecDepth 20000 in
theorem gX4_accepted_X3_spend : GoodIn wsX4_accepted (wsV RX4 172 RX3 yX3_spend wsX3_spend) := goodIn_app (goodIn_of _ (by decide +kernel)) ggX4_accepted_X3_spend
theorem dX4_accepted_0 : decode cX4_accepted 0 = .ok (.aload_n 0, 1) := by decide +kernel
theorem dX4_accepted_1 : decode cX4_accepted 1 = .ok (.getfield 29, 3) := by decide +kernel
theorem dX4_accepted_4 : decode cX4_accepted 4 = .ok (.iload_n 1, 1) := by decide +kernel
theorem dX4_accepted_5 : decode cX4_accepted 5 = .ok (.i2l, 1) := by decide +kernel
theorem dX4_accepted_6 : decode cX4_accepted 6 = .ok (.invokevirtual 121, 3) := by decide +kernel
theorem dX4_accepted_9 : decode cX4_accepted 9 = .ok (.istore_n 3, 1) := by decide +kernel
theorem dX4_accepted_10 : decode cX4_accepted 10 = .ok (.iload_n 3, 1) := by decide +kernel
theorem dX4_accepted_11 : decode cX4_accepted 11 = .ok (.iconst 2, 1) := by decide +kernel
theorem dX4_accepted_12 : decode cX4_accepted 12 = .ok (.if_icmp .ne 6, 3) := by decide +kernel
theorem dX4_accepted_15 : decode cX4_accepted 15 = .ok (.bipush (-8), 2) := by decide +kernel
theorem dX4_accepted_17 : decode cX4_accepted 17 = .ok (.ireturn, 1) := by decide +kernel
theorem dX4_accepted_18 : decode cX4_accepted 18 = .ok (.aload_n 0, 1) := by decide +kernel
theorem dX4_accepted_19 : decode cX4_accepted 19 = .ok (.iload_n 1, 1) := by decide +kernel
theorem dX4_accepted_20 : decode cX4_accepted 20 = .ok (.putfield 22, 3) := by decide +kernel
theorem dX4_accepted_23 : decode cX4_accepted 23 = .ok (.iload_n 3, 1) := by decide +kernel
theorem dX4_accepted_24 : decode cX4_accepted 24 = .ok (.iconst 1, 1) := by decide +kernel
theorem dX4_accepted_25 : decode cX4_accepted 25 = .ok (.if_icmp .ne 6, 3) := by decide +kernel
theorem dX4_accepted_28 : decode cX4_accepted 28 = .ok (.bipush (-7), 2) := by decide +kernel
theorem dX4_accepted_30 : decode cX4_accepted 30 = .ok (.ireturn, 1) := by decide +kernel
theorem dX4_accepted_31 : decode cX4_accepted 31 = .ok (.aload_n 0, 1) := by decide +kernel
theorem dX4_accepted_32 : decode cX4_accepted 32 = .ok (.getfield 29, 3) := by decide +kernel
theorem dX4_accepted_35 : decode cX4_accepted 35 = .ok (.iload_n 1, 1) := by decide +kernel
theorem dX4_accepted_36 : decode cX4_accepted 36 = .ok (.iload_n 2, 1) := by decide +kernel
theorem dX4_accepted_37 : decode cX4_accepted 37 = .ok (.aload_n 0, 1) := by decide +kernel
theorem dX4_accepted_38 : decode cX4_accepted 38 = .ok (.getfield 95, 3) := by decide +kernel
theorem dX4_accepted_41 : decode cX4_accepted 41 = .ok (.invokevirtual 172, 3) := by decide +kernel
theorem dX4_accepted_44 : decode cX4_accepted 44 = .ok (.iconst 1, 1) := by decide +kernel
theorem dX4_accepted_45 : decode cX4_accepted 45 = .ok (.ireturn, 1) := by decide +kernel
theorem dX5_init_0 : decode cX5_init 0 = .ok (.aload_n 0, 1) := by decide +kernel
theorem dX5_init_1 : decode cX5_init 1 = .ok (.invokespecial 1, 3) := by decide +kernel
theorem dX5_init_4 : decode cX5_init 4 = .ok (.aload_n 0, 1) := by decide +kernel
theorem dX5_init_5 : decode cX5_init 5 = .ok (.bipush 15, 2) := by decide +kernel
theorem dX5_init_7 : decode cX5_init 7 = .ok (.newarray .int, 2) := by decide +kernel
theorem dX5_init_9 : decode cX5_init 9 = .ok (.putfield 7, 3) := by decide +kernel
theorem dX5_init_12 : decode cX5_init 12 = .ok (.aload_n 0, 1) := by decide +kernel
theorem dX5_init_13 : decode cX5_init 13 = .ok (.bipush 15, 2) := by decide +kernel
theorem dX5_init_15 : decode cX5_init 15 = .ok (.newarray .int, 2) := by decide +kernel
theorem dX5_init_17 : decode cX5_init 17 = .ok (.putfield 13, 3) := by decide +kernel
theorem dX5_init_20 : decode cX5_init 20 = .ok (.aload_n 0, 1) := by decide +kernel
theorem dX5_init_21 : decode cX5_init 21 = .ok (.bipush 15, 2) := by decide +kernel
theorem dX5_init_23 : decode cX5_init 23 = .ok (.newarray .int, 2) := by decide +kernel
theorem dX5_init_25 : decode cX5_init 25 = .ok (.putfield 16, 3) := by decide +kernel
theorem dX5_init_28 : decode cX5_init 28 = .ok (.aload_n 0, 1) := by decide +kernel
theorem dX5_init_29 : decode cX5_init 29 = .ok (.bipush 15, 2) := by decide +kernel
theorem dX5_init_31 : decode cX5_init 31 = .ok (.newarray .boolean, 2) := by decide +kernel
theorem dX5_init_33 : decode cX5_init 33 = .ok (.putfield 19, 3) := by decide +kernel
theorem dX5_init_36 : decode cX5_init 36 = .ok (.aload_n 0, 1) := by decide +kernel
theorem dX5_init_37 : decode cX5_init 37 = .ok (.sipush 480, 3) := by decide +kernel
theorem dX5_init_40 : decode cX5_init 40 = .ok (.newarray .byte, 2) := by decide +kernel
theorem dX5_init_42 : decode cX5_init 42 = .ok (.putfield 23, 3) := by decide +kernel
theorem dX5_init_45 : decode cX5_init 45 = .ok (.aload_n 0, 1) := by decide +kernel
theorem dX5_init_46 : decode cX5_init 46 = .ok (.bipush 16, 2) := by decide +kernel
theorem dX5_init_48 : decode cX5_init 48 = .ok (.newarray .int, 2) := by decide +kernel
theorem dX5_init_50 : decode cX5_init 50 = .ok (.putfield 27, 3) := by decide +kernel
theorem dX5_init_53 : decode cX5_init 53 = .ok (.aload_n 0, 1) := by decide +kernel
theorem dX5_init_54 : decode cX5_init 54 = .ok (.bipush 40, 2) := by decide +kernel
theorem dX5_init_56 : decode cX5_init 56 = .ok (.newarray .int, 2) := by decide +kernel
theorem dX5_init_58 : decode cX5_init 58 = .ok (.putfield 30, 3) := by decide +kernel
theorem dX5_init_61 : decode cX5_init 61 = .ok (.aload_n 0, 1) := by decide +kernel
theorem dX5_init_62 : decode cX5_init 62 = .ok (.sipush 16384, 3) := by decide +kernel
theorem dX5_init_65 : decode cX5_init 65 = .ok (.newarray .byte, 2) := by decide +kernel
theorem dX5_init_67 : decode cX5_init 67 = .ok (.putfield 33, 3) := by decide +kernel
theorem dX5_init_70 : decode cX5_init 70 = .ok (.aload_n 0, 1) := by decide +kernel
theorem dX5_init_71 : decode cX5_init 71 = .ok (.sipush 16384, 3) := by decide +kernel
theorem dX5_init_74 : decode cX5_init 74 = .ok (.newarray .int, 2) := by decide +kernel
theorem dX5_init_76 : decode cX5_init 76 = .ok (.putfield 36, 3) := by decide +kernel
theorem dX5_init_79 : decode cX5_init 79 = .ok (.aload_n 0, 1) := by decide +kernel
theorem dX5_init_80 : decode cX5_init 80 = .ok (.sipush 16384, 3) := by decide +kernel
theorem dX5_init_83 : decode cX5_init 83 = .ok (.newarray .int, 2) := by decide +kernel
theorem dX5_init_85 : decode cX5_init 85 = .ok (.putfield 39, 3) := by decide +kernel
theorem dX5_init_88 : decode cX5_init 88 = .ok (.aload_n 0, 1) := by decide +kernel
theorem dX5_init_89 : decode cX5_init 89 = .ok (.iconst (-1), 1) := by decide +kernel
theorem dX5_init_90 : decode cX5_init 90 = .ok (.putfield 42, 3) := by decide +kernel
theorem dX5_init_93 : decode cX5_init 93 = .ok (.aload_n 0, 1) := by decide +kernel
theorem dX5_init_94 : decode cX5_init 94 = .ok (.bipush 32, 2) := by decide +kernel
theorem dX5_init_96 : decode cX5_init 96 = .ok (.newarray .byte, 2) := by decide +kernel
theorem dX5_init_98 : decode cX5_init 98 = .ok (.putfield 46, 3) := by decide +kernel
theorem dX5_init_101 : decode cX5_init 101 = .ok (.aload_n 0, 1) := by decide +kernel
theorem dX5_init_102 : decode cX5_init 102 = .ok (.bipush 64, 2) := by decide +kernel
theorem dX5_init_104 : decode cX5_init 104 = .ok (.newarray .int, 2) := by decide +kernel
theorem dX5_init_106 : decode cX5_init 106 = .ok (.putfield 49, 3) := by decide +kernel
theorem dX5_init_109 : decode cX5_init 109 = .ok (.aload_n 0, 1) := by decide +kernel
theorem dX5_init_110 : decode cX5_init 110 = .ok (.bipush 8, 2) := by decide +kernel
theorem dX5_init_112 : decode cX5_init 112 = .ok (.newarray .int, 2) := by decide +kernel
theorem dX5_init_114 : decode cX5_init 114 = .ok (.putfield 52, 3) := by decide +kernel
theorem dX5_init_117 : decode cX5_init 117 = .ok (.aload_n 0, 1) := by decide +kernel
theorem dX5_init_118 : decode cX5_init 118 = .ok (.bipush 64, 2) := by decide +kernel
theorem dX5_init_120 : decode cX5_init 120 = .ok (.newarray .int, 2) := by decide +kernel
theorem dX5_init_122 : decode cX5_init 122 = .ok (.dup, 1) := by decide +kernel
theorem dX5_init_123 : decode cX5_init 123 = .ok (.iconst 0, 1) := by decide +kernel
theorem dX5_init_124 : decode cX5_init 124 = .ok (.ldc 55, 2) := by decide +kernel
theorem dX5_init_126 : decode cX5_init 126 = .ok (.iastore, 1) := by decide +kernel
theorem dX5_init_127 : decode cX5_init 127 = .ok (.dup, 1) := by decide +kernel
theorem dX5_init_128 : decode cX5_init 128 = .ok (.iconst 1, 1) := by decide +kernel
theorem dX5_init_129 : decode cX5_init 129 = .ok (.ldc 56, 2) := by decide +kernel
theorem dX5_init_131 : decode cX5_init 131 = .ok (.iastore, 1) := by decide +kernel
theorem dX5_init_132 : decode cX5_init 132 = .ok (.dup, 1) := by decide +kernel
theorem dX5_init_133 : decode cX5_init 133 = .ok (.iconst 2, 1) := by decide +kernel
theorem dX5_init_134 : decode cX5_init 134 = .ok (.ldc 57, 2) := by decide +kernel
theorem dX5_init_136 : decode cX5_init 136 = .ok (.iastore, 1) := by decide +kernel
theorem dX5_init_137 : decode cX5_init 137 = .ok (.dup, 1) := by decide +kernel
theorem dX5_init_138 : decode cX5_init 138 = .ok (.iconst 3, 1) := by decide +kernel
theorem dX5_init_139 : decode cX5_init 139 = .ok (.ldc 58, 2) := by decide +kernel
theorem dX5_init_141 : decode cX5_init 141 = .ok (.iastore, 1) := by decide +kernel
theorem dX5_init_142 : decode cX5_init 142 = .ok (.dup, 1) := by decide +kernel
theorem dX5_init_143 : decode cX5_init 143 = .ok (.iconst 4, 1) := by decide +kernel
theorem dX5_init_144 : decode cX5_init 144 = .ok (.ldc 59, 2) := by decide +kernel
theorem dX5_init_146 : decode cX5_init 146 = .ok (.iastore, 1) := by decide +kernel
theorem dX5_init_147 : decode cX5_init 147 = .ok (.dup, 1) := by decide +kernel
theorem dX5_init_148 : decode cX5_init 148 = .ok (.iconst 5, 1) := by decide +kernel
theorem dX5_init_149 : decode cX5_init 149 = .ok (.ldc 60, 2) := by decide +kernel
theorem dX5_init_151 : decode cX5_init 151 = .ok (.iastore, 1) := by decide +kernel
theorem dX5_init_152 : decode cX5_init 152 = .ok (.dup, 1) := by decide +kernel
theorem dX5_init_153 : decode cX5_init 153 = .ok (.bipush 6, 2) := by decide +kernel
theorem dX5_init_155 : decode cX5_init 155 = .ok (.ldc 61, 2) := by decide +kernel
theorem dX5_init_157 : decode cX5_init 157 = .ok (.iastore, 1) := by decide +kernel
theorem dX5_init_158 : decode cX5_init 158 = .ok (.dup, 1) := by decide +kernel
theorem dX5_init_159 : decode cX5_init 159 = .ok (.bipush 7, 2) := by decide +kernel
theorem dX5_init_161 : decode cX5_init 161 = .ok (.ldc 62, 2) := by decide +kernel
theorem dX5_init_163 : decode cX5_init 163 = .ok (.iastore, 1) := by decide +kernel
theorem dX5_init_164 : decode cX5_init 164 = .ok (.dup, 1) := by decide +kernel
theorem dX5_init_165 : decode cX5_init 165 = .ok (.bipush 8, 2) := by decide +kernel
theorem dX5_init_167 : decode cX5_init 167 = .ok (.ldc 63, 2) := by decide +kernel
theorem dX5_init_169 : decode cX5_init 169 = .ok (.iastore, 1) := by decide +kernel
theorem dX5_init_170 : decode cX5_init 170 = .ok (.dup, 1) := by decide +kernel
theorem dX5_init_171 : decode cX5_init 171 = .ok (.bipush 9, 2) := by decide +kernel
theorem dX5_init_173 : decode cX5_init 173 = .ok (.ldc 64, 2) := by decide +kernel
theorem dX5_init_175 : decode cX5_init 175 = .ok (.iastore, 1) := by decide +kernel
theorem dX5_init_176 : decode cX5_init 176 = .ok (.dup, 1) := by decide +kernel
theorem dX5_init_177 : decode cX5_init 177 = .ok (.bipush 10, 2) := by decide +kernel
theorem dX5_init_179 : decode cX5_init 179 = .ok (.ldc 65, 2) := by decide +kernel
theorem dX5_init_181 : decode cX5_init 181 = .ok (.iastore, 1) := by decide +kernel
theorem dX5_init_182 : decode cX5_init 182 = .ok (.dup, 1) := by decide +kernel
theorem dX5_init_183 : decode cX5_init 183 = .ok (.bipush 11, 2) := by decide +kernel
theorem dX5_init_185 : decode cX5_init 185 = .ok (.ldc 66, 2) := by decide +kernel
theorem dX5_init_187 : decode cX5_init 187 = .ok (.iastore, 1) := by decide +kernel
theorem dX5_init_188 : decode cX5_init 188 = .ok (.dup, 1) := by decide +kernel
theorem dX5_init_189 : decode cX5_init 189 = .ok (.bipush 12, 2) := by decide +kernel
theorem dX5_init_191 : decode cX5_init 191 = .ok (.ldc 67, 2) := by decide +kernel
theorem dX5_init_193 : decode cX5_init 193 = .ok (.iastore, 1) := by decide +kernel
theorem dX5_init_194 : decode cX5_init 194 = .ok (.dup, 1) := by decide +kernel
theorem dX5_init_195 : decode cX5_init 195 = .ok (.bipush 13, 2) := by decide +kernel
theorem dX5_init_197 : decode cX5_init 197 = .ok (.ldc 68, 2) := by decide +kernel
theorem dX5_init_199 : decode cX5_init 199 = .ok (.iastore, 1) := by decide +kernel
theorem dX5_init_200 : decode cX5_init 200 = .ok (.dup, 1) := by decide +kernel
theorem dX5_init_201 : decode cX5_init 201 = .ok (.bipush 14, 2) := by decide +kernel
theorem dX5_init_203 : decode cX5_init 203 = .ok (.ldc 69, 2) := by decide +kernel
theorem dX5_init_205 : decode cX5_init 205 = .ok (.iastore, 1) := by decide +kernel
theorem dX5_init_206 : decode cX5_init 206 = .ok (.dup, 1) := by decide +kernel
theorem dX5_init_207 : decode cX5_init 207 = .ok (.bipush 15, 2) := by decide +kernel
theorem dX5_init_209 : decode cX5_init 209 = .ok (.ldc 70, 2) := by decide +kernel
theorem dX5_init_211 : decode cX5_init 211 = .ok (.iastore, 1) := by decide +kernel
theorem dX5_init_212 : decode cX5_init 212 = .ok (.dup, 1) := by decide +kernel
theorem dX5_init_213 : decode cX5_init 213 = .ok (.bipush 16, 2) := by decide +kernel
theorem dX5_init_215 : decode cX5_init 215 = .ok (.ldc 71, 2) := by decide +kernel
theorem dX5_init_217 : decode cX5_init 217 = .ok (.iastore, 1) := by decide +kernel
theorem dX5_init_218 : decode cX5_init 218 = .ok (.dup, 1) := by decide +kernel
theorem dX5_init_219 : decode cX5_init 219 = .ok (.bipush 17, 2) := by decide +kernel
theorem dX5_init_221 : decode cX5_init 221 = .ok (.ldc 72, 2) := by decide +kernel
theorem dX5_init_223 : decode cX5_init 223 = .ok (.iastore, 1) := by decide +kernel
theorem dX5_init_224 : decode cX5_init 224 = .ok (.dup, 1) := by decide +kernel
theorem dX5_init_225 : decode cX5_init 225 = .ok (.bipush 18, 2) := by decide +kernel
theorem dX5_init_227 : decode cX5_init 227 = .ok (.ldc 73, 2) := by decide +kernel
theorem dX5_init_229 : decode cX5_init 229 = .ok (.iastore, 1) := by decide +kernel
theorem dX5_init_230 : decode cX5_init 230 = .ok (.dup, 1) := by decide +kernel
theorem dX5_init_231 : decode cX5_init 231 = .ok (.bipush 19, 2) := by decide +kernel
theorem dX5_init_233 : decode cX5_init 233 = .ok (.ldc 74, 2) := by decide +kernel
theorem dX5_init_235 : decode cX5_init 235 = .ok (.iastore, 1) := by decide +kernel
theorem dX5_init_236 : decode cX5_init 236 = .ok (.dup, 1) := by decide +kernel
theorem dX5_init_237 : decode cX5_init 237 = .ok (.bipush 20, 2) := by decide +kernel
theorem dX5_init_239 : decode cX5_init 239 = .ok (.ldc 75, 2) := by decide +kernel
theorem dX5_init_241 : decode cX5_init 241 = .ok (.iastore, 1) := by decide +kernel
theorem dX5_init_242 : decode cX5_init 242 = .ok (.dup, 1) := by decide +kernel
theorem dX5_init_243 : decode cX5_init 243 = .ok (.bipush 21, 2) := by decide +kernel
theorem dX5_init_245 : decode cX5_init 245 = .ok (.ldc 76, 2) := by decide +kernel
theorem dX5_init_247 : decode cX5_init 247 = .ok (.iastore, 1) := by decide +kernel
theorem dX5_init_248 : decode cX5_init 248 = .ok (.dup, 1) := by decide +kernel
theorem dX5_init_249 : decode cX5_init 249 = .ok (.bipush 22, 2) := by decide +kernel
theorem dX5_init_251 : decode cX5_init 251 = .ok (.ldc 77, 2) := by decide +kernel
theorem dX5_init_253 : decode cX5_init 253 = .ok (.iastore, 1) := by decide +kernel
theorem dX5_init_254 : decode cX5_init 254 = .ok (.dup, 1) := by decide +kernel
theorem dX5_init_255 : decode cX5_init 255 = .ok (.bipush 23, 2) := by decide +kernel
theorem dX5_init_257 : decode cX5_init 257 = .ok (.ldc 78, 2) := by decide +kernel
theorem dX5_init_259 : decode cX5_init 259 = .ok (.iastore, 1) := by decide +kernel
theorem dX5_init_260 : decode cX5_init 260 = .ok (.dup, 1) := by decide +kernel
theorem dX5_init_261 : decode cX5_init 261 = .ok (.bipush 24, 2) := by decide +kernel
theorem dX5_init_263 : decode cX5_init 263 = .ok (.ldc 79, 2) := by decide +kernel
theorem dX5_init_265 : decode cX5_init 265 = .ok (.iastore, 1) := by decide +kernel
theorem dX5_init_266 : decode cX5_init 266 = .ok (.dup, 1) := by decide +kernel
theorem dX5_init_267 : decode cX5_init 267 = .ok (.bipush 25, 2) := by decide +kernel
theorem dX5_init_269 : decode cX5_init 269 = .ok (.ldc 80, 2) := by decide +kernel
theorem dX5_init_271 : decode cX5_init 271 = .ok (.iastore, 1) := by decide +kernel
theorem dX5_init_272 : decode cX5_init 272 = .ok (.dup, 1) := by decide +kernel
theorem dX5_init_273 : decode cX5_init 273 = .ok (.bipush 26, 2) := by decide +kernel
theorem dX5_init_275 : decode cX5_init 275 = .ok (.ldc 81, 2) := by decide +kernel
theorem dX5_init_277 : decode cX5_init 277 = .ok (.iastore, 1) := by decide +kernel
theorem dX5_init_278 : decode cX5_init 278 = .ok (.dup, 1) := by decide +kernel
theorem dX5_init_279 : decode cX5_init 279 = .ok (.bipush 27, 2) := by decide +kernel
theorem dX5_init_281 : decode cX5_init 281 = .ok (.ldc 82, 2) := by decide +kernel
theorem dX5_init_283 : decode cX5_init 283 = .ok (.iastore, 1) := by decide +kernel
theorem dX5_init_284 : decode cX5_init 284 = .ok (.dup, 1) := by decide +kernel
theorem dX5_init_285 : decode cX5_init 285 = .ok (.bipush 28, 2) := by decide +kernel
theorem dX5_init_287 : decode cX5_init 287 = .ok (.ldc 83, 2) := by decide +kernel
theorem dX5_init_289 : decode cX5_init 289 = .ok (.iastore, 1) := by decide +kernel
theorem dX5_init_290 : decode cX5_init 290 = .ok (.dup, 1) := by decide +kernel
theorem dX5_init_291 : decode cX5_init 291 = .ok (.bipush 29, 2) := by decide +kernel
theorem dX5_init_293 : decode cX5_init 293 = .ok (.ldc 84, 2) := by decide +kernel
theorem dX5_init_295 : decode cX5_init 295 = .ok (.iastore, 1) := by decide +kernel
theorem dX5_init_296 : decode cX5_init 296 = .ok (.dup, 1) := by decide +kernel
theorem dX5_init_297 : decode cX5_init 297 = .ok (.bipush 30, 2) := by decide +kernel
theorem dX5_init_299 : decode cX5_init 299 = .ok (.ldc 85, 2) := by decide +kernel
theorem dX5_init_301 : decode cX5_init 301 = .ok (.iastore, 1) := by decide +kernel
theorem dX5_init_302 : decode cX5_init 302 = .ok (.dup, 1) := by decide +kernel
theorem dX5_init_303 : decode cX5_init 303 = .ok (.bipush 31, 2) := by decide +kernel
theorem dX5_init_305 : decode cX5_init 305 = .ok (.ldc 86, 2) := by decide +kernel
theorem dX5_init_307 : decode cX5_init 307 = .ok (.iastore, 1) := by decide +kernel
theorem dX5_init_308 : decode cX5_init 308 = .ok (.dup, 1) := by decide +kernel
theorem dX5_init_309 : decode cX5_init 309 = .ok (.bipush 32, 2) := by decide +kernel
theorem dX5_init_311 : decode cX5_init 311 = .ok (.ldc 87, 2) := by decide +kernel
theorem dX5_init_313 : decode cX5_init 313 = .ok (.iastore, 1) := by decide +kernel
theorem dX5_init_314 : decode cX5_init 314 = .ok (.dup, 1) := by decide +kernel
theorem dX5_init_315 : decode cX5_init 315 = .ok (.bipush 33, 2) := by decide +kernel
theorem dX5_init_317 : decode cX5_init 317 = .ok (.ldc 88, 2) := by decide +kernel
theorem dX5_init_319 : decode cX5_init 319 = .ok (.iastore, 1) := by decide +kernel
theorem dX5_init_320 : decode cX5_init 320 = .ok (.dup, 1) := by decide +kernel
theorem dX5_init_321 : decode cX5_init 321 = .ok (.bipush 34, 2) := by decide +kernel
theorem dX5_init_323 : decode cX5_init 323 = .ok (.ldc 89, 2) := by decide +kernel
theorem dX5_init_325 : decode cX5_init 325 = .ok (.iastore, 1) := by decide +kernel
theorem dX5_init_326 : decode cX5_init 326 = .ok (.dup, 1) := by decide +kernel
theorem dX5_init_327 : decode cX5_init 327 = .ok (.bipush 35, 2) := by decide +kernel
theorem dX5_init_329 : decode cX5_init 329 = .ok (.ldc 90, 2) := by decide +kernel
theorem dX5_init_331 : decode cX5_init 331 = .ok (.iastore, 1) := by decide +kernel
theorem dX5_init_332 : decode cX5_init 332 = .ok (.dup, 1) := by decide +kernel
theorem dX5_init_333 : decode cX5_init 333 = .ok (.bipush 36, 2) := by decide +kernel
theorem dX5_init_335 : decode cX5_init 335 = .ok (.ldc 91, 2) := by decide +kernel
theorem dX5_init_337 : decode cX5_init 337 = .ok (.iastore, 1) := by decide +kernel
theorem dX5_init_338 : decode cX5_init 338 = .ok (.dup, 1) := by decide +kernel
theorem dX5_init_339 : decode cX5_init 339 = .ok (.bipush 37, 2) := by decide +kernel
theorem dX5_init_341 : decode cX5_init 341 = .ok (.ldc 92, 2) := by decide +kernel
theorem dX5_init_343 : decode cX5_init 343 = .ok (.iastore, 1) := by decide +kernel
theorem dX5_init_344 : decode cX5_init 344 = .ok (.dup, 1) := by decide +kernel
theorem dX5_init_345 : decode cX5_init 345 = .ok (.bipush 38, 2) := by decide +kernel
theorem dX5_init_347 : decode cX5_init 347 = .ok (.ldc 93, 2) := by decide +kernel
theorem dX5_init_349 : decode cX5_init 349 = .ok (.iastore, 1) := by decide +kernel
theorem dX5_init_350 : decode cX5_init 350 = .ok (.dup, 1) := by decide +kernel
theorem dX5_init_351 : decode cX5_init 351 = .ok (.bipush 39, 2) := by decide +kernel
theorem dX5_init_353 : decode cX5_init 353 = .ok (.ldc 94, 2) := by decide +kernel
theorem dX5_init_355 : decode cX5_init 355 = .ok (.iastore, 1) := by decide +kernel
theorem dX5_init_356 : decode cX5_init 356 = .ok (.dup, 1) := by decide +kernel
theorem dX5_init_357 : decode cX5_init 357 = .ok (.bipush 40, 2) := by decide +kernel
theorem dX5_init_359 : decode cX5_init 359 = .ok (.ldc 95, 2) := by decide +kernel
theorem dX5_init_361 : decode cX5_init 361 = .ok (.iastore, 1) := by decide +kernel
theorem dX5_init_362 : decode cX5_init 362 = .ok (.dup, 1) := by decide +kernel
theorem dX5_init_363 : decode cX5_init 363 = .ok (.bipush 41, 2) := by decide +kernel
theorem dX5_init_365 : decode cX5_init 365 = .ok (.ldc 96, 2) := by decide +kernel
theorem dX5_init_367 : decode cX5_init 367 = .ok (.iastore, 1) := by decide +kernel
theorem dX5_init_368 : decode cX5_init 368 = .ok (.dup, 1) := by decide +kernel
theorem dX5_init_369 : decode cX5_init 369 = .ok (.bipush 42, 2) := by decide +kernel
theorem dX5_init_371 : decode cX5_init 371 = .ok (.ldc 97, 2) := by decide +kernel
theorem dX5_init_373 : decode cX5_init 373 = .ok (.iastore, 1) := by decide +kernel
theorem dX5_init_374 : decode cX5_init 374 = .ok (.dup, 1) := by decide +kernel
theorem dX5_init_375 : decode cX5_init 375 = .ok (.bipush 43, 2) := by decide +kernel
theorem dX5_init_377 : decode cX5_init 377 = .ok (.ldc 98, 2) := by decide +kernel
theorem dX5_init_379 : decode cX5_init 379 = .ok (.iastore, 1) := by decide +kernel
theorem dX5_init_380 : decode cX5_init 380 = .ok (.dup, 1) := by decide +kernel
theorem dX5_init_381 : decode cX5_init 381 = .ok (.bipush 44, 2) := by decide +kernel
theorem dX5_init_383 : decode cX5_init 383 = .ok (.ldc 99, 2) := by decide +kernel
theorem dX5_init_385 : decode cX5_init 385 = .ok (.iastore, 1) := by decide +kernel
theorem dX5_init_386 : decode cX5_init 386 = .ok (.dup, 1) := by decide +kernel
theorem dX5_init_387 : decode cX5_init 387 = .ok (.bipush 45, 2) := by decide +kernel
theorem dX5_init_389 : decode cX5_init 389 = .ok (.ldc 100, 2) := by decide +kernel
theorem dX5_init_391 : decode cX5_init 391 = .ok (.iastore, 1) := by decide +kernel
theorem dX5_init_392 : decode cX5_init 392 = .ok (.dup, 1) := by decide +kernel
theorem dX5_init_393 : decode cX5_init 393 = .ok (.bipush 46, 2) := by decide +kernel
theorem dX5_init_395 : decode cX5_init 395 = .ok (.ldc 101, 2) := by decide +kernel
theorem dX5_init_397 : decode cX5_init 397 = .ok (.iastore, 1) := by decide +kernel
theorem dX5_init_398 : decode cX5_init 398 = .ok (.dup, 1) := by decide +kernel
theorem dX5_init_399 : decode cX5_init 399 = .ok (.bipush 47, 2) := by decide +kernel
theorem dX5_init_401 : decode cX5_init 401 = .ok (.ldc 102, 2) := by decide +kernel
theorem dX5_init_403 : decode cX5_init 403 = .ok (.iastore, 1) := by decide +kernel
theorem dX5_init_404 : decode cX5_init 404 = .ok (.dup, 1) := by decide +kernel
theorem dX5_init_405 : decode cX5_init 405 = .ok (.bipush 48, 2) := by decide +kernel
theorem dX5_init_407 : decode cX5_init 407 = .ok (.ldc 103, 2) := by decide +kernel
theorem dX5_init_409 : decode cX5_init 409 = .ok (.iastore, 1) := by decide +kernel
theorem dX5_init_410 : decode cX5_init 410 = .ok (.dup, 1) := by decide +kernel
theorem dX5_init_411 : decode cX5_init 411 = .ok (.bipush 49, 2) := by decide +kernel
theorem dX5_init_413 : decode cX5_init 413 = .ok (.ldc 104, 2) := by decide +kernel
theorem dX5_init_415 : decode cX5_init 415 = .ok (.iastore, 1) := by decide +kernel
theorem dX5_init_416 : decode cX5_init 416 = .ok (.dup, 1) := by decide +kernel
theorem dX5_init_417 : decode cX5_init 417 = .ok (.bipush 50, 2) := by decide +kernel
theorem dX5_init_419 : decode cX5_init 419 = .ok (.ldc 105, 2) := by decide +kernel
theorem dX5_init_421 : decode cX5_init 421 = .ok (.iastore, 1) := by decide +kernel
theorem dX5_init_422 : decode cX5_init 422 = .ok (.dup, 1) := by decide +kernel
theorem dX5_init_423 : decode cX5_init 423 = .ok (.bipush 51, 2) := by decide +kernel
theorem dX5_init_425 : decode cX5_init 425 = .ok (.ldc 106, 2) := by decide +kernel
theorem dX5_init_427 : decode cX5_init 427 = .ok (.iastore, 1) := by decide +kernel
theorem dX5_init_428 : decode cX5_init 428 = .ok (.dup, 1) := by decide +kernel
theorem dX5_init_429 : decode cX5_init 429 = .ok (.bipush 52, 2) := by decide +kernel
theorem dX5_init_431 : decode cX5_init 431 = .ok (.ldc 107, 2) := by decide +kernel
theorem dX5_init_433 : decode cX5_init 433 = .ok (.iastore, 1) := by decide +kernel
theorem dX5_init_434 : decode cX5_init 434 = .ok (.dup, 1) := by decide +kernel
theorem dX5_init_435 : decode cX5_init 435 = .ok (.bipush 53, 2) := by decide +kernel
theorem dX5_init_437 : decode cX5_init 437 = .ok (.ldc 108, 2) := by decide +kernel
theorem dX5_init_439 : decode cX5_init 439 = .ok (.iastore, 1) := by decide +kernel
theorem dX5_init_440 : decode cX5_init 440 = .ok (.dup, 1) := by decide +kernel
theorem dX5_init_441 : decode cX5_init 441 = .ok (.bipush 54, 2) := by decide +kernel
theorem dX5_init_443 : decode cX5_init 443 = .ok (.ldc 109, 2) := by decide +kernel
theorem dX5_init_445 : decode cX5_init 445 = .ok (.iastore, 1) := by decide +kernel
theorem dX5_init_446 : decode cX5_init 446 = .ok (.dup, 1) := by decide +kernel
theorem dX5_init_447 : decode cX5_init 447 = .ok (.bipush 55, 2) := by decide +kernel
theorem dX5_init_449 : decode cX5_init 449 = .ok (.ldc 110, 2) := by decide +kernel
theorem dX5_init_451 : decode cX5_init 451 = .ok (.iastore, 1) := by decide +kernel
theorem dX5_init_452 : decode cX5_init 452 = .ok (.dup, 1) := by decide +kernel
theorem dX5_init_453 : decode cX5_init 453 = .ok (.bipush 56, 2) := by decide +kernel
theorem dX5_init_455 : decode cX5_init 455 = .ok (.ldc 111, 2) := by decide +kernel
theorem dX5_init_457 : decode cX5_init 457 = .ok (.iastore, 1) := by decide +kernel
theorem dX5_init_458 : decode cX5_init 458 = .ok (.dup, 1) := by decide +kernel
theorem dX5_init_459 : decode cX5_init 459 = .ok (.bipush 57, 2) := by decide +kernel
theorem dX5_init_461 : decode cX5_init 461 = .ok (.ldc 112, 2) := by decide +kernel
theorem dX5_init_463 : decode cX5_init 463 = .ok (.iastore, 1) := by decide +kernel
theorem dX5_init_464 : decode cX5_init 464 = .ok (.dup, 1) := by decide +kernel
theorem dX5_init_465 : decode cX5_init 465 = .ok (.bipush 58, 2) := by decide +kernel
theorem dX5_init_467 : decode cX5_init 467 = .ok (.ldc 113, 2) := by decide +kernel
theorem dX5_init_469 : decode cX5_init 469 = .ok (.iastore, 1) := by decide +kernel
theorem dX5_init_470 : decode cX5_init 470 = .ok (.dup, 1) := by decide +kernel
theorem dX5_init_471 : decode cX5_init 471 = .ok (.bipush 59, 2) := by decide +kernel
theorem dX5_init_473 : decode cX5_init 473 = .ok (.ldc 114, 2) := by decide +kernel
theorem dX5_init_475 : decode cX5_init 475 = .ok (.iastore, 1) := by decide +kernel
theorem dX5_init_476 : decode cX5_init 476 = .ok (.dup, 1) := by decide +kernel
theorem dX5_init_477 : decode cX5_init 477 = .ok (.bipush 60, 2) := by decide +kernel
theorem dX5_init_479 : decode cX5_init 479 = .ok (.ldc 115, 2) := by decide +kernel
theorem dX5_init_481 : decode cX5_init 481 = .ok (.iastore, 1) := by decide +kernel
theorem dX5_init_482 : decode cX5_init 482 = .ok (.dup, 1) := by decide +kernel
theorem dX5_init_483 : decode cX5_init 483 = .ok (.bipush 61, 2) := by decide +kernel
theorem dX5_init_485 : decode cX5_init 485 = .ok (.ldc 116, 2) := by decide +kernel
theorem dX5_init_487 : decode cX5_init 487 = .ok (.iastore, 1) := by decide +kernel
theorem dX5_init_488 : decode cX5_init 488 = .ok (.dup, 1) := by decide +kernel
theorem dX5_init_489 : decode cX5_init 489 = .ok (.bipush 62, 2) := by decide +kernel
theorem dX5_init_491 : decode cX5_init 491 = .ok (.ldc 117, 2) := by decide +kernel
theorem dX5_init_493 : decode cX5_init 493 = .ok (.iastore, 1) := by decide +kernel
theorem dX5_init_494 : decode cX5_init 494 = .ok (.dup, 1) := by decide +kernel
theorem dX5_init_495 : decode cX5_init 495 = .ok (.bipush 63, 2) := by decide +kernel
theorem dX5_init_497 : decode cX5_init 497 = .ok (.ldc 118, 2) := by decide +kernel
theorem dX5_init_499 : decode cX5_init 499 = .ok (.iastore, 1) := by decide +kernel
theorem dX5_init_500 : decode cX5_init 500 = .ok (.putfield 119, 3) := by decide +kernel
theorem dX5_init_503 : decode cX5_init 503 = .ok (.aload_n 0, 1) := by decide +kernel
theorem dX5_init_504 : decode cX5_init 504 = .ok (.bipush 8, 2) := by decide +kernel
theorem dX5_init_506 : decode cX5_init 506 = .ok (.newarray .int, 2) := by decide +kernel
theorem dX5_init_508 : decode cX5_init 508 = .ok (.dup, 1) := by decide +kernel
theorem dX5_init_509 : decode cX5_init 509 = .ok (.iconst 0, 1) := by decide +kernel
theorem dX5_init_510 : decode cX5_init 510 = .ok (.ldc 122, 2) := by decide +kernel
theorem dX5_init_512 : decode cX5_init 512 = .ok (.iastore, 1) := by decide +kernel
theorem dX5_init_513 : decode cX5_init 513 = .ok (.dup, 1) := by decide +kernel
theorem dX5_init_514 : decode cX5_init 514 = .ok (.iconst 1, 1) := by decide +kernel
theorem dX5_init_515 : decode cX5_init 515 = .ok (.ldc 123, 2) := by decide +kernel
theorem dX5_init_517 : decode cX5_init 517 = .ok (.iastore, 1) := by decide +kernel
theorem dX5_init_518 : decode cX5_init 518 = .ok (.dup, 1) := by decide +kernel
theorem dX5_init_519 : decode cX5_init 519 = .ok (.iconst 2, 1) := by decide +kernel
theorem dX5_init_520 : decode cX5_init 520 = .ok (.ldc 124, 2) := by decide +kernel
theorem dX5_init_522 : decode cX5_init 522 = .ok (.iastore, 1) := by decide +kernel
theorem dX5_init_523 : decode cX5_init 523 = .ok (.dup, 1) := by decide +kernel
theorem dX5_init_524 : decode cX5_init 524 = .ok (.iconst 3, 1) := by decide +kernel
theorem dX5_init_525 : decode cX5_init 525 = .ok (.ldc 125, 2) := by decide +kernel
theorem dX5_init_527 : decode cX5_init 527 = .ok (.iastore, 1) := by decide +kernel
theorem dX5_init_528 : decode cX5_init 528 = .ok (.dup, 1) := by decide +kernel
theorem dX5_init_529 : decode cX5_init 529 = .ok (.iconst 4, 1) := by decide +kernel
theorem dX5_init_530 : decode cX5_init 530 = .ok (.ldc 126, 2) := by decide +kernel
theorem dX5_init_532 : decode cX5_init 532 = .ok (.iastore, 1) := by decide +kernel
theorem dX5_init_533 : decode cX5_init 533 = .ok (.dup, 1) := by decide +kernel
theorem dX5_init_534 : decode cX5_init 534 = .ok (.iconst 5, 1) := by decide +kernel
theorem dX5_init_535 : decode cX5_init 535 = .ok (.ldc 127, 2) := by decide +kernel
theorem dX5_init_537 : decode cX5_init 537 = .ok (.iastore, 1) := by decide +kernel
theorem dX5_init_538 : decode cX5_init 538 = .ok (.dup, 1) := by decide +kernel
theorem dX5_init_539 : decode cX5_init 539 = .ok (.bipush 6, 2) := by decide +kernel
theorem dX5_init_541 : decode cX5_init 541 = .ok (.ldc 128, 2) := by decide +kernel
theorem dX5_init_543 : decode cX5_init 543 = .ok (.iastore, 1) := by decide +kernel
theorem dX5_init_544 : decode cX5_init 544 = .ok (.dup, 1) := by decide +kernel
theorem dX5_init_545 : decode cX5_init 545 = .ok (.bipush 7, 2) := by decide +kernel
theorem dX5_init_547 : decode cX5_init 547 = .ok (.ldc 129, 2) := by decide +kernel
theorem dX5_init_549 : decode cX5_init 549 = .ok (.iastore, 1) := by decide +kernel
theorem dX5_init_550 : decode cX5_init 550 = .ok (.putfield 130, 3) := by decide +kernel
theorem dX5_init_553 : decode cX5_init 553 = .ok (.aload_n 0, 1) := by decide +kernel
theorem dX5_init_554 : decode cX5_init 554 = .ok (.iconst 0, 1) := by decide +kernel
theorem dX5_init_555 : decode cX5_init 555 = .ok (.putfield 133, 3) := by decide +kernel
theorem dX5_init_558 : decode cX5_init 558 = .ok (.return_, 1) := by decide +kernel
theorem dX5_thrown_0 : decode cX5_thrown 0 = .ok (.aload_n 0, 1) := by decide +kernel
theorem dX5_thrown_1 : decode cX5_thrown 1 = .ok (.getfield 136, 3) := by decide +kernel
theorem dX5_thrown_4 : decode cX5_thrown 4 = .ok (.ireturn, 1) := by decide +kernel
theorem dX5_within_0 : decode cX5_within 0 = .ok (.lload_n 0, 1) := by decide +kernel
theorem dX5_within_1 : decode cX5_within 1 = .ok (.lload_n 2, 1) := by decide +kernel
theorem dX5_within_2 : decode cX5_within 2 = .ok (.lcmp, 1) := by decide +kernel
theorem dX5_within_3 : decode cX5_within 3 = .ok (.ifCond .lt 14, 3) := by decide +kernel
theorem dX5_within_6 : decode cX5_within 6 = .ok (.lload_n 0, 1) := by decide +kernel
theorem dX5_within_7 : decode cX5_within 7 = .ok (.lload 4, 2) := by decide +kernel
theorem dX5_within_9 : decode cX5_within 9 = .ok (.lcmp, 1) := by decide +kernel
theorem dX5_within_10 : decode cX5_within 10 = .ok (.ifCond .gt 7, 3) := by decide +kernel
theorem dX5_within_13 : decode cX5_within 13 = .ok (.iconst 1, 1) := by decide +kernel
theorem dX5_within_14 : decode cX5_within 14 = .ok (.goto 4, 3) := by decide +kernel
theorem dX5_within_17 : decode cX5_within 17 = .ok (.iconst 0, 1) := by decide +kernel
theorem dX5_within_18 : decode cX5_within 18 = .ok (.ireturn, 1) := by decide +kernel
