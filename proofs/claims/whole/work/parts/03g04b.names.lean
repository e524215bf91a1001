theorem dX5_make_205 : decode cX5_make 205 = .ok (.iconst 1, 1) := by decide +kernel
theorem dX5_make_206 : decode cX5_make 206 = .ok (.bastore, 1) := by decide +kernel
theorem dX5_make_207 : decode cX5_make 207 = .ok (.aload_n 0, 1) := by decide +kernel
theorem dX5_make_208 : decode cX5_make 208 = .ok (.dup, 1) := by decide +kernel
theorem dX5_make_209 : decode cX5_make 209 = .ok (.getfield 177, 3) := by decide +kernel
theorem dX5_make_212 : decode cX5_make 212 = .ok (.iconst 1, 1) := by decide +kernel
theorem dX5_make_213 : decode cX5_make 213 = .ok (.iadd, 1) := by decide +kernel
theorem dX5_make_214 : decode cX5_make 214 = .ok (.putfield 177, 3) := by decide +kernel
theorem dX5_make_217 : decode cX5_make 217 = .ok (.bipush 16, 2) := by decide +kernel
theorem dX5_make_219 : decode cX5_make 219 = .ok (.ireturn, 1) := by decide +kernel
set_option maxRecDepth 20000 in
theorem ggX5_letter_X5_within : GoodIn wsX5_letter wsX5_within := goodIn_r _ [8] (by decide +kernel) (by decide +kernel)
set_option maxRecDepth 20000 in
theorem gX5_letter_X5_within : GoodIn wsX5_letter (va_wsS RX5 139 yX5_within wsX5_within) := goodIn_app (goodIn_of _ (by decide +kernel)) ggX5_letter_X5_within
theorem dX5_letter_0 : decode cX5_letter 0 = .ok (.aload_n 0, 1) := by decide +kernel
theorem dX5_letter_1 : decode cX5_letter 1 = .ok (.iconst 0, 1) := by decide +kernel
theorem dX5_letter_2 : decode cX5_letter 2 = .ok (.putfield 136, 3) := by decide +kernel
theorem dX5_letter_5 : decode cX5_letter 5 = .ok (.aload_n 0, 1) := by decide +kernel
theorem dX5_letter_6 : decode cX5_letter 6 = .ok (.getfield 197, 3) := by decide +kernel
theorem dX5_letter_9 : decode cX5_letter 9 = .ok (.ifCond .eq 24, 3) := by decide +kernel
theorem dX5_letter_12 : decode cX5_letter 12 = .ok (.iload_n 1, 1) := by decide +kernel
theorem dX5_letter_13 : decode cX5_letter 13 = .ok (.i2l, 1) := by decide +kernel
theorem dX5_letter_14 : decode cX5_letter 14 = .ok (.lconst 0, 1) := by decide +kernel
theorem dX5_letter_15 : decode cX5_letter 15 = .ok (.ldc2_w 200, 3) := by decide +kernel
theorem dX5_letter_18 : decode cX5_letter 18 = .ok (.invokestatic 139, 3) := by decide +kernel
theorem dX5_letter_21 : decode cX5_letter 21 = .ok (.ifCond .eq 12, 3) := by decide +kernel
theorem dX5_letter_24 : decode cX5_letter 24 = .ok (.aload_n 0, 1) := by decide +kernel
theorem dX5_letter_25 : decode cX5_letter 25 = .ok (.getfield 27, 3) := by decide +kernel
theorem dX5_letter_28 : decode cX5_letter 28 = .ok (.iload_n 1, 1) := by decide +kernel
theorem dX5_letter_29 : decode cX5_letter 29 = .ok (.iaload, 1) := by decide +kernel
theorem dX5_letter_30 : decode cX5_letter 30 = .ok (.goto 4, 3) := by decide +kernel
theorem dX5_letter_33 : decode cX5_letter 33 = .ok (.iconst 0, 1) := by decide +kernel
theorem dX5_letter_34 : decode cX5_letter 34 = .ok (.ireturn, 1) := by decide +kernel
theorem dX5_type_0 : decode cX5_type 0 = .ok (.aload_n 0, 1) := by decide +kernel
theorem dX5_type_1 : decode cX5_type 1 = .ok (.iconst 0, 1) := by decide +kernel
theorem dX5_type_2 : decode cX5_type 2 = .ok (.putfield 136, 3) := by decide +kernel
theorem dX5_type_5 : decode cX5_type 5 = .ok (.aload_n 0, 1) := by decide +kernel
theorem dX5_type_6 : decode cX5_type 6 = .ok (.getfield 202, 3) := by decide +kernel
theorem dX5_type_9 : decode cX5_type 9 = .ok (.bipush 40, 2) := by decide +kernel
theorem dX5_type_11 : decode cX5_type 11 = .ok (.if_icmp .ge 23, 3) := by decide +kernel
theorem dX5_type_14 : decode cX5_type 14 = .ok (.aload_n 0, 1) := by decide +kernel
theorem dX5_type_15 : decode cX5_type 15 = .ok (.getfield 30, 3) := by decide +kernel
theorem dX5_type_18 : decode cX5_type 18 = .ok (.aload_n 0, 1) := by decide +kernel
theorem dX5_type_19 : decode cX5_type 19 = .ok (.getfield 202, 3) := by decide +kernel
theorem dX5_type_22 : decode cX5_type 22 = .ok (.iload_n 1, 1) := by decide +kernel
theorem dX5_type_23 : decode cX5_type 23 = .ok (.iastore, 1) := by decide +kernel
theorem dX5_type_24 : decode cX5_type 24 = .ok (.aload_n 0, 1) := by decide +kernel
theorem dX5_type_25 : decode cX5_type 25 = .ok (.dup, 1) := by decide +kernel
theorem dX5_type_26 : decode cX5_type 26 = .ok (.getfield 202, 3) := by decide +kernel
theorem dX5_type_29 : decode cX5_type 29 = .ok (.iconst 1, 1) := by decide +kernel
theorem dX5_type_30 : decode cX5_type 30 = .ok (.iadd, 1) := by decide +kernel
theorem dX5_type_31 : decode cX5_type 31 = .ok (.putfield 202, 3) := by decide +kernel
theorem dX5_type_34 : decode cX5_type 34 = .ok (.return_, 1) := by decide +kernel
set_option maxRecDepth 20000 in
theorem ggX5_check_X5_within : GoodIn wsX5_check wsX5_within := goodIn_r _ [8] (by decide +kernel) (by decide +kernel)
set_option maxRecDepth 20000 in
theorem gX5_check_X5_within : GoodIn wsX5_check (va_wsS RX5 139 yX5_within wsX5_within) := goodIn_app (goodIn_of _ (by decide +kernel)) ggX5_check_X5_within
theorem dX5_check_0 : decode cX5_check 0 = .ok (.aload_n 0, 1) := by decide +kernel
theorem dX5_check_1 : decode cX5_check 1 = .ok (.iconst 0, 1) := by decide +kernel
theorem dX5_check_2 : decode cX5_check 2 = .ok (.putfield 136, 3) := by decide +kernel
theorem dX5_check_5 : decode cX5_check 5 = .ok (.lload_n 1, 1) := by decide +kernel
theorem dX5_check_6 : decode cX5_check 6 = .ok (.lconst 0, 1) := by decide +kernel
theorem dX5_check_7 : decode cX5_check 7 = .ok (.ldc2_w 143, 3) := by decide +kernel
theorem dX5_check_10 : decode cX5_check 10 = .ok (.invokestatic 139, 3) := by decide +kernel
theorem dX5_check_13 : decode cX5_check 13 = .ok (.ifCond .ne 6, 3) := by decide +kernel
theorem dX5_check_16 : decode cX5_check 16 = .ok (.bipush (-22), 2) := by decide +kernel
theorem dX5_check_18 : decode cX5_check 18 = .ok (.ireturn, 1) := by decide +kernel
theorem dX5_check_19 : decode cX5_check 19 = .ok (.aload_n 0, 1) := by decide +kernel
theorem dX5_check_20 : decode cX5_check 20 = .ok (.dup, 1) := by decide +kernel
theorem dX5_check_21 : decode cX5_check 21 = .ok (.getfield 205, 3) := by decide +kernel
theorem dX5_check_24 : decode cX5_check 24 = .ok (.iconst 1, 1) := by decide +kernel
theorem dX5_check_25 : decode cX5_check 25 = .ok (.iadd, 1) := by decide +kernel
theorem dX5_check_26 : decode cX5_check 26 = .ok (.putfield 205, 3) := by decide +kernel
theorem dX5_check_29 : decode cX5_check 29 = .ok (.aload_n 0, 1) := by decide +kernel
theorem dX5_check_30 : decode cX5_check 30 = .ok (.lload_n 1, 1) := by decide +kernel
theorem dX5_check_31 : decode cX5_check 31 = .ok (.l2i, 1) := by decide +kernel
theorem dX5_check_32 : decode cX5_check 32 = .ok (.invokevirtual 208, 3) := by decide +kernel
theorem dX5_check_35 : decode cX5_check 35 = .ok (.istore_n 3, 1) := by decide +kernel
theorem dX5_check_36 : decode cX5_check 36 = .ok (.aload_n 0, 1) := by decide +kernel
theorem dX5_check_37 : decode cX5_check 37 = .ok (.iconst 0, 1) := by decide +kernel
theorem dX5_check_38 : decode cX5_check 38 = .ok (.putfield 202, 3) := by decide +kernel
theorem dX5_check_41 : decode cX5_check 41 = .ok (.iload_n 3, 1) := by decide +kernel
theorem dX5_check_42 : decode cX5_check 42 = .ok (.ifCond .ne 7, 3) := by decide +kernel
theorem dX5_check_45 : decode cX5_check 45 = .ok (.iconst 1, 1) := by decide +kernel
theorem dX5_check_46 : decode cX5_check 46 = .ok (.goto 6, 3) := by decide +kernel
theorem dX5_check_49 : decode cX5_check 49 = .ok (.iconst (-1), 1) := by decide +kernel
theorem dX5_check_50 : decode cX5_check 50 = .ok (.iload_n 3, 1) := by decide +kernel
theorem dX5_check_51 : decode cX5_check 51 = .ok (.isub, 1) := by decide +kernel
theorem dX5_check_52 : decode cX5_check 52 = .ok (.ireturn, 1) := by decide +kernel
set_option maxRecDepth 20000 in
theorem ggX5_reasonOf_X5_valueOf : GoodIn wsX5_reasonOf wsX5_valueOf := goodIn_r _ [19, 20, 21, 18, 22, 23, 24, 25, 26, 27, 28, 29, 30, 31, 32, 33, 34, 35, 36, 37, 38, 39, 40, 41, 42, 43, 44, 45, 46, 47, 48, 49, 50, 51, 52, 53, 54, 55, 56, 57, 58, 59, 60, 61, 62, 63, 118, 119] (by decide +kernel) (by decide +kernel)
set_option maxRecDepth 20000 in
theorem gX5_reasonOf_X5_valueOf : GoodIn wsX5_reasonOf (va_wsS RX5 211 yX5_valueOf wsX5_valueOf) := goodIn_app (goodIn_of _ (by decide +kernel)) ggX5_reasonOf_X5_valueOf
set_option maxRecDepth 20000 in
theorem ggX5_reasonOf_X5_isKey : GoodIn wsX5_reasonOf wsX5_isKey := goodIn_r _ [67, 68, 69, 70, 18, 71, 95, 96, 97, 98, 99, 100, 101, 102, 103, 104, 105, 106, 107, 108, 109, 110, 111, 112, 113, 114, 115, 116, 117] (by decide +kernel) (by decide +kernel)
set_option maxRecDepth 20000 in
theorem gX5_reasonOf_X5_isKey : GoodIn wsX5_reasonOf (wsV RX5 145 RX5 yX5_isKey wsX5_isKey) := goodIn_app (goodIn_of _ (by decide +kernel)) ggX5_reasonOf_X5_isKey
set_option maxRecDepth 20000 in
theorem ggX5_reasonOf_X5_within : GoodIn wsX5_reasonOf wsX5_within := goodIn_r _ [71] (by decide +kernel) (by decide +kernel)
set_option maxRecDepth 20000 in
theorem gX5_reasonOf_X5_within : GoodIn wsX5_reasonOf (va_wsS RX5 139 yX5_within wsX5_within) := goodIn_app (goodIn_of _ (by decide +kernel)) ggX5_reasonOf_X5_within
set_option maxRecDepth 20000 in
theorem ggX5_reasonOf_X5_reckon : GoodIn wsX5_reasonOf wsX5_reckon := goodIn_ca (goodIn_r _ [75, 76, 77, 78, 79, 80, 81, 82, 83, 84, 18, 85, 86, 87, 88, 89, 90, 95, 96, 97, 98, 99, 100, 101, 102, 103, 104, 105, 106, 107, 108, 109, 110, 111, 112, 113, 114, 115, 116, 117] (by decide +kernel) (by decide +kernel)) (goodIn_sub (fun _ h => List.mem_cons_of_mem _ (List.mem_append_right _ h)) (by decide +kernel))
set_option maxRecDepth 20000 in
theorem gX5_reasonOf_X5_reckon : GoodIn wsX5_reasonOf (wsV RX5 188 RX5 yX5_reckon wsX5_reckon) := goodIn_app (goodIn_of _ (by decide +kernel)) ggX5_reasonOf_X5_reckon
set_option maxRecDepth 20000 in
theorem ggX5_reasonOf_X5_five : GoodIn wsX5_reasonOf wsX5_five := goodIn_ca (goodIn_r _ [94, 80, 95, 96, 97, 98, 99, 100, 101, 102, 103, 104, 105, 106, 107, 108, 109, 110, 111, 112, 113, 114, 115, 116, 117] (by decide +kernel) (by decide +kernel)) (goodIn_sub (fun _ h => List.mem_cons_of_mem _ (List.mem_append_right _ h)) (by decide +kernel))
set_option maxRecDepth 20000 in
theorem gX5_reasonOf_X5_five : GoodIn wsX5_reasonOf (wsV RX5 194 RX5 yX5_five wsX5_five) := goodIn_app (goodIn_of _ (by decide +kernel)) ggX5_reasonOf_X5_five
theorem dX5_reasonOf_0 : decode cX5_reasonOf 0 = .ok (.aload_n 0, 1) := by decide +kernel
theorem dX5_reasonOf_1 : decode cX5_reasonOf 1 = .ok (.getfield 202, 3) := by decide +kernel
theorem dX5_reasonOf_4 : decode cX5_reasonOf 4 = .ok (.bipush 16, 2) := by decide +kernel
theorem dX5_reasonOf_6 : decode cX5_reasonOf 6 = .ok (.if_icmp .eq 5, 3) := by decide +kernel
theorem dX5_reasonOf_9 : decode cX5_reasonOf 9 = .ok (.iconst 1, 1) := by decide +kernel
theorem dX5_reasonOf_10 : decode cX5_reasonOf 10 = .ok (.ireturn, 1) := by decide +kernel
theorem dX5_reasonOf_11 : decode cX5_reasonOf 11 = .ok (.lconst 0, 1) := by decide +kernel
theorem dX5_reasonOf_12 : decode cX5_reasonOf 12 = .ok (.lstore_n 2, 1) := by decide +kernel
theorem dX5_reasonOf_13 : decode cX5_reasonOf 13 = .ok (.iconst 0, 1) := by decide +kernel
theorem dX5_reasonOf_14 : decode cX5_reasonOf 14 = .ok (.istore 4, 2) := by decide +kernel
theorem dX5_reasonOf_16 : decode cX5_reasonOf 16 = .ok (.iload 4, 2) := by decide +kernel
theorem dX5_reasonOf_18 : decode cX5_reasonOf 18 = .ok (.bipush 16, 2) := by decide +kernel
theorem dX5_reasonOf_20 : decode cX5_reasonOf 20 = .ok (.if_icmp .ge 53, 3) := by decide +kernel
theorem dX5_reasonOf_23 : decode cX5_reasonOf 23 = .ok (.aload_n 0, 1) := by decide +kernel
theorem dX5_reasonOf_24 : decode cX5_reasonOf 24 = .ok (.getfield 30, 3) := by decide +kernel
theorem dX5_reasonOf_27 : decode cX5_reasonOf 27 = .ok (.iload 4, 2) := by decide +kernel
theorem dX5_reasonOf_29 : decode cX5_reasonOf 29 = .ok (.iaload, 1) := by decide +kernel
theorem dX5_reasonOf_30 : decode cX5_reasonOf 30 = .ok (.invokestatic 211, 3) := by decide +kernel
theorem dX5_reasonOf_33 : decode cX5_reasonOf 33 = .ok (.ifCond .ge 5, 3) := by decide +kernel
theorem dX5_reasonOf_36 : decode cX5_reasonOf 36 = .ok (.iconst 2, 1) := by decide +kernel
theorem dX5_reasonOf_37 : decode cX5_reasonOf 37 = .ok (.ireturn, 1) := by decide +kernel
theorem dX5_reasonOf_38 : decode cX5_reasonOf 38 = .ok (.iload 4, 2) := by decide +kernel
theorem dX5_reasonOf_40 : decode cX5_reasonOf 40 = .ok (.bipush 11, 2) := by decide +kernel
theorem dX5_reasonOf_42 : decode cX5_reasonOf 42 = .ok (.if_icmp .ge 23, 3) := by decide +kernel
theorem dX5_reasonOf_45 : decode cX5_reasonOf 45 = .ok (.ldc2_w 214, 3) := by decide +kernel
theorem dX5_reasonOf_48 : decode cX5_reasonOf 48 = .ok (.lload_n 2, 1) := by decide +kernel
theorem dX5_reasonOf_49 : decode cX5_reasonOf 49 = .ok (.lmul, 1) := by decide +kernel
theorem dX5_reasonOf_50 : decode cX5_reasonOf 50 = .ok (.aload_n 0, 1) := by decide +kernel
theorem dX5_reasonOf_51 : decode cX5_reasonOf 51 = .ok (.getfield 30, 3) := by decide +kernel
theorem dX5_reasonOf_54 : decode cX5_reasonOf 54 = .ok (.iload 4, 2) := by decide +kernel
theorem dX5_reasonOf_56 : decode cX5_reasonOf 56 = .ok (.iaload, 1) := by decide +kernel
theorem dX5_reasonOf_57 : decode cX5_reasonOf 57 = .ok (.invokestatic 211, 3) := by decide +kernel
theorem dX5_reasonOf_60 : decode cX5_reasonOf 60 = .ok (.i2l, 1) := by decide +kernel
theorem dX5_reasonOf_61 : decode cX5_reasonOf 61 = .ok (.ladd, 1) := by decide +kernel
theorem dX5_reasonOf_62 : decode cX5_reasonOf 62 = .ok (.goto 4, 3) := by decide +kernel
theorem dX5_reasonOf_65 : decode cX5_reasonOf 65 = .ok (.lload_n 2, 1) := by decide +kernel
theorem dX5_reasonOf_66 : decode cX5_reasonOf 66 = .ok (.lstore_n 2, 1) := by decide +kernel
theorem dX5_reasonOf_67 : decode cX5_reasonOf 67 = .ok (.iinc 4 1, 3) := by decide +kernel
theorem dX5_reasonOf_70 : decode cX5_reasonOf 70 = .ok (.goto (-54), 3) := by decide +kernel
theorem dX5_reasonOf_73 : decode cX5_reasonOf 73 = .ok (.lload_n 2, 1) := by decide +kernel
theorem dX5_reasonOf_74 : decode cX5_reasonOf 74 = .ok (.bipush 51, 2) := by decide +kernel
theorem dX5_reasonOf_76 : decode cX5_reasonOf 76 = .ok (.lshr, 1) := by decide +kernel
theorem dX5_reasonOf_77 : decode cX5_reasonOf 77 = .ok (.l2i, 1) := by decide +kernel
theorem dX5_reasonOf_78 : decode cX5_reasonOf 78 = .ok (.istore 4, 2) := by decide +kernel
theorem dX5_reasonOf_80 : decode cX5_reasonOf 80 = .ok (.lload_n 2, 1) := by decide +kernel
theorem dX5_reasonOf_81 : decode cX5_reasonOf 81 = .ok (.bipush 47, 2) := by decide +kernel
theorem dX5_reasonOf_83 : decode cX5_reasonOf 83 = .ok (.lshr, 1) := by decide +kernel
