set_option maxRecDepth 20000 in
theorem ggX5_isKey_X5_within : GoodIn wsX5_isKey wsX5_within := goodIn_r _ [5] (by decide +kernel) (by decide +kernel)
set_option maxRecDepth 20000 in
theorem gX5_isKey_X5_within : GoodIn wsX5_isKey (va_wsS RX5 139 yX5_within wsX5_within) := goodIn_app (goodIn_of _ (by decide +kernel)) ggX5_isKey_X5_within
theorem dX5_isKey_0 : decode cX5_isKey 0 = .ok (.iload_n 1, 1) := by decide +kernel
theorem dX5_isKey_1 : decode cX5_isKey 1 = .ok (.i2l, 1) := by decide +kernel
theorem dX5_isKey_2 : decode cX5_isKey 2 = .ok (.lconst 0, 1) := by decide +kernel
theorem dX5_isKey_3 : decode cX5_isKey 3 = .ok (.aload_n 0, 1) := by decide +kernel
theorem dX5_isKey_4 : decode cX5_isKey 4 = .ok (.getfield 133, 3) := by decide +kernel
theorem dX5_isKey_7 : decode cX5_isKey 7 = .ok (.iconst 1, 1) := by decide +kernel
theorem dX5_isKey_8 : decode cX5_isKey 8 = .ok (.isub, 1) := by decide +kernel
theorem dX5_isKey_9 : decode cX5_isKey 9 = .ok (.i2l, 1) := by decide +kernel
theorem dX5_isKey_10 : decode cX5_isKey 10 = .ok (.invokestatic 139, 3) := by decide +kernel
theorem dX5_isKey_13 : decode cX5_isKey 13 = .ok (.ireturn, 1) := by decide +kernel
theorem dX5_key_0 : decode cX5_key 0 = .ok (.aload_n 0, 1) := by decide +kernel
theorem dX5_key_1 : decode cX5_key 1 = .ok (.iconst 0, 1) := by decide +kernel
theorem dX5_key_2 : decode cX5_key 2 = .ok (.putfield 136, 3) := by decide +kernel
theorem dX5_key_5 : decode cX5_key 5 = .ok (.lload_n 1, 1) := by decide +kernel
theorem dX5_key_6 : decode cX5_key 6 = .ok (.lconst 0, 1) := by decide +kernel
theorem dX5_key_7 : decode cX5_key 7 = .ok (.lcmp, 1) := by decide +kernel
theorem dX5_key_8 : decode cX5_key 8 = .ok (.ifCond .lt 17, 3) := by decide +kernel
theorem dX5_key_11 : decode cX5_key 11 = .ok (.lload_n 3, 1) := by decide +kernel
theorem dX5_key_12 : decode cX5_key 12 = .ok (.lload_n 1, 1) := by decide +kernel
theorem dX5_key_13 : decode cX5_key 13 = .ok (.lcmp, 1) := by decide +kernel
theorem dX5_key_14 : decode cX5_key 14 = .ok (.ifCond .lt 11, 3) := by decide +kernel
theorem dX5_key_17 : decode cX5_key 17 = .ok (.lload_n 3, 1) := by decide +kernel
theorem dX5_key_18 : decode cX5_key 18 = .ok (.ldc2_w 143, 3) := by decide +kernel
theorem dX5_key_21 : decode cX5_key 21 = .ok (.lcmp, 1) := by decide +kernel
theorem dX5_key_22 : decode cX5_key 22 = .ok (.ifCond .le 6, 3) := by decide +kernel
theorem dX5_key_25 : decode cX5_key 25 = .ok (.bipush (-22), 2) := by decide +kernel
theorem dX5_key_27 : decode cX5_key 27 = .ok (.ireturn, 1) := by decide +kernel
theorem dX5_key_28 : decode cX5_key 28 = .ok (.aload_n 0, 1) := by decide +kernel
theorem dX5_key_29 : decode cX5_key 29 = .ok (.getfield 133, 3) := by decide +kernel
theorem dX5_key_32 : decode cX5_key 32 = .ok (.bipush 15, 2) := by decide +kernel
theorem dX5_key_34 : decode cX5_key 34 = .ok (.if_icmp .ne 6, 3) := by decide +kernel
theorem dX5_key_37 : decode cX5_key 37 = .ok (.bipush (-24), 2) := by decide +kernel
theorem dX5_key_39 : decode cX5_key 39 = .ok (.ireturn, 1) := by decide +kernel
theorem dX5_key_40 : decode cX5_key 40 = .ok (.aload_n 0, 1) := by decide +kernel
theorem dX5_key_41 : decode cX5_key 41 = .ok (.getfield 7, 3) := by decide +kernel
theorem dX5_key_44 : decode cX5_key 44 = .ok (.aload_n 0, 1) := by decide +kernel
theorem dX5_key_45 : decode cX5_key 45 = .ok (.getfield 133, 3) := by decide +kernel
theorem dX5_key_48 : decode cX5_key 48 = .ok (.lload_n 1, 1) := by decide +kernel
theorem dX5_key_49 : decode cX5_key 49 = .ok (.l2i, 1) := by decide +kernel
theorem dX5_key_50 : decode cX5_key 50 = .ok (.iastore, 1) := by decide +kernel
theorem dX5_key_51 : decode cX5_key 51 = .ok (.aload_n 0, 1) := by decide +kernel
theorem dX5_key_52 : decode cX5_key 52 = .ok (.getfield 13, 3) := by decide +kernel
theorem dX5_key_55 : decode cX5_key 55 = .ok (.aload_n 0, 1) := by decide +kernel
theorem dX5_key_56 : decode cX5_key 56 = .ok (.getfield 133, 3) := by decide +kernel
theorem dX5_key_59 : decode cX5_key 59 = .ok (.lload_n 3, 1) := by decide +kernel
theorem dX5_key_60 : decode cX5_key 60 = .ok (.l2i, 1) := by decide +kernel
theorem dX5_key_61 : decode cX5_key 61 = .ok (.iastore, 1) := by decide +kernel
theorem dX5_key_62 : decode cX5_key 62 = .ok (.aload_n 0, 1) := by decide +kernel
theorem dX5_key_63 : decode cX5_key 63 = .ok (.dup, 1) := by decide +kernel
theorem dX5_key_64 : decode cX5_key 64 = .ok (.getfield 133, 3) := by decide +kernel
theorem dX5_key_67 : decode cX5_key 67 = .ok (.iconst 1, 1) := by decide +kernel
theorem dX5_key_68 : decode cX5_key 68 = .ok (.iadd, 1) := by decide +kernel
theorem dX5_key_69 : decode cX5_key 69 = .ok (.putfield 133, 3) := by decide +kernel
theorem dX5_key_72 : decode cX5_key 72 = .ok (.aload_n 0, 1) := by decide +kernel
theorem dX5_key_73 : decode cX5_key 73 = .ok (.getfield 133, 3) := by decide +kernel
theorem dX5_key_76 : decode cX5_key 76 = .ok (.iconst 1, 1) := by decide +kernel
theorem dX5_key_77 : decode cX5_key 77 = .ok (.isub, 1) := by decide +kernel
theorem dX5_key_78 : decode cX5_key 78 = .ok (.ireturn, 1) := by decide +kernel
set_option maxRecDepth 20000 in
theorem ggX5_octet_X5_isKey : GoodIn wsX5_octet wsX5_isKey := goodIn_r _ [9, 10, 11, 12, 8, 13, 14, 15, 16, 17, 18, 19, 20, 21, 22, 23, 24, 25, 26, 27, 28, 29, 30, 31, 32, 33, 34, 35, 36] (by decide +kernel) (by decide +kernel)
set_option maxRecDepth 20000 in
theorem gX5_octet_X5_isKey : GoodIn wsX5_octet (wsV RX5 145 RX5 yX5_isKey wsX5_isKey) := goodIn_app (goodIn_of _ (by decide +kernel)) ggX5_octet_X5_isKey
theorem dX5_octet_0 : decode cX5_octet 0 = .ok (.aload_n 0, 1) := by decide +kernel
theorem dX5_octet_1 : decode cX5_octet 1 = .ok (.iconst 0, 1) := by decide +kernel
theorem dX5_octet_2 : decode cX5_octet 2 = .ok (.putfield 136, 3) := by decide +kernel
theorem dX5_octet_5 : decode cX5_octet 5 = .ok (.aload_n 0, 1) := by decide +kernel
theorem dX5_octet_6 : decode cX5_octet 6 = .ok (.iload_n 1, 1) := by decide +kernel
theorem dX5_octet_7 : decode cX5_octet 7 = .ok (.invokevirtual 145, 3) := by decide +kernel
theorem dX5_octet_10 : decode cX5_octet 10 = .ok (.ifCond .eq 50, 3) := by decide +kernel
theorem dX5_octet_13 : decode cX5_octet 13 = .ok (.aload_n 0, 1) := by decide +kernel
theorem dX5_octet_14 : decode cX5_octet 14 = .ok (.getfield 16, 3) := by decide +kernel
theorem dX5_octet_17 : decode cX5_octet 17 = .ok (.iload_n 1, 1) := by decide +kernel
theorem dX5_octet_18 : decode cX5_octet 18 = .ok (.iaload, 1) := by decide +kernel
theorem dX5_octet_19 : decode cX5_octet 19 = .ok (.bipush 32, 2) := by decide +kernel
theorem dX5_octet_21 : decode cX5_octet 21 = .ok (.if_icmp .ge 39, 3) := by decide +kernel
theorem dX5_octet_24 : decode cX5_octet 24 = .ok (.aload_n 0, 1) := by decide +kernel
theorem dX5_octet_25 : decode cX5_octet 25 = .ok (.getfield 19, 3) := by decide +kernel
theorem dX5_octet_28 : decode cX5_octet 28 = .ok (.iload_n 1, 1) := by decide +kernel
theorem dX5_octet_29 : decode cX5_octet 29 = .ok (.baload, 1) := by decide +kernel
theorem dX5_octet_30 : decode cX5_octet 30 = .ok (.ifCond .ne 30, 3) := by decide +kernel
theorem dX5_octet_33 : decode cX5_octet 33 = .ok (.aload_n 0, 1) := by decide +kernel
theorem dX5_octet_34 : decode cX5_octet 34 = .ok (.getfield 23, 3) := by decide +kernel
theorem dX5_octet_37 : decode cX5_octet 37 = .ok (.bipush 32, 2) := by decide +kernel
theorem dX5_octet_39 : decode cX5_octet 39 = .ok (.iload_n 1, 1) := by decide +kernel
theorem dX5_octet_40 : decode cX5_octet 40 = .ok (.imul, 1) := by decide +kernel
theorem dX5_octet_41 : decode cX5_octet 41 = .ok (.aload_n 0, 1) := by decide +kernel
theorem dX5_octet_42 : decode cX5_octet 42 = .ok (.getfield 16, 3) := by decide +kernel
theorem dX5_octet_45 : decode cX5_octet 45 = .ok (.iload_n 1, 1) := by decide +kernel
theorem dX5_octet_46 : decode cX5_octet 46 = .ok (.iaload, 1) := by decide +kernel
theorem dX5_octet_47 : decode cX5_octet 47 = .ok (.iadd, 1) := by decide +kernel
theorem dX5_octet_48 : decode cX5_octet 48 = .ok (.iload_n 2, 1) := by decide +kernel
theorem dX5_octet_49 : decode cX5_octet 49 = .ok (.bastore, 1) := by decide +kernel
theorem dX5_octet_50 : decode cX5_octet 50 = .ok (.aload_n 0, 1) := by decide +kernel
theorem dX5_octet_51 : decode cX5_octet 51 = .ok (.getfield 16, 3) := by decide +kernel
theorem dX5_octet_54 : decode cX5_octet 54 = .ok (.iload_n 1, 1) := by decide +kernel
theorem dX5_octet_55 : decode cX5_octet 55 = .ok (.dup2, 1) := by decide +kernel
theorem dX5_octet_56 : decode cX5_octet 56 = .ok (.iaload, 1) := by decide +kernel
theorem dX5_octet_57 : decode cX5_octet 57 = .ok (.iconst 1, 1) := by decide +kernel
theorem dX5_octet_58 : decode cX5_octet 58 = .ok (.iadd, 1) := by decide +kernel
theorem dX5_octet_59 : decode cX5_octet 59 = .ok (.iastore, 1) := by decide +kernel
theorem dX5_octet_60 : decode cX5_octet 60 = .ok (.return_, 1) := by decide +kernel
theorem dX5_turn_0 : decode cX5_turn 0 = .ok (.iload_n 0, 1) := by decide +kernel
theorem dX5_turn_1 : decode cX5_turn 1 = .ok (.iload_n 1, 1) := by decide +kernel
theorem dX5_turn_2 : decode cX5_turn 2 = .ok (.iushr, 1) := by decide +kernel
theorem dX5_turn_3 : decode cX5_turn 3 = .ok (.iload_n 0, 1) := by decide +kernel
theorem dX5_turn_4 : decode cX5_turn 4 = .ok (.bipush 32, 2) := by decide +kernel
theorem dX5_turn_6 : decode cX5_turn 6 = .ok (.iload_n 1, 1) := by decide +kernel
theorem dX5_turn_7 : decode cX5_turn 7 = .ok (.isub, 1) := by decide +kernel
theorem dX5_turn_8 : decode cX5_turn 8 = .ok (.ishl, 1) := by decide +kernel
theorem dX5_turn_9 : decode cX5_turn 9 = .ok (.ior, 1) := by decide +kernel
theorem dX5_turn_10 : decode cX5_turn 10 = .ok (.ireturn, 1) := by decide +kernel
theorem dX5_bitAt_0 : decode cX5_bitAt 0 = .ok (.bipush 8, 2) := by decide +kernel
theorem dX5_bitAt_2 : decode cX5_bitAt 2 = .ok (.aload_n 0, 1) := by decide +kernel
theorem dX5_bitAt_3 : decode cX5_bitAt 3 = .ok (.getfield 16, 3) := by decide +kernel
theorem dX5_bitAt_6 : decode cX5_bitAt 6 = .ok (.iload_n 1, 1) := by decide +kernel
theorem dX5_bitAt_7 : decode cX5_bitAt 7 = .ok (.iaload, 1) := by decide +kernel
theorem dX5_bitAt_8 : decode cX5_bitAt 8 = .ok (.imul, 1) := by decide +kernel
theorem dX5_bitAt_9 : decode cX5_bitAt 9 = .ok (.istore 5, 2) := by decide +kernel
theorem dX5_bitAt_11 : decode cX5_bitAt 11 = .ok (.iload 4, 2) := by decide +kernel
theorem dX5_bitAt_13 : decode cX5_bitAt 13 = .ok (.iload 5, 2) := by decide +kernel
theorem dX5_bitAt_15 : decode cX5_bitAt 15 = .ok (.if_icmp .ge 30, 3) := by decide +kernel
theorem dX5_bitAt_18 : decode cX5_bitAt 18 = .ok (.aload_n 0, 1) := by decide +kernel
theorem dX5_bitAt_19 : decode cX5_bitAt 19 = .ok (.getfield 23, 3) := by decide +kernel
theorem dX5_bitAt_22 : decode cX5_bitAt 22 = .ok (.bipush 32, 2) := by decide +kernel
theorem dX5_bitAt_24 : decode cX5_bitAt 24 = .ok (.iload_n 1, 1) := by decide +kernel
theorem dX5_bitAt_25 : decode cX5_bitAt 25 = .ok (.imul, 1) := by decide +kernel
theorem dX5_bitAt_26 : decode cX5_bitAt 26 = .ok (.iload 4, 2) := by decide +kernel
theorem dX5_bitAt_28 : decode cX5_bitAt 28 = .ok (.bipush 8, 2) := by decide +kernel
theorem dX5_bitAt_30 : decode cX5_bitAt 30 = .ok (.idiv, 1) := by decide +kernel
theorem dX5_bitAt_31 : decode cX5_bitAt 31 = .ok (.iadd, 1) := by decide +kernel
theorem dX5_bitAt_32 : decode cX5_bitAt 32 = .ok (.baload, 1) := by decide +kernel
theorem dX5_bitAt_33 : decode cX5_bitAt 33 = .ok (.bipush 7, 2) := by decide +kernel
theorem dX5_bitAt_35 : decode cX5_bitAt 35 = .ok (.iload 4, 2) := by decide +kernel
theorem dX5_bitAt_37 : decode cX5_bitAt 37 = .ok (.bipush 8, 2) := by decide +kernel
theorem dX5_bitAt_39 : decode cX5_bitAt 39 = .ok (.irem, 1) := by decide +kernel
theorem dX5_bitAt_40 : decode cX5_bitAt 40 = .ok (.isub, 1) := by decide +kernel
theorem dX5_bitAt_41 : decode cX5_bitAt 41 = .ok (.ishr, 1) := by decide +kernel
theorem dX5_bitAt_42 : decode cX5_bitAt 42 = .ok (.iconst 1, 1) := by decide +kernel
theorem dX5_bitAt_43 : decode cX5_bitAt 43 = .ok (.iand, 1) := by decide +kernel
theorem dX5_bitAt_44 : decode cX5_bitAt 44 = .ok (.ireturn, 1) := by decide +kernel
theorem dX5_bitAt_45 : decode cX5_bitAt 45 = .ok (.iload 4, 2) := by decide +kernel
theorem dX5_bitAt_47 : decode cX5_bitAt 47 = .ok (.iload 5, 2) := by decide +kernel
theorem dX5_bitAt_49 : decode cX5_bitAt 49 = .ok (.bipush 55, 2) := by decide +kernel
theorem dX5_bitAt_51 : decode cX5_bitAt 51 = .ok (.iadd, 1) := by decide +kernel
theorem dX5_bitAt_52 : decode cX5_bitAt 52 = .ok (.if_icmp .ge 17, 3) := by decide +kernel
theorem dX5_bitAt_55 : decode cX5_bitAt 55 = .ok (.lload_n 2, 1) := by decide +kernel
theorem dX5_bitAt_56 : decode cX5_bitAt 56 = .ok (.bipush 54, 2) := by decide +kernel
theorem dX5_bitAt_58 : decode cX5_bitAt 58 = .ok (.iload 4, 2) := by decide +kernel
theorem dX5_bitAt_60 : decode cX5_bitAt 60 = .ok (.iload 5, 2) := by decide +kernel
theorem dX5_bitAt_62 : decode cX5_bitAt 62 = .ok (.isub, 1) := by decide +kernel
theorem dX5_bitAt_63 : decode cX5_bitAt 63 = .ok (.isub, 1) := by decide +kernel
theorem dX5_bitAt_64 : decode cX5_bitAt 64 = .ok (.lshr, 1) := by decide +kernel
theorem dX5_bitAt_65 : decode cX5_bitAt 65 = .ok (.lconst 1, 1) := by decide +kernel
theorem dX5_bitAt_66 : decode cX5_bitAt 66 = .ok (.land, 1) := by decide +kernel
theorem dX5_bitAt_67 : decode cX5_bitAt 67 = .ok (.l2i, 1) := by decide +kernel
theorem dX5_bitAt_68 : decode cX5_bitAt 68 = .ok (.ireturn, 1) := by decide +kernel
theorem dX5_bitAt_69 : decode cX5_bitAt 69 = .ok (.iload 4, 2) := by decide +kernel
theorem dX5_bitAt_71 : decode cX5_bitAt 71 = .ok (.iload 5, 2) := by decide +kernel
theorem dX5_bitAt_73 : decode cX5_bitAt 73 = .ok (.bipush 56, 2) := by decide +kernel
theorem dX5_bitAt_75 : decode cX5_bitAt 75 = .ok (.iadd, 1) := by decide +kernel
theorem dX5_bitAt_76 : decode cX5_bitAt 76 = .ok (.if_icmp .ne 5, 3) := by decide +kernel
theorem dX5_bitAt_79 : decode cX5_bitAt 79 = .ok (.iconst 1, 1) := by decide +kernel
theorem dX5_bitAt_80 : decode cX5_bitAt 80 = .ok (.ireturn, 1) := by decide +kernel
theorem dX5_bitAt_81 : decode cX5_bitAt 81 = .ok (.iload 4, 2) := by decide +kernel
theorem dX5_bitAt_83 : decode cX5_bitAt 83 = .ok (.sipush 448, 3) := by decide +kernel
theorem dX5_bitAt_86 : decode cX5_bitAt 86 = .ok (.if_icmp .ge 7, 3) := by decide +kernel
theorem dX5_bitAt_89 : decode cX5_bitAt 89 = .ok (.iconst 0, 1) := by decide +kernel
theorem dX5_bitAt_90 : decode cX5_bitAt 90 = .ok (.goto 19, 3) := by decide +kernel
theorem dX5_bitAt_93 : decode cX5_bitAt 93 = .ok (.iload 5, 2) := by decide +kernel
theorem dX5_bitAt_95 : decode cX5_bitAt 95 = .ok (.bipush 56, 2) := by decide +kernel
theorem dX5_bitAt_97 : decode cX5_bitAt 97 = .ok (.iadd, 1) := by decide +kernel
theorem dX5_bitAt_98 : decode cX5_bitAt 98 = .ok (.i2l, 1) := by decide +kernel
theorem dX5_bitAt_99 : decode cX5_bitAt 99 = .ok (.sipush 511, 3) := by decide +kernel
theorem dX5_bitAt_102 : decode cX5_bitAt 102 = .ok (.iload 4, 2) := by decide +kernel
theorem dX5_bitAt_104 : decode cX5_bitAt 104 = .ok (.isub, 1) := by decide +kernel
theorem dX5_bitAt_105 : decode cX5_bitAt 105 = .ok (.lshr, 1) := by decide +kernel
theorem dX5_bitAt_106 : decode cX5_bitAt 106 = .ok (.lconst 1, 1) := by decide +kernel
theorem dX5_bitAt_107 : decode cX5_bitAt 107 = .ok (.land, 1) := by decide +kernel
theorem dX5_bitAt_108 : decode cX5_bitAt 108 = .ok (.l2i, 1) := by decide +kernel
theorem dX5_bitAt_109 : decode cX5_bitAt 109 = .ok (.ireturn, 1) := by decide +kernel
set_option maxRecDepth 20000 in
theorem ggX5_reckon_X5_bitAt : GoodIn wsX5_reckon wsX5_bitAt := goodIn_ca (goodIn_r _ [11, 12, 13, 17, 18, 19, 20, 21, 22, 23, 24, 25, 26, 27, 28, 29, 30, 31, 32, 33, 34, 35, 36, 37, 38, 39] (by decide +kernel) (by decide +kernel)) (goodIn_sub (fun _ h => List.mem_cons_of_mem _ (List.mem_append_right _ h)) (by decide +kernel))
set_option maxRecDepth 20000 in
theorem gX5_reckon_X5_bitAt : GoodIn wsX5_reckon (wsV RX5 149 RX5 yX5_bitAt wsX5_bitAt) := goodIn_app (goodIn_of _ (by decide +kernel)) ggX5_reckon_X5_bitAt
set_option maxRecDepth 20000 in
theorem ggX5_reckon_X5_turn : GoodIn wsX5_reckon wsX5_turn := goodIn_r _ [16] (by decide +kernel) (by decide +kernel)
set_option maxRecDepth 20000 in
theorem gX5_reckon_X5_turn : GoodIn wsX5_reckon (va_wsS RX5 153 yX5_turn wsX5_turn) := goodIn_app (goodIn_of _ (by decide +kernel)) ggX5_reckon_X5_turn
theorem dX5_reckon_0 : decode cX5_reckon 0 = .ok (.iconst 0, 1) := by decide +kernel
theorem dX5_reckon_1 : decode cX5_reckon 1 = .ok (.istore 4, 2) := by decide +kernel
theorem dX5_reckon_3 : decode cX5_reckon 3 = .ok (.iload 4, 2) := by decide +kernel
theorem dX5_reckon_5 : decode cX5_reckon 5 = .ok (.bipush 64, 2) := by decide +kernel
theorem dX5_reckon_7 : decode cX5_reckon 7 = .ok (.if_icmp .ge 172, 3) := by decide +kernel
theorem dX5_reckon_10 : decode cX5_reckon 10 = .ok (.aload_n 0, 1) := by decide +kernel
theorem dX5_reckon_11 : decode cX5_reckon 11 = .ok (.getfield 49, 3) := by decide +kernel
theorem dX5_reckon_14 : decode cX5_reckon 14 = .ok (.iload 4, 2) := by decide +kernel
theorem dX5_reckon_16 : decode cX5_reckon 16 = .ok (.iconst 0, 1) := by decide +kernel
theorem dX5_reckon_17 : decode cX5_reckon 17 = .ok (.iastore, 1) := by decide +kernel
theorem dX5_reckon_18 : decode cX5_reckon 18 = .ok (.iconst 0, 1) := by decide +kernel
theorem dX5_reckon_19 : decode cX5_reckon 19 = .ok (.istore 5, 2) := by decide +kernel
theorem dX5_reckon_21 : decode cX5_reckon 21 = .ok (.iload 5, 2) := by decide +kernel
theorem dX5_reckon_23 : decode cX5_reckon 23 = .ok (.bipush 32, 2) := by decide +kernel
theorem dX5_reckon_25 : decode cX5_reckon 25 = .ok (.if_icmp .ge 47, 3) := by decide +kernel
theorem dX5_reckon_28 : decode cX5_reckon 28 = .ok (.iload 4, 2) := by decide +kernel
theorem dX5_reckon_30 : decode cX5_reckon 30 = .ok (.bipush 16, 2) := by decide +kernel
theorem dX5_reckon_32 : decode cX5_reckon 32 = .ok (.if_icmp .ge 40, 3) := by decide +kernel
theorem dX5_reckon_35 : decode cX5_reckon 35 = .ok (.aload_n 0, 1) := by decide +kernel
theorem dX5_reckon_36 : decode cX5_reckon 36 = .ok (.getfield 49, 3) := by decide +kernel
theorem dX5_reckon_39 : decode cX5_reckon 39 = .ok (.iload 4, 2) := by decide +kernel
theorem dX5_reckon_41 : decode cX5_reckon 41 = .ok (.iconst 2, 1) := by decide +kernel
theorem dX5_reckon_42 : decode cX5_reckon 42 = .ok (.aload_n 0, 1) := by decide +kernel
theorem dX5_reckon_43 : decode cX5_reckon 43 = .ok (.getfield 49, 3) := by decide +kernel
theorem dX5_reckon_46 : decode cX5_reckon 46 = .ok (.iload 4, 2) := by decide +kernel
theorem dX5_reckon_48 : decode cX5_reckon 48 = .ok (.iaload, 1) := by decide +kernel
theorem dX5_reckon_49 : decode cX5_reckon 49 = .ok (.imul, 1) := by decide +kernel
theorem dX5_reckon_50 : decode cX5_reckon 50 = .ok (.aload_n 0, 1) := by decide +kernel
theorem dX5_reckon_51 : decode cX5_reckon 51 = .ok (.iload_n 1, 1) := by decide +kernel
theorem dX5_reckon_52 : decode cX5_reckon 52 = .ok (.lload_n 2, 1) := by decide +kernel
theorem dX5_reckon_53 : decode cX5_reckon 53 = .ok (.bipush 32, 2) := by decide +kernel
theorem dX5_reckon_55 : decode cX5_reckon 55 = .ok (.iload 4, 2) := by decide +kernel
theorem dX5_reckon_57 : decode cX5_reckon 57 = .ok (.imul, 1) := by decide +kernel
theorem dX5_reckon_58 : decode cX5_reckon 58 = .ok (.iload 5, 2) := by decide +kernel
theorem dX5_reckon_60 : decode cX5_reckon 60 = .ok (.iadd, 1) := by decide +kernel
theorem dX5_reckon_61 : decode cX5_reckon 61 = .ok (.invokevirtual 149, 3) := by decide +kernel
theorem dX5_reckon_64 : decode cX5_reckon 64 = .ok (.iadd, 1) := by decide +kernel
theorem dX5_reckon_65 : decode cX5_reckon 65 = .ok (.iastore, 1) := by decide +kernel
theorem dX5_reckon_66 : decode cX5_reckon 66 = .ok (.iinc 5 1, 3) := by decide +kernel
theorem dX5_reckon_69 : decode cX5_reckon 69 = .ok (.goto (-48), 3) := by decide +kernel
theorem dX5_reckon_72 : decode cX5_reckon 72 = .ok (.iload 4, 2) := by decide +kernel
theorem dX5_reckon_74 : decode cX5_reckon 74 = .ok (.bipush 15, 2) := by decide +kernel
theorem dX5_reckon_76 : decode cX5_reckon 76 = .ok (.if_icmp .le 97, 3) := by decide +kernel
theorem dX5_reckon_79 : decode cX5_reckon 79 = .ok (.aload_n 0, 1) := by decide +kernel
theorem dX5_reckon_80 : decode cX5_reckon 80 = .ok (.getfield 49, 3) := by decide +kernel
theorem dX5_reckon_83 : decode cX5_reckon 83 = .ok (.iload 4, 2) := by decide +kernel
theorem dX5_reckon_85 : decode cX5_reckon 85 = .ok (.bipush 15, 2) := by decide +kernel
theorem dX5_reckon_87 : decode cX5_reckon 87 = .ok (.isub, 1) := by decide +kernel
theorem dX5_reckon_88 : decode cX5_reckon 88 = .ok (.iaload, 1) := by decide +kernel
theorem dX5_reckon_89 : decode cX5_reckon 89 = .ok (.istore 5, 2) := by decide +kernel
theorem dX5_reckon_91 : decode cX5_reckon 91 = .ok (.aload_n 0, 1) := by decide +kernel
theorem dX5_reckon_92 : decode cX5_reckon 92 = .ok (.getfield 49, 3) := by decide +kernel
theorem dX5_reckon_95 : decode cX5_reckon 95 = .ok (.iload 4, 2) := by decide +kernel
theorem dX5_reckon_97 : decode cX5_reckon 97 = .ok (.iconst 2, 1) := by decide +kernel
theorem dX5_reckon_98 : decode cX5_reckon 98 = .ok (.isub, 1) := by decide +kernel
theorem dX5_reckon_99 : decode cX5_reckon 99 = .ok (.iaload, 1) := by decide +kernel
theorem dX5_reckon_100 : decode cX5_reckon 100 = .ok (.istore 6, 2) := by decide +kernel
theorem dX5_reckon_102 : decode cX5_reckon 102 = .ok (.aload_n 0, 1) := by decide +kernel
theorem dX5_reckon_103 : decode cX5_reckon 103 = .ok (.getfield 49, 3) := by decide +kernel
theorem dX5_reckon_106 : decode cX5_reckon 106 = .ok (.iload 4, 2) := by decide +kernel
theorem dX5_reckon_108 : decode cX5_reckon 108 = .ok (.aload_n 0, 1) := by decide +kernel
theorem dX5_reckon_109 : decode cX5_reckon 109 = .ok (.getfield 49, 3) := by decide +kernel
theorem dX5_reckon_112 : decode cX5_reckon 112 = .ok (.iload 4, 2) := by decide +kernel
theorem dX5_reckon_114 : decode cX5_reckon 114 = .ok (.bipush 16, 2) := by decide +kernel
theorem dX5_reckon_116 : decode cX5_reckon 116 = .ok (.isub, 1) := by decide +kernel
theorem dX5_reckon_117 : decode cX5_reckon 117 = .ok (.iaload, 1) := by decide +kernel
theorem dX5_reckon_118 : decode cX5_reckon 118 = .ok (.iload 5, 2) := by decide +kernel
theorem dX5_reckon_120 : decode cX5_reckon 120 = .ok (.bipush 7, 2) := by decide +kernel
theorem dX5_reckon_122 : decode cX5_reckon 122 = .ok (.invokestatic 153, 3) := by decide +kernel
theorem dX5_reckon_125 : decode cX5_reckon 125 = .ok (.iload 5, 2) := by decide +kernel
theorem dX5_reckon_127 : decode cX5_reckon 127 = .ok (.bipush 18, 2) := by decide +kernel
theorem dX5_reckon_129 : decode cX5_reckon 129 = .ok (.invokestatic 153, 3) := by decide +kernel
theorem dX5_reckon_132 : decode cX5_reckon 132 = .ok (.ixor, 1) := by decide +kernel
theorem dX5_reckon_133 : decode cX5_reckon 133 = .ok (.iload 5, 2) := by decide +kernel
theorem dX5_reckon_135 : decode cX5_reckon 135 = .ok (.iconst 3, 1) := by decide +kernel
theorem dX5_reckon_136 : decode cX5_reckon 136 = .ok (.iushr, 1) := by decide +kernel
theorem dX5_reckon_137 : decode cX5_reckon 137 = .ok (.ixor, 1) := by decide +kernel
theorem dX5_reckon_138 : decode cX5_reckon 138 = .ok (.iadd, 1) := by decide +kernel
theorem dX5_reckon_139 : decode cX5_reckon 139 = .ok (.aload_n 0, 1) := by decide +kernel
theorem dX5_reckon_140 : decode cX5_reckon 140 = .ok (.getfield 49, 3) := by decide +kernel
theorem dX5_reckon_143 : decode cX5_reckon 143 = .ok (.iload 4, 2) := by decide +kernel
theorem dX5_reckon_145 : decode cX5_reckon 145 = .ok (.bipush 7, 2) := by decide +kernel
theorem dX5_reckon_147 : decode cX5_reckon 147 = .ok (.isub, 1) := by decide +kernel
theorem dX5_reckon_148 : decode cX5_reckon 148 = .ok (.iaload, 1) := by decide +kernel
theorem dX5_reckon_149 : decode cX5_reckon 149 = .ok (.iadd, 1) := by decide +kernel
theorem dX5_reckon_150 : decode cX5_reckon 150 = .ok (.iload 6, 2) := by decide +kernel
theorem dX5_reckon_152 : decode cX5_reckon 152 = .ok (.bipush 17, 2) := by decide +kernel
theorem dX5_reckon_154 : decode cX5_reckon 154 = .ok (.invokestatic 153, 3) := by decide +kernel
theorem dX5_reckon_157 : decode cX5_reckon 157 = .ok (.iload 6, 2) := by decide +kernel
theorem dX5_reckon_159 : decode cX5_reckon 159 = .ok (.bipush 19, 2) := by decide +kernel
theorem dX5_reckon_161 : decode cX5_reckon 161 = .ok (.invokestatic 153, 3) := by decide +kernel
theorem dX5_reckon_164 : decode cX5_reckon 164 = .ok (.ixor, 1) := by decide +kernel
theorem dX5_reckon_165 : decode cX5_reckon 165 = .ok (.iload 6, 2) := by decide +kernel
theorem dX5_reckon_167 : decode cX5_reckon 167 = .ok (.bipush 10, 2) := by decide +kernel
theorem dX5_reckon_169 : decode cX5_reckon 169 = .ok (.iushr, 1) := by decide +kernel
theorem dX5_reckon_170 : decode cX5_reckon 170 = .ok (.ixor, 1) := by decide +kernel
theorem dX5_reckon_171 : decode cX5_reckon 171 = .ok (.iadd, 1) := by decide +kernel
theorem dX5_reckon_172 : decode cX5_reckon 172 = .ok (.iastore, 1) := by decide +kernel
theorem dX5_reckon_173 : decode cX5_reckon 173 = .ok (.iinc 4 1, 3) := by decide +kernel
theorem dX5_reckon_176 : decode cX5_reckon 176 = .ok (.goto (-173), 3) := by decide +kernel
theorem dX5_reckon_179 : decode cX5_reckon 179 = .ok (.iconst 0, 1) := by decide +kernel
theorem dX5_reckon_180 : decode cX5_reckon 180 = .ok (.istore 4, 2) := by decide +kernel
theorem dX5_reckon_182 : decode cX5_reckon 182 = .ok (.iload 4, 2) := by decide +kernel
theorem dX5_reckon_184 : decode cX5_reckon 184 = .ok (.bipush 8, 2) := by decide +kernel
theorem dX5_reckon_186 : decode cX5_reckon 186 = .ok (.if_icmp .ge 23, 3) := by decide +kernel
theorem dX5_reckon_189 : decode cX5_reckon 189 = .ok (.aload_n 0, 1) := by decide +kernel
theorem dX5_reckon_190 : decode cX5_reckon 190 = .ok (.getfield 52, 3) := by decide +kernel
theorem dX5_reckon_193 : decode cX5_reckon 193 = .ok (.iload 4, 2) := by decide +kernel
theorem dX5_reckon_195 : decode cX5_reckon 195 = .ok (.aload_n 0, 1) := by decide +kernel
theorem dX5_reckon_196 : decode cX5_reckon 196 = .ok (.getfield 130, 3) := by decide +kernel
theorem dX5_reckon_199 : decode cX5_reckon 199 = .ok (.iload 4, 2) := by decide +kernel
theorem dX5_reckon_201 : decode cX5_reckon 201 = .ok (.iaload, 1) := by decide +kernel
theorem dX5_reckon_202 : decode cX5_reckon 202 = .ok (.iastore, 1) := by decide +kernel
theorem dX5_reckon_203 : decode cX5_reckon 203 = .ok (.iinc 4 1, 3) := by decide +kernel
theorem dX5_reckon_206 : decode cX5_reckon 206 = .ok (.goto (-24), 3) := by decide +kernel
theorem dX5_reckon_209 : decode cX5_reckon 209 = .ok (.iconst 0, 1) := by decide +kernel
theorem dX5_reckon_210 : decode cX5_reckon 210 = .ok (.istore 4, 2) := by decide +kernel
theorem dX5_reckon_212 : decode cX5_reckon 212 = .ok (.iload 4, 2) := by decide +kernel
theorem dX5_reckon_214 : decode cX5_reckon 214 = .ok (.bipush 64, 2) := by decide +kernel
theorem dX5_reckon_216 : decode cX5_reckon 216 = .ok (.if_icmp .ge 212, 3) := by decide +kernel
theorem dX5_reckon_219 : decode cX5_reckon 219 = .ok (.aload_n 0, 1) := by decide +kernel
theorem dX5_reckon_220 : decode cX5_reckon 220 = .ok (.getfield 52, 3) := by decide +kernel
theorem dX5_reckon_223 : decode cX5_reckon 223 = .ok (.iconst 4, 1) := by decide +kernel
theorem dX5_reckon_224 : decode cX5_reckon 224 = .ok (.iaload, 1) := by decide +kernel
theorem dX5_reckon_225 : decode cX5_reckon 225 = .ok (.istore 5, 2) := by decide +kernel
theorem dX5_reckon_227 : decode cX5_reckon 227 = .ok (.aload_n 0, 1) := by decide +kernel
theorem dX5_reckon_228 : decode cX5_reckon 228 = .ok (.getfield 52, 3) := by decide +kernel
theorem dX5_reckon_231 : decode cX5_reckon 231 = .ok (.iconst 0, 1) := by decide +kernel
theorem dX5_reckon_232 : decode cX5_reckon 232 = .ok (.iaload, 1) := by decide +kernel
theorem dX5_reckon_233 : decode cX5_reckon 233 = .ok (.istore 6, 2) := by decide +kernel
theorem dX5_reckon_235 : decode cX5_reckon 235 = .ok (.aload_n 0, 1) := by decide +kernel
theorem dX5_reckon_236 : decode cX5_reckon 236 = .ok (.getfield 52, 3) := by decide +kernel
theorem dX5_reckon_239 : decode cX5_reckon 239 = .ok (.bipush 7, 2) := by decide +kernel
theorem dX5_reckon_241 : decode cX5_reckon 241 = .ok (.iaload, 1) := by decide +kernel
theorem dX5_reckon_242 : decode cX5_reckon 242 = .ok (.iload 5, 2) := by decide +kernel
theorem dX5_reckon_244 : decode cX5_reckon 244 = .ok (.bipush 6, 2) := by decide +kernel
theorem dX5_reckon_246 : decode cX5_reckon 246 = .ok (.invokestatic 153, 3) := by decide +kernel
theorem dX5_reckon_249 : decode cX5_reckon 249 = .ok (.iload 5, 2) := by decide +kernel
theorem dX5_reckon_251 : decode cX5_reckon 251 = .ok (.bipush 11, 2) := by decide +kernel
theorem dX5_reckon_253 : decode cX5_reckon 253 = .ok (.invokestatic 153, 3) := by decide +kernel
theorem dX5_reckon_256 : decode cX5_reckon 256 = .ok (.ixor, 1) := by decide +kernel
theorem dX5_reckon_257 : decode cX5_reckon 257 = .ok (.iload 5, 2) := by decide +kernel
theorem dX5_reckon_259 : decode cX5_reckon 259 = .ok (.bipush 25, 2) := by decide +kernel
theorem dX5_reckon_261 : decode cX5_reckon 261 = .ok (.invokestatic 153, 3) := by decide +kernel
theorem dX5_reckon_264 : decode cX5_reckon 264 = .ok (.ixor, 1) := by decide +kernel
theorem dX5_reckon_265 : decode cX5_reckon 265 = .ok (.iadd, 1) := by decide +kernel
theorem dX5_reckon_266 : decode cX5_reckon 266 = .ok (.iload 5, 2) := by decide +kernel
theorem dX5_reckon_268 : decode cX5_reckon 268 = .ok (.aload_n 0, 1) := by decide +kernel
theorem dX5_reckon_269 : decode cX5_reckon 269 = .ok (.getfield 52, 3) := by decide +kernel
theorem dX5_reckon_272 : decode cX5_reckon 272 = .ok (.iconst 5, 1) := by decide +kernel
theorem dX5_reckon_273 : decode cX5_reckon 273 = .ok (.iaload, 1) := by decide +kernel
theorem dX5_reckon_274 : decode cX5_reckon 274 = .ok (.iand, 1) := by decide +kernel
theorem dX5_reckon_275 : decode cX5_reckon 275 = .ok (.iload 5, 2) := by decide +kernel
theorem dX5_reckon_277 : decode cX5_reckon 277 = .ok (.iconst (-1), 1) := by decide +kernel
theorem dX5_reckon_278 : decode cX5_reckon 278 = .ok (.ixor, 1) := by decide +kernel
theorem dX5_reckon_279 : decode cX5_reckon 279 = .ok (.aload_n 0, 1) := by decide +kernel
theorem dX5_reckon_280 : decode cX5_reckon 280 = .ok (.getfield 52, 3) := by decide +kernel
theorem dX5_reckon_283 : decode cX5_reckon 283 = .ok (.bipush 6, 2) := by decide +kernel
theorem dX5_reckon_285 : decode cX5_reckon 285 = .ok (.iaload, 1) := by decide +kernel
theorem dX5_reckon_286 : decode cX5_reckon 286 = .ok (.iand, 1) := by decide +kernel
theorem dX5_reckon_287 : decode cX5_reckon 287 = .ok (.ixor, 1) := by decide +kernel
theorem dX5_reckon_288 : decode cX5_reckon 288 = .ok (.iadd, 1) := by decide +kernel
theorem dX5_reckon_289 : decode cX5_reckon 289 = .ok (.aload_n 0, 1) := by decide +kernel
theorem dX5_reckon_290 : decode cX5_reckon 290 = .ok (.getfield 119, 3) := by decide +kernel
theorem dX5_reckon_293 : decode cX5_reckon 293 = .ok (.iload 4, 2) := by decide +kernel
theorem dX5_reckon_295 : decode cX5_reckon 295 = .ok (.iaload, 1) := by decide +kernel
theorem dX5_reckon_296 : decode cX5_reckon 296 = .ok (.iadd, 1) := by decide +kernel
theorem dX5_reckon_297 : decode cX5_reckon 297 = .ok (.aload_n 0, 1) := by decide +kernel
theorem dX5_reckon_298 : decode cX5_reckon 298 = .ok (.getfield 49, 3) := by decide +kernel
theorem dX5_reckon_301 : decode cX5_reckon 301 = .ok (.iload 4, 2) := by decide +kernel
theorem dX5_reckon_303 : decode cX5_reckon 303 = .ok (.iaload, 1) := by decide +kernel
theorem dX5_reckon_304 : decode cX5_reckon 304 = .ok (.iadd, 1) := by decide +kernel
theorem dX5_reckon_305 : decode cX5_reckon 305 = .ok (.istore 7, 2) := by decide +kernel
theorem dX5_reckon_307 : decode cX5_reckon 307 = .ok (.iload 6, 2) := by decide +kernel
theorem dX5_reckon_309 : decode cX5_reckon 309 = .ok (.iconst 2, 1) := by decide +kernel
theorem dX5_reckon_310 : decode cX5_reckon 310 = .ok (.invokestatic 153, 3) := by decide +kernel
theorem dX5_reckon_313 : decode cX5_reckon 313 = .ok (.iload 6, 2) := by decide +kernel
theorem dX5_reckon_315 : decode cX5_reckon 315 = .ok (.bipush 13, 2) := by decide +kernel
theorem dX5_reckon_317 : decode cX5_reckon 317 = .ok (.invokestatic 153, 3) := by decide +kernel
theorem dX5_reckon_320 : decode cX5_reckon 320 = .ok (.ixor, 1) := by decide +kernel
theorem dX5_reckon_321 : decode cX5_reckon 321 = .ok (.iload 6, 2) := by decide +kernel
theorem dX5_reckon_323 : decode cX5_reckon 323 = .ok (.bipush 22, 2) := by decide +kernel
theorem dX5_reckon_325 : decode cX5_reckon 325 = .ok (.invokestatic 153, 3) := by decide +kernel
theorem dX5_reckon_328 : decode cX5_reckon 328 = .ok (.ixor, 1) := by decide +kernel
theorem dX5_reckon_329 : decode cX5_reckon 329 = .ok (.iload 6, 2) := by decide +kernel
theorem dX5_reckon_331 : decode cX5_reckon 331 = .ok (.aload_n 0, 1) := by decide +kernel
theorem dX5_reckon_332 : decode cX5_reckon 332 = .ok (.getfield 52, 3) := by decide +kernel
theorem dX5_reckon_335 : decode cX5_reckon 335 = .ok (.iconst 1, 1) := by decide +kernel
theorem dX5_reckon_336 : decode cX5_reckon 336 = .ok (.iaload, 1) := by decide +kernel
theorem dX5_reckon_337 : decode cX5_reckon 337 = .ok (.iand, 1) := by decide +kernel
theorem dX5_reckon_338 : decode cX5_reckon 338 = .ok (.iload 6, 2) := by decide +kernel
theorem dX5_reckon_340 : decode cX5_reckon 340 = .ok (.aload_n 0, 1) := by decide +kernel
theorem dX5_reckon_341 : decode cX5_reckon 341 = .ok (.getfield 52, 3) := by decide +kernel
theorem dX5_reckon_344 : decode cX5_reckon 344 = .ok (.iconst 2, 1) := by decide +kernel
theorem dX5_reckon_345 : decode cX5_reckon 345 = .ok (.iaload, 1) := by decide +kernel
theorem dX5_reckon_346 : decode cX5_reckon 346 = .ok (.iand, 1) := by decide +kernel
theorem dX5_reckon_347 : decode cX5_reckon 347 = .ok (.ixor, 1) := by decide +kernel
theorem dX5_reckon_348 : decode cX5_reckon 348 = .ok (.aload_n 0, 1) := by decide +kernel
theorem dX5_reckon_349 : decode cX5_reckon 349 = .ok (.getfield 52, 3) := by decide +kernel
theorem dX5_reckon_352 : decode cX5_reckon 352 = .ok (.iconst 1, 1) := by decide +kernel
theorem dX5_reckon_353 : decode cX5_reckon 353 = .ok (.iaload, 1) := by decide +kernel
theorem dX5_reckon_354 : decode cX5_reckon 354 = .ok (.aload_n 0, 1) := by decide +kernel
theorem dX5_reckon_355 : decode cX5_reckon 355 = .ok (.getfield 52, 3) := by decide +kernel
theorem dX5_reckon_358 : decode cX5_reckon 358 = .ok (.iconst 2, 1) := by decide +kernel
theorem dX5_reckon_359 : decode cX5_reckon 359 = .ok (.iaload, 1) := by decide +kernel
theorem dX5_reckon_360 : decode cX5_reckon 360 = .ok (.iand, 1) := by decide +kernel
theorem dX5_reckon_361 : decode cX5_reckon 361 = .ok (.ixor, 1) := by decide +kernel
theorem dX5_reckon_362 : decode cX5_reckon 362 = .ok (.iadd, 1) := by decide +kernel
theorem dX5_reckon_363 : decode cX5_reckon 363 = .ok (.istore 8, 2) := by decide +kernel
theorem dX5_reckon_365 : decode cX5_reckon 365 = .ok (.bipush 7, 2) := by decide +kernel
theorem dX5_reckon_367 : decode cX5_reckon 367 = .ok (.istore 9, 2) := by decide +kernel
theorem dX5_reckon_369 : decode cX5_reckon 369 = .ok (.iload 9, 2) := by decide +kernel
theorem dX5_reckon_371 : decode cX5_reckon 371 = .ok (.ifCond .le 25, 3) := by decide +kernel
theorem dX5_reckon_374 : decode cX5_reckon 374 = .ok (.aload_n 0, 1) := by decide +kernel
theorem dX5_reckon_375 : decode cX5_reckon 375 = .ok (.getfield 52, 3) := by decide +kernel
theorem dX5_reckon_378 : decode cX5_reckon 378 = .ok (.iload 9, 2) := by decide +kernel
theorem dX5_reckon_380 : decode cX5_reckon 380 = .ok (.aload_n 0, 1) := by decide +kernel
theorem dX5_reckon_381 : decode cX5_reckon 381 = .ok (.getfield 52, 3) := by decide +kernel
theorem dX5_reckon_384 : decode cX5_reckon 384 = .ok (.iload 9, 2) := by decide +kernel
theorem dX5_reckon_386 : decode cX5_reckon 386 = .ok (.iconst 1, 1) := by decide +kernel
theorem dX5_reckon_387 : decode cX5_reckon 387 = .ok (.isub, 1) := by decide +kernel
theorem dX5_reckon_388 : decode cX5_reckon 388 = .ok (.iaload, 1) := by decide +kernel
theorem dX5_reckon_389 : decode cX5_reckon 389 = .ok (.iastore, 1) := by decide +kernel
theorem dX5_reckon_390 : decode cX5_reckon 390 = .ok (.iinc 9 (-1), 3) := by decide +kernel
theorem dX5_reckon_393 : decode cX5_reckon 393 = .ok (.goto (-24), 3) := by decide +kernel
theorem dX5_reckon_396 : decode cX5_reckon 396 = .ok (.aload_n 0, 1) := by decide +kernel
theorem dX5_reckon_397 : decode cX5_reckon 397 = .ok (.getfield 52, 3) := by decide +kernel
theorem dX5_reckon_400 : decode cX5_reckon 400 = .ok (.iconst 4, 1) := by decide +kernel
theorem dX5_reckon_401 : decode cX5_reckon 401 = .ok (.aload_n 0, 1) := by decide +kernel
theorem dX5_reckon_402 : decode cX5_reckon 402 = .ok (.getfield 52, 3) := by decide +kernel
theorem dX5_reckon_405 : decode cX5_reckon 405 = .ok (.iconst 4, 1) := by decide +kernel
theorem dX5_reckon_406 : decode cX5_reckon 406 = .ok (.iaload, 1) := by decide +kernel
theorem dX5_reckon_407 : decode cX5_reckon 407 = .ok (.iload 7, 2) := by decide +kernel
theorem dX5_reckon_409 : decode cX5_reckon 409 = .ok (.iadd, 1) := by decide +kernel
theorem dX5_reckon_410 : decode cX5_reckon 410 = .ok (.iastore, 1) := by decide +kernel
theorem dX5_reckon_411 : decode cX5_reckon 411 = .ok (.aload_n 0, 1) := by decide +kernel
theorem dX5_reckon_412 : decode cX5_reckon 412 = .ok (.getfield 52, 3) := by decide +kernel
theorem dX5_reckon_415 : decode cX5_reckon 415 = .ok (.iconst 0, 1) := by decide +kernel
theorem dX5_reckon_416 : decode cX5_reckon 416 = .ok (.iload 7, 2) := by decide +kernel
theorem dX5_reckon_418 : decode cX5_reckon 418 = .ok (.iload 8, 2) := by decide +kernel
theorem dX5_reckon_420 : decode cX5_reckon 420 = .ok (.iadd, 1) := by decide +kernel
theorem dX5_reckon_421 : decode cX5_reckon 421 = .ok (.iastore, 1) := by decide +kernel
theorem dX5_reckon_422 : decode cX5_reckon 422 = .ok (.iinc 4 1, 3) := by decide +kernel
theorem dX5_reckon_425 : decode cX5_reckon 425 = .ok (.goto (-213), 3) := by decide +kernel
theorem dX5_reckon_428 : decode cX5_reckon 428 = .ok (.iconst 0, 1) := by decide +kernel
theorem dX5_reckon_429 : decode cX5_reckon 429 = .ok (.istore 4, 2) := by decide +kernel
theorem dX5_reckon_431 : decode cX5_reckon 431 = .ok (.iload 4, 2) := by decide +kernel
theorem dX5_reckon_433 : decode cX5_reckon 433 = .ok (.bipush 32, 2) := by decide +kernel
theorem dX5_reckon_435 : decode cX5_reckon 435 = .ok (.if_icmp .ge 47, 3) := by decide +kernel
theorem dX5_reckon_438 : decode cX5_reckon 438 = .ok (.aload_n 0, 1) := by decide +kernel
theorem dX5_reckon_439 : decode cX5_reckon 439 = .ok (.getfield 46, 3) := by decide +kernel
theorem dX5_reckon_442 : decode cX5_reckon 442 = .ok (.iload 4, 2) := by decide +kernel
theorem dX5_reckon_444 : decode cX5_reckon 444 = .ok (.aload_n 0, 1) := by decide +kernel
theorem dX5_reckon_445 : decode cX5_reckon 445 = .ok (.getfield 52, 3) := by decide +kernel
theorem dX5_reckon_448 : decode cX5_reckon 448 = .ok (.iload 4, 2) := by decide +kernel
theorem dX5_reckon_450 : decode cX5_reckon 450 = .ok (.iconst 4, 1) := by decide +kernel
theorem dX5_reckon_451 : decode cX5_reckon 451 = .ok (.idiv, 1) := by decide +kernel
theorem dX5_reckon_452 : decode cX5_reckon 452 = .ok (.iaload, 1) := by decide +kernel
theorem dX5_reckon_453 : decode cX5_reckon 453 = .ok (.aload_n 0, 1) := by decide +kernel
theorem dX5_reckon_454 : decode cX5_reckon 454 = .ok (.getfield 130, 3) := by decide +kernel
theorem dX5_reckon_457 : decode cX5_reckon 457 = .ok (.iload 4, 2) := by decide +kernel
theorem dX5_reckon_459 : decode cX5_reckon 459 = .ok (.iconst 4, 1) := by decide +kernel
theorem dX5_reckon_460 : decode cX5_reckon 460 = .ok (.idiv, 1) := by decide +kernel
theorem dX5_reckon_461 : decode cX5_reckon 461 = .ok (.iaload, 1) := by decide +kernel
theorem dX5_reckon_462 : decode cX5_reckon 462 = .ok (.iadd, 1) := by decide +kernel
theorem dX5_reckon_463 : decode cX5_reckon 463 = .ok (.bipush 24, 2) := by decide +kernel
theorem dX5_reckon_465 : decode cX5_reckon 465 = .ok (.bipush 8, 2) := by decide +kernel
theorem dX5_reckon_467 : decode cX5_reckon 467 = .ok (.iload 4, 2) := by decide +kernel
theorem dX5_reckon_469 : decode cX5_reckon 469 = .ok (.iconst 4, 1) := by decide +kernel
theorem dX5_reckon_470 : decode cX5_reckon 470 = .ok (.irem, 1) := by decide +kernel
theorem dX5_reckon_471 : decode cX5_reckon 471 = .ok (.imul, 1) := by decide +kernel
theorem dX5_reckon_472 : decode cX5_reckon 472 = .ok (.isub, 1) := by decide +kernel
theorem dX5_reckon_473 : decode cX5_reckon 473 = .ok (.ishr, 1) := by decide +kernel
theorem dX5_reckon_474 : decode cX5_reckon 474 = .ok (.i2b, 1) := by decide +kernel
theorem dX5_reckon_475 : decode cX5_reckon 475 = .ok (.bastore, 1) := by decide +kernel
theorem dX5_reckon_476 : decode cX5_reckon 476 = .ok (.iinc 4 1, 3) := by decide +kernel
theorem dX5_reckon_479 : decode cX5_reckon 479 = .ok (.goto (-48), 3) := by decide +kernel
theorem dX5_reckon_482 : decode cX5_reckon 482 = .ok (.aload_n 0, 1) := by decide +kernel
theorem dX5_reckon_483 : decode cX5_reckon 483 = .ok (.iconst 1, 1) := by decide +kernel
theorem dX5_reckon_484 : decode cX5_reckon 484 = .ok (.putfield 157, 3) := by decide +kernel
theorem dX5_reckon_487 : decode cX5_reckon 487 = .ok (.return_, 1) := by decide +kernel
theorem dX5_five_0 : decode cX5_five 0 = .ok (.iconst 0, 1) := by decide +kernel
theorem dX5_five_1 : decode cX5_five 1 = .ok (.istore_n 2, 1) := by decide +kernel
theorem dX5_five_2 : decode cX5_five 2 = .ok (.iconst 5, 1) := by decide +kernel
theorem dX5_five_3 : decode cX5_five 3 = .ok (.iload_n 1, 1) := by decide +kernel
theorem dX5_five_4 : decode cX5_five 4 = .ok (.imul, 1) := by decide +kernel
theorem dX5_five_5 : decode cX5_five 5 = .ok (.istore_n 3, 1) := by decide +kernel
theorem dX5_five_6 : decode cX5_five 6 = .ok (.iload_n 3, 1) := by decide +kernel
theorem dX5_five_7 : decode cX5_five 7 = .ok (.iconst 5, 1) := by decide +kernel
theorem dX5_five_8 : decode cX5_five 8 = .ok (.iload_n 1, 1) := by decide +kernel
theorem dX5_five_9 : decode cX5_five 9 = .ok (.imul, 1) := by decide +kernel
theorem dX5_five_10 : decode cX5_five 10 = .ok (.iconst 5, 1) := by decide +kernel
theorem dX5_five_11 : decode cX5_five 11 = .ok (.iadd, 1) := by decide +kernel
theorem dX5_five_12 : decode cX5_five 12 = .ok (.if_icmp .ge 33, 3) := by decide +kernel
theorem dX5_five_15 : decode cX5_five 15 = .ok (.iconst 2, 1) := by decide +kernel
theorem dX5_five_16 : decode cX5_five 16 = .ok (.iload_n 2, 1) := by decide +kernel
theorem dX5_five_17 : decode cX5_five 17 = .ok (.imul, 1) := by decide +kernel
theorem dX5_five_18 : decode cX5_five 18 = .ok (.aload_n 0, 1) := by decide +kernel
theorem dX5_five_19 : decode cX5_five 19 = .ok (.getfield 46, 3) := by decide +kernel
theorem dX5_five_22 : decode cX5_five 22 = .ok (.iload_n 3, 1) := by decide +kernel
theorem dX5_five_23 : decode cX5_five 23 = .ok (.bipush 8, 2) := by decide +kernel
theorem dX5_five_25 : decode cX5_five 25 = .ok (.idiv, 1) := by decide +kernel
theorem dX5_five_26 : decode cX5_five 26 = .ok (.baload, 1) := by decide +kernel
theorem dX5_five_27 : decode cX5_five 27 = .ok (.bipush 7, 2) := by decide +kernel
theorem dX5_five_29 : decode cX5_five 29 = .ok (.iload_n 3, 1) := by decide +kernel
theorem dX5_five_30 : decode cX5_five 30 = .ok (.bipush 8, 2) := by decide +kernel
theorem dX5_five_32 : decode cX5_five 32 = .ok (.irem, 1) := by decide +kernel
theorem dX5_five_33 : decode cX5_five 33 = .ok (.isub, 1) := by decide +kernel
theorem dX5_five_34 : decode cX5_five 34 = .ok (.ishr, 1) := by decide +kernel
theorem dX5_five_35 : decode cX5_five 35 = .ok (.iconst 1, 1) := by decide +kernel
theorem dX5_five_36 : decode cX5_five 36 = .ok (.iand, 1) := by decide +kernel
theorem dX5_five_37 : decode cX5_five 37 = .ok (.iadd, 1) := by decide +kernel
theorem dX5_five_38 : decode cX5_five 38 = .ok (.istore_n 2, 1) := by decide +kernel
theorem dX5_five_39 : decode cX5_five 39 = .ok (.iinc 3 1, 3) := by decide +kernel
theorem dX5_five_42 : decode cX5_five 42 = .ok (.goto (-36), 3) := by decide +kernel
theorem dX5_five_45 : decode cX5_five 45 = .ok (.iload_n 2, 1) := by decide +kernel
theorem dX5_five_46 : decode cX5_five 46 = .ok (.ireturn, 1) := by decide +kernel
