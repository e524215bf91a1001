theorem dX5_octet_54 : decode cX5_octet 54 = .ok (.iload_n 1, 1) := by decide +kernel
theorem dX5_octet_55 : decode cX5_octet 55 = .ok (.dup2, 1) := by decide +kernel
theorem dX5_octet_56 : decode cX5_octet 56 = .ok (.iaload, 1) := by decide +kernel
theorem dX5_octet_57 : decode cX5_octet 57 = .ok (.iconst 1, 1) := by decide +kernel
theorem dX5_octet_58 : decode cX5_octet 58 = .ok (.iadd, 1) := by decide +kernel
theorem dX5_octet_59 : decode cX5_octet 59 = .ok (.iastore, 1) := by decide +kernel
theorem dX5_octet_60 : decode cX5_octet 60 = .ok (.return_, 1) := by decide +kernel
theorem dX5_turn_0 : decode cX5_turn 0 = .ok (.iload_n 0, 1) := by decide +kernel
theorem dX5_turn_1 : decode cX5_turn 1 = .ok (.iload_n 1, 1) := by decide +kernel
theorem dX5_turn_2 : decode cX5_turn 2 = .ok (.iushr, 1) := by decide +kernel
theorem dX5_turn_3 : decode cX5_turn 3 = .ok (.iload_n 0, 1) := by decide +kernel
theorem dX5_turn_4 : decode cX5_turn 4 = .ok (.bipush 32, 2) := by decide +kernel
theorem dX5_turn_6 : decode cX5_turn 6 = .ok (.iload_n 1, 1) := by decide +kernel
theorem dX5_turn_7 : decode cX5_turn 7 = .ok (.isub, 1) := by decide +kernel
theorem dX5_turn_8 : decode cX5_turn 8 = .ok (.ishl, 1) := by decide +kernel
theorem dX5_turn_9 : decode cX5_turn 9 = .ok (.ior, 1) := by decide +kernel
theorem dX5_turn_10 : decode cX5_turn 10 = .ok (.ireturn, 1) := by decide +kernel
theorem dX5_bitAt_0 : decode cX5_bitAt 0 = .ok (.bipush 8, 2) := by decide +kernel
theorem dX5_bitAt_2 : decode cX5_bitAt 2 = .ok (.aload_n 0, 1) := by decide +kernel
theorem dX5_bitAt_3 : decode cX5_bitAt 3 = .ok (.getfield 16, 3) := by decide +kernel
theorem dX5_bitAt_6 : decode cX5_bitAt 6 = .ok (.iload_n 1, 1) := by decide +kernel
theorem dX5_bitAt_7 : decode cX5_bitAt 7 = .ok (.iaload, 1) := by decide +kernel
theorem dX5_bitAt_8 : decode cX5_bitAt 8 = .ok (.imul, 1) := by decide +kernel
theorem dX5_bitAt_9 : decode cX5_bitAt 9 = .ok (.istore 5, 2) := by decide +kernel
theorem dX5_bitAt_11 : decode cX5_bitAt 11 = .ok (.iload 4, 2) := by decide +kernel
theorem dX5_bitAt_13 : decode cX5_bitAt 13 = .ok (.iload 5, 2) := by decide +kernel
theorem dX5_bitAt_15 : decode cX5_bitAt 15 = .ok (.if_icmp .ge 30, 3) := by decide +kernel
theorem dX5_bitAt_18 : decode cX5_bitAt 18 = .ok (.aload_n 0, 1) := by decide +kernel
theorem dX5_bitAt_19 : decode cX5_bitAt 19 = .ok (.getfield 23, 3) := by decide +kernel
theorem dX5_bitAt_22 : decode cX5_bitAt 22 = .ok (.bipush 32, 2) := by decide +kernel
theorem dX5_bitAt_24 : decode cX5_bitAt 24 = .ok (.iload_n 1, 1) := by decide +kernel
theorem dX5_bitAt_25 : decode cX5_bitAt 25 = .ok (.imul, 1) := by decide +kernel
theorem dX5_bitAt_26 : decode cX5_bitAt 26 = .ok (.iload 4, 2) := by decide +kernel
theorem dX5_bitAt_28 : decode cX5_bitAt 28 = .ok (.bipush 8, 2) := by decide +kernel
theorem dX5_bitAt_30 : decode cX5_bitAt 30 = .ok (.idiv, 1) := by decide +kernel
theorem dX5_bitAt_31 : decode cX5_bitAt 31 = .ok (.iadd, 1) := by decide +kernel
theorem dX5_bitAt_32 : decode cX5_bitAt 32 = .ok (.baload, 1) := by decide +kernel
theorem dX5_bitAt_33 : decode cX5_bitAt 33 = .ok (.bipush 7, 2) := by decide +kernel
theorem dX5_bitAt_35 : decode cX5_bitAt 35 = .ok (.iload 4, 2) := by decide +kernel
theorem dX5_bitAt_37 : decode cX5_bitAt 37 = .ok (.bipush 8, 2) := by decide +kernel
theorem dX5_bitAt_39 : decode cX5_bitAt 39 = .ok (.irem, 1) := by decide +kernel
theorem dX5_bitAt_40 : decode cX5_bitAt 40 = .ok (.isub, 1) := by decide +kernel
theorem dX5_bitAt_41 : decode cX5_bitAt 41 = .ok (.ishr, 1) := by decide +kernel
theorem dX5_bitAt_42 : decode cX5_bitAt 42 = .ok (.iconst 1, 1) := by decide +kernel
theorem dX5_bitAt_43 : decode cX5_bitAt 43 = .ok (.iand, 1) := by decide +kernel
theorem dX5_bitAt_44 : decode cX5_bitAt 44 = .ok (.ireturn, 1) := by decide +kernel
theorem dX5_bitAt_45 : decode cX5_bitAt 45 = .ok (.iload 4, 2) := by decide +kernel
theorem dX5_bitAt_47 : decode cX5_bitAt 47 = .ok (.iload 5, 2) := by decide +kernel
theorem dX5_bitAt_49 : decode cX5_bitAt 49 = .ok (.bipush 55, 2) := by decide +kernel
theorem dX5_bitAt_51 : decode cX5_bitAt 51 = .ok (.iadd, 1) := by decide +kernel
theorem dX5_bitAt_52 : decode cX5_bitAt 52 = .ok (.if_icmp .ge 17, 3) := by decide +kernel
theorem dX5_bitAt_55 : decode cX5_bitAt 55 = .ok (.lload_n 2, 1) := by decide +kernel
theorem dX5_bitAt_56 : decode cX5_bitAt 56 = .ok (.bipush 54, 2) := by decide +kernel
theorem dX5_bitAt_58 : decode cX5_bitAt 58 = .ok (.iload 4, 2) := by decide +kernel
theorem dX5_bitAt_60 : decode cX5_bitAt 60 = .ok (.iload 5, 2) := by decide +kernel
theorem dX5_bitAt_62 : decode cX5_bitAt 62 = .ok (.isub, 1) := by decide +kernel
theorem dX5_bitAt_63 : decode cX5_bitAt 63 = .ok (.isub, 1) := by decide +kernel
theorem dX5_bitAt_64 : decode cX5_bitAt 64 = .ok (.lshr, 1) := by decide +kernel
theorem dX5_bitAt_65 : decode cX5_bitAt 65 = .ok (.lconst 1, 1) := by decide +kernel
theorem dX5_bitAt_66 : decode cX5_bitAt 66 = .ok (.land, 1) := by decide +kernel
theorem dX5_bitAt_67 : decode cX5_bitAt 67 = .ok (.l2i, 1) := by decide +kernel
theorem dX5_bitAt_68 : decode cX5_bitAt 68 = .ok (.ireturn, 1) := by decide +kernel
theorem dX5_bitAt_69 : decode cX5_bitAt 69 = .ok (.iload 4, 2) := by decide +kernel
theorem dX5_bitAt_71 : decode cX5_bitAt 71 = .ok (.iload 5, 2) := by decide +kernel
theorem dX5_bitAt_73 : decode cX5_bitAt 73 = .ok (.bipush 56, 2) := by decide +kernel
theorem dX5_bitAt_75 : decode cX5_bitAt 75 = .ok (.iadd, 1) := by decide +kernel
theorem dX5_bitAt_76 : decode cX5_bitAt 76 = .ok (.if_icmp .ne 5, 3) := by decide +kernel
theorem dX5_bitAt_79 : decode cX5_bitAt 79 = .ok (.iconst 1, 1) := by decide +kernel
theorem dX5_bitAt_80 : decode cX5_bitAt 80 = .ok (.ireturn, 1) := by decide +kernel
theorem dX5_bitAt_81 : decode cX5_bitAt 81 = .ok (.iload 4, 2) := by decide +kernel
theorem dX5_bitAt_83 : decode cX5_bitAt 83 = .ok (.sipush 448, 3) := by decide +kernel
theorem dX5_bitAt_86 : decode cX5_bitAt 86 = .ok (.if_icmp .ge 7, 3) := by decide +kernel
theorem dX5_bitAt_89 : decode cX5_bitAt 89 = .ok (.iconst 0, 1) := by decide +kernel
theorem dX5_bitAt_90 : decode cX5_bitAt 90 = .ok (.goto 19, 3) := by decide +kernel
theorem dX5_bitAt_93 : decode cX5_bitAt 93 = .ok (.iload 5, 2) := by decide +kernel
theorem dX5_bitAt_95 : decode cX5_bitAt 95 = .ok (.bipush 56, 2) := by decide +kernel
theorem dX5_bitAt_97 : decode cX5_bitAt 97 = .ok (.iadd, 1) := by decide +kernel
theorem dX5_bitAt_98 : decode cX5_bitAt 98 = .ok (.i2l, 1) := by decide +kernel
theorem dX5_bitAt_99 : decode cX5_bitAt 99 = .ok (.sipush 511, 3) := by decide +kernel
theorem dX5_bitAt_102 : decode cX5_bitAt 102 = .ok (.iload 4, 2) := by decide +kernel
theorem dX5_bitAt_104 : decode cX5_bitAt 104 = .ok (.isub, 1) := by decide +kernel
theorem dX5_bitAt_105 : decode cX5_bitAt 105 = .ok (.lshr, 1) := by decide +kernel
theorem dX5_bitAt_106 : decode cX5_bitAt 106 = .ok (.lconst 1, 1) := by decide +kernel
theorem dX5_bitAt_107 : decode cX5_bitAt 107 = .ok (.land, 1) := by decide +kernel
theorem dX5_bitAt_108 : decode cX5_bitAt 108 = .ok (.l2i, 1) := by decide +kernel
theorem dX5_bitAt_109 : decode cX5_bitAt 109 = .ok (.ireturn, 1) := by decide +kernel
set_option maxRecDepth 20000 in
theorem ggX5_reckon_X5_bitAt : GoodIn wsX5_reckon wsX5_bitAt := goodIn_ca (goodIn_r _ [11, 12, 13, 17, 18, 19, 20, 21, 22, 23, 24, 25, 26, 27, 28, 29, 30, 31, 32, 33, 34, 35, 36, 37, 38, 39] (by decide +kernel) (by decide +kernel)) (goodIn_sub (fun _ h => List.mem_cons_of_mem _ (List.mem_append_right _ h)) (by decide +kernel))
set_option maxRecDepth 20000 in
theorem gX5_reckon_X5_bitAt : GoodIn wsX5_reckon (wsV RX5 149 RX5 yX5_bitAt wsX5_bitAt) := goodIn_app (goodIn_of _ (by decide +kernel)) ggX5_reckon_X5_bitAt
set_option maxRecDepth 20000 in
theorem ggX5_reckon_X5_turn : GoodIn wsX5_reckon wsX5_turn := goodIn_r _ [16] (by decide +kernel) (by decide +kernel)
set_option maxRecDepth 20000 in
theorem gX5_reckon_X5_turn : GoodIn wsX5_reckon (va_wsS RX5 153 yX5_turn wsX5_turn) := goodIn_app (goodIn_of _ (by decide +kernel)) ggX5_reckon_X5_turn
theorem dX5_reckon_0 : decode cX5_reckon 0 = .ok (.iconst 0, 1) := by decide +kernel
theorem dX5_reckon_1 : decode cX5_reckon 1 = .ok (.istore 4, 2) := by decide +kernel
theorem dX5_reckon_3 : decode cX5_reckon 3 = .ok (.iload 4, 2) := by decide +kernel
theorem dX5_reckon_5 : decode cX5_reckon 5 = .ok (.bipush 64, 2) := by decide +kernel
theorem dX5_reckon_7 : decode cX5_reckon 7 = .ok (.if_icmp .ge 172, 3) := by decide +kernel
theorem dX5_reckon_10 : decode cX5_reckon 10 = .ok (.aload_n 0, 1) := by decide +kernel
theorem dX5_reckon_11 : decode cX5_reckon 11 = .ok (.getfield 49, 3) := by decide +kernel
theorem dX5_reckon_14 : decode cX5_reckon 14 = .ok (.iload 4, 2) := by decide +kernel
theorem dX5_reckon_16 : decode cX5_reckon 16 = .ok (.iconst 0, 1) := by decide +kernel
theorem dX5_reckon_17 : decode cX5_reckon 17 = .ok (.iastore, 1) := by decide +kernel
theorem dX5_reckon_18 : decode cX5_reckon 18 = .ok (.iconst 0, 1) := by decide +kernel
theorem dX5_reckon_19 : decode cX5_reckon 19 = .ok (.istore 5, 2) := by decide +kernel
theorem dX5_reckon_21 : decode cX5_reckon 21 = .ok (.iload 5, 2) := by decide +kernel
theorem dX5_reckon_23 : decode cX5_reckon 23 = .ok (.bipush 32, 2) := by decide +kernel
theorem dX5_reckon_25 : decode cX5_reckon 25 = .ok (.if_icmp .ge 47, 3) := by decide +kernel
theorem dX5_reckon_28 : decode cX5_reckon 28 = .ok (.iload 4, 2) := by decide +kernel
theorem dX5_reckon_30 : decode cX5_reckon 30 = .ok (.bipush 16, 2) := by decide +kernel
theorem dX5_reckon_32 : decode cX5_reckon 32 = .ok (.if_icmp .ge 40, 3) := by decide +kernel
theorem dX5_reckon_35 : decode cX5_reckon 35 = .ok (.aload_n 0, 1) := by decide +kernel
theorem dX5_reckon_36 : decode cX5_reckon 36 = .ok (.getfield 49, 3) := by decide +kernel
theorem dX5_reckon_39 : decode cX5_reckon 39 = .ok (.iload 4, 2) := by decide +kernel
theorem dX5_reckon_41 : decode cX5_reckon 41 = .ok (.iconst 2, 1) := by decide +kernel
theorem dX5_reckon_42 : decode cX5_reckon 42 = .ok (.aload_n 0, 1) := by decide +kernel
theorem dX5_reckon_43 : decode cX5_reckon 43 = .ok (.getfield 49, 3) := by decide +kernel
theorem dX5_reckon_46 : decode cX5_reckon 46 = .ok (.iload 4, 2) := by decide +kernel
theorem dX5_reckon_48 : decode cX5_reckon 48 = .ok (.iaload, 1) := by decide +kernel
theorem dX5_reckon_49 : decode cX5_reckon 49 = .ok (.imul, 1) := by decide +kernel
theorem dX5_reckon_50 : decode cX5_reckon 50 = .ok (.aload_n 0, 1) := by decide +kernel
theorem dX5_reckon_51 : decode cX5_reckon 51 = .ok (.iload_n 1, 1) := by decide +kernel
theorem dX5_reckon_52 : decode cX5_reckon 52 = .ok (.lload_n 2, 1) := by decide +kernel
theorem dX5_reckon_53 : decode cX5_reckon 53 = .ok (.bipush 32, 2) := by decide +kernel
theorem dX5_reckon_55 : decode cX5_reckon 55 = .ok (.iload 4, 2) := by decide +kernel
theorem dX5_reckon_57 : decode cX5_reckon 57 = .ok (.imul, 1) := by decide +kernel
theorem dX5_reckon_58 : decode cX5_reckon 58 = .ok (.iload 5, 2) := by decide +kernel
theorem dX5_reckon_60 : decode cX5_reckon 60 = .ok (.iadd, 1) := by decide +kernel
theorem dX5_reckon_61 : decode cX5_reckon 61 = .ok (.invokevirtual 149, 3) := by decide +kernel
theorem dX5_reckon_64 : decode cX5_reckon 64 = .ok (.iadd, 1) := by decide +kernel
theorem dX5_reckon_65 : decode cX5_reckon 65 = .ok (.iastore, 1) := by decide +kernel
theorem dX5_reckon_66 : decode cX5_reckon 66 = .ok (.iinc 5 1, 3) := by decide +kernel
theorem dX5_reckon_69 : decode cX5_reckon 69 = .ok (.goto (-48), 3) := by decide +kernel
theorem dX5_reckon_72 : decode cX5_reckon 72 = .ok (.iload 4, 2) := by decide +kernel
theorem dX5_reckon_74 : decode cX5_reckon 74 = .ok (.bipush 15, 2) := by decide +kernel
theorem dX5_reckon_76 : decode cX5_reckon 76 = .ok (.if_icmp .le 97, 3) := by decide +kernel
theorem dX5_reckon_79 : decode cX5_reckon 79 = .ok (.aload_n 0, 1) := by decide +kernel
theorem dX5_reckon_80 : decode cX5_reckon 80 = .ok (.getfield 49, 3) := by decide +kernel
theorem dX5_reckon_83 : decode cX5_reckon 83 = .ok (.iload 4, 2) := by decide +kernel
theorem dX5_reckon_85 : decode cX5_reckon 85 = .ok (.bipush 15, 2) := by decide +kernel
theorem dX5_reckon_87 : decode cX5_reckon 87 = .ok (.isub, 1) := by decide +kernel
theorem dX5_reckon_88 : decode cX5_reckon 88 = .ok (.iaload, 1) := by decide +kernel
theorem dX5_reckon_89 : decode cX5_reckon 89 = .ok (.istore 5, 2) := by decide +kernel
theorem dX5_reckon_91 : decode cX5_reckon 91 = .ok (.aload_n 0, 1) := by decide +kernel
theorem dX5_reckon_92 : decode cX5_reckon 92 = .ok (.getfield 49, 3) := by decide +kernel
theorem dX5_reckon_95 : decode cX5_reckon 95 = .ok (.iload 4, 2) := by decide +kernel
theorem dX5_reckon_97 : decode cX5_reckon 97 = .ok (.iconst 2, 1) := by decide +kernel
theorem dX5_reckon_98 : decode cX5_reckon 98 = .ok (.isub, 1) := by decide +kernel
theorem dX5_reckon_99 : decode cX5_reckon 99 = .ok (.iaload, 1) := by decide +kernel
theorem dX5_reckon_100 : decode cX5_reckon 100 = .ok (.istore 6, 2) := by decide +kernel
theorem dX5_reckon_102 : decode cX5_reckon 102 = .ok (.aload_n 0, 1) := by decide +kernel
theorem dX5_reckon_103 : decode cX5_reckon 103 = .ok (.getfield 49, 3) := by decide +kernel
theorem dX5_reckon_106 : decode cX5_reckon 106 = .ok (.iload 4, 2) := by decide +kernel
theorem dX5_reckon_108 : decode cX5_reckon 108 = .ok (.aload_n 0, 1) := by decide +kernel
theorem dX5_reckon_109 : decode cX5_reckon 109 = .ok (.getfield 49, 3) := by decide +kernel
theorem dX5_reckon_112 : decode cX5_reckon 112 = .ok (.iload 4, 2) := by decide +kernel
theorem dX5_reckon_114 : decode cX5_reckon 114 = .ok (.bipush 16, 2) := by decide +kernel
theorem dX5_reckon_116 : decode cX5_reckon 116 = .ok (.isub, 1) := by decide +kernel
theorem dX5_reckon_117 : decode cX5_reckon 117 = .ok (.iaload, 1) := by decide +kernel
