set_option maxRecDepth 20000 in
theorem ggX0_blockByte_X2_size : GoodIn wsX0_blockByte wsX2_size := goodIn_r _ [5, 6, 12, 13, 14, 15, 16] (by decide +kernel) (by decide +kernel)
set_option maxRecDepth 20000 in
theorem gX0_blockByte_X2_size : GoodIn wsX0_blockByte (wsV RX0 24 RX2 yX2_size wsX2_size) := goodIn_app (goodIn_of _ (by decide +kernel)) ggX0_blockByte_X2_size
set_option maxRecDepth 20000 in
theorem ggX0_blockByte_X2_octetAt : GoodIn wsX0_blockByte wsX2_octetAt := goodIn_ca (goodIn_r _ [10, 11, 12, 13, 14, 15, 16] (by decide +kernel) (by decide +kernel)) (goodIn_sub (fun _ h => List.mem_cons_of_mem _ (List.mem_append_right _ h)) (by decide +kernel))
set_option maxRecDepth 20000 in
theorem gX0_blockByte_X2_octetAt : GoodIn wsX0_blockByte (wsV RX0 42 RX2 yX2_octetAt wsX2_octetAt) := goodIn_app (goodIn_of _ (by decide +kernel)) ggX0_blockByte_X2_octetAt
theorem dX0_blockByte_0 : decode cX0_blockByte 0 = .ok (.iload_n 3, 1) := by decide +kernel
theorem dX0_blockByte_1 : decode cX0_blockByte 1 = .ok (.aload_n 0, 1) := by decide +kernel
theorem dX0_blockByte_2 : decode cX0_blockByte 2 = .ok (.invokevirtual 24, 3) := by decide +kernel
theorem dX0_blockByte_5 : decode cX0_blockByte 5 = .ok (.isub, 1) := by decide +kernel
theorem dX0_blockByte_6 : decode cX0_blockByte 6 = .ok (.istore 4, 2) := by decide +kernel
theorem dX0_blockByte_8 : decode cX0_blockByte 8 = .ok (.iload 4, 2) := by decide +kernel
theorem dX0_blockByte_10 : decode cX0_blockByte 10 = .ok (.ifCond .ge 9, 3) := by decide +kernel
theorem dX0_blockByte_13 : decode cX0_blockByte 13 = .ok (.aload_n 0, 1) := by decide +kernel
theorem dX0_blockByte_14 : decode cX0_blockByte 14 = .ok (.iload_n 3, 1) := by decide +kernel
theorem dX0_blockByte_15 : decode cX0_blockByte 15 = .ok (.invokevirtual 42, 3) := by decide +kernel
theorem dX0_blockByte_18 : decode cX0_blockByte 18 = .ok (.ireturn, 1) := by decide +kernel
theorem dX0_blockByte_19 : decode cX0_blockByte 19 = .ok (.iload 4, 2) := by decide +kernel
theorem dX0_blockByte_21 : decode cX0_blockByte 21 = .ok (.bipush 7, 2) := by decide +kernel
theorem dX0_blockByte_23 : decode cX0_blockByte 23 = .ok (.if_icmp .ge 21, 3) := by decide +kernel
theorem dX0_blockByte_26 : decode cX0_blockByte 26 = .ok (.lload_n 1, 1) := by decide +kernel
theorem dX0_blockByte_27 : decode cX0_blockByte 27 = .ok (.iconst 1, 1) := by decide +kernel
theorem dX0_blockByte_28 : decode cX0_blockByte 28 = .ok (.lshl, 1) := by decide +kernel
theorem dX0_blockByte_29 : decode cX0_blockByte 29 = .ok (.bipush 48, 2) := by decide +kernel
theorem dX0_blockByte_31 : decode cX0_blockByte 31 = .ok (.bipush 8, 2) := by decide +kernel
theorem dX0_blockByte_33 : decode cX0_blockByte 33 = .ok (.iload 4, 2) := by decide +kernel
theorem dX0_blockByte_35 : decode cX0_blockByte 35 = .ok (.imul, 1) := by decide +kernel
theorem dX0_blockByte_36 : decode cX0_blockByte 36 = .ok (.isub, 1) := by decide +kernel
theorem dX0_blockByte_37 : decode cX0_blockByte 37 = .ok (.lushr, 1) := by decide +kernel
theorem dX0_blockByte_38 : decode cX0_blockByte 38 = .ok (.l2i, 1) := by decide +kernel
theorem dX0_blockByte_39 : decode cX0_blockByte 39 = .ok (.sipush 255, 3) := by decide +kernel
theorem dX0_blockByte_42 : decode cX0_blockByte 42 = .ok (.iand, 1) := by decide +kernel
theorem dX0_blockByte_43 : decode cX0_blockByte 43 = .ok (.ireturn, 1) := by decide +kernel
theorem dX0_blockByte_44 : decode cX0_blockByte 44 = .ok (.iload 4, 2) := by decide +kernel
theorem dX0_blockByte_46 : decode cX0_blockByte 46 = .ok (.bipush 7, 2) := by decide +kernel
theorem dX0_blockByte_48 : decode cX0_blockByte 48 = .ok (.if_icmp .ne 9, 3) := by decide +kernel
theorem dX0_blockByte_51 : decode cX0_blockByte 51 = .ok (.sipush 128, 3) := by decide +kernel
theorem dX0_blockByte_54 : decode cX0_blockByte 54 = .ok (.goto 4, 3) := by decide +kernel
theorem dX0_blockByte_57 : decode cX0_blockByte 57 = .ok (.iconst 0, 1) := by decide +kernel
theorem dX0_blockByte_58 : decode cX0_blockByte 58 = .ok (.ireturn, 1) := by decide +kernel
set_option maxRecDepth 20000 in
theorem ggX0_stretch_X0_ror : GoodIn wsX0_stretch wsX0_ror := goodIn_r _ [5] (by decide +kernel) (by decide +kernel)
set_option maxRecDepth 20000 in
theorem gX0_stretch_X0_ror : GoodIn wsX0_stretch (va_wsS RX0 46 yX0_ror wsX0_ror) := goodIn_app (goodIn_of _ (by decide +kernel)) ggX0_stretch_X0_ror
theorem dX0_stretch_0 : decode cX0_stretch 0 = .ok (.bipush 16, 2) := by decide +kernel
theorem dX0_stretch_2 : decode cX0_stretch 2 = .ok (.istore_n 1, 1) := by decide +kernel
theorem dX0_stretch_3 : decode cX0_stretch 3 = .ok (.iload_n 1, 1) := by decide +kernel
theorem dX0_stretch_4 : decode cX0_stretch 4 = .ok (.bipush 64, 2) := by decide +kernel
theorem dX0_stretch_6 : decode cX0_stretch 6 = .ok (.if_icmp .ge 100, 3) := by decide +kernel
theorem dX0_stretch_9 : decode cX0_stretch 9 = .ok (.aload_n 0, 1) := by decide +kernel
theorem dX0_stretch_10 : decode cX0_stretch 10 = .ok (.getfield 9, 3) := by decide +kernel
theorem dX0_stretch_13 : decode cX0_stretch 13 = .ok (.iload_n 1, 1) := by decide +kernel
theorem dX0_stretch_14 : decode cX0_stretch 14 = .ok (.bipush 15, 2) := by decide +kernel
theorem dX0_stretch_16 : decode cX0_stretch 16 = .ok (.isub, 1) := by decide +kernel
theorem dX0_stretch_17 : decode cX0_stretch 17 = .ok (.iaload, 1) := by decide +kernel
theorem dX0_stretch_18 : decode cX0_stretch 18 = .ok (.istore_n 2, 1) := by decide +kernel
theorem dX0_stretch_19 : decode cX0_stretch 19 = .ok (.iload_n 2, 1) := by decide +kernel
theorem dX0_stretch_20 : decode cX0_stretch 20 = .ok (.bipush 7, 2) := by decide +kernel
theorem dX0_stretch_22 : decode cX0_stretch 22 = .ok (.invokestatic 46, 3) := by decide +kernel
theorem dX0_stretch_25 : decode cX0_stretch 25 = .ok (.iload_n 2, 1) := by decide +kernel
theorem dX0_stretch_26 : decode cX0_stretch 26 = .ok (.bipush 18, 2) := by decide +kernel
theorem dX0_stretch_28 : decode cX0_stretch 28 = .ok (.invokestatic 46, 3) := by decide +kernel
theorem dX0_stretch_31 : decode cX0_stretch 31 = .ok (.ixor, 1) := by decide +kernel
theorem dX0_stretch_32 : decode cX0_stretch 32 = .ok (.iload_n 2, 1) := by decide +kernel
theorem dX0_stretch_33 : decode cX0_stretch 33 = .ok (.iconst 3, 1) := by decide +kernel
theorem dX0_stretch_34 : decode cX0_stretch 34 = .ok (.iushr, 1) := by decide +kernel
theorem dX0_stretch_35 : decode cX0_stretch 35 = .ok (.ixor, 1) := by decide +kernel
theorem dX0_stretch_36 : decode cX0_stretch 36 = .ok (.istore_n 3, 1) := by decide +kernel
theorem dX0_stretch_37 : decode cX0_stretch 37 = .ok (.aload_n 0, 1) := by decide +kernel
theorem dX0_stretch_38 : decode cX0_stretch 38 = .ok (.getfield 9, 3) := by decide +kernel
theorem dX0_stretch_41 : decode cX0_stretch 41 = .ok (.iload_n 1, 1) := by decide +kernel
theorem dX0_stretch_42 : decode cX0_stretch 42 = .ok (.iconst 2, 1) := by decide +kernel
theorem dX0_stretch_43 : decode cX0_stretch 43 = .ok (.isub, 1) := by decide +kernel
theorem dX0_stretch_44 : decode cX0_stretch 44 = .ok (.iaload, 1) := by decide +kernel
theorem dX0_stretch_45 : decode cX0_stretch 45 = .ok (.istore 4, 2) := by decide +kernel
theorem dX0_stretch_47 : decode cX0_stretch 47 = .ok (.iload 4, 2) := by decide +kernel
theorem dX0_stretch_49 : decode cX0_stretch 49 = .ok (.bipush 17, 2) := by decide +kernel
theorem dX0_stretch_51 : decode cX0_stretch 51 = .ok (.invokestatic 46, 3) := by decide +kernel
theorem dX0_stretch_54 : decode cX0_stretch 54 = .ok (.iload 4, 2) := by decide +kernel
theorem dX0_stretch_56 : decode cX0_stretch 56 = .ok (.bipush 19, 2) := by decide +kernel
theorem dX0_stretch_58 : decode cX0_stretch 58 = .ok (.invokestatic 46, 3) := by decide +kernel
theorem dX0_stretch_61 : decode cX0_stretch 61 = .ok (.ixor, 1) := by decide +kernel
theorem dX0_stretch_62 : decode cX0_stretch 62 = .ok (.iload 4, 2) := by decide +kernel
theorem dX0_stretch_64 : decode cX0_stretch 64 = .ok (.bipush 10, 2) := by decide +kernel
theorem dX0_stretch_66 : decode cX0_stretch 66 = .ok (.iushr, 1) := by decide +kernel
theorem dX0_stretch_67 : decode cX0_stretch 67 = .ok (.ixor, 1) := by decide +kernel
theorem dX0_stretch_68 : decode cX0_stretch 68 = .ok (.istore 5, 2) := by decide +kernel
theorem dX0_stretch_70 : decode cX0_stretch 70 = .ok (.aload_n 0, 1) := by decide +kernel
theorem dX0_stretch_71 : decode cX0_stretch 71 = .ok (.getfield 9, 3) := by decide +kernel
theorem dX0_stretch_74 : decode cX0_stretch 74 = .ok (.iload_n 1, 1) := by decide +kernel
theorem dX0_stretch_75 : decode cX0_stretch 75 = .ok (.aload_n 0, 1) := by decide +kernel
theorem dX0_stretch_76 : decode cX0_stretch 76 = .ok (.getfield 9, 3) := by decide +kernel
theorem dX0_stretch_79 : decode cX0_stretch 79 = .ok (.iload_n 1, 1) := by decide +kernel
theorem dX0_stretch_80 : decode cX0_stretch 80 = .ok (.bipush 16, 2) := by decide +kernel
theorem dX0_stretch_82 : decode cX0_stretch 82 = .ok (.isub, 1) := by decide +kernel
theorem dX0_stretch_83 : decode cX0_stretch 83 = .ok (.iaload, 1) := by decide +kernel
theorem dX0_stretch_84 : decode cX0_stretch 84 = .ok (.iload_n 3, 1) := by decide +kernel
theorem dX0_stretch_85 : decode cX0_stretch 85 = .ok (.iadd, 1) := by decide +kernel
theorem dX0_stretch_86 : decode cX0_stretch 86 = .ok (.aload_n 0, 1) := by decide +kernel
theorem dX0_stretch_87 : decode cX0_stretch 87 = .ok (.getfield 9, 3) := by decide +kernel
theorem dX0_stretch_90 : decode cX0_stretch 90 = .ok (.iload_n 1, 1) := by decide +kernel
theorem dX0_stretch_91 : decode cX0_stretch 91 = .ok (.bipush 7, 2) := by decide +kernel
theorem dX0_stretch_93 : decode cX0_stretch 93 = .ok (.isub, 1) := by decide +kernel
theorem dX0_stretch_94 : decode cX0_stretch 94 = .ok (.iaload, 1) := by decide +kernel
theorem dX0_stretch_95 : decode cX0_stretch 95 = .ok (.iadd, 1) := by decide +kernel
theorem dX0_stretch_96 : decode cX0_stretch 96 = .ok (.iload 5, 2) := by decide +kernel
theorem dX0_stretch_98 : decode cX0_stretch 98 = .ok (.iadd, 1) := by decide +kernel
theorem dX0_stretch_99 : decode cX0_stretch 99 = .ok (.iastore, 1) := by decide +kernel
theorem dX0_stretch_100 : decode cX0_stretch 100 = .ok (.iinc 1 1, 3) := by decide +kernel
theorem dX0_stretch_103 : decode cX0_stretch 103 = .ok (.goto (-100), 3) := by decide +kernel
theorem dX0_stretch_106 : decode cX0_stretch 106 = .ok (.return_, 1) := by decide +kernel
set_option maxRecDepth 20000 in
theorem ggX0_mix_X0_ror : GoodIn wsX0_mix wsX0_ror := goodIn_r _ [7] (by decide +kernel) (by decide +kernel)
set_option maxRecDepth 20000 in
theorem gX0_mix_X0_ror : GoodIn wsX0_mix (va_wsS RX0 46 yX0_ror wsX0_ror) := goodIn_app (goodIn_of _ (by decide +kernel)) ggX0_mix_X0_ror
theorem dX0_mix_0 : decode cX0_mix 0 = .ok (.aload_n 0, 1) := by decide +kernel
theorem dX0_mix_1 : decode cX0_mix 1 = .ok (.getfield 13, 3) := by decide +kernel
theorem dX0_mix_4 : decode cX0_mix 4 = .ok (.iconst 0, 1) := by decide +kernel
theorem dX0_mix_5 : decode cX0_mix 5 = .ok (.iaload, 1) := by decide +kernel
theorem dX0_mix_6 : decode cX0_mix 6 = .ok (.istore_n 1, 1) := by decide +kernel
theorem dX0_mix_7 : decode cX0_mix 7 = .ok (.aload_n 0, 1) := by decide +kernel
theorem dX0_mix_8 : decode cX0_mix 8 = .ok (.getfield 13, 3) := by decide +kernel
theorem dX0_mix_11 : decode cX0_mix 11 = .ok (.iconst 1, 1) := by decide +kernel
theorem dX0_mix_12 : decode cX0_mix 12 = .ok (.iaload, 1) := by decide +kernel
theorem dX0_mix_13 : decode cX0_mix 13 = .ok (.istore_n 2, 1) := by decide +kernel
theorem dX0_mix_14 : decode cX0_mix 14 = .ok (.aload_n 0, 1) := by decide +kernel
theorem dX0_mix_15 : decode cX0_mix 15 = .ok (.getfield 13, 3) := by decide +kernel
theorem dX0_mix_18 : decode cX0_mix 18 = .ok (.iconst 2, 1) := by decide +kernel
theorem dX0_mix_19 : decode cX0_mix 19 = .ok (.iaload, 1) := by decide +kernel
theorem dX0_mix_20 : decode cX0_mix 20 = .ok (.istore_n 3, 1) := by decide +kernel
theorem dX0_mix_21 : decode cX0_mix 21 = .ok (.aload_n 0, 1) := by decide +kernel
theorem dX0_mix_22 : decode cX0_mix 22 = .ok (.getfield 13, 3) := by decide +kernel
theorem dX0_mix_25 : decode cX0_mix 25 = .ok (.iconst 3, 1) := by decide +kernel
theorem dX0_mix_26 : decode cX0_mix 26 = .ok (.iaload, 1) := by decide +kernel
theorem dX0_mix_27 : decode cX0_mix 27 = .ok (.istore 4, 2) := by decide +kernel
theorem dX0_mix_29 : decode cX0_mix 29 = .ok (.aload_n 0, 1) := by decide +kernel
theorem dX0_mix_30 : decode cX0_mix 30 = .ok (.getfield 13, 3) := by decide +kernel
theorem dX0_mix_33 : decode cX0_mix 33 = .ok (.iconst 4, 1) := by decide +kernel
theorem dX0_mix_34 : decode cX0_mix 34 = .ok (.iaload, 1) := by decide +kernel
theorem dX0_mix_35 : decode cX0_mix 35 = .ok (.istore 5, 2) := by decide +kernel
theorem dX0_mix_37 : decode cX0_mix 37 = .ok (.aload_n 0, 1) := by decide +kernel
theorem dX0_mix_38 : decode cX0_mix 38 = .ok (.getfield 13, 3) := by decide +kernel
theorem dX0_mix_41 : decode cX0_mix 41 = .ok (.iconst 5, 1) := by decide +kernel
theorem dX0_mix_42 : decode cX0_mix 42 = .ok (.iaload, 1) := by decide +kernel
theorem dX0_mix_43 : decode cX0_mix 43 = .ok (.istore 6, 2) := by decide +kernel
theorem dX0_mix_45 : decode cX0_mix 45 = .ok (.aload_n 0, 1) := by decide +kernel
theorem dX0_mix_46 : decode cX0_mix 46 = .ok (.getfield 13, 3) := by decide +kernel
theorem dX0_mix_49 : decode cX0_mix 49 = .ok (.bipush 6, 2) := by decide +kernel
theorem dX0_mix_51 : decode cX0_mix 51 = .ok (.iaload, 1) := by decide +kernel
theorem dX0_mix_52 : decode cX0_mix 52 = .ok (.istore 7, 2) := by decide +kernel
theorem dX0_mix_54 : decode cX0_mix 54 = .ok (.aload_n 0, 1) := by decide +kernel
theorem dX0_mix_55 : decode cX0_mix 55 = .ok (.getfield 13, 3) := by decide +kernel
theorem dX0_mix_58 : decode cX0_mix 58 = .ok (.bipush 7, 2) := by decide +kernel
theorem dX0_mix_60 : decode cX0_mix 60 = .ok (.iaload, 1) := by decide +kernel
theorem dX0_mix_61 : decode cX0_mix 61 = .ok (.istore 8, 2) := by decide +kernel
theorem dX0_mix_63 : decode cX0_mix 63 = .ok (.iconst 0, 1) := by decide +kernel
theorem dX0_mix_64 : decode cX0_mix 64 = .ok (.istore 9, 2) := by decide +kernel
theorem dX0_mix_66 : decode cX0_mix 66 = .ok (.iload 9, 2) := by decide +kernel
