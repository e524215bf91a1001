set_option maxRecDepth 20000 in
theorem ggX4_check_X1_serialOf : GoodIn wsX4_check wsX1_serialOf := goodIn_r _ [156] (by decide +kernel) (by decide +kernel)
set_option maxRecDepth 20000 in
theorem gX4_check_X1_serialOf : GoodIn wsX4_check (va_wsS RX4 110 yX1_serialOf wsX1_serialOf) := goodIn_app (goodIn_of _ (by decide +kernel)) ggX4_check_X1_serialOf
set_option maxRecDepth 20000 in
theorem ggX4_check_X4_spendOrRefuse : GoodIn wsX4_check wsX4_spendOrRefuse := goodIn_ca (goodIn_r _ [160, 161, 162, 1, 163, 164, 165, 166, 167, 168, 169, 170, 171, 172, 8, 9, 5, 10, 173, 174, 175, 176, 177, 178, 179, 180, 181, 182, 183, 184, 185, 186, 187, 188, 199, 200, 201] (by decide +kernel) (by decide +kernel)) (goodIn_sub (fun _ h => List.mem_cons_of_mem _ (List.mem_append_right _ h)) (by decide +kernel))
set_option maxRecDepth 20000 in
theorem gX4_check_X4_spendOrRefuse : GoodIn wsX4_check (wsV RX4 114 RX4 yX4_spendOrRefuse wsX4_spendOrRefuse) := goodIn_app (goodIn_of _ (by decide +kernel)) ggX4_check_X4_spendOrRefuse
theorem dX4_check_0 : decode cX4_check 0 = .ok (.lload_n 1, 1) := by decide +kernel
theorem dX4_check_1 : decode cX4_check 1 = .ok (.invokestatic 40, 3) := by decide +kernel
theorem dX4_check_4 : decode cX4_check 4 = .ok (.ifCond .ne 6, 3) := by decide +kernel
theorem dX4_check_7 : decode cX4_check 7 = .ok (.bipush (-22), 2) := by decide +kernel
theorem dX4_check_9 : decode cX4_check 9 = .ok (.ireturn, 1) := by decide +kernel
theorem dX4_check_10 : decode cX4_check 10 = .ok (.aload_n 0, 1) := by decide +kernel
theorem dX4_check_11 : decode cX4_check 11 = .ok (.dup, 1) := by decide +kernel
theorem dX4_check_12 : decode cX4_check 12 = .ok (.getfield 95, 3) := by decide +kernel
theorem dX4_check_15 : decode cX4_check 15 = .ok (.iconst 1, 1) := by decide +kernel
theorem dX4_check_16 : decode cX4_check 16 = .ok (.iadd, 1) := by decide +kernel
theorem dX4_check_17 : decode cX4_check 17 = .ok (.putfield 95, 3) := by decide +kernel
theorem dX4_check_20 : decode cX4_check 20 = .ok (.aload_n 0, 1) := by decide +kernel
theorem dX4_check_21 : decode cX4_check 21 = .ok (.getfield 92, 3) := by decide +kernel
theorem dX4_check_24 : decode cX4_check 24 = .ok (.istore_n 3, 1) := by decide +kernel
theorem dX4_check_25 : decode cX4_check 25 = .ok (.aload_n 0, 1) := by decide +kernel
theorem dX4_check_26 : decode cX4_check 26 = .ok (.iconst 0, 1) := by decide +kernel
theorem dX4_check_27 : decode cX4_check 27 = .ok (.putfield 92, 3) := by decide +kernel
theorem dX4_check_30 : decode cX4_check 30 = .ok (.iload_n 3, 1) := by decide +kernel
theorem dX4_check_31 : decode cX4_check 31 = .ok (.bipush 16, 2) := by decide +kernel
theorem dX4_check_33 : decode cX4_check 33 = .ok (.if_icmp .eq 8, 3) := by decide +kernel
theorem dX4_check_36 : decode cX4_check 36 = .ok (.iconst 1, 1) := by decide +kernel
theorem dX4_check_37 : decode cX4_check 37 = .ok (.invokestatic 98, 3) := by decide +kernel
theorem dX4_check_40 : decode cX4_check 40 = .ok (.ireturn, 1) := by decide +kernel
theorem dX4_check_41 : decode cX4_check 41 = .ok (.aload_n 0, 1) := by decide +kernel
theorem dX4_check_42 : decode cX4_check 42 = .ok (.iconst 0, 1) := by decide +kernel
theorem dX4_check_43 : decode cX4_check 43 = .ok (.bipush 11, 2) := by decide +kernel
theorem dX4_check_45 : decode cX4_check 45 = .ok (.invokevirtual 102, 3) := by decide +kernel
theorem dX4_check_48 : decode cX4_check 48 = .ok (.lstore 4, 2) := by decide +kernel
theorem dX4_check_50 : decode cX4_check 50 = .ok (.aload_n 0, 1) := by decide +kernel
theorem dX4_check_51 : decode cX4_check 51 = .ok (.bipush 11, 2) := by decide +kernel
theorem dX4_check_53 : decode cX4_check 53 = .ok (.bipush 16, 2) := by decide +kernel
theorem dX4_check_55 : decode cX4_check 55 = .ok (.invokevirtual 102, 3) := by decide +kernel
theorem dX4_check_58 : decode cX4_check 58 = .ok (.lstore 6, 2) := by decide +kernel
theorem dX4_check_60 : decode cX4_check 60 = .ok (.lload 4, 2) := by decide +kernel
theorem dX4_check_62 : decode cX4_check 62 = .ok (.lconst 0, 1) := by decide +kernel
theorem dX4_check_63 : decode cX4_check 63 = .ok (.lcmp, 1) := by decide +kernel
theorem dX4_check_64 : decode cX4_check 64 = .ok (.ifCond .lt 10, 3) := by decide +kernel
theorem dX4_check_67 : decode cX4_check 67 = .ok (.lload 6, 2) := by decide +kernel
theorem dX4_check_69 : decode cX4_check 69 = .ok (.lconst 0, 1) := by decide +kernel
theorem dX4_check_70 : decode cX4_check 70 = .ok (.lcmp, 1) := by decide +kernel
theorem dX4_check_71 : decode cX4_check 71 = .ok (.ifCond .ge 8, 3) := by decide +kernel
theorem dX4_check_74 : decode cX4_check 74 = .ok (.iconst 2, 1) := by decide +kernel
theorem dX4_check_75 : decode cX4_check 75 = .ok (.invokestatic 98, 3) := by decide +kernel
theorem dX4_check_78 : decode cX4_check 78 = .ok (.ireturn, 1) := by decide +kernel
theorem dX4_check_79 : decode cX4_check 79 = .ok (.aload_n 0, 1) := by decide +kernel
theorem dX4_check_80 : decode cX4_check 80 = .ok (.lload 4, 2) := by decide +kernel
theorem dX4_check_82 : decode cX4_check 82 = .ok (.lload 6, 2) := by decide +kernel
theorem dX4_check_84 : decode cX4_check 84 = .ok (.lload_n 1, 1) := by decide +kernel
theorem dX4_check_85 : decode cX4_check 85 = .ok (.l2i, 1) := by decide +kernel
theorem dX4_check_86 : decode cX4_check 86 = .ok (.invokevirtual 106, 3) := by decide +kernel
theorem dX4_check_89 : decode cX4_check 89 = .ok (.istore 8, 2) := by decide +kernel
theorem dX4_check_91 : decode cX4_check 91 = .ok (.iload 8, 2) := by decide +kernel
theorem dX4_check_93 : decode cX4_check 93 = .ok (.ifCond .eq 11, 3) := by decide +kernel
theorem dX4_check_96 : decode cX4_check 96 = .ok (.iload 8, 2) := by decide +kernel
theorem dX4_check_98 : decode cX4_check 98 = .ok (.invokestatic 98, 3) := by decide +kernel
theorem dX4_check_101 : decode cX4_check 101 = .ok (.goto 14, 3) := by decide +kernel
theorem dX4_check_104 : decode cX4_check 104 = .ok (.aload_n 0, 1) := by decide +kernel
theorem dX4_check_105 : decode cX4_check 105 = .ok (.lload 4, 2) := by decide +kernel
theorem dX4_check_107 : decode cX4_check 107 = .ok (.invokestatic 110, 3) := by decide +kernel
theorem dX4_check_110 : decode cX4_check 110 = .ok (.lload_n 1, 1) := by decide +kernel
theorem dX4_check_111 : decode cX4_check 111 = .ok (.l2i, 1) := by decide +kernel
theorem dX4_check_112 : decode cX4_check 112 = .ok (.invokevirtual 114, 3) := by decide +kernel
theorem dX4_check_115 : decode cX4_check 115 = .ok (.ireturn, 1) := by decide +kernel
set_option maxRecDepth 20000 in
theorem ggX4_first_X3_dayOf : GoodIn wsX4_first wsX3_dayOf := goodIn_ca (goodIn_r _ [7, 8, 9, 10, 6, 11, 12, 28, 29, 30] (by decide +kernel) (by decide +kernel)) (goodIn_sub (fun _ h => List.mem_cons_of_mem _ (List.mem_append_right _ h)) (by decide +kernel))
set_option maxRecDepth 20000 in
theorem gX4_first_X3_dayOf : GoodIn wsX4_first (wsV RX4 118 RX3 yX3_dayOf wsX3_dayOf) := goodIn_app (goodIn_of _ (by decide +kernel)) ggX4_first_X3_dayOf
set_option maxRecDepth 20000 in
theorem ggX4_first_X3_checkOf : GoodIn wsX4_first wsX3_checkOf := goodIn_ca (goodIn_r _ [16, 17, 9, 10, 6, 11, 12, 28, 29, 30] (by decide +kernel) (by decide +kernel)) (goodIn_sub (fun _ h => List.mem_cons_of_mem _ (List.mem_append_right _ h)) (by decide +kernel))
set_option maxRecDepth 20000 in
theorem gX4_first_X3_checkOf : GoodIn wsX4_first (wsV RX4 121 RX3 yX3_checkOf wsX3_checkOf) := goodIn_app (goodIn_of _ (by decide +kernel)) ggX4_first_X3_checkOf
theorem dX4_first_0 : decode cX4_first 0 = .ok (.iload_n 1, 1) := by decide +kernel
theorem dX4_first_1 : decode cX4_first 1 = .ok (.ifCond .lt 8, 3) := by decide +kernel
theorem dX4_first_4 : decode cX4_first 4 = .ok (.iload_n 1, 1) := by decide +kernel
theorem dX4_first_5 : decode cX4_first 5 = .ok (.iconst 2, 1) := by decide +kernel
theorem dX4_first_6 : decode cX4_first 6 = .ok (.if_icmp .le 6, 3) := by decide +kernel
theorem dX4_first_9 : decode cX4_first 9 = .ok (.bipush (-22), 2) := by decide +kernel
theorem dX4_first_11 : decode cX4_first 11 = .ok (.ireturn, 1) := by decide +kernel
theorem dX4_first_12 : decode cX4_first 12 = .ok (.aload_n 0, 1) := by decide +kernel
theorem dX4_first_13 : decode cX4_first 13 = .ok (.getfield 22, 3) := by decide +kernel
theorem dX4_first_16 : decode cX4_first 16 = .ok (.ifCond .ge 5, 3) := by decide +kernel
theorem dX4_first_19 : decode cX4_first 19 = .ok (.iconst (-1), 1) := by decide +kernel
theorem dX4_first_20 : decode cX4_first 20 = .ok (.ireturn, 1) := by decide +kernel
theorem dX4_first_21 : decode cX4_first 21 = .ok (.iload_n 1, 1) := by decide +kernel
theorem dX4_first_22 : decode cX4_first 22 = .ok (.ifCond .ne 8, 3) := by decide +kernel
theorem dX4_first_25 : decode cX4_first 25 = .ok (.aload_n 0, 1) := by decide +kernel
theorem dX4_first_26 : decode cX4_first 26 = .ok (.getfield 22, 3) := by decide +kernel
theorem dX4_first_29 : decode cX4_first 29 = .ok (.ireturn, 1) := by decide +kernel
theorem dX4_first_30 : decode cX4_first 30 = .ok (.iload_n 1, 1) := by decide +kernel
theorem dX4_first_31 : decode cX4_first 31 = .ok (.iconst 1, 1) := by decide +kernel
theorem dX4_first_32 : decode cX4_first 32 = .ok (.if_icmp .ne 17, 3) := by decide +kernel
theorem dX4_first_35 : decode cX4_first 35 = .ok (.aload_n 0, 1) := by decide +kernel
theorem dX4_first_36 : decode cX4_first 36 = .ok (.getfield 29, 3) := by decide +kernel
theorem dX4_first_39 : decode cX4_first 39 = .ok (.aload_n 0, 1) := by decide +kernel
theorem dX4_first_40 : decode cX4_first 40 = .ok (.getfield 22, 3) := by decide +kernel
theorem dX4_first_43 : decode cX4_first 43 = .ok (.invokevirtual 118, 3) := by decide +kernel
theorem dX4_first_46 : decode cX4_first 46 = .ok (.goto 14, 3) := by decide +kernel
theorem dX4_first_49 : decode cX4_first 49 = .ok (.aload_n 0, 1) := by decide +kernel
theorem dX4_first_50 : decode cX4_first 50 = .ok (.getfield 29, 3) := by decide +kernel
theorem dX4_first_53 : decode cX4_first 53 = .ok (.aload_n 0, 1) := by decide +kernel
theorem dX4_first_54 : decode cX4_first 54 = .ok (.getfield 22, 3) := by decide +kernel
theorem dX4_first_57 : decode cX4_first 57 = .ok (.invokevirtual 121, 3) := by decide +kernel
theorem dX4_first_60 : decode cX4_first 60 = .ok (.ireturn, 1) := by decide +kernel
set_option maxRecDepth 20000 in
theorem ggX4_refund_X3_fateOf : GoodIn wsX4_refund wsX3_fateOf := goodIn_ca (goodIn_r _ [7, 8, 9, 10, 6, 11, 12, 27, 28, 29] (by decide +kernel) (by decide +kernel)) (goodIn_sub (fun _ h => List.mem_cons_of_mem _ (List.mem_append_right _ h)) (by decide +kernel))
set_option maxRecDepth 20000 in
theorem gX4_refund_X3_fateOf : GoodIn wsX4_refund (wsV RX4 124 RX3 yX3_fateOf wsX3_fateOf) := goodIn_app (goodIn_of _ (by decide +kernel)) ggX4_refund_X3_fateOf
set_option maxRecDepth 20000 in
theorem ggX4_refund_X3_giveBack : GoodIn wsX4_refund wsX3_giveBack := goodIn_ca (goodIn_r _ [16, 8, 9, 10, 6, 11, 12, 27, 28, 29] (by decide +kernel) (by decide +kernel)) (goodIn_sub (fun _ h => List.mem_cons_of_mem _ (List.mem_append_right _ h)) (by decide +kernel))
set_option maxRecDepth 20000 in
theorem gX4_refund_X3_giveBack : GoodIn wsX4_refund (wsV RX4 127 RX3 yX3_giveBack wsX3_giveBack) := goodIn_app (goodIn_of _ (by decide +kernel)) ggX4_refund_X3_giveBack
theorem dX4_refund_0 : decode cX4_refund 0 = .ok (.lload_n 1, 1) := by decide +kernel
theorem dX4_refund_1 : decode cX4_refund 1 = .ok (.lconst 0, 1) := by decide +kernel
theorem dX4_refund_2 : decode cX4_refund 2 = .ok (.lcmp, 1) := by decide +kernel
theorem dX4_refund_3 : decode cX4_refund 3 = .ok (.ifCond .lt 24, 3) := by decide +kernel
theorem dX4_refund_6 : decode cX4_refund 6 = .ok (.lload_n 1, 1) := by decide +kernel
theorem dX4_refund_7 : decode cX4_refund 7 = .ok (.aload_n 0, 1) := by decide +kernel
theorem dX4_refund_8 : decode cX4_refund 8 = .ok (.getfield 68, 3) := by decide +kernel
theorem dX4_refund_11 : decode cX4_refund 11 = .ok (.i2l, 1) := by decide +kernel
theorem dX4_refund_12 : decode cX4_refund 12 = .ok (.lcmp, 1) := by decide +kernel
theorem dX4_refund_13 : decode cX4_refund 13 = .ok (.ifCond .ge 14, 3) := by decide +kernel
theorem dX4_refund_16 : decode cX4_refund 16 = .ok (.aload_n 0, 1) := by decide +kernel
theorem dX4_refund_17 : decode cX4_refund 17 = .ok (.getfield 29, 3) := by decide +kernel
theorem dX4_refund_20 : decode cX4_refund 20 = .ok (.lload_n 1, 1) := by decide +kernel
theorem dX4_refund_21 : decode cX4_refund 21 = .ok (.invokevirtual 124, 3) := by decide +kernel
theorem dX4_refund_24 : decode cX4_refund 24 = .ok (.ifCond .eq 5, 3) := by decide +kernel
theorem dX4_refund_27 : decode cX4_refund 27 = .ok (.iconst 0, 1) := by decide +kernel
theorem dX4_refund_28 : decode cX4_refund 28 = .ok (.ireturn, 1) := by decide +kernel
theorem dX4_refund_29 : decode cX4_refund 29 = .ok (.aload_n 0, 1) := by decide +kernel
theorem dX4_refund_30 : decode cX4_refund 30 = .ok (.getfield 29, 3) := by decide +kernel
theorem dX4_refund_33 : decode cX4_refund 33 = .ok (.lload_n 1, 1) := by decide +kernel
theorem dX4_refund_34 : decode cX4_refund 34 = .ok (.l2i, 1) := by decide +kernel
theorem dX4_refund_35 : decode cX4_refund 35 = .ok (.invokevirtual 127, 3) := by decide +kernel
theorem dX4_refund_38 : decode cX4_refund 38 = .ok (.iconst 1, 1) := by decide +kernel
theorem dX4_refund_39 : decode cX4_refund 39 = .ok (.ireturn, 1) := by decide +kernel
set_option maxRecDepth 20000 in
theorem ggX4_digest_X0_isReckoned : GoodIn wsX4_digest wsX0_isReckoned := goodIn_r _ [9, 10, 32, 33, 34] (by decide +kernel) (by decide +kernel)
set_option maxRecDepth 20000 in
theorem gX4_digest_X0_isReckoned : GoodIn wsX4_digest (wsV RX4 131 RX0 yX0_isReckoned wsX0_isReckoned) := goodIn_app (goodIn_of _ (by decide +kernel)) ggX4_digest_X0_isReckoned
set_option maxRecDepth 20000 in
theorem ggX4_digest_X0_octetAt : GoodIn wsX4_digest wsX0_octetAt := goodIn_ca (goodIn_r _ [14, 15, 32, 33, 34] (by decide +kernel) (by decide +kernel)) (goodIn_sub (fun _ h => List.mem_cons_of_mem _ (List.mem_append_right _ h)) (by decide +kernel))
set_option maxRecDepth 20000 in
theorem gX4_digest_X0_octetAt : GoodIn wsX4_digest (wsV RX4 138 RX0 yX0_octetAt wsX0_octetAt) := goodIn_app (goodIn_of _ (by decide +kernel)) ggX4_digest_X0_octetAt
theorem dX4_digest_0 : decode cX4_digest 0 = .ok (.aload_n 0, 1) := by decide +kernel
theorem dX4_digest_1 : decode cX4_digest 1 = .ok (.getfield 36, 3) := by decide +kernel
theorem dX4_digest_4 : decode cX4_digest 4 = .ok (.invokevirtual 131, 3) := by decide +kernel
theorem dX4_digest_7 : decode cX4_digest 7 = .ok (.ifCond .eq 13, 3) := by decide +kernel
theorem dX4_digest_10 : decode cX4_digest 10 = .ok (.iload_n 1, 1) := by decide +kernel
theorem dX4_digest_11 : decode cX4_digest 11 = .ok (.ifCond .lt 9, 3) := by decide +kernel
theorem dX4_digest_14 : decode cX4_digest 14 = .ok (.iload_n 1, 1) := by decide +kernel
theorem dX4_digest_15 : decode cX4_digest 15 = .ok (.bipush 32, 2) := by decide +kernel
theorem dX4_digest_17 : decode cX4_digest 17 = .ok (.if_icmp .lt 11, 3) := by decide +kernel
