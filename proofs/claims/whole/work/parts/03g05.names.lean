set_option maxRecDepth 20000 in
theorem ggX4_octet_X2_take : GoodIn wsX4_octet wsX2_take := goodIn_ca (goodIn_r _ [12, 13, 14, 15, 26, 27, 28, 29, 30] (by decide +kernel) (by decide +kernel)) (goodIn_sub (fun _ h => List.mem_cons_of_mem _ (List.mem_append_right _ h)) (by decide +kernel))
set_option maxRecDepth 20000 in
theorem gX4_octet_X2_take : GoodIn wsX4_octet (wsV RX4 54 RX2 yX2_take wsX2_take) := goodIn_app (goodIn_of _ (by decide +kernel)) ggX4_octet_X2_take
theorem dX4_octet_0 : decode cX4_octet 0 = .ok (.aload_n 0, 1) := by decide +kernel
theorem dX4_octet_1 : decode cX4_octet 1 = .ok (.iload_n 1, 1) := by decide +kernel
theorem dX4_octet_2 : decode cX4_octet 2 = .ok (.invokevirtual 50, 3) := by decide +kernel
theorem dX4_octet_5 : decode cX4_octet 5 = .ok (.astore_n 3, 1) := by decide +kernel
theorem dX4_octet_6 : decode cX4_octet 6 = .ok (.aload_n 3, 1) := by decide +kernel
theorem dX4_octet_7 : decode cX4_octet 7 = .ok (.ifnull 8, 3) := by decide +kernel
theorem dX4_octet_10 : decode cX4_octet 10 = .ok (.aload_n 3, 1) := by decide +kernel
theorem dX4_octet_11 : decode cX4_octet 11 = .ok (.iload_n 2, 1) := by decide +kernel
theorem dX4_octet_12 : decode cX4_octet 12 = .ok (.invokevirtual 54, 3) := by decide +kernel
theorem dX4_octet_15 : decode cX4_octet 15 = .ok (.return_, 1) := by decide +kernel
set_option maxRecDepth 20000 in
theorem ggX4_make_X4_keyNumbered : GoodIn wsX4_make wsX4_keyNumbered := goodIn_r _ [7, 8, 9, 127, 128, 129, 130, 131, 132, 133, 134, 135, 136] (by decide +kernel) (by decide +kernel)
set_option maxRecDepth 20000 in
theorem gX4_make_X4_keyNumbered : GoodIn wsX4_make (wsV RX4 50 RX4 yX4_keyNumbered wsX4_keyNumbered) := goodIn_app (goodIn_of _ (by decide +kernel)) ggX4_make_X4_keyNumbered
set_option maxRecDepth 20000 in
theorem ggX4_make_X4_isValue : GoodIn wsX4_make wsX4_isValue := goodIn_r _ [12, 13] (by decide +kernel) (by decide +kernel)
set_option maxRecDepth 20000 in
theorem gX4_make_X4_isValue : GoodIn wsX4_make (va_wsS RX4 58 yX4_isValue wsX4_isValue) := goodIn_app (goodIn_of _ (by decide +kernel)) ggX4_make_X4_isValue
set_option maxRecDepth 20000 in
theorem ggX4_make_X4_isKind : GoodIn wsX4_make wsX4_isKind := goodIn_r _ [16] (by decide +kernel) (by decide +kernel)
set_option maxRecDepth 20000 in
theorem gX4_make_X4_isKind : GoodIn wsX4_make (va_wsS RX4 62 yX4_isKind wsX4_isKind) := goodIn_app (goodIn_of _ (by decide +kernel)) ggX4_make_X4_isKind
set_option maxRecDepth 20000 in
theorem ggX4_make_X4_isDay : GoodIn wsX4_make wsX4_isDay := goodIn_r _ [19, 20] (by decide +kernel) (by decide +kernel)
set_option maxRecDepth 20000 in
theorem gX4_make_X4_isDay : GoodIn wsX4_make (va_wsS RX4 40 yX4_isDay wsX4_isDay) := goodIn_app (goodIn_of _ (by decide +kernel)) ggX4_make_X4_isDay
set_option maxRecDepth 20000 in
theorem ggX4_make_X2_holdsOn : GoodIn wsX4_make wsX2_holdsOn := goodIn_r _ [25, 26, 27, 137, 138, 139, 140, 141] (by decide +kernel) (by decide +kernel)
set_option maxRecDepth 20000 in
theorem gX4_make_X2_holdsOn : GoodIn wsX4_make (wsV RX4 65 RX2 yX2_holdsOn wsX2_holdsOn) := goodIn_app (goodIn_of _ (by decide +kernel)) ggX4_make_X2_holdsOn
set_option maxRecDepth 20000 in
theorem ggX4_make_X1_joined : GoodIn wsX4_make wsX1_joined := goodIn_r _ [31] (by decide +kernel) (by decide +kernel)
set_option maxRecDepth 20000 in
theorem gX4_make_X1_joined : GoodIn wsX4_make (va_wsS RX4 71 yX1_joined wsX1_joined) := goodIn_app (goodIn_of _ (by decide +kernel)) ggX4_make_X1_joined
set_option maxRecDepth 20000 in
theorem ggX4_make_X2_close : GoodIn wsX4_make wsX2_close := goodIn_r _ [35, 36, 137, 138, 139, 140, 141] (by decide +kernel) (by decide +kernel)
set_option maxRecDepth 20000 in
theorem gX4_make_X2_close : GoodIn wsX4_make (wsV RX4 77 RX2 yX2_close wsX2_close) := goodIn_app (goodIn_of _ (by decide +kernel)) ggX4_make_X2_close
set_option maxRecDepth 20000 in
theorem ggX4_make_X0_reckon : GoodIn wsX4_make wsX0_reckon := goodIn_ca (goodIn_r _ [41, 42, 43, 44, 45, 46, 47, 40, 48, 49, 50, 51, 52, 53, 54, 24, 55, 56, 57, 58, 59, 60, 61, 62, 63, 64, 65, 66, 67, 68, 69, 70, 71, 72, 73, 142, 143, 144, 137, 138, 139, 140, 141] rfl (by decide +kernel)) (goodIn_sub (fun _ h => List.mem_cons_of_mem _ (List.mem_append_right _ h)) (by decide +kernel))
set_option maxRecDepth 20000 in
theorem gX4_make_X0_reckon : GoodIn wsX4_make (wsV RX4 80 RX0 yX0_reckon wsX0_reckon) := goodIn_app (goodIn_of _ (by decide +kernel)) ggX4_make_X0_reckon
set_option maxRecDepth 20000 in
theorem ggX4_make_X0_first25Bits : GoodIn wsX4_make wsX0_first25Bits := goodIn_ca (goodIn_r _ [77, 43, 142, 143, 144] (by decide +kernel) (by decide +kernel)) (goodIn_sub (fun _ h => List.mem_cons_of_mem _ (List.mem_append_right _ h)) (by decide +kernel))
set_option maxRecDepth 20000 in
theorem gX4_make_X0_first25Bits : GoodIn wsX4_make (wsV RX4 84 RX0 yX0_first25Bits wsX0_first25Bits) := goodIn_app (goodIn_of _ (by decide +kernel)) ggX4_make_X0_first25Bits
set_option maxRecDepth 20000 in
theorem ggX4_make_X4_writeLetters : GoodIn wsX4_make wsX4_writeLetters := goodIn_ca (goodIn_r _ [81, 82, 83, 84, 6, 85, 86, 87, 88, 89, 90, 91, 92, 93, 94, 95, 96, 97, 98, 99, 100, 101, 102, 103, 104, 105, 106, 107, 108, 109, 110, 111, 112, 113, 114, 115, 116, 117, 118, 119, 120, 121, 122, 123, 124, 125, 126, 127, 128, 129, 130, 131, 132, 133, 134, 135, 136, 145, 146] rfl (by decide +kernel)) (goodIn_sub (fun _ h => List.mem_cons_of_mem _ (List.mem_append_right _ h)) (by decide +kernel))
set_option maxRecDepth 20000 in
theorem gX4_make_X4_writeLetters : GoodIn wsX4_make (wsV RX4 88 RX4 yX4_writeLetters wsX4_writeLetters) := goodIn_app (goodIn_of _ (by decide +kernel)) ggX4_make_X4_writeLetters
theorem dX4_make_0 : decode cX4_make 0 = .ok (.aload_n 0, 1) := by decide +kernel
theorem dX4_make_1 : decode cX4_make 1 = .ok (.iload_n 1, 1) := by decide +kernel
theorem dX4_make_2 : decode cX4_make 2 = .ok (.invokevirtual 50, 3) := by decide +kernel
theorem dX4_make_5 : decode cX4_make 5 = .ok (.astore 6, 2) := by decide +kernel
theorem dX4_make_7 : decode cX4_make 7 = .ok (.aload 6, 2) := by decide +kernel
theorem dX4_make_9 : decode cX4_make 9 = .ok (.ifnonnull 6, 3) := by decide +kernel
theorem dX4_make_12 : decode cX4_make 12 = .ok (.bipush (-21), 2) := by decide +kernel
theorem dX4_make_14 : decode cX4_make 14 = .ok (.ireturn, 1) := by decide +kernel
theorem dX4_make_15 : decode cX4_make 15 = .ok (.iload_n 2, 1) := by decide +kernel
theorem dX4_make_16 : decode cX4_make 16 = .ok (.invokestatic 58, 3) := by decide +kernel
theorem dX4_make_19 : decode cX4_make 19 = .ok (.ifCond .eq 18, 3) := by decide +kernel
theorem dX4_make_22 : decode cX4_make 22 = .ok (.iload_n 3, 1) := by decide +kernel
theorem dX4_make_23 : decode cX4_make 23 = .ok (.invokestatic 62, 3) := by decide +kernel
theorem dX4_make_26 : decode cX4_make 26 = .ok (.ifCond .eq 11, 3) := by decide +kernel
theorem dX4_make_29 : decode cX4_make 29 = .ok (.lload 4, 2) := by decide +kernel
theorem dX4_make_31 : decode cX4_make 31 = .ok (.invokestatic 40, 3) := by decide +kernel
theorem dX4_make_34 : decode cX4_make 34 = .ok (.ifCond .ne 6, 3) := by decide +kernel
theorem dX4_make_37 : decode cX4_make 37 = .ok (.bipush (-22), 2) := by decide +kernel
theorem dX4_make_39 : decode cX4_make 39 = .ok (.ireturn, 1) := by decide +kernel
theorem dX4_make_40 : decode cX4_make 40 = .ok (.aload 6, 2) := by decide +kernel
theorem dX4_make_42 : decode cX4_make 42 = .ok (.lload 4, 2) := by decide +kernel
theorem dX4_make_44 : decode cX4_make 44 = .ok (.invokevirtual 65, 3) := by decide +kernel
theorem dX4_make_47 : decode cX4_make 47 = .ok (.ifCond .ne 6, 3) := by decide +kernel
theorem dX4_make_50 : decode cX4_make 50 = .ok (.bipush (-23), 2) := by decide +kernel
theorem dX4_make_52 : decode cX4_make 52 = .ok (.ireturn, 1) := by decide +kernel
theorem dX4_make_53 : decode cX4_make 53 = .ok (.aload_n 0, 1) := by decide +kernel
theorem dX4_make_54 : decode cX4_make 54 = .ok (.getfield 68, 3) := by decide +kernel
theorem dX4_make_57 : decode cX4_make 57 = .ok (.sipush 16384, 3) := by decide +kernel
theorem dX4_make_60 : decode cX4_make 60 = .ok (.if_icmp .lt 6, 3) := by decide +kernel
theorem dX4_make_63 : decode cX4_make 63 = .ok (.bipush (-24), 2) := by decide +kernel
theorem dX4_make_65 : decode cX4_make 65 = .ok (.ireturn, 1) := by decide +kernel
theorem dX4_make_66 : decode cX4_make 66 = .ok (.iload_n 1, 1) := by decide +kernel
theorem dX4_make_67 : decode cX4_make 67 = .ok (.iload_n 3, 1) := by decide +kernel
theorem dX4_make_68 : decode cX4_make 68 = .ok (.iload_n 2, 1) := by decide +kernel
theorem dX4_make_69 : decode cX4_make 69 = .ok (.lload 4, 2) := by decide +kernel
theorem dX4_make_71 : decode cX4_make 71 = .ok (.l2i, 1) := by decide +kernel
theorem dX4_make_72 : decode cX4_make 72 = .ok (.aload_n 0, 1) := by decide +kernel
theorem dX4_make_73 : decode cX4_make 73 = .ok (.getfield 68, 3) := by decide +kernel
theorem dX4_make_76 : decode cX4_make 76 = .ok (.invokestatic 71, 3) := by decide +kernel
theorem dX4_make_79 : decode cX4_make 79 = .ok (.lstore 7, 2) := by decide +kernel
theorem dX4_make_81 : decode cX4_make 81 = .ok (.aload_n 0, 1) := by decide +kernel
theorem dX4_make_82 : decode cX4_make 82 = .ok (.dup, 1) := by decide +kernel
theorem dX4_make_83 : decode cX4_make 83 = .ok (.getfield 68, 3) := by decide +kernel
theorem dX4_make_86 : decode cX4_make 86 = .ok (.iconst 1, 1) := by decide +kernel
theorem dX4_make_87 : decode cX4_make 87 = .ok (.iadd, 1) := by decide +kernel
theorem dX4_make_88 : decode cX4_make 88 = .ok (.putfield 68, 3) := by decide +kernel
theorem dX4_make_91 : decode cX4_make 91 = .ok (.aload 6, 2) := by decide +kernel
theorem dX4_make_93 : decode cX4_make 93 = .ok (.invokevirtual 77, 3) := by decide +kernel
theorem dX4_make_96 : decode cX4_make 96 = .ok (.aload_n 0, 1) := by decide +kernel
theorem dX4_make_97 : decode cX4_make 97 = .ok (.getfield 36, 3) := by decide +kernel
theorem dX4_make_100 : decode cX4_make 100 = .ok (.aload 6, 2) := by decide +kernel
theorem dX4_make_102 : decode cX4_make 102 = .ok (.lload 7, 2) := by decide +kernel
theorem dX4_make_104 : decode cX4_make 104 = .ok (.invokevirtual 80, 3) := by decide +kernel
theorem dX4_make_107 : decode cX4_make 107 = .ok (.aload_n 0, 1) := by decide +kernel
theorem dX4_make_108 : decode cX4_make 108 = .ok (.lload 7, 2) := by decide +kernel
theorem dX4_make_110 : decode cX4_make 110 = .ok (.aload_n 0, 1) := by decide +kernel
theorem dX4_make_111 : decode cX4_make 111 = .ok (.getfield 36, 3) := by decide +kernel
theorem dX4_make_114 : decode cX4_make 114 = .ok (.invokevirtual 84, 3) := by decide +kernel
theorem dX4_make_117 : decode cX4_make 117 = .ok (.invokevirtual 88, 3) := by decide +kernel
theorem dX4_make_120 : decode cX4_make 120 = .ok (.bipush 16, 2) := by decide +kernel
theorem dX4_make_122 : decode cX4_make 122 = .ok (.ireturn, 1) := by decide +kernel
theorem dX4_letter_0 : decode cX4_letter 0 = .ok (.iload_n 1, 1) := by decide +kernel
theorem dX4_letter_1 : decode cX4_letter 1 = .ok (.ifCond .lt 18, 3) := by decide +kernel
theorem dX4_letter_4 : decode cX4_letter 4 = .ok (.iload_n 1, 1) := by decide +kernel
theorem dX4_letter_5 : decode cX4_letter 5 = .ok (.bipush 16, 2) := by decide +kernel
theorem dX4_letter_7 : decode cX4_letter 7 = .ok (.if_icmp .ge 12, 3) := by decide +kernel
theorem dX4_letter_10 : decode cX4_letter 10 = .ok (.aload_n 0, 1) := by decide +kernel
theorem dX4_letter_11 : decode cX4_letter 11 = .ok (.getfield 15, 3) := by decide +kernel
theorem dX4_letter_14 : decode cX4_letter 14 = .ok (.iload_n 1, 1) := by decide +kernel
theorem dX4_letter_15 : decode cX4_letter 15 = .ok (.iaload, 1) := by decide +kernel
theorem dX4_letter_16 : decode cX4_letter 16 = .ok (.goto 4, 3) := by decide +kernel
theorem dX4_letter_19 : decode cX4_letter 19 = .ok (.iconst 0, 1) := by decide +kernel
theorem dX4_letter_20 : decode cX4_letter 20 = .ok (.ireturn, 1) := by decide +kernel
theorem dX4_type_0 : decode cX4_type 0 = .ok (.aload_n 0, 1) := by decide +kernel
theorem dX4_type_1 : decode cX4_type 1 = .ok (.getfield 92, 3) := by decide +kernel
theorem dX4_type_4 : decode cX4_type 4 = .ok (.bipush 40, 2) := by decide +kernel
theorem dX4_type_6 : decode cX4_type 6 = .ok (.if_icmp .lt 4, 3) := by decide +kernel
theorem dX4_type_9 : decode cX4_type 9 = .ok (.return_, 1) := by decide +kernel
theorem dX4_type_10 : decode cX4_type 10 = .ok (.aload_n 0, 1) := by decide +kernel
theorem dX4_type_11 : decode cX4_type 11 = .ok (.getfield 19, 3) := by decide +kernel
theorem dX4_type_14 : decode cX4_type 14 = .ok (.aload_n 0, 1) := by decide +kernel
theorem dX4_type_15 : decode cX4_type 15 = .ok (.getfield 92, 3) := by decide +kernel
theorem dX4_type_18 : decode cX4_type 18 = .ok (.iload_n 1, 1) := by decide +kernel
theorem dX4_type_19 : decode cX4_type 19 = .ok (.iastore, 1) := by decide +kernel
theorem dX4_type_20 : decode cX4_type 20 = .ok (.aload_n 0, 1) := by decide +kernel
theorem dX4_type_21 : decode cX4_type 21 = .ok (.dup, 1) := by decide +kernel
theorem dX4_type_22 : decode cX4_type 22 = .ok (.getfield 92, 3) := by decide +kernel
theorem dX4_type_25 : decode cX4_type 25 = .ok (.iconst 1, 1) := by decide +kernel
theorem dX4_type_26 : decode cX4_type 26 = .ok (.iadd, 1) := by decide +kernel
theorem dX4_type_27 : decode cX4_type 27 = .ok (.putfield 92, 3) := by decide +kernel
theorem dX4_type_30 : decode cX4_type 30 = .ok (.return_, 1) := by decide +kernel
set_option maxRecDepth 20000 in
theorem ggX4_check_X4_isDay : GoodIn wsX4_check wsX4_isDay := goodIn_r _ [6, 7] (by decide +kernel) (by decide +kernel)
set_option maxRecDepth 20000 in
theorem gX4_check_X4_isDay : GoodIn wsX4_check (va_wsS RX4 40 yX4_isDay wsX4_isDay) := goodIn_app (goodIn_of _ (by decide +kernel)) ggX4_check_X4_isDay
set_option maxRecDepth 20000 in
theorem ggX4_check_X4_refusedFor : GoodIn wsX4_check wsX4_refusedFor := goodIn_r _ [10] (by decide +kernel) (by decide +kernel)
set_option maxRecDepth 20000 in
theorem gX4_check_X4_refusedFor : GoodIn wsX4_check (va_wsS RX4 98 yX4_refusedFor wsX4_refusedFor) := goodIn_app (goodIn_of _ (by decide +kernel)) ggX4_check_X4_refusedFor
set_option maxRecDepth 20000 in
theorem ggX4_check_X4_typedBits : GoodIn wsX4_check wsX4_typedBits := goodIn_ca (goodIn_r _ [14, 15, 16, 17, 18, 5, 19, 20, 21, 22, 23, 24, 25, 26, 27, 28, 29, 30, 31, 32, 33, 34, 35, 36, 37, 38, 39, 40, 41, 42, 43, 44, 45, 46, 47, 48, 49, 50, 51, 52, 53, 54, 55, 56, 57, 58, 59, 60, 61, 62, 63, 64, 65, 66, 67, 68, 69, 70, 71, 72, 179, 180, 181, 182, 183, 184, 185, 186, 187, 188, 189, 190] rfl (by decide +kernel)) (goodIn_sub (fun _ h => List.mem_cons_of_mem _ (List.mem_append_right _ h)) (by decide +kernel))
set_option maxRecDepth 20000 in
theorem gX4_check_X4_typedBits : GoodIn wsX4_check (wsV RX4 102 RX4 yX4_typedBits wsX4_typedBits) := goodIn_app (goodIn_of _ (by decide +kernel)) ggX4_check_X4_typedBits
set_option maxRecDepth 20000 in
theorem ggX4_check_X4_reasonAgainst : GoodIn wsX4_check wsX4_reasonAgainst := goodIn_ca (goodIn_r _ [76, 77, 78, 79, 80, 81, 82, 83, 84, 5, 85, 86, 87, 88, 89, 90, 91, 92, 93, 94, 95, 96, 97, 98, 99, 100, 101, 102, 103, 104, 105, 106, 107, 108, 109, 110, 111, 112, 113, 114, 115, 116, 117, 118, 119, 120, 121, 122, 123, 124, 125, 126, 127, 128, 129, 130, 131, 132, 133, 134, 135, 136, 137, 138, 139, 140, 141, 142, 143, 144, 145, 146, 147, 148, 149, 150, 151, 152, 153, 179, 180, 181, 182, 183, 184, 185, 186, 187, 188, 191, 192, 193, 194, 195, 196, 197, 198] rfl (by decide +kernel)) (goodIn_sub (fun _ h => List.mem_cons_of_mem _ (List.mem_append_right _ h)) (by decide +kernel))
set_option maxRecDepth 20000 in
theorem gX4_check_X4_reasonAgainst : GoodIn wsX4_check (wsV RX4 106 RX4 yX4_reasonAgainst wsX4_reasonAgainst) := goodIn_app (goodIn_of _ (by decide +kernel)) ggX4_check_X4_reasonAgainst
