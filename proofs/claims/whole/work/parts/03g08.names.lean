theorem dX4_typedWorth_0 : decode cX4_typedWorth 0 = .ok (.iload_n 1, 1) := by decide +kernel
theorem dX4_typedWorth_1 : decode cX4_typedWorth 1 = .ok (.ifCond .lt 21, 3) := by decide +kernel
theorem dX4_typedWorth_4 : decode cX4_typedWorth 4 = .ok (.iload_n 1, 1) := by decide +kernel
theorem dX4_typedWorth_5 : decode cX4_typedWorth 5 = .ok (.bipush 40, 2) := by decide +kernel
theorem dX4_typedWorth_7 : decode cX4_typedWorth 7 = .ok (.if_icmp .ge 15, 3) := by decide +kernel
theorem dX4_typedWorth_10 : decode cX4_typedWorth 10 = .ok (.aload_n 0, 1) := by decide +kernel
theorem dX4_typedWorth_11 : decode cX4_typedWorth 11 = .ok (.getfield 19, 3) := by decide +kernel
theorem dX4_typedWorth_14 : decode cX4_typedWorth 14 = .ok (.iload_n 1, 1) := by decide +kernel
theorem dX4_typedWorth_15 : decode cX4_typedWorth 15 = .ok (.iaload, 1) := by decide +kernel
theorem dX4_typedWorth_16 : decode cX4_typedWorth 16 = .ok (.invokestatic 161, 3) := by decide +kernel
theorem dX4_typedWorth_19 : decode cX4_typedWorth 19 = .ok (.goto 4, 3) := by decide +kernel
theorem dX4_typedWorth_22 : decode cX4_typedWorth 22 = .ok (.iconst (-1), 1) := by decide +kernel
theorem dX4_typedWorth_23 : decode cX4_typedWorth 23 = .ok (.ireturn, 1) := by decide +kernel
set_option maxRecDepth 20000 in
theorem ggX4_worthOf_J0_length_8abf5 : GoodIn wsX4_worthOf wsJ0_length_8abf5 := goodIn_r _ [5, 6, 7, 8, 9, 4, 10, 11, 12, 50, 51] (by decide +kernel) (by decide +kernel)
set_option maxRecDepth 20000 in
theorem gX4_worthOf_J0_length_8abf5 : GoodIn wsX4_worthOf (wsV RX4 164 RJ0 yJ0_length_8abf5 wsJ0_length_8abf5) := goodIn_app (goodIn_of _ (by decide +kernel)) ggX4_worthOf_J0_length_8abf5
set_option maxRecDepth 20000 in
theorem ggX4_worthOf_J0_charAt_5068e : GoodIn wsX4_worthOf wsJ0_charAt_5068e := goodIn_r _ [16, 6, 17, 18, 19, 4, 20, 11, 12, 21, 22, 23, 24, 25, 26, 27, 28, 29, 30, 31, 32, 33, 34, 35, 36, 37, 38, 39, 40, 41, 42, 43, 44, 45, 46, 47, 48, 49, 50, 51] (by decide +kernel) (by decide +kernel)
set_option maxRecDepth 20000 in
theorem gX4_worthOf_J0_charAt_5068e : GoodIn wsX4_worthOf (wsV RX4 150 RJ0 yJ0_charAt_5068e wsJ0_charAt_5068e) := goodIn_app (goodIn_of _ (by decide +kernel)) ggX4_worthOf_J0_charAt_5068e
theorem dX4_worthOf_0 : decode cX4_worthOf 0 = .ok (.iconst 0, 1) := by decide +kernel
theorem dX4_worthOf_1 : decode cX4_worthOf 1 = .ok (.istore_n 1, 1) := by decide +kernel
theorem dX4_worthOf_2 : decode cX4_worthOf 2 = .ok (.iload_n 1, 1) := by decide +kernel
theorem dX4_worthOf_3 : decode cX4_worthOf 3 = .ok (.ldc 148, 2) := by decide +kernel
theorem dX4_worthOf_5 : decode cX4_worthOf 5 = .ok (.invokevirtual 164, 3) := by decide +kernel
theorem dX4_worthOf_8 : decode cX4_worthOf 8 = .ok (.if_icmp .ge 21, 3) := by decide +kernel
theorem dX4_worthOf_11 : decode cX4_worthOf 11 = .ok (.ldc 148, 2) := by decide +kernel
theorem dX4_worthOf_13 : decode cX4_worthOf 13 = .ok (.iload_n 1, 1) := by decide +kernel
theorem dX4_worthOf_14 : decode cX4_worthOf 14 = .ok (.invokevirtual 150, 3) := by decide +kernel
theorem dX4_worthOf_17 : decode cX4_worthOf 17 = .ok (.iload_n 0, 1) := by decide +kernel
theorem dX4_worthOf_18 : decode cX4_worthOf 18 = .ok (.if_icmp .ne 5, 3) := by decide +kernel
theorem dX4_worthOf_21 : decode cX4_worthOf 21 = .ok (.iload_n 1, 1) := by decide +kernel
theorem dX4_worthOf_22 : decode cX4_worthOf 22 = .ok (.ireturn, 1) := by decide +kernel
theorem dX4_worthOf_23 : decode cX4_worthOf 23 = .ok (.iinc 1 1, 3) := by decide +kernel
theorem dX4_worthOf_26 : decode cX4_worthOf 26 = .ok (.goto (-24), 3) := by decide +kernel
theorem dX4_worthOf_29 : decode cX4_worthOf 29 = .ok (.iconst (-1), 1) := by decide +kernel
theorem dX4_worthOf_30 : decode cX4_worthOf 30 = .ok (.ireturn, 1) := by decide +kernel
set_option maxRecDepth 20000 in
theorem ggX4_reasonAgainst_X1_keyOf : GoodIn wsX4_reasonAgainst wsX1_keyOf := goodIn_r _ [5] (by decide +kernel) (by decide +kernel)
set_option maxRecDepth 20000 in
theorem gX4_reasonAgainst_X1_keyOf : GoodIn wsX4_reasonAgainst (va_wsS RX4 167 yX1_keyOf wsX1_keyOf) := goodIn_app (goodIn_of _ (by decide +kernel)) ggX4_reasonAgainst_X1_keyOf
set_option maxRecDepth 20000 in
theorem ggX4_reasonAgainst_X4_keyNumbered : GoodIn wsX4_reasonAgainst wsX4_keyNumbered := goodIn_r _ [10, 11, 12, 79, 80, 81, 82, 83, 84, 85, 86, 87, 88] (by decide +kernel) (by decide +kernel)
set_option maxRecDepth 20000 in
theorem gX4_reasonAgainst_X4_keyNumbered : GoodIn wsX4_reasonAgainst (wsV RX4 50 RX4 yX4_keyNumbered wsX4_keyNumbered) := goodIn_app (goodIn_of _ (by decide +kernel)) ggX4_reasonAgainst_X4_keyNumbered
set_option maxRecDepth 20000 in
theorem ggX4_reasonAgainst_X1_kindOf : GoodIn wsX4_reasonAgainst wsX1_kindOf := goodIn_r _ [15] (by decide +kernel) (by decide +kernel)
set_option maxRecDepth 20000 in
theorem gX4_reasonAgainst_X1_kindOf : GoodIn wsX4_reasonAgainst (va_wsS RX4 170 yX1_kindOf wsX1_kindOf) := goodIn_app (goodIn_of _ (by decide +kernel)) ggX4_reasonAgainst_X1_kindOf
set_option maxRecDepth 20000 in
theorem ggX4_reasonAgainst_X4_isKind : GoodIn wsX4_reasonAgainst wsX4_isKind := goodIn_r _ [18] (by decide +kernel) (by decide +kernel)
set_option maxRecDepth 20000 in
theorem gX4_reasonAgainst_X4_isKind : GoodIn wsX4_reasonAgainst (va_wsS RX4 62 yX4_isKind wsX4_isKind) := goodIn_app (goodIn_of _ (by decide +kernel)) ggX4_reasonAgainst_X4_isKind
set_option maxRecDepth 20000 in
theorem ggX4_reasonAgainst_X1_valueOf : GoodIn wsX4_reasonAgainst wsX1_valueOf := goodIn_r _ [21, 22] (by decide +kernel) (by decide +kernel)
set_option maxRecDepth 20000 in
theorem gX4_reasonAgainst_X1_valueOf : GoodIn wsX4_reasonAgainst (va_wsS RX4 173 yX1_valueOf wsX1_valueOf) := goodIn_app (goodIn_of _ (by decide +kernel)) ggX4_reasonAgainst_X1_valueOf
set_option maxRecDepth 20000 in
theorem ggX4_reasonAgainst_X4_isValue : GoodIn wsX4_reasonAgainst wsX4_isValue := goodIn_r _ [25, 26] (by decide +kernel) (by decide +kernel)
set_option maxRecDepth 20000 in
theorem gX4_reasonAgainst_X4_isValue : GoodIn wsX4_reasonAgainst (va_wsS RX4 58 yX4_isValue wsX4_isValue) := goodIn_app (goodIn_of _ (by decide +kernel)) ggX4_reasonAgainst_X4_isValue
set_option maxRecDepth 20000 in
theorem ggX4_reasonAgainst_X0_reckon : GoodIn wsX4_reasonAgainst wsX0_reckon := goodIn_ca (goodIn_r _ [31, 32, 33, 34, 35, 36, 37, 30, 38, 39, 40, 41, 42, 43, 44, 45, 46, 47, 48, 49, 50, 51, 52, 53, 54, 55, 56, 57, 58, 59, 60, 61, 62, 63, 64, 89, 90, 91, 92, 93, 94, 95, 96] rfl (by decide +kernel)) (goodIn_sub (fun _ h => List.mem_cons_of_mem _ (List.mem_append_right _ h)) (by decide +kernel))
set_option maxRecDepth 20000 in
theorem gX4_reasonAgainst_X0_reckon : GoodIn wsX4_reasonAgainst (wsV RX4 80 RX0 yX0_reckon wsX0_reckon) := goodIn_app (goodIn_of _ (by decide +kernel)) ggX4_reasonAgainst_X0_reckon
set_option maxRecDepth 20000 in
theorem ggX4_reasonAgainst_X0_first25Bits : GoodIn wsX4_reasonAgainst wsX0_first25Bits := goodIn_ca (goodIn_r _ [68, 33, 89, 90, 91] (by decide +kernel) (by decide +kernel)) (goodIn_sub (fun _ h => List.mem_cons_of_mem _ (List.mem_append_right _ h)) (by decide +kernel))
set_option maxRecDepth 20000 in
theorem gX4_reasonAgainst_X0_first25Bits : GoodIn wsX4_reasonAgainst (wsV RX4 84 RX0 yX0_first25Bits wsX0_first25Bits) := goodIn_app (goodIn_of _ (by decide +kernel)) ggX4_reasonAgainst_X0_first25Bits
set_option maxRecDepth 20000 in
theorem ggX4_reasonAgainst_X1_dayOf : GoodIn wsX4_reasonAgainst wsX1_dayOf := goodIn_r _ [71, 72] (by decide +kernel) (by decide +kernel)
set_option maxRecDepth 20000 in
theorem gX4_reasonAgainst_X1_dayOf : GoodIn wsX4_reasonAgainst (va_wsS RX4 176 yX1_dayOf wsX1_dayOf) := goodIn_app (goodIn_of _ (by decide +kernel)) ggX4_reasonAgainst_X1_dayOf
set_option maxRecDepth 20000 in
theorem ggX4_reasonAgainst_X2_holdsOn : GoodIn wsX4_reasonAgainst wsX2_holdsOn := goodIn_r _ [76, 77, 78, 92, 93, 94, 95, 96] (by decide +kernel) (by decide +kernel)
set_option maxRecDepth 20000 in
theorem gX4_reasonAgainst_X2_holdsOn : GoodIn wsX4_reasonAgainst (wsV RX4 65 RX2 yX2_holdsOn wsX2_holdsOn) := goodIn_app (goodIn_of _ (by decide +kernel)) ggX4_reasonAgainst_X2_holdsOn
theorem dX4_reasonAgainst_0 : decode cX4_reasonAgainst 0 = .ok (.aload_n 0, 1) := by decide +kernel
theorem dX4_reasonAgainst_1 : decode cX4_reasonAgainst 1 = .ok (.lload_n 1, 1) := by decide +kernel
theorem dX4_reasonAgainst_2 : decode cX4_reasonAgainst 2 = .ok (.invokestatic 167, 3) := by decide +kernel
theorem dX4_reasonAgainst_5 : decode cX4_reasonAgainst 5 = .ok (.invokevirtual 50, 3) := by decide +kernel
theorem dX4_reasonAgainst_8 : decode cX4_reasonAgainst 8 = .ok (.astore 6, 2) := by decide +kernel
theorem dX4_reasonAgainst_10 : decode cX4_reasonAgainst 10 = .ok (.aload 6, 2) := by decide +kernel
theorem dX4_reasonAgainst_12 : decode cX4_reasonAgainst 12 = .ok (.ifnull 23, 3) := by decide +kernel
theorem dX4_reasonAgainst_15 : decode cX4_reasonAgainst 15 = .ok (.lload_n 1, 1) := by decide +kernel
theorem dX4_reasonAgainst_16 : decode cX4_reasonAgainst 16 = .ok (.invokestatic 170, 3) := by decide +kernel
theorem dX4_reasonAgainst_19 : decode cX4_reasonAgainst 19 = .ok (.invokestatic 62, 3) := by decide +kernel
theorem dX4_reasonAgainst_22 : decode cX4_reasonAgainst 22 = .ok (.ifCond .eq 13, 3) := by decide +kernel
theorem dX4_reasonAgainst_25 : decode cX4_reasonAgainst 25 = .ok (.lload_n 1, 1) := by decide +kernel
theorem dX4_reasonAgainst_26 : decode cX4_reasonAgainst 26 = .ok (.invokestatic 173, 3) := by decide +kernel
theorem dX4_reasonAgainst_29 : decode cX4_reasonAgainst 29 = .ok (.invokestatic 58, 3) := by decide +kernel
theorem dX4_reasonAgainst_32 : decode cX4_reasonAgainst 32 = .ok (.ifCond .ne 5, 3) := by decide +kernel
theorem dX4_reasonAgainst_35 : decode cX4_reasonAgainst 35 = .ok (.iconst 3, 1) := by decide +kernel
theorem dX4_reasonAgainst_36 : decode cX4_reasonAgainst 36 = .ok (.ireturn, 1) := by decide +kernel
theorem dX4_reasonAgainst_37 : decode cX4_reasonAgainst 37 = .ok (.aload_n 0, 1) := by decide +kernel
theorem dX4_reasonAgainst_38 : decode cX4_reasonAgainst 38 = .ok (.getfield 36, 3) := by decide +kernel
theorem dX4_reasonAgainst_41 : decode cX4_reasonAgainst 41 = .ok (.aload 6, 2) := by decide +kernel
theorem dX4_reasonAgainst_43 : decode cX4_reasonAgainst 43 = .ok (.lload_n 1, 1) := by decide +kernel
theorem dX4_reasonAgainst_44 : decode cX4_reasonAgainst 44 = .ok (.invokevirtual 80, 3) := by decide +kernel
theorem dX4_reasonAgainst_47 : decode cX4_reasonAgainst 47 = .ok (.lload_n 3, 1) := by decide +kernel
theorem dX4_reasonAgainst_48 : decode cX4_reasonAgainst 48 = .ok (.aload_n 0, 1) := by decide +kernel
theorem dX4_reasonAgainst_49 : decode cX4_reasonAgainst 49 = .ok (.getfield 36, 3) := by decide +kernel
theorem dX4_reasonAgainst_52 : decode cX4_reasonAgainst 52 = .ok (.invokevirtual 84, 3) := by decide +kernel
theorem dX4_reasonAgainst_55 : decode cX4_reasonAgainst 55 = .ok (.i2l, 1) := by decide +kernel
theorem dX4_reasonAgainst_56 : decode cX4_reasonAgainst 56 = .ok (.lcmp, 1) := by decide +kernel
theorem dX4_reasonAgainst_57 : decode cX4_reasonAgainst 57 = .ok (.ifCond .eq 5, 3) := by decide +kernel
theorem dX4_reasonAgainst_60 : decode cX4_reasonAgainst 60 = .ok (.iconst 4, 1) := by decide +kernel
theorem dX4_reasonAgainst_61 : decode cX4_reasonAgainst 61 = .ok (.ireturn, 1) := by decide +kernel
theorem dX4_reasonAgainst_62 : decode cX4_reasonAgainst 62 = .ok (.iload 5, 2) := by decide +kernel
theorem dX4_reasonAgainst_64 : decode cX4_reasonAgainst 64 = .ok (.lload_n 1, 1) := by decide +kernel
theorem dX4_reasonAgainst_65 : decode cX4_reasonAgainst 65 = .ok (.invokestatic 176, 3) := by decide +kernel
theorem dX4_reasonAgainst_68 : decode cX4_reasonAgainst 68 = .ok (.isub, 1) := by decide +kernel
theorem dX4_reasonAgainst_69 : decode cX4_reasonAgainst 69 = .ok (.istore 7, 2) := by decide +kernel
theorem dX4_reasonAgainst_71 : decode cX4_reasonAgainst 71 = .ok (.iload 7, 2) := by decide +kernel
theorem dX4_reasonAgainst_73 : decode cX4_reasonAgainst 73 = .ok (.ifCond .lt 21, 3) := by decide +kernel
theorem dX4_reasonAgainst_76 : decode cX4_reasonAgainst 76 = .ok (.iload 7, 2) := by decide +kernel
theorem dX4_reasonAgainst_78 : decode cX4_reasonAgainst 78 = .ok (.bipush 100, 2) := by decide +kernel
theorem dX4_reasonAgainst_80 : decode cX4_reasonAgainst 80 = .ok (.if_icmp .gt 14, 3) := by decide +kernel
theorem dX4_reasonAgainst_83 : decode cX4_reasonAgainst 83 = .ok (.aload 6, 2) := by decide +kernel
theorem dX4_reasonAgainst_85 : decode cX4_reasonAgainst 85 = .ok (.iload 5, 2) := by decide +kernel
theorem dX4_reasonAgainst_87 : decode cX4_reasonAgainst 87 = .ok (.i2l, 1) := by decide +kernel
theorem dX4_reasonAgainst_88 : decode cX4_reasonAgainst 88 = .ok (.invokevirtual 65, 3) := by decide +kernel
theorem dX4_reasonAgainst_91 : decode cX4_reasonAgainst 91 = .ok (.ifCond .ne 7, 3) := by decide +kernel
theorem dX4_reasonAgainst_94 : decode cX4_reasonAgainst 94 = .ok (.iconst 5, 1) := by decide +kernel
theorem dX4_reasonAgainst_95 : decode cX4_reasonAgainst 95 = .ok (.goto 4, 3) := by decide +kernel
theorem dX4_reasonAgainst_98 : decode cX4_reasonAgainst 98 = .ok (.iconst 0, 1) := by decide +kernel
theorem dX4_reasonAgainst_99 : decode cX4_reasonAgainst 99 = .ok (.ireturn, 1) := by decide +kernel
set_option maxRecDepth 20000 in
theorem ggX4_spendOrRefuse_X3_fateOf : GoodIn wsX4_spendOrRefuse wsX3_fateOf := goodIn_ca (goodIn_r _ [8, 9, 10, 11, 7, 12, 13, 34, 35, 36] (by decide +kernel) (by decide +kernel)) (goodIn_sub (fun _ h => List.mem_cons_of_mem _ (List.mem_append_right _ h)) (by decide +kernel))
set_option maxRecDepth 20000 in
theorem gX4_spendOrRefuse_X3_fateOf : GoodIn wsX4_spendOrRefuse (wsV RX4 124 RX3 yX3_fateOf wsX3_fateOf) := goodIn_app (goodIn_of _ (by decide +kernel)) ggX4_spendOrRefuse_X3_fateOf
set_option maxRecDepth 20000 in
theorem ggX4_spendOrRefuse_X4_refusedFor : GoodIn wsX4_spendOrRefuse wsX4_refusedFor := goodIn_r _ [17] (by decide +kernel) (by decide +kernel)
set_option maxRecDepth 20000 in
theorem gX4_spendOrRefuse_X4_refusedFor : GoodIn wsX4_spendOrRefuse (va_wsS RX4 98 yX4_refusedFor wsX4_refusedFor) := goodIn_app (goodIn_of _ (by decide +kernel)) ggX4_spendOrRefuse_X4_refusedFor
set_option maxRecDepth 20000 in
theorem ggX4_spendOrRefuse_X3_spend : GoodIn wsX4_spendOrRefuse wsX3_spend := goodIn_ca (goodIn_r _ [21, 9, 22, 23, 10, 11, 7, 12, 13, 34, 35, 36] (by decide +kernel) (by decide +kernel)) (goodIn_sub (fun _ h => List.mem_cons_of_mem _ (List.mem_append_right _ h)) (by decide +kernel))
set_option maxRecDepth 20000 in
theorem gX4_spendOrRefuse_X3_spend : GoodIn wsX4_spendOrRefuse (wsV RX4 178 RX3 yX3_spend wsX3_spend) := goodIn_app (goodIn_of _ (by decide +kernel)) ggX4_spendOrRefuse_X3_spend
theorem dX4_spendOrRefuse_0 : decode cX4_spendOrRefuse 0 = .ok (.aload_n 0, 1) := by decide +kernel
theorem dX4_spendOrRefuse_1 : decode cX4_spendOrRefuse 1 = .ok (.getfield 29, 3) := by decide +kernel
theorem dX4_spendOrRefuse_4 : decode cX4_spendOrRefuse 4 = .ok (.iload_n 1, 1) := by decide +kernel
theorem dX4_spendOrRefuse_5 : decode cX4_spendOrRefuse 5 = .ok (.i2l, 1) := by decide +kernel
theorem dX4_spendOrRefuse_6 : decode cX4_spendOrRefuse 6 = .ok (.invokevirtual 124, 3) := by decide +kernel
theorem dX4_spendOrRefuse_9 : decode cX4_spendOrRefuse 9 = .ok (.istore_n 3, 1) := by decide +kernel
theorem dX4_spendOrRefuse_10 : decode cX4_spendOrRefuse 10 = .ok (.iload_n 3, 1) := by decide +kernel
theorem dX4_spendOrRefuse_11 : decode cX4_spendOrRefuse 11 = .ok (.iconst 2, 1) := by decide +kernel
theorem dX4_spendOrRefuse_12 : decode cX4_spendOrRefuse 12 = .ok (.if_icmp .ne 9, 3) := by decide +kernel
theorem dX4_spendOrRefuse_15 : decode cX4_spendOrRefuse 15 = .ok (.bipush 7, 2) := by decide +kernel
theorem dX4_spendOrRefuse_17 : decode cX4_spendOrRefuse 17 = .ok (.invokestatic 98, 3) := by decide +kernel
theorem dX4_spendOrRefuse_20 : decode cX4_spendOrRefuse 20 = .ok (.ireturn, 1) := by decide +kernel
theorem dX4_spendOrRefuse_21 : decode cX4_spendOrRefuse 21 = .ok (.aload_n 0, 1) := by decide +kernel
theorem dX4_spendOrRefuse_22 : decode cX4_spendOrRefuse 22 = .ok (.iload_n 1, 1) := by decide +kernel
theorem dX4_spendOrRefuse_23 : decode cX4_spendOrRefuse 23 = .ok (.putfield 22, 3) := by decide +kernel
theorem dX4_spendOrRefuse_26 : decode cX4_spendOrRefuse 26 = .ok (.iload_n 3, 1) := by decide +kernel
theorem dX4_spendOrRefuse_27 : decode cX4_spendOrRefuse 27 = .ok (.iconst 1, 1) := by decide +kernel
theorem dX4_spendOrRefuse_28 : decode cX4_spendOrRefuse 28 = .ok (.if_icmp .ne 9, 3) := by decide +kernel
theorem dX4_spendOrRefuse_31 : decode cX4_spendOrRefuse 31 = .ok (.bipush 6, 2) := by decide +kernel
theorem dX4_spendOrRefuse_33 : decode cX4_spendOrRefuse 33 = .ok (.invokestatic 98, 3) := by decide +kernel
