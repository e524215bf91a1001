set_option maxRecDepth 20000 in
theorem ggX3_fateOf_X3_isSerial : GoodIn wsX3_fateOf wsX3_isSerial := goodIn_r _ [5, 6] (by decide +kernel) (by decide +kernel)
set_option maxRecDepth 20000 in
theorem gX3_fateOf_X3_isSerial : GoodIn wsX3_fateOf (va_wsS RX3 24 yX3_isSerial wsX3_isSerial) := goodIn_app (goodIn_of _ (by decide +kernel)) ggX3_fateOf_X3_isSerial
theorem dX3_fateOf_0 : decode cX3_fateOf 0 = .ok (.lload_n 1, 1) := by decide +kernel
theorem dX3_fateOf_1 : decode cX3_fateOf 1 = .ok (.invokestatic 24, 3) := by decide +kernel
theorem dX3_fateOf_4 : decode cX3_fateOf 4 = .ok (.ifCond .eq 13, 3) := by decide +kernel
theorem dX3_fateOf_7 : decode cX3_fateOf 7 = .ok (.aload_n 0, 1) := by decide +kernel
theorem dX3_fateOf_8 : decode cX3_fateOf 8 = .ok (.getfield 9, 3) := by decide +kernel
theorem dX3_fateOf_11 : decode cX3_fateOf 11 = .ok (.lload_n 1, 1) := by decide +kernel
theorem dX3_fateOf_12 : decode cX3_fateOf 12 = .ok (.l2i, 1) := by decide +kernel
theorem dX3_fateOf_13 : decode cX3_fateOf 13 = .ok (.baload, 1) := by decide +kernel
theorem dX3_fateOf_14 : decode cX3_fateOf 14 = .ok (.goto 4, 3) := by decide +kernel
theorem dX3_fateOf_17 : decode cX3_fateOf 17 = .ok (.iconst 0, 1) := by decide +kernel
theorem dX3_fateOf_18 : decode cX3_fateOf 18 = .ok (.ireturn, 1) := by decide +kernel
set_option maxRecDepth 20000 in
theorem ggX3_dayOf_X3_isSerial : GoodIn wsX3_dayOf wsX3_isSerial := goodIn_r _ [5, 6] (by decide +kernel) (by decide +kernel)
set_option maxRecDepth 20000 in
theorem gX3_dayOf_X3_isSerial : GoodIn wsX3_dayOf (va_wsS RX3 24 yX3_isSerial wsX3_isSerial) := goodIn_app (goodIn_of _ (by decide +kernel)) ggX3_dayOf_X3_isSerial
theorem dX3_dayOf_0 : decode cX3_dayOf 0 = .ok (.iload_n 1, 1) := by decide +kernel
theorem dX3_dayOf_1 : decode cX3_dayOf 1 = .ok (.i2l, 1) := by decide +kernel
theorem dX3_dayOf_2 : decode cX3_dayOf 2 = .ok (.invokestatic 24, 3) := by decide +kernel
theorem dX3_dayOf_5 : decode cX3_dayOf 5 = .ok (.ifCond .eq 12, 3) := by decide +kernel
theorem dX3_dayOf_8 : decode cX3_dayOf 8 = .ok (.aload_n 0, 1) := by decide +kernel
theorem dX3_dayOf_9 : decode cX3_dayOf 9 = .ok (.getfield 15, 3) := by decide +kernel
theorem dX3_dayOf_12 : decode cX3_dayOf 12 = .ok (.iload_n 1, 1) := by decide +kernel
theorem dX3_dayOf_13 : decode cX3_dayOf 13 = .ok (.iaload, 1) := by decide +kernel
theorem dX3_dayOf_14 : decode cX3_dayOf 14 = .ok (.goto 4, 3) := by decide +kernel
theorem dX3_dayOf_17 : decode cX3_dayOf 17 = .ok (.iconst (-1), 1) := by decide +kernel
theorem dX3_dayOf_18 : decode cX3_dayOf 18 = .ok (.ireturn, 1) := by decide +kernel
set_option maxRecDepth 20000 in
theorem ggX3_checkOf_X3_isSerial : GoodIn wsX3_checkOf wsX3_isSerial := goodIn_r _ [5, 6] (by decide +kernel) (by decide +kernel)
set_option maxRecDepth 20000 in
theorem gX3_checkOf_X3_isSerial : GoodIn wsX3_checkOf (va_wsS RX3 24 yX3_isSerial wsX3_isSerial) := goodIn_app (goodIn_of _ (by decide +kernel)) ggX3_checkOf_X3_isSerial
theorem dX3_checkOf_0 : decode cX3_checkOf 0 = .ok (.iload_n 1, 1) := by decide +kernel
theorem dX3_checkOf_1 : decode cX3_checkOf 1 = .ok (.i2l, 1) := by decide +kernel
theorem dX3_checkOf_2 : decode cX3_checkOf 2 = .ok (.invokestatic 24, 3) := by decide +kernel
theorem dX3_checkOf_5 : decode cX3_checkOf 5 = .ok (.ifCond .eq 12, 3) := by decide +kernel
theorem dX3_checkOf_8 : decode cX3_checkOf 8 = .ok (.aload_n 0, 1) := by decide +kernel
theorem dX3_checkOf_9 : decode cX3_checkOf 9 = .ok (.getfield 19, 3) := by decide +kernel
theorem dX3_checkOf_12 : decode cX3_checkOf 12 = .ok (.iload_n 1, 1) := by decide +kernel
theorem dX3_checkOf_13 : decode cX3_checkOf 13 = .ok (.iaload, 1) := by decide +kernel
theorem dX3_checkOf_14 : decode cX3_checkOf 14 = .ok (.goto 4, 3) := by decide +kernel
theorem dX3_checkOf_17 : decode cX3_checkOf 17 = .ok (.iconst (-1), 1) := by decide +kernel
theorem dX3_checkOf_18 : decode cX3_checkOf 18 = .ok (.ireturn, 1) := by decide +kernel
set_option maxRecDepth 20000 in
theorem ggX3_spend_X3_isSerial : GoodIn wsX3_spend wsX3_isSerial := goodIn_r _ [7, 8] (by decide +kernel) (by decide +kernel)
set_option maxRecDepth 20000 in
theorem gX3_spend_X3_isSerial : GoodIn wsX3_spend (va_wsS RX3 24 yX3_isSerial wsX3_isSerial) := goodIn_app (goodIn_of _ (by decide +kernel)) ggX3_spend_X3_isSerial
theorem dX3_spend_0 : decode cX3_spend 0 = .ok (.iload_n 1, 1) := by decide +kernel
theorem dX3_spend_1 : decode cX3_spend 1 = .ok (.i2l, 1) := by decide +kernel
theorem dX3_spend_2 : decode cX3_spend 2 = .ok (.invokestatic 24, 3) := by decide +kernel
theorem dX3_spend_5 : decode cX3_spend 5 = .ok (.ifCond .ne 4, 3) := by decide +kernel
theorem dX3_spend_8 : decode cX3_spend 8 = .ok (.return_, 1) := by decide +kernel
theorem dX3_spend_9 : decode cX3_spend 9 = .ok (.aload_n 0, 1) := by decide +kernel
theorem dX3_spend_10 : decode cX3_spend 10 = .ok (.getfield 9, 3) := by decide +kernel
theorem dX3_spend_13 : decode cX3_spend 13 = .ok (.iload_n 1, 1) := by decide +kernel
theorem dX3_spend_14 : decode cX3_spend 14 = .ok (.iconst 1, 1) := by decide +kernel
theorem dX3_spend_15 : decode cX3_spend 15 = .ok (.bastore, 1) := by decide +kernel
theorem dX3_spend_16 : decode cX3_spend 16 = .ok (.aload_n 0, 1) := by decide +kernel
theorem dX3_spend_17 : decode cX3_spend 17 = .ok (.getfield 15, 3) := by decide +kernel
theorem dX3_spend_20 : decode cX3_spend 20 = .ok (.iload_n 1, 1) := by decide +kernel
theorem dX3_spend_21 : decode cX3_spend 21 = .ok (.iload_n 2, 1) := by decide +kernel
theorem dX3_spend_22 : decode cX3_spend 22 = .ok (.iastore, 1) := by decide +kernel
theorem dX3_spend_23 : decode cX3_spend 23 = .ok (.aload_n 0, 1) := by decide +kernel
theorem dX3_spend_24 : decode cX3_spend 24 = .ok (.getfield 19, 3) := by decide +kernel
theorem dX3_spend_27 : decode cX3_spend 27 = .ok (.iload_n 1, 1) := by decide +kernel
theorem dX3_spend_28 : decode cX3_spend 28 = .ok (.iload_n 3, 1) := by decide +kernel
theorem dX3_spend_29 : decode cX3_spend 29 = .ok (.iastore, 1) := by decide +kernel
theorem dX3_spend_30 : decode cX3_spend 30 = .ok (.return_, 1) := by decide +kernel
set_option maxRecDepth 20000 in
theorem ggX3_giveBack_X3_isSerial : GoodIn wsX3_giveBack wsX3_isSerial := goodIn_r _ [5, 6] (by decide +kernel) (by decide +kernel)
set_option maxRecDepth 20000 in
theorem gX3_giveBack_X3_isSerial : GoodIn wsX3_giveBack (va_wsS RX3 24 yX3_isSerial wsX3_isSerial) := goodIn_app (goodIn_of _ (by decide +kernel)) ggX3_giveBack_X3_isSerial
theorem dX3_giveBack_0 : decode cX3_giveBack 0 = .ok (.iload_n 1, 1) := by decide +kernel
theorem dX3_giveBack_1 : decode cX3_giveBack 1 = .ok (.i2l, 1) := by decide +kernel
theorem dX3_giveBack_2 : decode cX3_giveBack 2 = .ok (.invokestatic 24, 3) := by decide +kernel
theorem dX3_giveBack_5 : decode cX3_giveBack 5 = .ok (.ifCond .eq 10, 3) := by decide +kernel
theorem dX3_giveBack_8 : decode cX3_giveBack 8 = .ok (.aload_n 0, 1) := by decide +kernel
theorem dX3_giveBack_9 : decode cX3_giveBack 9 = .ok (.getfield 9, 3) := by decide +kernel
theorem dX3_giveBack_12 : decode cX3_giveBack 12 = .ok (.iload_n 1, 1) := by decide +kernel
theorem dX3_giveBack_13 : decode cX3_giveBack 13 = .ok (.iconst 2, 1) := by decide +kernel
theorem dX3_giveBack_14 : decode cX3_giveBack 14 = .ok (.bastore, 1) := by decide +kernel
theorem dX3_giveBack_15 : decode cX3_giveBack 15 = .ok (.return_, 1) := by decide +kernel
set_option maxRecDepth 20000 in
theorem ggX4_init_X3_init : GoodIn wsX4_init wsX3_init := goodIn_r _ [19, 20, 2, 3, 21, 22, 6, 23, 24, 40, 41, 42] (by decide +kernel) (by decide +kernel)
set_option maxRecDepth 20000 in
theorem gX4_init_X3_init_n28 : GoodIn wsX4_init (wsX3_init) := ggX4_init_X3_init
set_option maxRecDepth 20000 in
theorem ggX4_init_X0_init : GoodIn wsX4_init wsX0_init := goodIn_r _ [26, 27, 2, 3, 6, 28, 29, 43, 44, 45] (by decide +kernel) (by decide +kernel)
set_option maxRecDepth 20000 in
theorem gX4_init_X0_init_n35 : GoodIn wsX4_init (wsX0_init) := ggX4_init_X0_init
theorem dX4_init_0 : decode cX4_init 0 = .ok (.aload_n 0, 1) := by decide +kernel
theorem dX4_init_1 : decode cX4_init 1 = .ok (.invokespecial 1, 3) := by decide +kernel
theorem dX4_init_4 : decode cX4_init 4 = .ok (.aload_n 0, 1) := by decide +kernel
theorem dX4_init_5 : decode cX4_init 5 = .ok (.bipush 15, 2) := by decide +kernel
theorem dX4_init_7 : decode cX4_init 7 = .ok (.anewarray 9, 3) := by decide +kernel
theorem dX4_init_10 : decode cX4_init 10 = .ok (.putfield 11, 3) := by decide +kernel
theorem dX4_init_13 : decode cX4_init 13 = .ok (.aload_n 0, 1) := by decide +kernel
theorem dX4_init_14 : decode cX4_init 14 = .ok (.bipush 16, 2) := by decide +kernel
theorem dX4_init_16 : decode cX4_init 16 = .ok (.newarray .int, 2) := by decide +kernel
theorem dX4_init_18 : decode cX4_init 18 = .ok (.putfield 15, 3) := by decide +kernel
theorem dX4_init_21 : decode cX4_init 21 = .ok (.aload_n 0, 1) := by decide +kernel
theorem dX4_init_22 : decode cX4_init 22 = .ok (.bipush 40, 2) := by decide +kernel
theorem dX4_init_24 : decode cX4_init 24 = .ok (.newarray .int, 2) := by decide +kernel
theorem dX4_init_26 : decode cX4_init 26 = .ok (.putfield 19, 3) := by decide +kernel
theorem dX4_init_29 : decode cX4_init 29 = .ok (.aload_n 0, 1) := by decide +kernel
theorem dX4_init_30 : decode cX4_init 30 = .ok (.iconst (-1), 1) := by decide +kernel
theorem dX4_init_31 : decode cX4_init 31 = .ok (.putfield 22, 3) := by decide +kernel
theorem dX4_init_34 : decode cX4_init 34 = .ok (.aload_n 0, 1) := by decide +kernel
theorem dX4_init_35 : decode cX4_init 35 = .ok (.new 26, 3) := by decide +kernel
theorem dX4_init_38 : decode cX4_init 38 = .ok (.dup, 1) := by decide +kernel
theorem dX4_init_39 : decode cX4_init 39 = .ok (.invokespecial 28, 3) := by decide +kernel
theorem dX4_init_42 : decode cX4_init 42 = .ok (.putfield 29, 3) := by decide +kernel
theorem dX4_init_45 : decode cX4_init 45 = .ok (.aload_n 0, 1) := by decide +kernel
theorem dX4_init_46 : decode cX4_init 46 = .ok (.new 33, 3) := by decide +kernel
theorem dX4_init_49 : decode cX4_init 49 = .ok (.dup, 1) := by decide +kernel
theorem dX4_init_50 : decode cX4_init 50 = .ok (.invokespecial 35, 3) := by decide +kernel
theorem dX4_init_53 : decode cX4_init 53 = .ok (.putfield 36, 3) := by decide +kernel
theorem dX4_init_56 : decode cX4_init 56 = .ok (.return_, 1) := by decide +kernel
set_option maxRecDepth 20000 in
theorem ggX4_key_X4_isDay : GoodIn wsX4_key wsX4_isDay := goodIn_r _ [9, 10] (by decide +kernel) (by decide +kernel)
set_option maxRecDepth 20000 in
theorem gX4_key_X4_isDay : GoodIn wsX4_key (va_wsS RX4 40 yX4_isDay wsX4_isDay) := goodIn_app (goodIn_of _ (by decide +kernel)) ggX4_key_X4_isDay
set_option maxRecDepth 20000 in
theorem ggX4_key_X2_init : GoodIn wsX4_key wsX2_init := goodIn_r _ [13, 14, 15, 16, 17, 18, 19, 20, 31, 32, 33, 34, 35] (by decide +kernel) (by decide +kernel)
set_option maxRecDepth 20000 in
theorem gX4_key_X2_init : GoodIn wsX4_key (wsX2_init) := ggX4_key_X2_init
theorem dX4_key_0 : decode cX4_key 0 = .ok (.lload_n 1, 1) := by decide +kernel
theorem dX4_key_1 : decode cX4_key 1 = .ok (.invokestatic 40, 3) := by decide +kernel
theorem dX4_key_4 : decode cX4_key 4 = .ok (.ifCond .eq 16, 3) := by decide +kernel
theorem dX4_key_7 : decode cX4_key 7 = .ok (.lload_n 3, 1) := by decide +kernel
theorem dX4_key_8 : decode cX4_key 8 = .ok (.invokestatic 40, 3) := by decide +kernel
theorem dX4_key_11 : decode cX4_key 11 = .ok (.ifCond .eq 9, 3) := by decide +kernel
theorem dX4_key_14 : decode cX4_key 14 = .ok (.lload_n 1, 1) := by decide +kernel
theorem dX4_key_15 : decode cX4_key 15 = .ok (.lload_n 3, 1) := by decide +kernel
theorem dX4_key_16 : decode cX4_key 16 = .ok (.lcmp, 1) := by decide +kernel
theorem dX4_key_17 : decode cX4_key 17 = .ok (.ifCond .le 6, 3) := by decide +kernel
theorem dX4_key_20 : decode cX4_key 20 = .ok (.bipush (-22), 2) := by decide +kernel
theorem dX4_key_22 : decode cX4_key 22 = .ok (.ireturn, 1) := by decide +kernel
theorem dX4_key_23 : decode cX4_key 23 = .ok (.aload_n 0, 1) := by decide +kernel
theorem dX4_key_24 : decode cX4_key 24 = .ok (.getfield 44, 3) := by decide +kernel
theorem dX4_key_27 : decode cX4_key 27 = .ok (.bipush 15, 2) := by decide +kernel
theorem dX4_key_29 : decode cX4_key 29 = .ok (.if_icmp .lt 6, 3) := by decide +kernel
theorem dX4_key_32 : decode cX4_key 32 = .ok (.bipush (-24), 2) := by decide +kernel
theorem dX4_key_34 : decode cX4_key 34 = .ok (.ireturn, 1) := by decide +kernel
theorem dX4_key_35 : decode cX4_key 35 = .ok (.aload_n 0, 1) := by decide +kernel
theorem dX4_key_36 : decode cX4_key 36 = .ok (.getfield 11, 3) := by decide +kernel
theorem dX4_key_39 : decode cX4_key 39 = .ok (.aload_n 0, 1) := by decide +kernel
theorem dX4_key_40 : decode cX4_key 40 = .ok (.getfield 44, 3) := by decide +kernel
theorem dX4_key_43 : decode cX4_key 43 = .ok (.new 9, 3) := by decide +kernel
theorem dX4_key_46 : decode cX4_key 46 = .ok (.dup, 1) := by decide +kernel
theorem dX4_key_47 : decode cX4_key 47 = .ok (.lload_n 1, 1) := by decide +kernel
theorem dX4_key_48 : decode cX4_key 48 = .ok (.l2i, 1) := by decide +kernel
theorem dX4_key_49 : decode cX4_key 49 = .ok (.lload_n 3, 1) := by decide +kernel
theorem dX4_key_50 : decode cX4_key 50 = .ok (.l2i, 1) := by decide +kernel
theorem dX4_key_51 : decode cX4_key 51 = .ok (.invokespecial 47, 3) := by decide +kernel
theorem dX4_key_54 : decode cX4_key 54 = .ok (.aastore, 1) := by decide +kernel
theorem dX4_key_55 : decode cX4_key 55 = .ok (.aload_n 0, 1) := by decide +kernel
theorem dX4_key_56 : decode cX4_key 56 = .ok (.dup, 1) := by decide +kernel
theorem dX4_key_57 : decode cX4_key 57 = .ok (.getfield 44, 3) := by decide +kernel
theorem dX4_key_60 : decode cX4_key 60 = .ok (.dup_x1, 1) := by decide +kernel
theorem dX4_key_61 : decode cX4_key 61 = .ok (.iconst 1, 1) := by decide +kernel
theorem dX4_key_62 : decode cX4_key 62 = .ok (.iadd, 1) := by decide +kernel
theorem dX4_key_63 : decode cX4_key 63 = .ok (.putfield 44, 3) := by decide +kernel
theorem dX4_key_66 : decode cX4_key 66 = .ok (.ireturn, 1) := by decide +kernel
set_option maxRecDepth 20000 in
theorem ggX4_octet_X4_keyNumbered : GoodIn wsX4_octet wsX4_keyNumbered := goodIn_r _ [5, 6, 7, 16, 17, 18, 19, 20, 21, 22, 23, 24, 25] (by decide +kernel) (by decide +kernel)
set_option maxRecDepth 20000 in
theorem gX4_octet_X4_keyNumbered : GoodIn wsX4_octet (wsV RX4 50 RX4 yX4_keyNumbered wsX4_keyNumbered) := goodIn_app (goodIn_of _ (by decide +kernel)) ggX4_octet_X4_keyNumbered
set_option maxRecDepth 20000 in
theorem ggX4_octet_X2_take : GoodIn wsX4_octet wsX2_take := goodIn_ca (goodIn_r _ [12, 13, 14, 15, 26, 27, 28, 29, 30] (by decide +kernel) (by decide +kernel)) (goodIn_sub (fun _ h => List.mem_cons_of_mem _ (List.mem_append_right _ h)) (by decide +kernel))
set_option maxRecDepth 20000 in
theorem gX4_octet_X2_take : GoodIn wsX4_octet (wsV RX4 54 RX2 yX2_take wsX2_take) := goodIn_app (goodIn_of _ (by decide +kernel)) ggX4_octet_X2_take
theorem dX4_octet_0 : decode cX4_octet 0 = .ok (.aload_n 0, 1) := by decide +kernel
theorem dX4_octet_1 : decode cX4_octet 1 = .ok (.iload_n 1, 1) := by decide +kernel
theorem dX4_octet_2 : decode cX4_octet 2 = .ok (.invokevirtual 50, 3) := by decide +kernel
theorem dX4_octet_5 : decode cX4_octet 5 = .ok (.astore_n 3, 1) := by decide +kernel
theorem dX4_octet_6 : decode cX4_octet 6 = .ok (.aload_n 3, 1) := by decide +kernel
theorem dX4_octet_7 : decode cX4_octet 7 = .ok (.ifnull 8, 3) := by decide +kernel
theorem dX4_octet_10 : decode cX4_octet 10 = .ok (.aload_n 3, 1) := by decide +kernel
theorem dX4_octet_11 : decode cX4_octet 11 = .ok (.iload_n 2, 1) := by decide +kernel
theorem dX4_octet_12 : decode cX4_octet 12 = .ok (.invokevirtual 54, 3) := by decide +kernel
theorem dX4_octet_15 : decode cX4_octet 15 = .ok (.return_, 1) := by decide +kernel
set_option maxRecDepth 20000 in
theorem ggX4_make_X4_keyNumbered : GoodIn wsX4_make wsX4_keyNumbered := goodIn_r _ [7, 8, 9, 127, 128, 129, 130, 131, 132, 133, 134, 135, 136] (by decide +kernel) (by decide +kernel)
set_option maxRecDepth 20000 in
theorem gX4_make_X4_keyNumbered : GoodIn wsX4_make (wsV RX4 50 RX4 yX4_keyNumbered wsX4_keyNumbered) := goodIn_app (goodIn_of _ (by decide +kernel)) ggX4_make_X4_keyNumbered
set_option maxRecDepth 20000 in
theorem ggX4_make_X4_isValue : GoodIn wsX4_make wsX4_isValue := goodIn_r _ [12, 13] (by decide +kernel) (by decide +kernel)
set_option maxRecDepth 20000 in
theorem gX4_make_X4_isValue : GoodIn wsX4_make (va_wsS RX4 58 yX4_isValue wsX4_isValue) := goodIn_app (goodIn_of _ (by decide +kernel)) ggX4_make_X4_isValue
set_option maxRecDepth 20000 in
theorem ggX4_make_X4_isKind : GoodIn wsX4_make wsX4_isKind := goodIn_r _ [16] (by decide +kernel) (by decide +kernel)
set_option maxRecDepth 20000 in
theorem gX4_make_X4_isKind : GoodIn wsX4_make (va_wsS RX4 62 yX4_isKind wsX4_isKind) := goodIn_app (goodIn_of _ (by decide +kernel)) ggX4_make_X4_isKind
set_option maxRecDepth 20000 in
theorem ggX4_make_X4_isDay : GoodIn wsX4_make wsX4_isDay := goodIn_r _ [19, 20] (by decide +kernel) (by decide +kernel)
set_option maxRecDepth 20000 in
theorem gX4_make_X4_isDay : GoodIn wsX4_make (va_wsS RX4 40 yX4_isDay wsX4_isDay) := goodIn_app (goodIn_of _ (by decide +kernel)) ggX4_make_X4_isDay
set_option maxRecDepth 20000 in
theorem ggX4_make_X2_holdsOn : GoodIn wsX4_make wsX2_holdsOn := goodIn_r _ [25, 26, 27, 137, 138, 139, 140, 141] (by decide +kernel) (by decide +kernel)
set_option maxRecDepth 20000 in
theorem gX4_make_X2_holdsOn : GoodIn wsX4_make (wsV RX4 65 RX2 yX2_holdsOn wsX2_holdsOn) := goodIn_app (goodIn_of _ (by decide +kernel)) ggX4_make_X2_holdsOn
set_option maxRecDepth 20000 in
theorem ggX4_make_X1_joined : GoodIn wsX4_make wsX1_joined := goodIn_r _ [31] (by decide +kernel) (by decide +kernel)
set_option maxRecDepth 20000 in
theorem gX4_make_X1_joined : GoodIn wsX4_make (va_wsS RX4 71 yX1_joined wsX1_joined) := goodIn_app (goodIn_of _ (by decide +kernel)) ggX4_make_X1_joined
set_option maxRecDepth 20000 in
theorem ggX4_make_X2_close : GoodIn wsX4_make wsX2_close := goodIn_r _ [35, 36, 137, 138, 139, 140, 141] (by decide +kernel) (by decide +kernel)
set_option maxRecDepth 20000 in
theorem gX4_make_X2_close : GoodIn wsX4_make (wsV RX4 77 RX2 yX2_close wsX2_close) := goodIn_app (goodIn_of _ (by decide +kernel)) ggX4_make_X2_close
set_option maxRecDepth 20000 in
theorem ggX4_make_X0_reckon : GoodIn wsX4_make wsX0_reckon := goodIn_ca (goodIn_r _ [41, 42, 43, 44, 45, 46, 47, 40, 48, 49, 50, 51, 52, 53, 54, 24, 55, 56, 57, 58, 59, 60, 61, 62, 63, 64, 65, 66, 67, 68, 69, 70, 71, 72, 73, 142, 143, 144, 137, 138, 139, 140, 141] (by decide +kernel) (by decide +kernel)) (goodIn_sub (fun _ h => List.mem_cons_of_mem _ (List.mem_append_right _ h)) (by decide +kernel))
set_option maxRecDepth 20000 in
theorem gX4_make_X0_reckon : GoodIn wsX4_make (wsV RX4 80 RX0 yX0_reckon wsX0_reckon) := goodIn_app (goodIn_of _ (by decide +kernel)) ggX4_make_X0_reckon
set_option maxRecDepth 20000 in
theorem ggX4_make_X0_firstBits : GoodIn wsX4_make wsX0_firstBits := goodIn_ca (goodIn_r _ [77, 43, 142, 143, 144] (by decide +kernel) (by decide +kernel)) (goodIn_sub (fun _ h => List.mem_cons_of_mem _ (List.mem_append_right _ h)) (by decide +kernel))
set_option maxRecDepth 20000 in
theorem gX4_make_X0_firstBits : GoodIn wsX4_make (wsV RX4 84 RX0 yX0_firstBits wsX0_firstBits) := goodIn_app (goodIn_of _ (by decide +kernel)) ggX4_make_X0_firstBits
set_option maxRecDepth 20000 in
theorem ggX4_make_X4_writeLetters : GoodIn wsX4_make wsX4_writeLetters := goodIn_ca (goodIn_r _ [81, 82, 83, 84, 6, 85, 86, 87, 88, 89, 90, 91, 92, 93, 94, 95, 96, 97, 98, 99, 100, 101, 102, 103, 104, 105, 106, 107, 108, 109, 110, 111, 112, 113, 114, 115, 116, 117, 118, 119, 120, 121, 122, 123, 124, 125, 126, 127, 128, 129, 130, 131, 132, 133, 134, 135, 136, 145, 146] (by decide +kernel) (by decide +kernel)) (goodIn_sub (fun _ h => List.mem_cons_of_mem _ (List.mem_append_right _ h)) (by decide +kernel))
set_option maxRecDepth 20000 in
theorem gX4_make_X4_writeLetters : GoodIn wsX4_make (wsV RX4 88 RX4 yX4_writeLetters wsX4_writeLetters) := goodIn_app (goodIn_of _ (by decide +kernel)) ggX4_make_X4_writeLetters
theorem dX4_make_0 : decode cX4_make 0 = .ok (.aload_n 0, 1) := by decide +kernel
theorem dX4_make_1 : decode cX4_make 1 = .ok (.iload_n 1, 1) := by decide +kernel
theorem dX4_make_2 : decode cX4_make 2 = .ok (.invokevirtual 50, 3) := by decide +kernel
theorem dX4_make_5 : decode cX4_make 5 = .ok (.astore 6, 2) := by decide +kernel
theorem dX4_make_7 : decode cX4_make 7 = .ok (.aload 6, 2) := by decide +kernel
theorem dX4_make_9 : decode cX4_make 9 = .ok (.ifnonnull 6, 3) := by decide +kernel
theorem dX4_make_12 : decode cX4_make 12 = .ok (.bipush (-21), 2) := by decide +kernel
theorem dX4_make_14 : decode cX4_make 14 = .ok (.ireturn, 1) := by decide +kernel
theorem dX4_make_15 : decode cX4_make 15 = .ok (.iload_n 2, 1) := by decide +kernel
theorem dX4_make_16 : decode cX4_make 16 = .ok (.invokestatic 58, 3) := by decide +kernel
theorem dX4_make_19 : decode cX4_make 19 = .ok (.ifCond .eq 18, 3) := by decide +kernel
theorem dX4_make_22 : decode cX4_make 22 = .ok (.iload_n 3, 1) := by decide +kernel
theorem dX4_make_23 : decode cX4_make 23 = .ok (.invokestatic 62, 3) := by decide +kernel
theorem dX4_make_26 : decode cX4_make 26 = .ok (.ifCond .eq 11, 3) := by decide +kernel
theorem dX4_make_29 : decode cX4_make 29 = .ok (.lload 4, 2) := by decide +kernel
theorem dX4_make_31 : decode cX4_make 31 = .ok (.invokestatic 40, 3) := by decide +kernel
theorem dX4_make_34 : decode cX4_make 34 = .ok (.ifCond .ne 6, 3) := by decide +kernel
theorem dX4_make_37 : decode cX4_make 37 = .ok (.bipush (-22), 2) := by decide +kernel
theorem dX4_make_39 : decode cX4_make 39 = .ok (.ireturn, 1) := by decide +kernel
theorem dX4_make_40 : decode cX4_make 40 = .ok (.aload 6, 2) := by decide +kernel
theorem dX4_make_42 : decode cX4_make 42 = .ok (.lload 4, 2) := by decide +kernel
theorem dX4_make_44 : decode cX4_make 44 = .ok (.invokevirtual 65, 3) := by decide +kernel
theorem dX4_make_47 : decode cX4_make 47 = .ok (.ifCond .ne 6, 3) := by decide +kernel
theorem dX4_make_50 : decode cX4_make 50 = .ok (.bipush (-23), 2) := by decide +kernel
theorem dX4_make_52 : decode cX4_make 52 = .ok (.ireturn, 1) := by decide +kernel
theorem dX4_make_53 : decode cX4_make 53 = .ok (.aload_n 0, 1) := by decide +kernel
theorem dX4_make_54 : decode cX4_make 54 = .ok (.getfield 68, 3) := by decide +kernel
theorem dX4_make_57 : decode cX4_make 57 = .ok (.sipush 16384, 3) := by decide +kernel
theorem dX4_make_60 : decode cX4_make 60 = .ok (.if_icmp .lt 6, 3) := by decide +kernel
theorem dX4_make_63 : decode cX4_make 63 = .ok (.bipush (-24), 2) := by decide +kernel
theorem dX4_make_65 : decode cX4_make 65 = .ok (.ireturn, 1) := by decide +kernel
theorem dX4_make_66 : decode cX4_make 66 = .ok (.iload_n 1, 1) := by decide +kernel
theorem dX4_make_67 : decode cX4_make 67 = .ok (.iload_n 3, 1) := by decide +kernel
theorem dX4_make_68 : decode cX4_make 68 = .ok (.iload_n 2, 1) := by decide +kernel
theorem dX4_make_69 : decode cX4_make 69 = .ok (.lload 4, 2) := by decide +kernel
theorem dX4_make_71 : decode cX4_make 71 = .ok (.l2i, 1) := by decide +kernel
theorem dX4_make_72 : decode cX4_make 72 = .ok (.aload_n 0, 1) := by decide +kernel
theorem dX4_make_73 : decode cX4_make 73 = .ok (.getfield 68, 3) := by decide +kernel
theorem dX4_make_76 : decode cX4_make 76 = .ok (.invokestatic 71, 3) := by decide +kernel
theorem dX4_make_79 : decode cX4_make 79 = .ok (.lstore 7, 2) := by decide +kernel
theorem dX4_make_81 : decode cX4_make 81 = .ok (.aload_n 0, 1) := by decide +kernel
theorem dX4_make_82 : decode cX4_make 82 = .ok (.dup, 1) := by decide +kernel
theorem dX4_make_83 : decode cX4_make 83 = .ok (.getfield 68, 3) := by decide +kernel
theorem dX4_make_86 : decode cX4_make 86 = .ok (.iconst 1, 1) := by decide +kernel
theorem dX4_make_87 : decode cX4_make 87 = .ok (.iadd, 1) := by decide +kernel
theorem dX4_make_88 : decode cX4_make 88 = .ok (.putfield 68, 3) := by decide +kernel
theorem dX4_make_91 : decode cX4_make 91 = .ok (.aload 6, 2) := by decide +kernel
theorem dX4_make_93 : decode cX4_make 93 = .ok (.invokevirtual 77, 3) := by decide +kernel
theorem dX4_make_96 : decode cX4_make 96 = .ok (.aload_n 0, 1) := by decide +kernel
theorem dX4_make_97 : decode cX4_make 97 = .ok (.getfield 36, 3) := by decide +kernel
theorem dX4_make_100 : decode cX4_make 100 = .ok (.aload 6, 2) := by decide +kernel
theorem dX4_make_102 : decode cX4_make 102 = .ok (.lload 7, 2) := by decide +kernel
theorem dX4_make_104 : decode cX4_make 104 = .ok (.invokevirtual 80, 3) := by decide +kernel
theorem dX4_make_107 : decode cX4_make 107 = .ok (.aload_n 0, 1) := by decide +kernel
theorem dX4_make_108 : decode cX4_make 108 = .ok (.lload 7, 2) := by decide +kernel
theorem dX4_make_110 : decode cX4_make 110 = .ok (.aload_n 0, 1) := by decide +kernel
theorem dX4_make_111 : decode cX4_make 111 = .ok (.getfield 36, 3) := by decide +kernel
theorem dX4_make_114 : decode cX4_make 114 = .ok (.invokevirtual 84, 3) := by decide +kernel
theorem dX4_make_117 : decode cX4_make 117 = .ok (.invokevirtual 88, 3) := by decide +kernel
theorem dX4_make_120 : decode cX4_make 120 = .ok (.bipush 16, 2) := by decide +kernel
theorem dX4_make_122 : decode cX4_make 122 = .ok (.ireturn, 1) := by decide +kernel
theorem dX4_letter_0 : decode cX4_letter 0 = .ok (.iload_n 1, 1) := by decide +kernel
theorem dX4_letter_1 : decode cX4_letter 1 = .ok (.ifCond .lt 18, 3) := by decide +kernel
theorem dX4_letter_4 : decode cX4_letter 4 = .ok (.iload_n 1, 1) := by decide +kernel
theorem dX4_letter_5 : decode cX4_letter 5 = .ok (.bipush 16, 2) := by decide +kernel
theorem dX4_letter_7 : decode cX4_letter 7 = .ok (.if_icmp .ge 12, 3) := by decide +kernel
theorem dX4_letter_10 : decode cX4_letter 10 = .ok (.aload_n 0, 1) := by decide +kernel
theorem dX4_letter_11 : decode cX4_letter 11 = .ok (.getfield 15, 3) := by decide +kernel
theorem dX4_letter_14 : decode cX4_letter 14 = .ok (.iload_n 1, 1) := by decide +kernel
theorem dX4_letter_15 : decode cX4_letter 15 = .ok (.iaload, 1) := by decide +kernel
theorem dX4_letter_16 : decode cX4_letter 16 = .ok (.goto 4, 3) := by decide +kernel
theorem dX4_letter_19 : decode cX4_letter 19 = .ok (.iconst 0, 1) := by decide +kernel
theorem dX4_letter_20 : decode cX4_letter 20 = .ok (.ireturn, 1) := by decide +kernel
theorem dX4_type_0 : decode cX4_type 0 = .ok (.aload_n 0, 1) := by decide +kernel
theorem dX4_type_1 : decode cX4_type 1 = .ok (.getfield 92, 3) := by decide +kernel
theorem dX4_type_4 : decode cX4_type 4 = .ok (.bipush 40, 2) := by decide +kernel
theorem dX4_type_6 : decode cX4_type 6 = .ok (.if_icmp .lt 4, 3) := by decide +kernel
theorem dX4_type_9 : decode cX4_type 9 = .ok (.return_, 1) := by decide +kernel
theorem dX4_type_10 : decode cX4_type 10 = .ok (.aload_n 0, 1) := by decide +kernel
theorem dX4_type_11 : decode cX4_type 11 = .ok (.getfield 19, 3) := by decide +kernel
theorem dX4_type_14 : decode cX4_type 14 = .ok (.aload_n 0, 1) := by decide +kernel
theorem dX4_type_15 : decode cX4_type 15 = .ok (.getfield 92, 3) := by decide +kernel
theorem dX4_type_18 : decode cX4_type 18 = .ok (.iload_n 1, 1) := by decide +kernel
theorem dX4_type_19 : decode cX4_type 19 = .ok (.iastore, 1) := by decide +kernel
theorem dX4_type_20 : decode cX4_type 20 = .ok (.aload_n 0, 1) := by decide +kernel
theorem dX4_type_21 : decode cX4_type 21 = .ok (.dup, 1) := by decide +kernel
theorem dX4_type_22 : decode cX4_type 22 = .ok (.getfield 92, 3) := by decide +kernel
theorem dX4_type_25 : decode cX4_type 25 = .ok (.iconst 1, 1) := by decide +kernel
theorem dX4_type_26 : decode cX4_type 26 = .ok (.iadd, 1) := by decide +kernel
theorem dX4_type_27 : decode cX4_type 27 = .ok (.putfield 92, 3) := by decide +kernel
theorem dX4_type_30 : decode cX4_type 30 = .ok (.return_, 1) := by decide +kernel
set_option maxRecDepth 20000 in
theorem ggX4_check_X4_isDay : GoodIn wsX4_check wsX4_isDay := goodIn_r _ [6, 7] (by decide +kernel) (by decide +kernel)
set_option maxRecDepth 20000 in
theorem gX4_check_X4_isDay : GoodIn wsX4_check (va_wsS RX4 40 yX4_isDay wsX4_isDay) := goodIn_app (goodIn_of _ (by decide +kernel)) ggX4_check_X4_isDay
set_option maxRecDepth 20000 in
theorem ggX4_check_X4_typedBits : GoodIn wsX4_check wsX4_typedBits := goodIn_ca (goodIn_r _ [11, 12, 13, 14, 15, 5, 16, 17, 18, 19, 20, 21, 22, 23, 24, 25, 26, 27, 28, 29, 30, 31, 32, 33, 34, 35, 36, 37, 38, 39, 40, 41, 42, 43, 44, 45, 46, 47, 48, 49, 50, 51, 52, 53, 54, 55, 56, 57, 58, 59, 60, 61, 62, 63, 64, 65, 172, 173, 174, 175, 176, 177, 178, 179, 180, 181, 182, 183] (by decide +kernel) (by decide +kernel)) (goodIn_sub (fun _ h => List.mem_cons_of_mem _ (List.mem_append_right _ h)) (by decide +kernel))
set_option maxRecDepth 20000 in
theorem gX4_check_X4_typedBits : GoodIn wsX4_check (wsV RX4 98 RX4 yX4_typedBits wsX4_typedBits) := goodIn_app (goodIn_of _ (by decide +kernel)) ggX4_check_X4_typedBits
set_option maxRecDepth 20000 in
theorem ggX4_check_X4_reasonAgainst : GoodIn wsX4_check wsX4_reasonAgainst := goodIn_ca (goodIn_r _ [69, 70, 71, 72, 73, 74, 75, 76, 77, 5, 78, 79, 80, 81, 82, 83, 84, 85, 86, 87, 88, 89, 90, 91, 92, 93, 94, 95, 96, 97, 98, 99, 100, 101, 102, 103, 104, 105, 106, 107, 108, 109, 110, 111, 112, 113, 114, 115, 116, 117, 118, 119, 120, 121, 122, 123, 124, 125, 126, 127, 128, 129, 130, 131, 132, 133, 134, 135, 136, 137, 138, 139, 140, 141, 142, 143, 144, 145, 146, 172, 173, 174, 175, 176, 177, 178, 179, 180, 181, 184, 185, 186, 187, 188, 189, 190, 191] (by decide +kernel) (by decide +kernel)) (goodIn_sub (fun _ h => List.mem_cons_of_mem _ (List.mem_append_right _ h)) (by decide +kernel))
set_option maxRecDepth 20000 in
theorem gX4_check_X4_reasonAgainst : GoodIn wsX4_check (wsV RX4 102 RX4 yX4_reasonAgainst wsX4_reasonAgainst) := goodIn_app (goodIn_of _ (by decide +kernel)) ggX4_check_X4_reasonAgainst
set_option maxRecDepth 20000 in
theorem ggX4_check_X1_serialOf : GoodIn wsX4_check wsX1_serialOf := goodIn_r _ [149] (by decide +kernel) (by decide +kernel)
set_option maxRecDepth 20000 in
theorem gX4_check_X1_serialOf : GoodIn wsX4_check (va_wsS RX4 106 yX1_serialOf wsX1_serialOf) := goodIn_app (goodIn_of _ (by decide +kernel)) ggX4_check_X1_serialOf
set_option maxRecDepth 20000 in
theorem ggX4_check_X4_accepted : GoodIn wsX4_check wsX4_accepted := goodIn_ca (goodIn_r _ [153, 154, 155, 1, 156, 157, 158, 159, 160, 161, 162, 163, 164, 165, 166, 167, 168, 169, 170, 171, 172, 173, 174, 175, 176, 177, 178, 179, 180, 181, 192, 193, 194] (by decide +kernel) (by decide +kernel)) (goodIn_sub (fun _ h => List.mem_cons_of_mem _ (List.mem_append_right _ h)) (by decide +kernel))
set_option maxRecDepth 20000 in
theorem gX4_check_X4_accepted : GoodIn wsX4_check (wsV RX4 110 RX4 yX4_accepted wsX4_accepted) := goodIn_app (goodIn_of _ (by decide +kernel)) ggX4_check_X4_accepted
theorem dX4_check_0 : decode cX4_check 0 = .ok (.lload_n 1, 1) := by decide +kernel
theorem dX4_check_1 : decode cX4_check 1 = .ok (.invokestatic 40, 3) := by decide +kernel
theorem dX4_check_4 : decode cX4_check 4 = .ok (.ifCond .ne 6, 3) := by decide +kernel
theorem dX4_check_7 : decode cX4_check 7 = .ok (.bipush (-22), 2) := by decide +kernel
theorem dX4_check_9 : decode cX4_check 9 = .ok (.ireturn, 1) := by decide +kernel
theorem dX4_check_10 : decode cX4_check 10 = .ok (.aload_n 0, 1) := by decide +kernel
theorem dX4_check_11 : decode cX4_check 11 = .ok (.dup, 1) := by decide +kernel
theorem dX4_check_12 : decode cX4_check 12 = .ok (.getfield 95, 3) := by decide +kernel
theorem dX4_check_15 : decode cX4_check 15 = .ok (.iconst 1, 1) := by decide +kernel
theorem dX4_check_16 : decode cX4_check 16 = .ok (.iadd, 1) := by decide +kernel
theorem dX4_check_17 : decode cX4_check 17 = .ok (.putfield 95, 3) := by decide +kernel
theorem dX4_check_20 : decode cX4_check 20 = .ok (.aload_n 0, 1) := by decide +kernel
theorem dX4_check_21 : decode cX4_check 21 = .ok (.getfield 92, 3) := by decide +kernel
theorem dX4_check_24 : decode cX4_check 24 = .ok (.istore_n 3, 1) := by decide +kernel
theorem dX4_check_25 : decode cX4_check 25 = .ok (.aload_n 0, 1) := by decide +kernel
theorem dX4_check_26 : decode cX4_check 26 = .ok (.iconst 0, 1) := by decide +kernel
theorem dX4_check_27 : decode cX4_check 27 = .ok (.putfield 92, 3) := by decide +kernel
theorem dX4_check_30 : decode cX4_check 30 = .ok (.iload_n 3, 1) := by decide +kernel
theorem dX4_check_31 : decode cX4_check 31 = .ok (.bipush 16, 2) := by decide +kernel
theorem dX4_check_33 : decode cX4_check 33 = .ok (.if_icmp .eq 6, 3) := by decide +kernel
theorem dX4_check_36 : decode cX4_check 36 = .ok (.bipush (-2), 2) := by decide +kernel
theorem dX4_check_38 : decode cX4_check 38 = .ok (.ireturn, 1) := by decide +kernel
theorem dX4_check_39 : decode cX4_check 39 = .ok (.aload_n 0, 1) := by decide +kernel
theorem dX4_check_40 : decode cX4_check 40 = .ok (.iconst 0, 1) := by decide +kernel
theorem dX4_check_41 : decode cX4_check 41 = .ok (.bipush 11, 2) := by decide +kernel
theorem dX4_check_43 : decode cX4_check 43 = .ok (.invokevirtual 98, 3) := by decide +kernel
theorem dX4_check_46 : decode cX4_check 46 = .ok (.lstore 4, 2) := by decide +kernel
theorem dX4_check_48 : decode cX4_check 48 = .ok (.aload_n 0, 1) := by decide +kernel
theorem dX4_check_49 : decode cX4_check 49 = .ok (.bipush 11, 2) := by decide +kernel
theorem dX4_check_51 : decode cX4_check 51 = .ok (.bipush 16, 2) := by decide +kernel
theorem dX4_check_53 : decode cX4_check 53 = .ok (.invokevirtual 98, 3) := by decide +kernel
theorem dX4_check_56 : decode cX4_check 56 = .ok (.lstore 6, 2) := by decide +kernel
theorem dX4_check_58 : decode cX4_check 58 = .ok (.lload 4, 2) := by decide +kernel
theorem dX4_check_60 : decode cX4_check 60 = .ok (.lconst 0, 1) := by decide +kernel
theorem dX4_check_61 : decode cX4_check 61 = .ok (.lcmp, 1) := by decide +kernel
theorem dX4_check_62 : decode cX4_check 62 = .ok (.ifCond .lt 10, 3) := by decide +kernel
theorem dX4_check_65 : decode cX4_check 65 = .ok (.lload 6, 2) := by decide +kernel
theorem dX4_check_67 : decode cX4_check 67 = .ok (.lconst 0, 1) := by decide +kernel
theorem dX4_check_68 : decode cX4_check 68 = .ok (.lcmp, 1) := by decide +kernel
theorem dX4_check_69 : decode cX4_check 69 = .ok (.ifCond .ge 6, 3) := by decide +kernel
theorem dX4_check_72 : decode cX4_check 72 = .ok (.bipush (-3), 2) := by decide +kernel
theorem dX4_check_74 : decode cX4_check 74 = .ok (.ireturn, 1) := by decide +kernel
theorem dX4_check_75 : decode cX4_check 75 = .ok (.aload_n 0, 1) := by decide +kernel
theorem dX4_check_76 : decode cX4_check 76 = .ok (.lload 4, 2) := by decide +kernel
theorem dX4_check_78 : decode cX4_check 78 = .ok (.lload 6, 2) := by decide +kernel
theorem dX4_check_80 : decode cX4_check 80 = .ok (.lload_n 1, 1) := by decide +kernel
theorem dX4_check_81 : decode cX4_check 81 = .ok (.l2i, 1) := by decide +kernel
theorem dX4_check_82 : decode cX4_check 82 = .ok (.invokevirtual 102, 3) := by decide +kernel
theorem dX4_check_85 : decode cX4_check 85 = .ok (.istore 8, 2) := by decide +kernel
theorem dX4_check_87 : decode cX4_check 87 = .ok (.iload 8, 2) := by decide +kernel
theorem dX4_check_89 : decode cX4_check 89 = .ok (.ifCond .eq 10, 3) := by decide +kernel
theorem dX4_check_92 : decode cX4_check 92 = .ok (.iconst (-1), 1) := by decide +kernel
theorem dX4_check_93 : decode cX4_check 93 = .ok (.iload 8, 2) := by decide +kernel
theorem dX4_check_95 : decode cX4_check 95 = .ok (.isub, 1) := by decide +kernel
theorem dX4_check_96 : decode cX4_check 96 = .ok (.goto 14, 3) := by decide +kernel
theorem dX4_check_99 : decode cX4_check 99 = .ok (.aload_n 0, 1) := by decide +kernel
theorem dX4_check_100 : decode cX4_check 100 = .ok (.lload 4, 2) := by decide +kernel
theorem dX4_check_102 : decode cX4_check 102 = .ok (.invokestatic 106, 3) := by decide +kernel
theorem dX4_check_105 : decode cX4_check 105 = .ok (.lload_n 1, 1) := by decide +kernel
theorem dX4_check_106 : decode cX4_check 106 = .ok (.l2i, 1) := by decide +kernel
theorem dX4_check_107 : decode cX4_check 107 = .ok (.invokevirtual 110, 3) := by decide +kernel
theorem dX4_check_110 : decode cX4_check 110 = .ok (.ireturn, 1) := by decide +kernel
set_option maxRecDepth 20000 in
theorem ggX4_first_X3_dayOf : GoodIn wsX4_first wsX3_dayOf := goodIn_ca (goodIn_r _ [7, 8, 9, 10, 6, 11, 12, 28, 29, 30] (by decide +kernel) (by decide +kernel)) (goodIn_sub (fun _ h => List.mem_cons_of_mem _ (List.mem_append_right _ h)) (by decide +kernel))
set_option maxRecDepth 20000 in
theorem gX4_first_X3_dayOf : GoodIn wsX4_first (wsV RX4 114 RX3 yX3_dayOf wsX3_dayOf) := goodIn_app (goodIn_of _ (by decide +kernel)) ggX4_first_X3_dayOf
set_option maxRecDepth 20000 in
theorem ggX4_first_X3_checkOf : GoodIn wsX4_first wsX3_checkOf := goodIn_ca (goodIn_r _ [16, 17, 9, 10, 6, 11, 12, 28, 29, 30] (by decide +kernel) (by decide +kernel)) (goodIn_sub (fun _ h => List.mem_cons_of_mem _ (List.mem_append_right _ h)) (by decide +kernel))
set_option maxRecDepth 20000 in
theorem gX4_first_X3_checkOf : GoodIn wsX4_first (wsV RX4 118 RX3 yX3_checkOf wsX3_checkOf) := goodIn_app (goodIn_of _ (by decide +kernel)) ggX4_first_X3_checkOf
theorem dX4_first_0 : decode cX4_first 0 = .ok (.iload_n 1, 1) := by decide +kernel
theorem dX4_first_1 : decode cX4_first 1 = .ok (.ifCond .lt 8, 3) := by decide +kernel
theorem dX4_first_4 : decode cX4_first 4 = .ok (.iload_n 1, 1) := by decide +kernel
theorem dX4_first_5 : decode cX4_first 5 = .ok (.iconst 2, 1) := by decide +kernel
theorem dX4_first_6 : decode cX4_first 6 = .ok (.if_icmp .le 6, 3) := by decide +kernel
theorem dX4_first_9 : decode cX4_first 9 = .ok (.bipush (-22), 2) := by decide +kernel
theorem dX4_first_11 : decode cX4_first 11 = .ok (.ireturn, 1) := by decide +kernel
theorem dX4_first_12 : decode cX4_first 12 = .ok (.aload_n 0, 1) := by decide +kernel
theorem dX4_first_13 : decode cX4_first 13 = .ok (.getfield 22, 3) := by decide +kernel
theorem dX4_first_16 : decode cX4_first 16 = .ok (.ifCond .ge 5, 3) := by decide +kernel
theorem dX4_first_19 : decode cX4_first 19 = .ok (.iconst (-1), 1) := by decide +kernel
theorem dX4_first_20 : decode cX4_first 20 = .ok (.ireturn, 1) := by decide +kernel
theorem dX4_first_21 : decode cX4_first 21 = .ok (.iload_n 1, 1) := by decide +kernel
theorem dX4_first_22 : decode cX4_first 22 = .ok (.ifCond .ne 8, 3) := by decide +kernel
theorem dX4_first_25 : decode cX4_first 25 = .ok (.aload_n 0, 1) := by decide +kernel
theorem dX4_first_26 : decode cX4_first 26 = .ok (.getfield 22, 3) := by decide +kernel
theorem dX4_first_29 : decode cX4_first 29 = .ok (.ireturn, 1) := by decide +kernel
theorem dX4_first_30 : decode cX4_first 30 = .ok (.iload_n 1, 1) := by decide +kernel
theorem dX4_first_31 : decode cX4_first 31 = .ok (.iconst 1, 1) := by decide +kernel
theorem dX4_first_32 : decode cX4_first 32 = .ok (.if_icmp .ne 17, 3) := by decide +kernel
theorem dX4_first_35 : decode cX4_first 35 = .ok (.aload_n 0, 1) := by decide +kernel
theorem dX4_first_36 : decode cX4_first 36 = .ok (.getfield 29, 3) := by decide +kernel
theorem dX4_first_39 : decode cX4_first 39 = .ok (.aload_n 0, 1) := by decide +kernel
theorem dX4_first_40 : decode cX4_first 40 = .ok (.getfield 22, 3) := by decide +kernel
theorem dX4_first_43 : decode cX4_first 43 = .ok (.invokevirtual 114, 3) := by decide +kernel
theorem dX4_first_46 : decode cX4_first 46 = .ok (.goto 14, 3) := by decide +kernel
theorem dX4_first_49 : decode cX4_first 49 = .ok (.aload_n 0, 1) := by decide +kernel
theorem dX4_first_50 : decode cX4_first 50 = .ok (.getfield 29, 3) := by decide +kernel
theorem dX4_first_53 : decode cX4_first 53 = .ok (.aload_n 0, 1) := by decide +kernel
theorem dX4_first_54 : decode cX4_first 54 = .ok (.getfield 22, 3) := by decide +kernel
theorem dX4_first_57 : decode cX4_first 57 = .ok (.invokevirtual 118, 3) := by decide +kernel
theorem dX4_first_60 : decode cX4_first 60 = .ok (.ireturn, 1) := by decide +kernel
set_option maxRecDepth 20000 in
theorem ggX4_refund_X3_fateOf : GoodIn wsX4_refund wsX3_fateOf := goodIn_ca (goodIn_r _ [7, 8, 9, 10, 6, 11, 12, 27, 28, 29] (by decide +kernel) (by decide +kernel)) (goodIn_sub (fun _ h => List.mem_cons_of_mem _ (List.mem_append_right _ h)) (by decide +kernel))
set_option maxRecDepth 20000 in
theorem gX4_refund_X3_fateOf : GoodIn wsX4_refund (wsV RX4 121 RX3 yX3_fateOf wsX3_fateOf) := goodIn_app (goodIn_of _ (by decide +kernel)) ggX4_refund_X3_fateOf
set_option maxRecDepth 20000 in
theorem ggX4_refund_X3_giveBack : GoodIn wsX4_refund wsX3_giveBack := goodIn_ca (goodIn_r _ [16, 8, 9, 10, 6, 11, 12, 27, 28, 29] (by decide +kernel) (by decide +kernel)) (goodIn_sub (fun _ h => List.mem_cons_of_mem _ (List.mem_append_right _ h)) (by decide +kernel))
set_option maxRecDepth 20000 in
theorem gX4_refund_X3_giveBack : GoodIn wsX4_refund (wsV RX4 124 RX3 yX3_giveBack wsX3_giveBack) := goodIn_app (goodIn_of _ (by decide +kernel)) ggX4_refund_X3_giveBack
theorem dX4_refund_0 : decode cX4_refund 0 = .ok (.lload_n 1, 1) := by decide +kernel
theorem dX4_refund_1 : decode cX4_refund 1 = .ok (.lconst 0, 1) := by decide +kernel
theorem dX4_refund_2 : decode cX4_refund 2 = .ok (.lcmp, 1) := by decide +kernel
theorem dX4_refund_3 : decode cX4_refund 3 = .ok (.ifCond .lt 24, 3) := by decide +kernel
theorem dX4_refund_6 : decode cX4_refund 6 = .ok (.lload_n 1, 1) := by decide +kernel
theorem dX4_refund_7 : decode cX4_refund 7 = .ok (.aload_n 0, 1) := by decide +kernel
theorem dX4_refund_8 : decode cX4_refund 8 = .ok (.getfield 68, 3) := by decide +kernel
theorem dX4_refund_11 : decode cX4_refund 11 = .ok (.i2l, 1) := by decide +kernel
theorem dX4_refund_12 : decode cX4_refund 12 = .ok (.lcmp, 1) := by decide +kernel
theorem dX4_refund_13 : decode cX4_refund 13 = .ok (.ifCond .ge 14, 3) := by decide +kernel
theorem dX4_refund_16 : decode cX4_refund 16 = .ok (.aload_n 0, 1) := by decide +kernel
theorem dX4_refund_17 : decode cX4_refund 17 = .ok (.getfield 29, 3) := by decide +kernel
theorem dX4_refund_20 : decode cX4_refund 20 = .ok (.lload_n 1, 1) := by decide +kernel
theorem dX4_refund_21 : decode cX4_refund 21 = .ok (.invokevirtual 121, 3) := by decide +kernel
theorem dX4_refund_24 : decode cX4_refund 24 = .ok (.ifCond .eq 5, 3) := by decide +kernel
theorem dX4_refund_27 : decode cX4_refund 27 = .ok (.iconst 0, 1) := by decide +kernel
theorem dX4_refund_28 : decode cX4_refund 28 = .ok (.ireturn, 1) := by decide +kernel
theorem dX4_refund_29 : decode cX4_refund 29 = .ok (.aload_n 0, 1) := by decide +kernel
theorem dX4_refund_30 : decode cX4_refund 30 = .ok (.getfield 29, 3) := by decide +kernel
theorem dX4_refund_33 : decode cX4_refund 33 = .ok (.lload_n 1, 1) := by decide +kernel
theorem dX4_refund_34 : decode cX4_refund 34 = .ok (.l2i, 1) := by decide +kernel
theorem dX4_refund_35 : decode cX4_refund 35 = .ok (.invokevirtual 124, 3) := by decide +kernel
theorem dX4_refund_38 : decode cX4_refund 38 = .ok (.iconst 1, 1) := by decide +kernel
theorem dX4_refund_39 : decode cX4_refund 39 = .ok (.ireturn, 1) := by decide +kernel
set_option maxRecDepth 20000 in
theorem ggX4_digest_X0_isReckoned : GoodIn wsX4_digest wsX0_isReckoned := goodIn_r _ [9, 10, 32, 33, 34] (by decide +kernel) (by decide +kernel)
set_option maxRecDepth 20000 in
theorem gX4_digest_X0_isReckoned : GoodIn wsX4_digest (wsV RX4 128 RX0 yX0_isReckoned wsX0_isReckoned) := goodIn_app (goodIn_of _ (by decide +kernel)) ggX4_digest_X0_isReckoned
set_option maxRecDepth 20000 in
theorem ggX4_digest_X0_octetAt : GoodIn wsX4_digest wsX0_octetAt := goodIn_ca (goodIn_r _ [14, 15, 32, 33, 34] (by decide +kernel) (by decide +kernel)) (goodIn_sub (fun _ h => List.mem_cons_of_mem _ (List.mem_append_right _ h)) (by decide +kernel))
set_option maxRecDepth 20000 in
theorem gX4_digest_X0_octetAt : GoodIn wsX4_digest (wsV RX4 135 RX0 yX0_octetAt wsX0_octetAt) := goodIn_app (goodIn_of _ (by decide +kernel)) ggX4_digest_X0_octetAt
theorem dX4_digest_0 : decode cX4_digest 0 = .ok (.aload_n 0, 1) := by decide +kernel
theorem dX4_digest_1 : decode cX4_digest 1 = .ok (.getfield 36, 3) := by decide +kernel
theorem dX4_digest_4 : decode cX4_digest 4 = .ok (.invokevirtual 128, 3) := by decide +kernel
theorem dX4_digest_7 : decode cX4_digest 7 = .ok (.ifCond .eq 13, 3) := by decide +kernel
theorem dX4_digest_10 : decode cX4_digest 10 = .ok (.iload_n 1, 1) := by decide +kernel
theorem dX4_digest_11 : decode cX4_digest 11 = .ok (.ifCond .lt 9, 3) := by decide +kernel
theorem dX4_digest_14 : decode cX4_digest 14 = .ok (.iload_n 1, 1) := by decide +kernel
theorem dX4_digest_15 : decode cX4_digest 15 = .ok (.bipush 32, 2) := by decide +kernel
theorem dX4_digest_17 : decode cX4_digest 17 = .ok (.if_icmp .lt 11, 3) := by decide +kernel
theorem dX4_digest_20 : decode cX4_digest 20 = .ok (.new 132, 3) := by decide +kernel
theorem dX4_digest_23 : decode cX4_digest 23 = .ok (.dup, 1) := by decide +kernel
theorem dX4_digest_24 : decode cX4_digest 24 = .ok (.invokespecial 134, 3) := by decide +kernel
theorem dX4_digest_27 : decode cX4_digest 27 = .ok (.athrow, 1) := by decide +kernel
theorem dX4_digest_28 : decode cX4_digest 28 = .ok (.aload_n 0, 1) := by decide +kernel
theorem dX4_digest_29 : decode cX4_digest 29 = .ok (.getfield 36, 3) := by decide +kernel
theorem dX4_digest_32 : decode cX4_digest 32 = .ok (.iload_n 1, 1) := by decide +kernel
theorem dX4_digest_33 : decode cX4_digest 33 = .ok (.invokevirtual 135, 3) := by decide +kernel
theorem dX4_digest_36 : decode cX4_digest 36 = .ok (.ireturn, 1) := by decide +kernel
