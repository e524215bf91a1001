theorem dX3_fateOf_12 : decode cX3_fateOf 12 = .ok (.l2i, 1) := by decide +kernel
theorem dX3_fateOf_13 : decode cX3_fateOf 13 = .ok (.baload, 1) := by decide +kernel
theorem dX3_fateOf_14 : decode cX3_fateOf 14 = .ok (.goto 4, 3) := by decide +kernel
theorem dX3_fateOf_17 : decode cX3_fateOf 17 = .ok (.iconst 0, 1) := by decide +kernel
theorem dX3_fateOf_18 : decode cX3_fateOf 18 = .ok (.ireturn, 1) := by decide +kernel
set_option maxRecDepth 20000 in
theorem ggX3_dayOf_X3_isSerial : GoodIn wsX3_dayOf wsX3_isSerial := goodIn_r _ [5, 6] (by decide +kernel) (by decide +kernel)
set_option maxRecDepth 20000 in
theorem gX3_dayOf_X3_isSerial : GoodIn wsX3_dayOf (va_wsS RX3 24 yX3_isSerial wsX3_isSerial) := goodIn_app (goodIn_of _ (by decide +kernel)) ggX3_dayOf_X3_isSerial
theorem dX3_dayOf_0 : decode cX3_dayOf 0 = .ok (.iload_n 1, 1) := by decide +kernel
theorem dX3_dayOf_1 : decode cX3_dayOf 1 = .ok (.i2l, 1) := by decide +kernel
theorem dX3_dayOf_2 : decode cX3_dayOf 2 = .ok (.invokestatic 24, 3) := by decide +kernel
theorem dX3_dayOf_5 : decode cX3_dayOf 5 = .ok (.ifCond .eq 12, 3) := by decide +kernel
theorem dX3_dayOf_8 : decode cX3_dayOf 8 = .ok (.aload_n 0, 1) := by decide +kernel
theorem dX3_dayOf_9 : decode cX3_dayOf 9 = .ok (.getfield 15, 3) := by decide +kernel
theorem dX3_dayOf_12 : decode cX3_dayOf 12 = .ok (.iload_n 1, 1) := by decide +kernel
theorem dX3_dayOf_13 : decode cX3_dayOf 13 = .ok (.iaload, 1) := by decide +kernel
theorem dX3_dayOf_14 : decode cX3_dayOf 14 = .ok (.goto 4, 3) := by decide +kernel
theorem dX3_dayOf_17 : decode cX3_dayOf 17 = .ok (.iconst (-1), 1) := by decide +kernel
theorem dX3_dayOf_18 : decode cX3_dayOf 18 = .ok (.ireturn, 1) := by decide +kernel
set_option maxRecDepth 20000 in
theorem ggX3_checkOf_X3_isSerial : GoodIn wsX3_checkOf wsX3_isSerial := goodIn_r _ [5, 6] (by decide +kernel) (by decide +kernel)
set_option maxRecDepth 20000 in
theorem gX3_checkOf_X3_isSerial : GoodIn wsX3_checkOf (va_wsS RX3 24 yX3_isSerial wsX3_isSerial) := goodIn_app (goodIn_of _ (by decide +kernel)) ggX3_checkOf_X3_isSerial
theorem dX3_checkOf_0 : decode cX3_checkOf 0 = .ok (.iload_n 1, 1) := by decide +kernel
theorem dX3_checkOf_1 : decode cX3_checkOf 1 = .ok (.i2l, 1) := by decide +kernel
theorem dX3_checkOf_2 : decode cX3_checkOf 2 = .ok (.invokestatic 24, 3) := by decide +kernel
theorem dX3_checkOf_5 : decode cX3_checkOf 5 = .ok (.ifCond .eq 12, 3) := by decide +kernel
theorem dX3_checkOf_8 : decode cX3_checkOf 8 = .ok (.aload_n 0, 1) := by decide +kernel
theorem dX3_checkOf_9 : decode cX3_checkOf 9 = .ok (.getfield 19, 3) := by decide +kernel
theorem dX3_checkOf_12 : decode cX3_checkOf 12 = .ok (.iload_n 1, 1) := by decide +kernel
theorem dX3_checkOf_13 : decode cX3_checkOf 13 = .ok (.iaload, 1) := by decide +kernel
theorem dX3_checkOf_14 : decode cX3_checkOf 14 = .ok (.goto 4, 3) := by decide +kernel
theorem dX3_checkOf_17 : decode cX3_checkOf 17 = .ok (.iconst (-1), 1) := by decide +kernel
theorem dX3_checkOf_18 : decode cX3_checkOf 18 = .ok (.ireturn, 1) := by decide +kernel
set_option maxRecDepth 20000 in
theorem ggX3_spend_X3_isSerial : GoodIn wsX3_spend wsX3_isSerial := goodIn_r _ [7, 8] (by decide +kernel) (by decide +kernel)
set_option maxRecDepth 20000 in
theorem gX3_spend_X3_isSerial : GoodIn wsX3_spend (va_wsS RX3 24 yX3_isSerial wsX3_isSerial) := goodIn_app (goodIn_of _ (by decide +kernel)) ggX3_spend_X3_isSerial
theorem dX3_spend_0 : decode cX3_spend 0 = .ok (.iload_n 1, 1) := by decide +kernel
theorem dX3_spend_1 : decode cX3_spend 1 = .ok (.i2l, 1) := by decide +kernel
theorem dX3_spend_2 : decode cX3_spend 2 = .ok (.invokestatic 24, 3) := by decide +kernel
theorem dX3_spend_5 : decode cX3_spend 5 = .ok (.ifCond .ne 4, 3) := by decide +kernel
theorem dX3_spend_8 : decode cX3_spend 8 = .ok (.return_, 1) := by decide +kernel
theorem dX3_spend_9 : decode cX3_spend 9 = .ok (.aload_n 0, 1) := by decide +kernel
theorem dX3_spend_10 : decode cX3_spend 10 = .ok (.getfield 9, 3) := by decide +kernel
theorem dX3_spend_13 : decode cX3_spend 13 = .ok (.iload_n 1, 1) := by decide +kernel
theorem dX3_spend_14 : decode cX3_spend 14 = .ok (.iconst 1, 1) := by decide +kernel
theorem dX3_spend_15 : decode cX3_spend 15 = .ok (.bastore, 1) := by decide +kernel
theorem dX3_spend_16 : decode cX3_spend 16 = .ok (.aload_n 0, 1) := by decide +kernel
theorem dX3_spend_17 : decode cX3_spend 17 = .ok (.getfield 15, 3) := by decide +kernel
theorem dX3_spend_20 : decode cX3_spend 20 = .ok (.iload_n 1, 1) := by decide +kernel
theorem dX3_spend_21 : decode cX3_spend 21 = .ok (.iload_n 2, 1) := by decide +kernel
theorem dX3_spend_22 : decode cX3_spend 22 = .ok (.iastore, 1) := by decide +kernel
theorem dX3_spend_23 : decode cX3_spend 23 = .ok (.aload_n 0, 1) := by decide +kernel
theorem dX3_spend_24 : decode cX3_spend 24 = .ok (.getfield 19, 3) := by decide +kernel
theorem dX3_spend_27 : decode cX3_spend 27 = .ok (.iload_n 1, 1) := by decide +kernel
theorem dX3_spend_28 : decode cX3_spend 28 = .ok (.iload_n 3, 1) := by decide +kernel
theorem dX3_spend_29 : decode cX3_spend 29 = .ok (.iastore, 1) := by decide +kernel
theorem dX3_spend_30 : decode cX3_spend 30 = .ok (.return_, 1) := by decide +kernel
set_option maxRecDepth 20000 in
theorem ggX3_giveBack_X3_isSerial : GoodIn wsX3_giveBack wsX3_isSerial := goodIn_r _ [5, 6] (by decide +kernel) (by decide +kernel)
set_option maxRecDepth 20000 in
theorem gX3_giveBack_X3_isSerial : GoodIn wsX3_giveBack (va_wsS RX3 24 yX3_isSerial wsX3_isSerial) := goodIn_app (goodIn_of _ (by decide +kernel)) ggX3_giveBack_X3_isSerial
theorem dX3_giveBack_0 : decode cX3_giveBack 0 = .ok (.iload_n 1, 1) := by decide +kernel
theorem dX3_giveBack_1 : decode cX3_giveBack 1 = .ok (.i2l, 1) := by decide +kernel
theorem dX3_giveBack_2 : decode cX3_giveBack 2 = .ok (.invokestatic 24, 3) := by decide +kernel
theorem dX3_giveBack_5 : decode cX3_giveBack 5 = .ok (.ifCond .eq 10, 3) := by decide +kernel
theorem dX3_giveBack_8 : decode cX3_giveBack 8 = .ok (.aload_n 0, 1) := by decide +kernel
theorem dX3_giveBack_9 : decode cX3_giveBack 9 = .ok (.getfield 9, 3) := by decide +kernel
theorem dX3_giveBack_12 : decode cX3_giveBack 12 = .ok (.iload_n 1, 1) := by decide +kernel
theorem dX3_giveBack_13 : decode cX3_giveBack 13 = .ok (.iconst 2, 1) := by decide +kernel
theorem dX3_giveBack_14 : decode cX3_giveBack 14 = .ok (.bastore, 1) := by decide +kernel
theorem dX3_giveBack_15 : decode cX3_giveBack 15 = .ok (.return_, 1) := by decide +kernel
set_option maxRecDepth 20000 in
theorem ggX4_init_X3_init : GoodIn wsX4_init wsX3_init := goodIn_r _ [19, 20, 2, 3, 21, 22, 6, 23, 24, 40, 41, 42] (by decide +kernel) (by decide +kernel)
set_option maxRecDepth 20000 in
theorem gX4_init_X3_init_n28 : GoodIn wsX4_init (wsX3_init) := ggX4_init_X3_init
set_option maxRecDepth 20000 in
theorem ggX4_init_X0_init : GoodIn wsX4_init wsX0_init := goodIn_r _ [26, 27, 2, 3, 6, 28, 29, 43, 44, 45] (by decide +kernel) (by decide +kernel)
set_option maxRecDepth 20000 in
theorem gX4_init_X0_init_n35 : GoodIn wsX4_init (wsX0_init) := ggX4_init_X0_init
theorem dX4_init_0 : decode cX4_init 0 = .ok (.aload_n 0, 1) := by decide +kernel
theorem dX4_init_1 : decode cX4_init 1 = .ok (.invokespecial 1, 3) := by decide +kernel
theorem dX4_init_4 : decode cX4_init 4 = .ok (.aload_n 0, 1) := by decide +kernel
theorem dX4_init_5 : decode cX4_init 5 = .ok (.bipush 15, 2) := by decide +kernel
theorem dX4_init_7 : decode cX4_init 7 = .ok (.anewarray 9, 3) := by decide +kernel
theorem dX4_init_10 : decode cX4_init 10 = .ok (.putfield 11, 3) := by decide +kernel
theorem dX4_init_13 : decode cX4_init 13 = .ok (.aload_n 0, 1) := by decide +kernel
theorem dX4_init_14 : decode cX4_init 14 = .ok (.bipush 16, 2) := by decide +kernel
theorem dX4_init_16 : decode cX4_init 16 = .ok (.newarray .int, 2) := by decide +kernel
theorem dX4_init_18 : decode cX4_init 18 = .ok (.putfield 15, 3) := by decide +kernel
theorem dX4_init_21 : decode cX4_init 21 = .ok (.aload_n 0, 1) := by decide +kernel
theorem dX4_init_22 : decode cX4_init 22 = .ok (.bipush 40, 2) := by decide +kernel
theorem dX4_init_24 : decode cX4_init 24 = .ok (.newarray .int, 2) := by decide +kernel
theorem dX4_init_26 : decode cX4_init 26 = .ok (.putfield 19, 3) := by decide +kernel
theorem dX4_init_29 : decode cX4_init 29 = .ok (.aload_n 0, 1) := by decide +kernel
theorem dX4_init_30 : decode cX4_init 30 = .ok (.iconst (-1), 1) := by decide +kernel
theorem dX4_init_31 : decode cX4_init 31 = .ok (.putfield 22, 3) := by decide +kernel
theorem dX4_init_34 : decode cX4_init 34 = .ok (.aload_n 0, 1) := by decide +kernel
theorem dX4_init_35 : decode cX4_init 35 = .ok (.new 26, 3) := by decide +kernel
theorem dX4_init_38 : decode cX4_init 38 = .ok (.dup, 1) := by decide +kernel
theorem dX4_init_39 : decode cX4_init 39 = .ok (.invokespecial 28, 3) := by decide +kernel
theorem dX4_init_42 : decode cX4_init 42 = .ok (.putfield 29, 3) := by decide +kernel
theorem dX4_init_45 : decode cX4_init 45 = .ok (.aload_n 0, 1) := by decide +kernel
theorem dX4_init_46 : decode cX4_init 46 = .ok (.new 33, 3) := by decide +kernel
theorem dX4_init_49 : decode cX4_init 49 = .ok (.dup, 1) := by decide +kernel
theorem dX4_init_50 : decode cX4_init 50 = .ok (.invokespecial 35, 3) := by decide +kernel
theorem dX4_init_53 : decode cX4_init 53 = .ok (.putfield 36, 3) := by decide +kernel
theorem dX4_init_56 : decode cX4_init 56 = .ok (.return_, 1) := by decide +kernel
set_option maxRecDepth 20000 in
theorem ggX4_key_X4_isDay : GoodIn wsX4_key wsX4_isDay := goodIn_r _ [9, 10] (by decide +kernel) (by decide +kernel)
set_option maxRecDepth 20000 in
theorem gX4_key_X4_isDay : GoodIn wsX4_key (va_wsS RX4 40 yX4_isDay wsX4_isDay) := goodIn_app (goodIn_of _ (by decide +kernel)) ggX4_key_X4_isDay
set_option maxRecDepth 20000 in
theorem ggX4_key_X2_init : GoodIn wsX4_key wsX2_init := goodIn_r _ [13, 14, 15, 16, 17, 18, 19, 20, 31, 32, 33, 34, 35] (by decide +kernel) (by decide +kernel)
set_option maxRecDepth 20000 in
theorem gX4_key_X2_init : GoodIn wsX4_key (wsX2_init) := ggX4_key_X2_init
theorem dX4_key_0 : decode cX4_key 0 = .ok (.lload_n 1, 1) := by decide +kernel
theorem dX4_key_1 : decode cX4_key 1 = .ok (.invokestatic 40, 3) := by decide +kernel
theorem dX4_key_4 : decode cX4_key 4 = .ok (.ifCond .eq 16, 3) := by decide +kernel
theorem dX4_key_7 : decode cX4_key 7 = .ok (.lload_n 3, 1) := by decide +kernel
theorem dX4_key_8 : decode cX4_key 8 = .ok (.invokestatic 40, 3) := by decide +kernel
theorem dX4_key_11 : decode cX4_key 11 = .ok (.ifCond .eq 9, 3) := by decide +kernel
theorem dX4_key_14 : decode cX4_key 14 = .ok (.lload_n 1, 1) := by decide +kernel
theorem dX4_key_15 : decode cX4_key 15 = .ok (.lload_n 3, 1) := by decide +kernel
theorem dX4_key_16 : decode cX4_key 16 = .ok (.lcmp, 1) := by decide +kernel
theorem dX4_key_17 : decode cX4_key 17 = .ok (.ifCond .le 6, 3) := by decide +kernel
theorem dX4_key_20 : decode cX4_key 20 = .ok (.bipush (-22), 2) := by decide +kernel
theorem dX4_key_22 : decode cX4_key 22 = .ok (.ireturn, 1) := by decide +kernel
theorem dX4_key_23 : decode cX4_key 23 = .ok (.aload_n 0, 1) := by decide +kernel
theorem dX4_key_24 : decode cX4_key 24 = .ok (.getfield 44, 3) := by decide +kernel
theorem dX4_key_27 : decode cX4_key 27 = .ok (.bipush 15, 2) := by decide +kernel
theorem dX4_key_29 : decode cX4_key 29 = .ok (.if_icmp .lt 6, 3) := by decide +kernel
theorem dX4_key_32 : decode cX4_key 32 = .ok (.bipush (-24), 2) := by decide +kernel
theorem dX4_key_34 : decode cX4_key 34 = .ok (.ireturn, 1) := by decide +kernel
theorem dX4_key_35 : decode cX4_key 35 = .ok (.aload_n 0, 1) := by decide +kernel
theorem dX4_key_36 : decode cX4_key 36 = .ok (.getfield 11, 3) := by decide +kernel
theorem dX4_key_39 : decode cX4_key 39 = .ok (.aload_n 0, 1) := by decide +kernel
theorem dX4_key_40 : decode cX4_key 40 = .ok (.getfield 44, 3) := by decide +kernel
theorem dX4_key_43 : decode cX4_key 43 = .ok (.new 9, 3) := by decide +kernel
theorem dX4_key_46 : decode cX4_key 46 = .ok (.dup, 1) := by decide +kernel
theorem dX4_key_47 : decode cX4_key 47 = .ok (.lload_n 1, 1) := by decide +kernel
theorem dX4_key_48 : decode cX4_key 48 = .ok (.l2i, 1) := by decide +kernel
theorem dX4_key_49 : decode cX4_key 49 = .ok (.lload_n 3, 1) := by decide +kernel
theorem dX4_key_50 : decode cX4_key 50 = .ok (.l2i, 1) := by decide +kernel
theorem dX4_key_51 : decode cX4_key 51 = .ok (.invokespecial 47, 3) := by decide +kernel
theorem dX4_key_54 : decode cX4_key 54 = .ok (.aastore, 1) := by decide +kernel
theorem dX4_key_55 : decode cX4_key 55 = .ok (.aload_n 0, 1) := by decide +kernel
theorem dX4_key_56 : decode cX4_key 56 = .ok (.dup, 1) := by decide +kernel
theorem dX4_key_57 : decode cX4_key 57 = .ok (.getfield 44, 3) := by decide +kernel
theorem dX4_key_60 : decode cX4_key 60 = .ok (.dup_x1, 1) := by decide +kernel
theorem dX4_key_61 : decode cX4_key 61 = .ok (.iconst 1, 1) := by decide +kernel
theorem dX4_key_62 : decode cX4_key 62 = .ok (.iadd, 1) := by decide +kernel
theorem dX4_key_63 : decode cX4_key 63 = .ok (.putfield 44, 3) := by decide +kernel
theorem dX4_key_66 : decode cX4_key 66 = .ok (.ireturn, 1) := by decide +kernel
set_option maxRecDepth 20000 in
theorem ggX4_octet_X4_keyNumbered : GoodIn wsX4_octet wsX4_keyNumbered := goodIn_r _ [5, 6, 7, 16, 17, 18, 19, 20, 21, 22, 23, 24, 25] (by decide +kernel) (by decide +kernel)
set_option maxRecDepth 20000 in
theorem gX4_octet_X4_keyNumbered : GoodIn wsX4_octet (wsV RX4 50 RX4 yX4_keyNumbered wsX4_keyNumbered) := goodIn_app (goodIn_of _ (by decide +kernel)) ggX4_octet_X4_keyNumbered
