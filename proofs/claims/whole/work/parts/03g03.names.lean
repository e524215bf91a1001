theorem dX1_joined_5 : decode cX1_joined 5 = .ok (.iload_n 1, 1) := by decide +kernel
theorem dX1_joined_6 : decode cX1_joined 6 = .ok (.i2l, 1) := by decide +kernel
theorem dX1_joined_7 : decode cX1_joined 7 = .ok (.bipush 47, 2) := by decide +kernel
theorem dX1_joined_9 : decode cX1_joined 9 = .ok (.lshl, 1) := by decide +kernel
theorem dX1_joined_10 : decode cX1_joined 10 = .ok (.lor, 1) := by decide +kernel
theorem dX1_joined_11 : decode cX1_joined 11 = .ok (.iload_n 2, 1) := by decide +kernel
theorem dX1_joined_12 : decode cX1_joined 12 = .ok (.i2l, 1) := by decide +kernel
theorem dX1_joined_13 : decode cX1_joined 13 = .ok (.bipush 30, 2) := by decide +kernel
theorem dX1_joined_15 : decode cX1_joined 15 = .ok (.lshl, 1) := by decide +kernel
theorem dX1_joined_16 : decode cX1_joined 16 = .ok (.lor, 1) := by decide +kernel
theorem dX1_joined_17 : decode cX1_joined 17 = .ok (.iload_n 3, 1) := by decide +kernel
theorem dX1_joined_18 : decode cX1_joined 18 = .ok (.i2l, 1) := by decide +kernel
theorem dX1_joined_19 : decode cX1_joined 19 = .ok (.bipush 14, 2) := by decide +kernel
theorem dX1_joined_21 : decode cX1_joined 21 = .ok (.lshl, 1) := by decide +kernel
theorem dX1_joined_22 : decode cX1_joined 22 = .ok (.lor, 1) := by decide +kernel
theorem dX1_joined_23 : decode cX1_joined 23 = .ok (.iload 4, 2) := by decide +kernel
theorem dX1_joined_25 : decode cX1_joined 25 = .ok (.i2l, 1) := by decide +kernel
theorem dX1_joined_26 : decode cX1_joined 26 = .ok (.lor, 1) := by decide +kernel
theorem dX1_joined_27 : decode cX1_joined 27 = .ok (.lreturn, 1) := by decide +kernel
theorem dX1_keyOf_0 : decode cX1_keyOf 0 = .ok (.lload_n 0, 1) := by decide +kernel
theorem dX1_keyOf_1 : decode cX1_keyOf 1 = .ok (.bipush 51, 2) := by decide +kernel
theorem dX1_keyOf_3 : decode cX1_keyOf 3 = .ok (.lushr, 1) := by decide +kernel
theorem dX1_keyOf_4 : decode cX1_keyOf 4 = .ok (.l2i, 1) := by decide +kernel
theorem dX1_keyOf_5 : decode cX1_keyOf 5 = .ok (.bipush 15, 2) := by decide +kernel
theorem dX1_keyOf_7 : decode cX1_keyOf 7 = .ok (.iand, 1) := by decide +kernel
theorem dX1_keyOf_8 : decode cX1_keyOf 8 = .ok (.ireturn, 1) := by decide +kernel
theorem dX1_kindOf_0 : decode cX1_kindOf 0 = .ok (.lload_n 0, 1) := by decide +kernel
theorem dX1_kindOf_1 : decode cX1_kindOf 1 = .ok (.bipush 47, 2) := by decide +kernel
theorem dX1_kindOf_3 : decode cX1_kindOf 3 = .ok (.lushr, 1) := by decide +kernel
theorem dX1_kindOf_4 : decode cX1_kindOf 4 = .ok (.l2i, 1) := by decide +kernel
theorem dX1_kindOf_5 : decode cX1_kindOf 5 = .ok (.bipush 15, 2) := by decide +kernel
theorem dX1_kindOf_7 : decode cX1_kindOf 7 = .ok (.iand, 1) := by decide +kernel
theorem dX1_kindOf_8 : decode cX1_kindOf 8 = .ok (.ireturn, 1) := by decide +kernel
theorem dX1_valueOf_0 : decode cX1_valueOf 0 = .ok (.lload_n 0, 1) := by decide +kernel
theorem dX1_valueOf_1 : decode cX1_valueOf 1 = .ok (.bipush 30, 2) := by decide +kernel
theorem dX1_valueOf_3 : decode cX1_valueOf 3 = .ok (.lushr, 1) := by decide +kernel
theorem dX1_valueOf_4 : decode cX1_valueOf 4 = .ok (.l2i, 1) := by decide +kernel
theorem dX1_valueOf_5 : decode cX1_valueOf 5 = .ok (.ldc 7, 2) := by decide +kernel
theorem dX1_valueOf_7 : decode cX1_valueOf 7 = .ok (.iand, 1) := by decide +kernel
theorem dX1_valueOf_8 : decode cX1_valueOf 8 = .ok (.ireturn, 1) := by decide +kernel
theorem dX1_dayOf_0 : decode cX1_dayOf 0 = .ok (.lload_n 0, 1) := by decide +kernel
theorem dX1_dayOf_1 : decode cX1_dayOf 1 = .ok (.bipush 14, 2) := by decide +kernel
theorem dX1_dayOf_3 : decode cX1_dayOf 3 = .ok (.lushr, 1) := by decide +kernel
theorem dX1_dayOf_4 : decode cX1_dayOf 4 = .ok (.l2i, 1) := by decide +kernel
theorem dX1_dayOf_5 : decode cX1_dayOf 5 = .ok (.ldc 8, 2) := by decide +kernel
theorem dX1_dayOf_7 : decode cX1_dayOf 7 = .ok (.iand, 1) := by decide +kernel
theorem dX1_dayOf_8 : decode cX1_dayOf 8 = .ok (.ireturn, 1) := by decide +kernel
theorem dX1_serialOf_0 : decode cX1_serialOf 0 = .ok (.lload_n 0, 1) := by decide +kernel
theorem dX1_serialOf_1 : decode cX1_serialOf 1 = .ok (.l2i, 1) := by decide +kernel
theorem dX1_serialOf_2 : decode cX1_serialOf 2 = .ok (.sipush 16383, 3) := by decide +kernel
theorem dX1_serialOf_5 : decode cX1_serialOf 5 = .ok (.iand, 1) := by decide +kernel
theorem dX1_serialOf_6 : decode cX1_serialOf 6 = .ok (.ireturn, 1) := by decide +kernel
theorem dX2_init_0 : decode cX2_init 0 = .ok (.aload_n 0, 1) := by decide +kernel
theorem dX2_init_1 : decode cX2_init 1 = .ok (.invokespecial 1, 3) := by decide +kernel
theorem dX2_init_4 : decode cX2_init 4 = .ok (.aload_n 0, 1) := by decide +kernel
theorem dX2_init_5 : decode cX2_init 5 = .ok (.bipush 32, 2) := by decide +kernel
theorem dX2_init_7 : decode cX2_init 7 = .ok (.newarray .byte, 2) := by decide +kernel
theorem dX2_init_9 : decode cX2_init 9 = .ok (.putfield 9, 3) := by decide +kernel
theorem dX2_init_12 : decode cX2_init 12 = .ok (.aload_n 0, 1) := by decide +kernel
theorem dX2_init_13 : decode cX2_init 13 = .ok (.iload_n 1, 1) := by decide +kernel
theorem dX2_init_14 : decode cX2_init 14 = .ok (.putfield 13, 3) := by decide +kernel
theorem dX2_init_17 : decode cX2_init 17 = .ok (.aload_n 0, 1) := by decide +kernel
theorem dX2_init_18 : decode cX2_init 18 = .ok (.iload_n 2, 1) := by decide +kernel
theorem dX2_init_19 : decode cX2_init 19 = .ok (.putfield 17, 3) := by decide +kernel
theorem dX2_init_22 : decode cX2_init 22 = .ok (.return_, 1) := by decide +kernel
theorem dX2_holdsOn_0 : decode cX2_holdsOn 0 = .ok (.aload_n 0, 1) := by decide +kernel
theorem dX2_holdsOn_1 : decode cX2_holdsOn 1 = .ok (.getfield 13, 3) := by decide +kernel
theorem dX2_holdsOn_4 : decode cX2_holdsOn 4 = .ok (.i2l, 1) := by decide +kernel
theorem dX2_holdsOn_5 : decode cX2_holdsOn 5 = .ok (.lload_n 1, 1) := by decide +kernel
theorem dX2_holdsOn_6 : decode cX2_holdsOn 6 = .ok (.lcmp, 1) := by decide +kernel
theorem dX2_holdsOn_7 : decode cX2_holdsOn 7 = .ok (.ifCond .gt 17, 3) := by decide +kernel
theorem dX2_holdsOn_10 : decode cX2_holdsOn 10 = .ok (.lload_n 1, 1) := by decide +kernel
theorem dX2_holdsOn_11 : decode cX2_holdsOn 11 = .ok (.aload_n 0, 1) := by decide +kernel
theorem dX2_holdsOn_12 : decode cX2_holdsOn 12 = .ok (.getfield 17, 3) := by decide +kernel
theorem dX2_holdsOn_15 : decode cX2_holdsOn 15 = .ok (.i2l, 1) := by decide +kernel
theorem dX2_holdsOn_16 : decode cX2_holdsOn 16 = .ok (.lcmp, 1) := by decide +kernel
theorem dX2_holdsOn_17 : decode cX2_holdsOn 17 = .ok (.ifCond .gt 7, 3) := by decide +kernel
theorem dX2_holdsOn_20 : decode cX2_holdsOn 20 = .ok (.iconst 1, 1) := by decide +kernel
theorem dX2_holdsOn_21 : decode cX2_holdsOn 21 = .ok (.goto 4, 3) := by decide +kernel
theorem dX2_holdsOn_24 : decode cX2_holdsOn 24 = .ok (.iconst 0, 1) := by decide +kernel
theorem dX2_holdsOn_25 : decode cX2_holdsOn 25 = .ok (.ireturn, 1) := by decide +kernel
theorem dX2_take_0 : decode cX2_take 0 = .ok (.aload_n 0, 1) := by decide +kernel
theorem dX2_take_1 : decode cX2_take 1 = .ok (.getfield 20, 3) := by decide +kernel
theorem dX2_take_4 : decode cX2_take 4 = .ok (.ifCond .ne 12, 3) := by decide +kernel
theorem dX2_take_7 : decode cX2_take 7 = .ok (.aload_n 0, 1) := by decide +kernel
theorem dX2_take_8 : decode cX2_take 8 = .ok (.getfield 24, 3) := by decide +kernel
theorem dX2_take_11 : decode cX2_take 11 = .ok (.bipush 32, 2) := by decide +kernel
theorem dX2_take_13 : decode cX2_take 13 = .ok (.if_icmp .lt 4, 3) := by decide +kernel
theorem dX2_take_16 : decode cX2_take 16 = .ok (.return_, 1) := by decide +kernel
theorem dX2_take_17 : decode cX2_take 17 = .ok (.aload_n 0, 1) := by decide +kernel
theorem dX2_take_18 : decode cX2_take 18 = .ok (.getfield 9, 3) := by decide +kernel
theorem dX2_take_21 : decode cX2_take 21 = .ok (.aload_n 0, 1) := by decide +kernel
theorem dX2_take_22 : decode cX2_take 22 = .ok (.getfield 24, 3) := by decide +kernel
theorem dX2_take_25 : decode cX2_take 25 = .ok (.iload_n 1, 1) := by decide +kernel
theorem dX2_take_26 : decode cX2_take 26 = .ok (.bastore, 1) := by decide +kernel
theorem dX2_take_27 : decode cX2_take 27 = .ok (.aload_n 0, 1) := by decide +kernel
theorem dX2_take_28 : decode cX2_take 28 = .ok (.dup, 1) := by decide +kernel
theorem dX2_take_29 : decode cX2_take 29 = .ok (.getfield 24, 3) := by decide +kernel
theorem dX2_take_32 : decode cX2_take 32 = .ok (.iconst 1, 1) := by decide +kernel
theorem dX2_take_33 : decode cX2_take 33 = .ok (.iadd, 1) := by decide +kernel
theorem dX2_take_34 : decode cX2_take 34 = .ok (.putfield 24, 3) := by decide +kernel
theorem dX2_take_37 : decode cX2_take 37 = .ok (.return_, 1) := by decide +kernel
theorem dX2_close_0 : decode cX2_close 0 = .ok (.aload_n 0, 1) := by decide +kernel
theorem dX2_close_1 : decode cX2_close 1 = .ok (.iconst 1, 1) := by decide +kernel
theorem dX2_close_2 : decode cX2_close 2 = .ok (.putfield 20, 3) := by decide +kernel
theorem dX2_close_5 : decode cX2_close 5 = .ok (.return_, 1) := by decide +kernel
theorem dX2_size_0 : decode cX2_size 0 = .ok (.aload_n 0, 1) := by decide +kernel
theorem dX2_size_1 : decode cX2_size 1 = .ok (.getfield 24, 3) := by decide +kernel
theorem dX2_size_4 : decode cX2_size 4 = .ok (.ireturn, 1) := by decide +kernel
theorem dX2_octetAt_0 : decode cX2_octetAt 0 = .ok (.iload_n 1, 1) := by decide +kernel
theorem dX2_octetAt_1 : decode cX2_octetAt 1 = .ok (.ifCond .lt 22, 3) := by decide +kernel
theorem dX2_octetAt_4 : decode cX2_octetAt 4 = .ok (.iload_n 1, 1) := by decide +kernel
theorem dX2_octetAt_5 : decode cX2_octetAt 5 = .ok (.bipush 32, 2) := by decide +kernel
theorem dX2_octetAt_7 : decode cX2_octetAt 7 = .ok (.if_icmp .ge 16, 3) := by decide +kernel
theorem dX2_octetAt_10 : decode cX2_octetAt 10 = .ok (.aload_n 0, 1) := by decide +kernel
theorem dX2_octetAt_11 : decode cX2_octetAt 11 = .ok (.getfield 9, 3) := by decide +kernel
theorem dX2_octetAt_14 : decode cX2_octetAt 14 = .ok (.iload_n 1, 1) := by decide +kernel
theorem dX2_octetAt_15 : decode cX2_octetAt 15 = .ok (.baload, 1) := by decide +kernel
theorem dX2_octetAt_16 : decode cX2_octetAt 16 = .ok (.sipush 255, 3) := by decide +kernel
theorem dX2_octetAt_19 : decode cX2_octetAt 19 = .ok (.iand, 1) := by decide +kernel
theorem dX2_octetAt_20 : decode cX2_octetAt 20 = .ok (.goto 4, 3) := by decide +kernel
theorem dX2_octetAt_23 : decode cX2_octetAt 23 = .ok (.iconst 0, 1) := by decide +kernel
theorem dX2_octetAt_24 : decode cX2_octetAt 24 = .ok (.ireturn, 1) := by decide +kernel
theorem dX3_init_0 : decode cX3_init 0 = .ok (.aload_n 0, 1) := by decide +kernel
theorem dX3_init_1 : decode cX3_init 1 = .ok (.invokespecial 3, 3) := by decide +kernel
theorem dX3_init_4 : decode cX3_init 4 = .ok (.aload_n 0, 1) := by decide +kernel
theorem dX3_init_5 : decode cX3_init 5 = .ok (.sipush 16384, 3) := by decide +kernel
theorem dX3_init_8 : decode cX3_init 8 = .ok (.newarray .byte, 2) := by decide +kernel
theorem dX3_init_10 : decode cX3_init 10 = .ok (.putfield 9, 3) := by decide +kernel
theorem dX3_init_13 : decode cX3_init 13 = .ok (.aload_n 0, 1) := by decide +kernel
theorem dX3_init_14 : decode cX3_init 14 = .ok (.sipush 16384, 3) := by decide +kernel
theorem dX3_init_17 : decode cX3_init 17 = .ok (.newarray .int, 2) := by decide +kernel
theorem dX3_init_19 : decode cX3_init 19 = .ok (.putfield 15, 3) := by decide +kernel
theorem dX3_init_22 : decode cX3_init 22 = .ok (.aload_n 0, 1) := by decide +kernel
theorem dX3_init_23 : decode cX3_init 23 = .ok (.sipush 16384, 3) := by decide +kernel
theorem dX3_init_26 : decode cX3_init 26 = .ok (.newarray .int, 2) := by decide +kernel
theorem dX3_init_28 : decode cX3_init 28 = .ok (.putfield 19, 3) := by decide +kernel
theorem dX3_init_31 : decode cX3_init 31 = .ok (.return_, 1) := by decide +kernel
theorem dX3_isSerial_0 : decode cX3_isSerial 0 = .ok (.lload_n 0, 1) := by decide +kernel
theorem dX3_isSerial_1 : decode cX3_isSerial 1 = .ok (.lconst 0, 1) := by decide +kernel
theorem dX3_isSerial_2 : decode cX3_isSerial 2 = .ok (.lcmp, 1) := by decide +kernel
theorem dX3_isSerial_3 : decode cX3_isSerial 3 = .ok (.ifCond .lt 15, 3) := by decide +kernel
theorem dX3_isSerial_6 : decode cX3_isSerial 6 = .ok (.lload_n 0, 1) := by decide +kernel
theorem dX3_isSerial_7 : decode cX3_isSerial 7 = .ok (.ldc2_w 22, 3) := by decide +kernel
theorem dX3_isSerial_10 : decode cX3_isSerial 10 = .ok (.lcmp, 1) := by decide +kernel
theorem dX3_isSerial_11 : decode cX3_isSerial 11 = .ok (.ifCond .ge 7, 3) := by decide +kernel
theorem dX3_isSerial_14 : decode cX3_isSerial 14 = .ok (.iconst 1, 1) := by decide +kernel
theorem dX3_isSerial_15 : decode cX3_isSerial 15 = .ok (.goto 4, 3) := by decide +kernel
theorem dX3_isSerial_18 : decode cX3_isSerial 18 = .ok (.iconst 0, 1) := by decide +kernel
theorem dX3_isSerial_19 : decode cX3_isSerial 19 = .ok (.ireturn, 1) := by decide +kernel
set_option maxRecDepth 20000 in
theorem ggX3_fateOf_X3_isSerial : GoodIn wsX3_fateOf wsX3_isSerial := goodIn_r _ [5, 6] (by decide +kernel) (by decide +kernel)
set_option maxRecDepth 20000 in
theorem gX3_fateOf_X3_isSerial : GoodIn wsX3_fateOf (va_wsS RX3 24 yX3_isSerial wsX3_isSerial) := goodIn_app (goodIn_of _ (by decide +kernel)) ggX3_fateOf_X3_isSerial
theorem dX3_fateOf_0 : decode cX3_fateOf 0 = .ok (.lload_n 1, 1) := by decide +kernel
theorem dX3_fateOf_1 : decode cX3_fateOf 1 = .ok (.invokestatic 24, 3) := by decide +kernel
theorem dX3_fateOf_4 : decode cX3_fateOf 4 = .ok (.ifCond .eq 13, 3) := by decide +kernel
theorem dX3_fateOf_7 : decode cX3_fateOf 7 = .ok (.aload_n 0, 1) := by decide +kernel
theorem dX3_fateOf_8 : decode cX3_fateOf 8 = .ok (.getfield 9, 3) := by decide +kernel
theorem dX3_fateOf_11 : decode cX3_fateOf 11 = .ok (.lload_n 1, 1) := by decide +kernel
