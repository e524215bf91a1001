theorem wsL_law_x0 : ∀ w ∈ (vx_atM "java/lang/ArrayIndexOutOfBoundsException" ["java/lang/IndexOutOfBoundsException", "java/lang/RuntimeException", "java/lang/Exception"]).filter goodWord, w ∈ lw_tbl := by decide +kernel
theorem wsL_law_in : ∀ w ∈ wsL_law, w ∈ lw_tbl := fun w h => (List.mem_append.mp h).elim (fun h => wsL_law_in0 w h) (fun h => wsL_law_x0 w h)
theorem inlX0 : ∀ w ∈ wsX00, w ∈ wsL_law := fun _ h => List.mem_append_left _ (List.mem_append_left _ (List.mem_append_left _ (List.mem_append_left _ (List.mem_append_left _ (List.mem_append_right _ h)))))
theorem inX0 : ∀ w ∈ wsX00, w ∈ lw_tbl := fun w h => wsL_law_in w (inlX0 w h)
theorem inX1 : ∀ w ∈ wsX10, w ∈ lw_tbl := by decide +kernel
theorem inlX2 : ∀ w ∈ wsX20, w ∈ wsL_law := fun _ h => List.mem_append_left _ (List.mem_append_left _ (List.mem_append_left _ (List.mem_append_left _ (List.mem_append_right _ h))))
theorem inX2 : ∀ w ∈ wsX20, w ∈ lw_tbl := fun w h => wsL_law_in w (inlX2 w h)
theorem inlX3 : ∀ w ∈ wsX30, w ∈ wsL_law := fun _ h => List.mem_append_left _ (List.mem_append_left _ (List.mem_append_left _ (List.mem_append_left _ (List.mem_append_left _ (List.mem_append_left _ (List.mem_append_right _ h))))))
theorem inX3 : ∀ w ∈ wsX30, w ∈ lw_tbl := fun w h => wsL_law_in w (inlX3 w h)
theorem inlX4 : ∀ w ∈ wsX40, w ∈ wsL_law := fun _ h => List.mem_append_left _ (List.mem_append_left _ (List.mem_append_left _ (List.mem_append_left _ (List.mem_append_left _ (List.mem_append_left _ (List.mem_append_left _ (List.mem_append_left _ (List.mem_append_right _ h))))))))
theorem inX4 : ∀ w ∈ wsX40, w ∈ lw_tbl := fun w h => wsL_law_in w (inlX4 w h)
theorem inlX5 : ∀ w ∈ wsX50, w ∈ wsL_law := fun _ h => List.mem_append_left _ (List.mem_append_left _ (List.mem_append_left _ (List.mem_append_left _ (List.mem_append_left _ (List.mem_append_left _ (List.mem_append_left _ (List.mem_append_right _ h)))))))
theorem inX5 : ∀ w ∈ wsX50, w ∈ lw_tbl := fun w h => wsL_law_in w (inlX5 w h)
theorem inlJx00060 : ∀ w ∈ wsJx000600, w ∈ wsL_law := fun _ h => List.mem_append_left _ (List.mem_append_left _ (List.mem_append_right _ h))
theorem inJx00060 : ∀ w ∈ wsJx000600, w ∈ lw_tbl := fun w h => wsL_law_in w (inlJx00060 w h)
theorem inlJ0 : ∀ w ∈ wsJ00, w ∈ wsL_law := fun _ h => List.mem_append_left _ (List.mem_append_left _ (List.mem_append_left _ (List.mem_append_right _ h)))
theorem inJ0 : ∀ w ∈ wsJ00, w ∈ lw_tbl := fun w h => wsL_law_in w (inlJ0 w h)
theorem inJ1 : ∀ w ∈ wsJ10, w ∈ lw_tbl := by decide +kernel
theorem inJ2 : ∀ w ∈ wsJ20, w ∈ lw_tbl := by decide +kernel
theorem inJ3 : ∀ w ∈ wsJ30, w ∈ lw_tbl := by decide +kernel
theorem dX0_init_0 : decode cX0_init 0 = .ok (.aload_n 0, 1) := by decide +kernel
theorem dX0_init_1 : decode cX0_init 1 = .ok (.invokespecial 1, 3) := by decide +kernel
theorem dX0_init_4 : decode cX0_init 4 = .ok (.aload_n 0, 1) := by decide +kernel
theorem dX0_init_5 : decode cX0_init 5 = .ok (.bipush 64, 2) := by decide +kernel
theorem dX0_init_7 : decode cX0_init 7 = .ok (.newarray .int, 2) := by decide +kernel
theorem dX0_init_9 : decode cX0_init 9 = .ok (.putfield 9, 3) := by decide +kernel
theorem dX0_init_12 : decode cX0_init 12 = .ok (.aload_n 0, 1) := by decide +kernel
theorem dX0_init_13 : decode cX0_init 13 = .ok (.bipush 8, 2) := by decide +kernel
theorem dX0_init_15 : decode cX0_init 15 = .ok (.newarray .int, 2) := by decide +kernel
theorem dX0_init_17 : decode cX0_init 17 = .ok (.putfield 13, 3) := by decide +kernel
theorem dX0_init_20 : decode cX0_init 20 = .ok (.return_, 1) := by decide +kernel
theorem dX0_isReckoned_0 : decode cX0_isReckoned 0 = .ok (.aload_n 0, 1) := by decide +kernel
theorem dX0_isReckoned_1 : decode cX0_isReckoned 1 = .ok (.getfield 16, 3) := by decide +kernel
theorem dX0_isReckoned_4 : decode cX0_isReckoned 4 = .ok (.ireturn, 1) := by decide +kernel
theorem dX0_octetAt_0 : decode cX0_octetAt 0 = .ok (.iload_n 1, 1) := by decide +kernel
theorem dX0_octetAt_1 : decode cX0_octetAt 1 = .ok (.ifCond .lt 31, 3) := by decide +kernel
theorem dX0_octetAt_4 : decode cX0_octetAt 4 = .ok (.iload_n 1, 1) := by decide +kernel
theorem dX0_octetAt_5 : decode cX0_octetAt 5 = .ok (.bipush 32, 2) := by decide +kernel
theorem dX0_octetAt_7 : decode cX0_octetAt 7 = .ok (.if_icmp .ge 25, 3) := by decide +kernel
theorem dX0_octetAt_10 : decode cX0_octetAt 10 = .ok (.aload_n 0, 1) := by decide +kernel
theorem dX0_octetAt_11 : decode cX0_octetAt 11 = .ok (.getfield 13, 3) := by decide +kernel
theorem dX0_octetAt_14 : decode cX0_octetAt 14 = .ok (.iload_n 1, 1) := by decide +kernel
theorem dX0_octetAt_15 : decode cX0_octetAt 15 = .ok (.iconst 2, 1) := by decide +kernel
theorem dX0_octetAt_16 : decode cX0_octetAt 16 = .ok (.ishr, 1) := by decide +kernel
theorem dX0_octetAt_17 : decode cX0_octetAt 17 = .ok (.iaload, 1) := by decide +kernel
theorem dX0_octetAt_18 : decode cX0_octetAt 18 = .ok (.bipush 24, 2) := by decide +kernel
theorem dX0_octetAt_20 : decode cX0_octetAt 20 = .ok (.bipush 8, 2) := by decide +kernel
theorem dX0_octetAt_22 : decode cX0_octetAt 22 = .ok (.iload_n 1, 1) := by decide +kernel
theorem dX0_octetAt_23 : decode cX0_octetAt 23 = .ok (.iconst 3, 1) := by decide +kernel
theorem dX0_octetAt_24 : decode cX0_octetAt 24 = .ok (.iand, 1) := by decide +kernel
theorem dX0_octetAt_25 : decode cX0_octetAt 25 = .ok (.imul, 1) := by decide +kernel
theorem dX0_octetAt_26 : decode cX0_octetAt 26 = .ok (.isub, 1) := by decide +kernel
theorem dX0_octetAt_27 : decode cX0_octetAt 27 = .ok (.iushr, 1) := by decide +kernel
theorem dX0_octetAt_28 : decode cX0_octetAt 28 = .ok (.i2b, 1) := by decide +kernel
theorem dX0_octetAt_29 : decode cX0_octetAt 29 = .ok (.goto 4, 3) := by decide +kernel
theorem dX0_octetAt_32 : decode cX0_octetAt 32 = .ok (.iconst 0, 1) := by decide +kernel
theorem dX0_octetAt_33 : decode cX0_octetAt 33 = .ok (.ireturn, 1) := by decide +kernel
theorem dX0_firstBits_0 : decode cX0_firstBits 0 = .ok (.aload_n 0, 1) := by decide +kernel
theorem dX0_firstBits_1 : decode cX0_firstBits 1 = .ok (.getfield 13, 3) := by decide +kernel
theorem dX0_firstBits_4 : decode cX0_firstBits 4 = .ok (.iconst 0, 1) := by decide +kernel
theorem dX0_firstBits_5 : decode cX0_firstBits 5 = .ok (.iaload, 1) := by decide +kernel
theorem dX0_firstBits_6 : decode cX0_firstBits 6 = .ok (.bipush 7, 2) := by decide +kernel
theorem dX0_firstBits_8 : decode cX0_firstBits 8 = .ok (.iushr, 1) := by decide +kernel
theorem dX0_firstBits_9 : decode cX0_firstBits 9 = .ok (.ireturn, 1) := by decide +kernel
set_option maxRecDepth 20000 in
theorem ggX0_reckon_X0_numberOf : GoodIn wsX0_reckon wsX0_numberOf := goodIn_ca (goodIn_r _ [8, 9, 10, 7, 11, 12, 13, 14, 15, 16, 17, 18, 19, 20, 21, 22, 38, 39, 40, 41, 42] (by decide +kernel) (by decide +kernel)) (goodIn_sub (fun _ h => List.mem_cons_of_mem _ (List.mem_append_right _ h)) (by decide +kernel))
set_option maxRecDepth 20000 in
theorem gX0_reckon_X0_numberOf : GoodIn wsX0_reckon (va_wsS RX0 20 yX0_numberOf wsX0_numberOf) := goodIn_app (goodIn_of _ (by decide +kernel)) ggX0_reckon_X0_numberOf
set_option maxRecDepth 20000 in
theorem ggX0_reckon_X2_size : GoodIn wsX0_reckon wsX2_size := goodIn_r _ [16, 17, 38, 39, 40, 41, 42] (by decide +kernel) (by decide +kernel)
set_option maxRecDepth 20000 in
theorem gX0_reckon_X2_size : GoodIn wsX0_reckon (wsV RX0 24 RX2 yX2_size wsX2_size) := goodIn_app (goodIn_of _ (by decide +kernel)) ggX0_reckon_X2_size
set_option maxRecDepth 20000 in
theorem ggX0_reckon_X0_stretch : GoodIn wsX0_reckon wsX0_stretch := goodIn_ca (goodIn_r _ [26, 1, 27, 28, 7, 29, 35, 36, 37] (by decide +kernel) (by decide +kernel)) (goodIn_sub (fun _ h => List.mem_cons_of_mem _ (List.mem_append_right _ h)) (by decide +kernel))
set_option maxRecDepth 20000 in
theorem gX0_reckon_X0_stretch : GoodIn wsX0_reckon (wsV RX0 30 RX0 yX0_stretch wsX0_stretch) := goodIn_app (goodIn_of _ (by decide +kernel)) ggX0_reckon_X0_stretch
set_option maxRecDepth 20000 in
theorem ggX0_reckon_X0_mix : GoodIn wsX0_reckon wsX0_mix := goodIn_ca (goodIn_r _ [33, 2, 34, 1, 27, 28, 7, 29, 35, 36, 37] (by decide +kernel) (by decide +kernel)) (goodIn_sub (fun _ h => List.mem_cons_of_mem _ (List.mem_append_right _ h)) (by decide +kernel))
set_option maxRecDepth 20000 in
theorem gX0_reckon_X0_mix : GoodIn wsX0_reckon (wsV RX0 36 RX0 yX0_mix wsX0_mix) := goodIn_app (goodIn_of _ (by decide +kernel)) ggX0_reckon_X0_mix
theorem dX0_reckon_0 : decode cX0_reckon 0 = .ok (.iconst 0, 1) := by decide +kernel
theorem dX0_reckon_1 : decode cX0_reckon 1 = .ok (.istore 4, 2) := by decide +kernel
theorem dX0_reckon_3 : decode cX0_reckon 3 = .ok (.iload 4, 2) := by decide +kernel
theorem dX0_reckon_5 : decode cX0_reckon 5 = .ok (.bipush 14, 2) := by decide +kernel
theorem dX0_reckon_7 : decode cX0_reckon 7 = .ok (.if_icmp .ge 25, 3) := by decide +kernel
theorem dX0_reckon_10 : decode cX0_reckon 10 = .ok (.aload_n 0, 1) := by decide +kernel
theorem dX0_reckon_11 : decode cX0_reckon 11 = .ok (.getfield 9, 3) := by decide +kernel
theorem dX0_reckon_14 : decode cX0_reckon 14 = .ok (.iload 4, 2) := by decide +kernel
theorem dX0_reckon_16 : decode cX0_reckon 16 = .ok (.aload_n 1, 1) := by decide +kernel
theorem dX0_reckon_17 : decode cX0_reckon 17 = .ok (.lload_n 2, 1) := by decide +kernel
theorem dX0_reckon_18 : decode cX0_reckon 18 = .ok (.iconst 4, 1) := by decide +kernel
theorem dX0_reckon_19 : decode cX0_reckon 19 = .ok (.iload 4, 2) := by decide +kernel
theorem dX0_reckon_21 : decode cX0_reckon 21 = .ok (.imul, 1) := by decide +kernel
theorem dX0_reckon_22 : decode cX0_reckon 22 = .ok (.invokestatic 20, 3) := by decide +kernel
theorem dX0_reckon_25 : decode cX0_reckon 25 = .ok (.iastore, 1) := by decide +kernel
theorem dX0_reckon_26 : decode cX0_reckon 26 = .ok (.iinc 4 1, 3) := by decide +kernel
theorem dX0_reckon_29 : decode cX0_reckon 29 = .ok (.goto (-26), 3) := by decide +kernel
theorem dX0_reckon_32 : decode cX0_reckon 32 = .ok (.aload_n 0, 1) := by decide +kernel
theorem dX0_reckon_33 : decode cX0_reckon 33 = .ok (.getfield 9, 3) := by decide +kernel
theorem dX0_reckon_36 : decode cX0_reckon 36 = .ok (.bipush 14, 2) := by decide +kernel
theorem dX0_reckon_38 : decode cX0_reckon 38 = .ok (.iconst 0, 1) := by decide +kernel
theorem dX0_reckon_39 : decode cX0_reckon 39 = .ok (.iastore, 1) := by decide +kernel
theorem dX0_reckon_40 : decode cX0_reckon 40 = .ok (.aload_n 0, 1) := by decide +kernel
theorem dX0_reckon_41 : decode cX0_reckon 41 = .ok (.getfield 9, 3) := by decide +kernel
theorem dX0_reckon_44 : decode cX0_reckon 44 = .ok (.bipush 15, 2) := by decide +kernel
theorem dX0_reckon_46 : decode cX0_reckon 46 = .ok (.bipush 8, 2) := by decide +kernel
theorem dX0_reckon_48 : decode cX0_reckon 48 = .ok (.aload_n 1, 1) := by decide +kernel
theorem dX0_reckon_49 : decode cX0_reckon 49 = .ok (.invokevirtual 24, 3) := by decide +kernel
theorem dX0_reckon_52 : decode cX0_reckon 52 = .ok (.bipush 7, 2) := by decide +kernel
theorem dX0_reckon_54 : decode cX0_reckon 54 = .ok (.iadd, 1) := by decide +kernel
theorem dX0_reckon_55 : decode cX0_reckon 55 = .ok (.imul, 1) := by decide +kernel
theorem dX0_reckon_56 : decode cX0_reckon 56 = .ok (.iastore, 1) := by decide +kernel
theorem dX0_reckon_57 : decode cX0_reckon 57 = .ok (.aload_n 0, 1) := by decide +kernel
theorem dX0_reckon_58 : decode cX0_reckon 58 = .ok (.invokevirtual 30, 3) := by decide +kernel
theorem dX0_reckon_61 : decode cX0_reckon 61 = .ok (.iconst 0, 1) := by decide +kernel
theorem dX0_reckon_62 : decode cX0_reckon 62 = .ok (.istore 4, 2) := by decide +kernel
theorem dX0_reckon_64 : decode cX0_reckon 64 = .ok (.iload 4, 2) := by decide +kernel
theorem dX0_reckon_66 : decode cX0_reckon 66 = .ok (.bipush 8, 2) := by decide +kernel
theorem dX0_reckon_68 : decode cX0_reckon 68 = .ok (.if_icmp .ge 22, 3) := by decide +kernel
theorem dX0_reckon_71 : decode cX0_reckon 71 = .ok (.aload_n 0, 1) := by decide +kernel
theorem dX0_reckon_72 : decode cX0_reckon 72 = .ok (.getfield 13, 3) := by decide +kernel
theorem dX0_reckon_75 : decode cX0_reckon 75 = .ok (.iload 4, 2) := by decide +kernel
theorem dX0_reckon_77 : decode cX0_reckon 77 = .ok (.getstatic 33, 3) := by decide +kernel
theorem dX0_reckon_80 : decode cX0_reckon 80 = .ok (.iload 4, 2) := by decide +kernel
theorem dX0_reckon_82 : decode cX0_reckon 82 = .ok (.iaload, 1) := by decide +kernel
theorem dX0_reckon_83 : decode cX0_reckon 83 = .ok (.iastore, 1) := by decide +kernel
theorem dX0_reckon_84 : decode cX0_reckon 84 = .ok (.iinc 4 1, 3) := by decide +kernel
theorem dX0_reckon_87 : decode cX0_reckon 87 = .ok (.goto (-23), 3) := by decide +kernel
theorem dX0_reckon_90 : decode cX0_reckon 90 = .ok (.aload_n 0, 1) := by decide +kernel
theorem dX0_reckon_91 : decode cX0_reckon 91 = .ok (.invokevirtual 36, 3) := by decide +kernel
theorem dX0_reckon_94 : decode cX0_reckon 94 = .ok (.aload_n 0, 1) := by decide +kernel
theorem dX0_reckon_95 : decode cX0_reckon 95 = .ok (.iconst 1, 1) := by decide +kernel
theorem dX0_reckon_96 : decode cX0_reckon 96 = .ok (.putfield 16, 3) := by decide +kernel
theorem dX0_reckon_99 : decode cX0_reckon 99 = .ok (.return_, 1) := by decide +kernel
set_option maxRecDepth 20000 in
theorem ggX0_numberOf_X0_blockByte : GoodIn wsX0_numberOf wsX0_blockByte := goodIn_ca (goodIn_r _ [4, 5, 6, 7, 8, 9, 10, 11, 12, 13, 14, 15, 16, 17, 18, 19, 20] (by decide +kernel) (by decide +kernel)) (goodIn_sub (fun _ h => List.mem_cons_of_mem _ (List.mem_append_right _ h)) (by decide +kernel))
set_option maxRecDepth 20000 in
theorem gX0_numberOf_X0_blockByte : GoodIn wsX0_numberOf (va_wsS RX0 39 yX0_blockByte wsX0_blockByte) := goodIn_app (goodIn_of _ (by decide +kernel)) ggX0_numberOf_X0_blockByte
theorem dX0_numberOf_0 : decode cX0_numberOf 0 = .ok (.iconst 0, 1) := by decide +kernel
theorem dX0_numberOf_1 : decode cX0_numberOf 1 = .ok (.istore 4, 2) := by decide +kernel
theorem dX0_numberOf_3 : decode cX0_numberOf 3 = .ok (.iload_n 3, 1) := by decide +kernel
theorem dX0_numberOf_4 : decode cX0_numberOf 4 = .ok (.istore 5, 2) := by decide +kernel
theorem dX0_numberOf_6 : decode cX0_numberOf 6 = .ok (.iload 5, 2) := by decide +kernel
theorem dX0_numberOf_8 : decode cX0_numberOf 8 = .ok (.iload_n 3, 1) := by decide +kernel
theorem dX0_numberOf_9 : decode cX0_numberOf 9 = .ok (.iconst 4, 1) := by decide +kernel
theorem dX0_numberOf_10 : decode cX0_numberOf 10 = .ok (.iadd, 1) := by decide +kernel
theorem dX0_numberOf_11 : decode cX0_numberOf 11 = .ok (.if_icmp .ge 24, 3) := by decide +kernel
theorem dX0_numberOf_14 : decode cX0_numberOf 14 = .ok (.iload 4, 2) := by decide +kernel
theorem dX0_numberOf_16 : decode cX0_numberOf 16 = .ok (.bipush 8, 2) := by decide +kernel
theorem dX0_numberOf_18 : decode cX0_numberOf 18 = .ok (.ishl, 1) := by decide +kernel
theorem dX0_numberOf_19 : decode cX0_numberOf 19 = .ok (.aload_n 0, 1) := by decide +kernel
theorem dX0_numberOf_20 : decode cX0_numberOf 20 = .ok (.lload_n 1, 1) := by decide +kernel
theorem dX0_numberOf_21 : decode cX0_numberOf 21 = .ok (.iload 5, 2) := by decide +kernel
theorem dX0_numberOf_23 : decode cX0_numberOf 23 = .ok (.invokestatic 39, 3) := by decide +kernel
theorem dX0_numberOf_26 : decode cX0_numberOf 26 = .ok (.ior, 1) := by decide +kernel
theorem dX0_numberOf_27 : decode cX0_numberOf 27 = .ok (.istore 4, 2) := by decide +kernel
theorem dX0_numberOf_29 : decode cX0_numberOf 29 = .ok (.iinc 5 1, 3) := by decide +kernel
theorem dX0_numberOf_32 : decode cX0_numberOf 32 = .ok (.goto (-26), 3) := by decide +kernel
theorem dX0_numberOf_35 : decode cX0_numberOf 35 = .ok (.iload 4, 2) := by decide +kernel
theorem dX0_numberOf_37 : decode cX0_numberOf 37 = .ok (.ireturn, 1) := by decide +kernel
set_option maxRecDepth 20000 in
theorem ggX0_blockByte_X2_size : GoodIn wsX0_blockByte wsX2_size := goodIn_r _ [5, 6, 12, 13, 14, 15, 16] (by decide +kernel) (by decide +kernel)
set_option maxRecDepth 20000 in
theorem gX0_blockByte_X2_size : GoodIn wsX0_blockByte (wsV RX0 24 RX2 yX2_size wsX2_size) := goodIn_app (goodIn_of _ (by decide +kernel)) ggX0_blockByte_X2_size
set_option maxRecDepth 20000 in
theorem ggX0_blockByte_X2_octetAt : GoodIn wsX0_blockByte wsX2_octetAt := goodIn_ca (goodIn_r _ [10, 11, 12, 13, 14, 15, 16] (by decide +kernel) (by decide +kernel)) (goodIn_sub (fun _ h => List.mem_cons_of_mem _ (List.mem_append_right _ h)) (by decide +kernel))
set_option maxRecDepth 20000 in
theorem gX0_blockByte_X2_octetAt : GoodIn wsX0_blockByte (wsV RX0 42 RX2 yX2_octetAt wsX2_octetAt) := goodIn_app (goodIn_of _ (by decide +kernel)) ggX0_blockByte_X2_octetAt
theorem dX0_blockByte_0 : decode cX0_blockByte 0 = .ok (.iload_n 3, 1) := by decide +kernel
theorem dX0_blockByte_1 : decode cX0_blockByte 1 = .ok (.aload_n 0, 1) := by decide +kernel
theorem dX0_blockByte_2 : decode cX0_blockByte 2 = .ok (.invokevirtual 24, 3) := by decide +kernel
theorem dX0_blockByte_5 : decode cX0_blockByte 5 = .ok (.isub, 1) := by decide +kernel
theorem dX0_blockByte_6 : decode cX0_blockByte 6 = .ok (.istore 4, 2) := by decide +kernel
theorem dX0_blockByte_8 : decode cX0_blockByte 8 = .ok (.iload 4, 2) := by decide +kernel
theorem dX0_blockByte_10 : decode cX0_blockByte 10 = .ok (.ifCond .ge 9, 3) := by decide +kernel
theorem dX0_blockByte_13 : decode cX0_blockByte 13 = .ok (.aload_n 0, 1) := by decide +kernel
theorem dX0_blockByte_14 : decode cX0_blockByte 14 = .ok (.iload_n 3, 1) := by decide +kernel
theorem dX0_blockByte_15 : decode cX0_blockByte 15 = .ok (.invokevirtual 42, 3) := by decide +kernel
theorem dX0_blockByte_18 : decode cX0_blockByte 18 = .ok (.ireturn, 1) := by decide +kernel
theorem dX0_blockByte_19 : decode cX0_blockByte 19 = .ok (.iload 4, 2) := by decide +kernel
theorem dX0_blockByte_21 : decode cX0_blockByte 21 = .ok (.bipush 7, 2) := by decide +kernel
theorem dX0_blockByte_23 : decode cX0_blockByte 23 = .ok (.if_icmp .ge 21, 3) := by decide +kernel
theorem dX0_blockByte_26 : decode cX0_blockByte 26 = .ok (.lload_n 1, 1) := by decide +kernel
theorem dX0_blockByte_27 : decode cX0_blockByte 27 = .ok (.iconst 1, 1) := by decide +kernel
theorem dX0_blockByte_28 : decode cX0_blockByte 28 = .ok (.lshl, 1) := by decide +kernel
theorem dX0_blockByte_29 : decode cX0_blockByte 29 = .ok (.bipush 48, 2) := by decide +kernel
theorem dX0_blockByte_31 : decode cX0_blockByte 31 = .ok (.bipush 8, 2) := by decide +kernel
theorem dX0_blockByte_33 : decode cX0_blockByte 33 = .ok (.iload 4, 2) := by decide +kernel
theorem dX0_blockByte_35 : decode cX0_blockByte 35 = .ok (.imul, 1) := by decide +kernel
theorem dX0_blockByte_36 : decode cX0_blockByte 36 = .ok (.isub, 1) := by decide +kernel
theorem dX0_blockByte_37 : decode cX0_blockByte 37 = .ok (.lushr, 1) := by decide +kernel
theorem dX0_blockByte_38 : decode cX0_blockByte 38 = .ok (.l2i, 1) := by decide +kernel
theorem dX0_blockByte_39 : decode cX0_blockByte 39 = .ok (.sipush 255, 3) := by decide +kernel
theorem dX0_blockByte_42 : decode cX0_blockByte 42 = .ok (.iand, 1) := by decide +kernel
theorem dX0_blockByte_43 : decode cX0_blockByte 43 = .ok (.ireturn, 1) := by decide +kernel
theorem dX0_blockByte_44 : decode cX0_blockByte 44 = .ok (.iload 4, 2) := by decide +kernel
theorem dX0_blockByte_46 : decode cX0_blockByte 46 = .ok (.bipush 7, 2) := by decide +kernel
theorem dX0_blockByte_48 : decode cX0_blockByte 48 = .ok (.if_icmp .ne 9, 3) := by decide +kernel
theorem dX0_blockByte_51 : decode cX0_blockByte 51 = .ok (.sipush 128, 3) := by decide +kernel
theorem dX0_blockByte_54 : decode cX0_blockByte 54 = .ok (.goto 4, 3) := by decide +kernel
theorem dX0_blockByte_57 : decode cX0_blockByte 57 = .ok (.iconst 0, 1) := by decide +kernel
theorem dX0_blockByte_58 : decode cX0_blockByte 58 = .ok (.ireturn, 1) := by decide +kernel
set_option maxRecDepth 20000 in
theorem ggX0_stretch_X0_ror : GoodIn wsX0_stretch wsX0_ror := goodIn_r _ [5] (by decide +kernel) (by decide +kernel)
set_option maxRecDepth 20000 in
theorem gX0_stretch_X0_ror : GoodIn wsX0_stretch (va_wsS RX0 46 yX0_ror wsX0_ror) := goodIn_app (goodIn_of _ (by decide +kernel)) ggX0_stretch_X0_ror
theorem dX0_stretch_0 : decode cX0_stretch 0 = .ok (.bipush 16, 2) := by decide +kernel
theorem dX0_stretch_2 : decode cX0_stretch 2 = .ok (.istore_n 1, 1) := by decide +kernel
theorem dX0_stretch_3 : decode cX0_stretch 3 = .ok (.iload_n 1, 1) := by decide +kernel
theorem dX0_stretch_4 : decode cX0_stretch 4 = .ok (.bipush 64, 2) := by decide +kernel
theorem dX0_stretch_6 : decode cX0_stretch 6 = .ok (.if_icmp .ge 100, 3) := by decide +kernel
theorem dX0_stretch_9 : decode cX0_stretch 9 = .ok (.aload_n 0, 1) := by decide +kernel
theorem dX0_stretch_10 : decode cX0_stretch 10 = .ok (.getfield 9, 3) := by decide +kernel
theorem dX0_stretch_13 : decode cX0_stretch 13 = .ok (.iload_n 1, 1) := by decide +kernel
theorem dX0_stretch_14 : decode cX0_stretch 14 = .ok (.bipush 15, 2) := by decide +kernel
theorem dX0_stretch_16 : decode cX0_stretch 16 = .ok (.isub, 1) := by decide +kernel
theorem dX0_stretch_17 : decode cX0_stretch 17 = .ok (.iaload, 1) := by decide +kernel
theorem dX0_stretch_18 : decode cX0_stretch 18 = .ok (.istore_n 2, 1) := by decide +kernel
theorem dX0_stretch_19 : decode cX0_stretch 19 = .ok (.iload_n 2, 1) := by decide +kernel
theorem dX0_stretch_20 : decode cX0_stretch 20 = .ok (.bipush 7, 2) := by decide +kernel
theorem dX0_stretch_22 : decode cX0_stretch 22 = .ok (.invokestatic 46, 3) := by decide +kernel
theorem dX0_stretch_25 : decode cX0_stretch 25 = .ok (.iload_n 2, 1) := by decide +kernel
theorem dX0_stretch_26 : decode cX0_stretch 26 = .ok (.bipush 18, 2) := by decide +kernel
theorem dX0_stretch_28 : decode cX0_stretch 28 = .ok (.invokestatic 46, 3) := by decide +kernel
theorem dX0_stretch_31 : decode cX0_stretch 31 = .ok (.ixor, 1) := by decide +kernel
theorem dX0_stretch_32 : decode cX0_stretch 32 = .ok (.iload_n 2, 1) := by decide +kernel
theorem dX0_stretch_33 : decode cX0_stretch 33 = .ok (.iconst 3, 1) := by decide +kernel
theorem dX0_stretch_34 : decode cX0_stretch 34 = .ok (.iushr, 1) := by decide +kernel
theorem dX0_stretch_35 : decode cX0_stretch 35 = .ok (.ixor, 1) := by decide +kernel
theorem dX0_stretch_36 : decode cX0_stretch 36 = .ok (.istore_n 3, 1) := by decide +kernel
theorem dX0_stretch_37 : decode cX0_stretch 37 = .ok (.aload_n 0, 1) := by decide +kernel
theorem dX0_stretch_38 : decode cX0_stretch 38 = .ok (.getfield 9, 3) := by decide +kernel
theorem dX0_stretch_41 : decode cX0_stretch 41 = .ok (.iload_n 1, 1) := by decide +kernel
theorem dX0_stretch_42 : decode cX0_stretch 42 = .ok (.iconst 2, 1) := by decide +kernel
theorem dX0_stretch_43 : decode cX0_stretch 43 = .ok (.isub, 1) := by decide +kernel
theorem dX0_stretch_44 : decode cX0_stretch 44 = .ok (.iaload, 1) := by decide +kernel
theorem dX0_stretch_45 : decode cX0_stretch 45 = .ok (.istore 4, 2) := by decide +kernel
theorem dX0_stretch_47 : decode cX0_stretch 47 = .ok (.iload 4, 2) := by decide +kernel
theorem dX0_stretch_49 : decode cX0_stretch 49 = .ok (.bipush 17, 2) := by decide +kernel
theorem dX0_stretch_51 : decode cX0_stretch 51 = .ok (.invokestatic 46, 3) := by decide +kernel
theorem dX0_stretch_54 : decode cX0_stretch 54 = .ok (.iload 4, 2) := by decide +kernel
theorem dX0_stretch_56 : decode cX0_stretch 56 = .ok (.bipush 19, 2) := by decide +kernel
theorem dX0_stretch_58 : decode cX0_stretch 58 = .ok (.invokestatic 46, 3) := by decide +kernel
theorem dX0_stretch_61 : decode cX0_stretch 61 = .ok (.ixor, 1) := by decide +kernel
theorem dX0_stretch_62 : decode cX0_stretch 62 = .ok (.iload 4, 2) := by decide +kernel
theorem dX0_stretch_64 : decode cX0_stretch 64 = .ok (.bipush 10, 2) := by decide +kernel
theorem dX0_stretch_66 : decode cX0_stretch 66 = .ok (.iushr, 1) := by decide +kernel
theorem dX0_stretch_67 : decode cX0_stretch 67 = .ok (.ixor, 1) := by decide +kernel
theorem dX0_stretch_68 : decode cX0_stretch 68 = .ok (.istore 5, 2) := by decide +kernel
theorem dX0_stretch_70 : decode cX0_stretch 70 = .ok (.aload_n 0, 1) := by decide +kernel
theorem dX0_stretch_71 : decode cX0_stretch 71 = .ok (.getfield 9, 3) := by decide +kernel
theorem dX0_stretch_74 : decode cX0_stretch 74 = .ok (.iload_n 1, 1) := by decide +kernel
theorem dX0_stretch_75 : decode cX0_stretch 75 = .ok (.aload_n 0, 1) := by decide +kernel
theorem dX0_stretch_76 : decode cX0_stretch 76 = .ok (.getfield 9, 3) := by decide +kernel
theorem dX0_stretch_79 : decode cX0_stretch 79 = .ok (.iload_n 1, 1) := by decide +kernel
theorem dX0_stretch_80 : decode cX0_stretch 80 = .ok (.bipush 16, 2) := by decide +kernel
theorem dX0_stretch_82 : decode cX0_stretch 82 = .ok (.isub, 1) := by decide +kernel
theorem dX0_stretch_83 : decode cX0_stretch 83 = .ok (.iaload, 1) := by decide +kernel
theorem dX0_stretch_84 : decode cX0_stretch 84 = .ok (.iload_n 3, 1) := by decide +kernel
theorem dX0_stretch_85 : decode cX0_stretch 85 = .ok (.iadd, 1) := by decide +kernel
theorem dX0_stretch_86 : decode cX0_stretch 86 = .ok (.aload_n 0, 1) := by decide +kernel
theorem dX0_stretch_87 : decode cX0_stretch 87 = .ok (.getfield 9, 3) := by decide +kernel
theorem dX0_stretch_90 : decode cX0_stretch 90 = .ok (.iload_n 1, 1) := by decide +kernel
theorem dX0_stretch_91 : decode cX0_stretch 91 = .ok (.bipush 7, 2) := by decide +kernel
theorem dX0_stretch_93 : decode cX0_stretch 93 = .ok (.isub, 1) := by decide +kernel
theorem dX0_stretch_94 : decode cX0_stretch 94 = .ok (.iaload, 1) := by decide +kernel
theorem dX0_stretch_95 : decode cX0_stretch 95 = .ok (.iadd, 1) := by decide +kernel
theorem dX0_stretch_96 : decode cX0_stretch 96 = .ok (.iload 5, 2) := by decide +kernel
theorem dX0_stretch_98 : decode cX0_stretch 98 = .ok (.iadd, 1) := by decide +kernel
theorem dX0_stretch_99 : decode cX0_stretch 99 = .ok (.iastore, 1) := by decide +kernel
theorem dX0_stretch_100 : decode cX0_stretch 100 = .ok (.iinc 1 1, 3) := by decide +kernel
theorem dX0_stretch_103 : decode cX0_stretch 103 = .ok (.goto (-100), 3) := by decide +kernel
theorem dX0_stretch_106 : decode cX0_stretch 106 = .ok (.return_, 1) := by decide +kernel
set_option maxRecDepth 20000 in
theorem ggX0_mix_X0_ror : GoodIn wsX0_mix wsX0_ror := goodIn_r _ [7] (by decide +kernel) (by decide +kernel)
set_option maxRecDepth 20000 in
theorem gX0_mix_X0_ror : GoodIn wsX0_mix (va_wsS RX0 46 yX0_ror wsX0_ror) := goodIn_app (goodIn_of _ (by decide +kernel)) ggX0_mix_X0_ror
theorem dX0_mix_0 : decode cX0_mix 0 = .ok (.aload_n 0, 1) := by decide +kernel
theorem dX0_mix_1 : decode cX0_mix 1 = .ok (.getfield 13, 3) := by decide +kernel
theorem dX0_mix_4 : decode cX0_mix 4 = .ok (.iconst 0, 1) := by decide +kernel
theorem dX0_mix_5 : decode cX0_mix 5 = .ok (.iaload, 1) := by decide +kernel
theorem dX0_mix_6 : decode cX0_mix 6 = .ok (.istore_n 1, 1) := by decide +kernel
theorem dX0_mix_7 : decode cX0_mix 7 = .ok (.aload_n 0, 1) := by decide +kernel
theorem dX0_mix_8 : decode cX0_mix 8 = .ok (.getfield 13, 3) := by decide +kernel
theorem dX0_mix_11 : decode cX0_mix 11 = .ok (.iconst 1, 1) := by decide +kernel
theorem dX0_mix_12 : decode cX0_mix 12 = .ok (.iaload, 1) := by decide +kernel
theorem dX0_mix_13 : decode cX0_mix 13 = .ok (.istore_n 2, 1) := by decide +kernel
theorem dX0_mix_14 : decode cX0_mix 14 = .ok (.aload_n 0, 1) := by decide +kernel
theorem dX0_mix_15 : decode cX0_mix 15 = .ok (.getfield 13, 3) := by decide +kernel
theorem dX0_mix_18 : decode cX0_mix 18 = .ok (.iconst 2, 1) := by decide +kernel
theorem dX0_mix_19 : decode cX0_mix 19 = .ok (.iaload, 1) := by decide +kernel
theorem dX0_mix_20 : decode cX0_mix 20 = .ok (.istore_n 3, 1) := by decide +kernel
theorem dX0_mix_21 : decode cX0_mix 21 = .ok (.aload_n 0, 1) := by decide +kernel
theorem dX0_mix_22 : decode cX0_mix 22 = .ok (.getfield 13, 3) := by decide +kernel
theorem dX0_mix_25 : decode cX0_mix 25 = .ok (.iconst 3, 1) := by decide +kernel
theorem dX0_mix_26 : decode cX0_mix 26 = .ok (.iaload, 1) := by decide +kernel
theorem dX0_mix_27 : decode cX0_mix 27 = .ok (.istore 4, 2) := by decide +kernel
theorem dX0_mix_29 : decode cX0_mix 29 = .ok (.aload_n 0, 1) := by decide +kernel
theorem dX0_mix_30 : decode cX0_mix 30 = .ok (.getfield 13, 3) := by decide +kernel
theorem dX0_mix_33 : decode cX0_mix 33 = .ok (.iconst 4, 1) := by decide +kernel
theorem dX0_mix_34 : decode cX0_mix 34 = .ok (.iaload, 1) := by decide +kernel
theorem dX0_mix_35 : decode cX0_mix 35 = .ok (.istore 5, 2) := by decide +kernel
theorem dX0_mix_37 : decode cX0_mix 37 = .ok (.aload_n 0, 1) := by decide +kernel
theorem dX0_mix_38 : decode cX0_mix 38 = .ok (.getfield 13, 3) := by decide +kernel
theorem dX0_mix_41 : decode cX0_mix 41 = .ok (.iconst 5, 1) := by decide +kernel
theorem dX0_mix_42 : decode cX0_mix 42 = .ok (.iaload, 1) := by decide +kernel
theorem dX0_mix_43 : decode cX0_mix 43 = .ok (.istore 6, 2) := by decide +kernel
theorem dX0_mix_45 : decode cX0_mix 45 = .ok (.aload_n 0, 1) := by decide +kernel
theorem dX0_mix_46 : decode cX0_mix 46 = .ok (.getfield 13, 3) := by decide +kernel
theorem dX0_mix_49 : decode cX0_mix 49 = .ok (.bipush 6, 2) := by decide +kernel
theorem dX0_mix_51 : decode cX0_mix 51 = .ok (.iaload, 1) := by decide +kernel
theorem dX0_mix_52 : decode cX0_mix 52 = .ok (.istore 7, 2) := by decide +kernel
theorem dX0_mix_54 : decode cX0_mix 54 = .ok (.aload_n 0, 1) := by decide +kernel
theorem dX0_mix_55 : decode cX0_mix 55 = .ok (.getfield 13, 3) := by decide +kernel
theorem dX0_mix_58 : decode cX0_mix 58 = .ok (.bipush 7, 2) := by decide +kernel
theorem dX0_mix_60 : decode cX0_mix 60 = .ok (.iaload, 1) := by decide +kernel
theorem dX0_mix_61 : decode cX0_mix 61 = .ok (.istore 8, 2) := by decide +kernel
theorem dX0_mix_63 : decode cX0_mix 63 = .ok (.iconst 0, 1) := by decide +kernel
theorem dX0_mix_64 : decode cX0_mix 64 = .ok (.istore 9, 2) := by decide +kernel
theorem dX0_mix_66 : decode cX0_mix 66 = .ok (.iload 9, 2) := by decide +kernel
theorem dX0_mix_68 : decode cX0_mix 68 = .ok (.bipush 64, 2) := by decide +kernel
theorem dX0_mix_70 : decode cX0_mix 70 = .ok (.if_icmp .ge 131, 3) := by decide +kernel
theorem dX0_mix_73 : decode cX0_mix 73 = .ok (.iload 8, 2) := by decide +kernel
theorem dX0_mix_75 : decode cX0_mix 75 = .ok (.iload 5, 2) := by decide +kernel
theorem dX0_mix_77 : decode cX0_mix 77 = .ok (.bipush 6, 2) := by decide +kernel
theorem dX0_mix_79 : decode cX0_mix 79 = .ok (.invokestatic 46, 3) := by decide +kernel
theorem dX0_mix_82 : decode cX0_mix 82 = .ok (.iload 5, 2) := by decide +kernel
theorem dX0_mix_84 : decode cX0_mix 84 = .ok (.bipush 11, 2) := by decide +kernel
theorem dX0_mix_86 : decode cX0_mix 86 = .ok (.invokestatic 46, 3) := by decide +kernel
theorem dX0_mix_89 : decode cX0_mix 89 = .ok (.ixor, 1) := by decide +kernel
theorem dX0_mix_90 : decode cX0_mix 90 = .ok (.iload 5, 2) := by decide +kernel
theorem dX0_mix_92 : decode cX0_mix 92 = .ok (.bipush 25, 2) := by decide +kernel
theorem dX0_mix_94 : decode cX0_mix 94 = .ok (.invokestatic 46, 3) := by decide +kernel
theorem dX0_mix_97 : decode cX0_mix 97 = .ok (.ixor, 1) := by decide +kernel
theorem dX0_mix_98 : decode cX0_mix 98 = .ok (.iadd, 1) := by decide +kernel
theorem dX0_mix_99 : decode cX0_mix 99 = .ok (.iload 5, 2) := by decide +kernel
theorem dX0_mix_101 : decode cX0_mix 101 = .ok (.iload 6, 2) := by decide +kernel
theorem dX0_mix_103 : decode cX0_mix 103 = .ok (.iand, 1) := by decide +kernel
theorem dX0_mix_104 : decode cX0_mix 104 = .ok (.iload 5, 2) := by decide +kernel
theorem dX0_mix_106 : decode cX0_mix 106 = .ok (.iconst (-1), 1) := by decide +kernel
theorem dX0_mix_107 : decode cX0_mix 107 = .ok (.ixor, 1) := by decide +kernel
theorem dX0_mix_108 : decode cX0_mix 108 = .ok (.iload 7, 2) := by decide +kernel
theorem dX0_mix_110 : decode cX0_mix 110 = .ok (.iand, 1) := by decide +kernel
theorem dX0_mix_111 : decode cX0_mix 111 = .ok (.ixor, 1) := by decide +kernel
theorem dX0_mix_112 : decode cX0_mix 112 = .ok (.iadd, 1) := by decide +kernel
theorem dX0_mix_113 : decode cX0_mix 113 = .ok (.getstatic 50, 3) := by decide +kernel
theorem dX0_mix_116 : decode cX0_mix 116 = .ok (.iload 9, 2) := by decide +kernel
theorem dX0_mix_118 : decode cX0_mix 118 = .ok (.iaload, 1) := by decide +kernel
theorem dX0_mix_119 : decode cX0_mix 119 = .ok (.iadd, 1) := by decide +kernel
theorem dX0_mix_120 : decode cX0_mix 120 = .ok (.aload_n 0, 1) := by decide +kernel
theorem dX0_mix_121 : decode cX0_mix 121 = .ok (.getfield 9, 3) := by decide +kernel
theorem dX0_mix_124 : decode cX0_mix 124 = .ok (.iload 9, 2) := by decide +kernel
theorem dX0_mix_126 : decode cX0_mix 126 = .ok (.iaload, 1) := by decide +kernel
theorem dX0_mix_127 : decode cX0_mix 127 = .ok (.iadd, 1) := by decide +kernel
theorem dX0_mix_128 : decode cX0_mix 128 = .ok (.istore 10, 2) := by decide +kernel
theorem dX0_mix_130 : decode cX0_mix 130 = .ok (.iload_n 1, 1) := by decide +kernel
theorem dX0_mix_131 : decode cX0_mix 131 = .ok (.iconst 2, 1) := by decide +kernel
theorem dX0_mix_132 : decode cX0_mix 132 = .ok (.invokestatic 46, 3) := by decide +kernel
theorem dX0_mix_135 : decode cX0_mix 135 = .ok (.iload_n 1, 1) := by decide +kernel
theorem dX0_mix_136 : decode cX0_mix 136 = .ok (.bipush 13, 2) := by decide +kernel
theorem dX0_mix_138 : decode cX0_mix 138 = .ok (.invokestatic 46, 3) := by decide +kernel
theorem dX0_mix_141 : decode cX0_mix 141 = .ok (.ixor, 1) := by decide +kernel
theorem dX0_mix_142 : decode cX0_mix 142 = .ok (.iload_n 1, 1) := by decide +kernel
theorem dX0_mix_143 : decode cX0_mix 143 = .ok (.bipush 22, 2) := by decide +kernel
theorem dX0_mix_145 : decode cX0_mix 145 = .ok (.invokestatic 46, 3) := by decide +kernel
theorem dX0_mix_148 : decode cX0_mix 148 = .ok (.ixor, 1) := by decide +kernel
theorem dX0_mix_149 : decode cX0_mix 149 = .ok (.iload_n 1, 1) := by decide +kernel
theorem dX0_mix_150 : decode cX0_mix 150 = .ok (.iload_n 2, 1) := by decide +kernel
theorem dX0_mix_151 : decode cX0_mix 151 = .ok (.iand, 1) := by decide +kernel
theorem dX0_mix_152 : decode cX0_mix 152 = .ok (.iload_n 1, 1) := by decide +kernel
theorem dX0_mix_153 : decode cX0_mix 153 = .ok (.iload_n 3, 1) := by decide +kernel
theorem dX0_mix_154 : decode cX0_mix 154 = .ok (.iand, 1) := by decide +kernel
theorem dX0_mix_155 : decode cX0_mix 155 = .ok (.ixor, 1) := by decide +kernel
theorem dX0_mix_156 : decode cX0_mix 156 = .ok (.iload_n 2, 1) := by decide +kernel
theorem dX0_mix_157 : decode cX0_mix 157 = .ok (.iload_n 3, 1) := by decide +kernel
theorem dX0_mix_158 : decode cX0_mix 158 = .ok (.iand, 1) := by decide +kernel
theorem dX0_mix_159 : decode cX0_mix 159 = .ok (.ixor, 1) := by decide +kernel
theorem dX0_mix_160 : decode cX0_mix 160 = .ok (.iadd, 1) := by decide +kernel
theorem dX0_mix_161 : decode cX0_mix 161 = .ok (.istore 11, 2) := by decide +kernel
theorem dX0_mix_163 : decode cX0_mix 163 = .ok (.iload 7, 2) := by decide +kernel
theorem dX0_mix_165 : decode cX0_mix 165 = .ok (.istore 8, 2) := by decide +kernel
theorem dX0_mix_167 : decode cX0_mix 167 = .ok (.iload 6, 2) := by decide +kernel
theorem dX0_mix_169 : decode cX0_mix 169 = .ok (.istore 7, 2) := by decide +kernel
theorem dX0_mix_171 : decode cX0_mix 171 = .ok (.iload 5, 2) := by decide +kernel
theorem dX0_mix_173 : decode cX0_mix 173 = .ok (.istore 6, 2) := by decide +kernel
theorem dX0_mix_175 : decode cX0_mix 175 = .ok (.iload 4, 2) := by decide +kernel
theorem dX0_mix_177 : decode cX0_mix 177 = .ok (.iload 10, 2) := by decide +kernel
theorem dX0_mix_179 : decode cX0_mix 179 = .ok (.iadd, 1) := by decide +kernel
theorem dX0_mix_180 : decode cX0_mix 180 = .ok (.istore 5, 2) := by decide +kernel
theorem dX0_mix_182 : decode cX0_mix 182 = .ok (.iload_n 3, 1) := by decide +kernel
theorem dX0_mix_183 : decode cX0_mix 183 = .ok (.istore 4, 2) := by decide +kernel
theorem dX0_mix_185 : decode cX0_mix 185 = .ok (.iload_n 2, 1) := by decide +kernel
theorem dX0_mix_186 : decode cX0_mix 186 = .ok (.istore_n 3, 1) := by decide +kernel
theorem dX0_mix_187 : decode cX0_mix 187 = .ok (.iload_n 1, 1) := by decide +kernel
theorem dX0_mix_188 : decode cX0_mix 188 = .ok (.istore_n 2, 1) := by decide +kernel
theorem dX0_mix_189 : decode cX0_mix 189 = .ok (.iload 10, 2) := by decide +kernel
theorem dX0_mix_191 : decode cX0_mix 191 = .ok (.iload 11, 2) := by decide +kernel
theorem dX0_mix_193 : decode cX0_mix 193 = .ok (.iadd, 1) := by decide +kernel
theorem dX0_mix_194 : decode cX0_mix 194 = .ok (.istore_n 1, 1) := by decide +kernel
theorem dX0_mix_195 : decode cX0_mix 195 = .ok (.iinc 9 1, 3) := by decide +kernel
theorem dX0_mix_198 : decode cX0_mix 198 = .ok (.goto (-132), 3) := by decide +kernel
theorem dX0_mix_201 : decode cX0_mix 201 = .ok (.aload_n 0, 1) := by decide +kernel
theorem dX0_mix_202 : decode cX0_mix 202 = .ok (.getfield 13, 3) := by decide +kernel
theorem dX0_mix_205 : decode cX0_mix 205 = .ok (.iconst 0, 1) := by decide +kernel
theorem dX0_mix_206 : decode cX0_mix 206 = .ok (.dup2, 1) := by decide +kernel
theorem dX0_mix_207 : decode cX0_mix 207 = .ok (.iaload, 1) := by decide +kernel
theorem dX0_mix_208 : decode cX0_mix 208 = .ok (.iload_n 1, 1) := by decide +kernel
theorem dX0_mix_209 : decode cX0_mix 209 = .ok (.iadd, 1) := by decide +kernel
theorem dX0_mix_210 : decode cX0_mix 210 = .ok (.iastore, 1) := by decide +kernel
theorem dX0_mix_211 : decode cX0_mix 211 = .ok (.aload_n 0, 1) := by decide +kernel
theorem dX0_mix_212 : decode cX0_mix 212 = .ok (.getfield 13, 3) := by decide +kernel
theorem dX0_mix_215 : decode cX0_mix 215 = .ok (.iconst 1, 1) := by decide +kernel
theorem dX0_mix_216 : decode cX0_mix 216 = .ok (.dup2, 1) := by decide +kernel
theorem dX0_mix_217 : decode cX0_mix 217 = .ok (.iaload, 1) := by decide +kernel
theorem dX0_mix_218 : decode cX0_mix 218 = .ok (.iload_n 2, 1) := by decide +kernel
theorem dX0_mix_219 : decode cX0_mix 219 = .ok (.iadd, 1) := by decide +kernel
theorem dX0_mix_220 : decode cX0_mix 220 = .ok (.iastore, 1) := by decide +kernel
theorem dX0_mix_221 : decode cX0_mix 221 = .ok (.aload_n 0, 1) := by decide +kernel
theorem dX0_mix_222 : decode cX0_mix 222 = .ok (.getfield 13, 3) := by decide +kernel
theorem dX0_mix_225 : decode cX0_mix 225 = .ok (.iconst 2, 1) := by decide +kernel
theorem dX0_mix_226 : decode cX0_mix 226 = .ok (.dup2, 1) := by decide +kernel
theorem dX0_mix_227 : decode cX0_mix 227 = .ok (.iaload, 1) := by decide +kernel
theorem dX0_mix_228 : decode cX0_mix 228 = .ok (.iload_n 3, 1) := by decide +kernel
theorem dX0_mix_229 : decode cX0_mix 229 = .ok (.iadd, 1) := by decide +kernel
theorem dX0_mix_230 : decode cX0_mix 230 = .ok (.iastore, 1) := by decide +kernel
theorem dX0_mix_231 : decode cX0_mix 231 = .ok (.aload_n 0, 1) := by decide +kernel
theorem dX0_mix_232 : decode cX0_mix 232 = .ok (.getfield 13, 3) := by decide +kernel
theorem dX0_mix_235 : decode cX0_mix 235 = .ok (.iconst 3, 1) := by decide +kernel
theorem dX0_mix_236 : decode cX0_mix 236 = .ok (.dup2, 1) := by decide +kernel
theorem dX0_mix_237 : decode cX0_mix 237 = .ok (.iaload, 1) := by decide +kernel
theorem dX0_mix_238 : decode cX0_mix 238 = .ok (.iload 4, 2) := by decide +kernel
theorem dX0_mix_240 : decode cX0_mix 240 = .ok (.iadd, 1) := by decide +kernel
theorem dX0_mix_241 : decode cX0_mix 241 = .ok (.iastore, 1) := by decide +kernel
theorem dX0_mix_242 : decode cX0_mix 242 = .ok (.aload_n 0, 1) := by decide +kernel
theorem dX0_mix_243 : decode cX0_mix 243 = .ok (.getfield 13, 3) := by decide +kernel
theorem dX0_mix_246 : decode cX0_mix 246 = .ok (.iconst 4, 1) := by decide +kernel
theorem dX0_mix_247 : decode cX0_mix 247 = .ok (.dup2, 1) := by decide +kernel
theorem dX0_mix_248 : decode cX0_mix 248 = .ok (.iaload, 1) := by decide +kernel
theorem dX0_mix_249 : decode cX0_mix 249 = .ok (.iload 5, 2) := by decide +kernel
theorem dX0_mix_251 : decode cX0_mix 251 = .ok (.iadd, 1) := by decide +kernel
theorem dX0_mix_252 : decode cX0_mix 252 = .ok (.iastore, 1) := by decide +kernel
theorem dX0_mix_253 : decode cX0_mix 253 = .ok (.aload_n 0, 1) := by decide +kernel
theorem dX0_mix_254 : decode cX0_mix 254 = .ok (.getfield 13, 3) := by decide +kernel
theorem dX0_mix_257 : decode cX0_mix 257 = .ok (.iconst 5, 1) := by decide +kernel
theorem dX0_mix_258 : decode cX0_mix 258 = .ok (.dup2, 1) := by decide +kernel
theorem dX0_mix_259 : decode cX0_mix 259 = .ok (.iaload, 1) := by decide +kernel
theorem dX0_mix_260 : decode cX0_mix 260 = .ok (.iload 6, 2) := by decide +kernel
theorem dX0_mix_262 : decode cX0_mix 262 = .ok (.iadd, 1) := by decide +kernel
theorem dX0_mix_263 : decode cX0_mix 263 = .ok (.iastore, 1) := by decide +kernel
theorem dX0_mix_264 : decode cX0_mix 264 = .ok (.aload_n 0, 1) := by decide +kernel
theorem dX0_mix_265 : decode cX0_mix 265 = .ok (.getfield 13, 3) := by decide +kernel
theorem dX0_mix_268 : decode cX0_mix 268 = .ok (.bipush 6, 2) := by decide +kernel
theorem dX0_mix_270 : decode cX0_mix 270 = .ok (.dup2, 1) := by decide +kernel
theorem dX0_mix_271 : decode cX0_mix 271 = .ok (.iaload, 1) := by decide +kernel
theorem dX0_mix_272 : decode cX0_mix 272 = .ok (.iload 7, 2) := by decide +kernel
theorem dX0_mix_274 : decode cX0_mix 274 = .ok (.iadd, 1) := by decide +kernel
theorem dX0_mix_275 : decode cX0_mix 275 = .ok (.iastore, 1) := by decide +kernel
theorem dX0_mix_276 : decode cX0_mix 276 = .ok (.aload_n 0, 1) := by decide +kernel
theorem dX0_mix_277 : decode cX0_mix 277 = .ok (.getfield 13, 3) := by decide +kernel
theorem dX0_mix_280 : decode cX0_mix 280 = .ok (.bipush 7, 2) := by decide +kernel
theorem dX0_mix_282 : decode cX0_mix 282 = .ok (.dup2, 1) := by decide +kernel
theorem dX0_mix_283 : decode cX0_mix 283 = .ok (.iaload, 1) := by decide +kernel
theorem dX0_mix_284 : decode cX0_mix 284 = .ok (.iload 8, 2) := by decide +kernel
theorem dX0_mix_286 : decode cX0_mix 286 = .ok (.iadd, 1) := by decide +kernel
theorem dX0_mix_287 : decode cX0_mix 287 = .ok (.iastore, 1) := by decide +kernel
theorem dX0_mix_288 : decode cX0_mix 288 = .ok (.return_, 1) := by decide +kernel
theorem dX0_ror_0 : decode cX0_ror 0 = .ok (.iload_n 0, 1) := by decide +kernel
theorem dX0_ror_1 : decode cX0_ror 1 = .ok (.iload_n 1, 1) := by decide +kernel
theorem dX0_ror_2 : decode cX0_ror 2 = .ok (.iushr, 1) := by decide +kernel
theorem dX0_ror_3 : decode cX0_ror 3 = .ok (.iload_n 0, 1) := by decide +kernel
theorem dX0_ror_4 : decode cX0_ror 4 = .ok (.bipush 32, 2) := by decide +kernel
theorem dX0_ror_6 : decode cX0_ror 6 = .ok (.iload_n 1, 1) := by decide +kernel
theorem dX0_ror_7 : decode cX0_ror 7 = .ok (.isub, 1) := by decide +kernel
theorem dX0_ror_8 : decode cX0_ror 8 = .ok (.ishl, 1) := by decide +kernel
theorem dX0_ror_9 : decode cX0_ror 9 = .ok (.ior, 1) := by decide +kernel
theorem dX0_ror_10 : decode cX0_ror 10 = .ok (.ireturn, 1) := by decide +kernel
theorem dX1_joined_0 : decode cX1_joined 0 = .ok (.iload_n 0, 1) := by decide +kernel
theorem dX1_joined_1 : decode cX1_joined 1 = .ok (.i2l, 1) := by decide +kernel
theorem dX1_joined_2 : decode cX1_joined 2 = .ok (.bipush 51, 2) := by decide +kernel
theorem dX1_joined_4 : decode cX1_joined 4 = .ok (.lshl, 1) := by decide +kernel
theorem dX1_joined_5 : decode cX1_joined 5 = .ok (.iload_n 1, 1) := by decide +kernel
theorem dX1_joined_6 : decode cX1_joined 6 = .ok (.i2l, 1) := by decide +kernel
theorem dX1_joined_7 : decode cX1_joined 7 = .ok (.bipush 47, 2) := by decide +kernel
theorem dX1_joined_9 : decode cX1_joined 9 = .ok (.lshl, 1) := by decide +kernel
theorem dX1_joined_10 : decode cX1_joined 10 = .ok (.lor, 1) := by decide +kernel
theorem dX1_joined_11 : decode cX1_joined 11 = .ok (.iload_n 2, 1) := by decide +kernel
theorem dX1_joined_12 : decode cX1_joined 12 = .ok (.i2l, 1) := by decide +kernel
theorem dX1_joined_13 : decode cX1_joined 13 = .ok (.bipush 30, 2) := by decide +kernel
theorem dX1_joined_15 : decode cX1_joined 15 = .ok (.lshl, 1) := by decide +kernel
theorem dX1_joined_16 : decode cX1_joined 16 = .ok (.lor, 1) := by decide +kernel
theorem dX1_joined_17 : decode cX1_joined 17 = .ok (.iload_n 3, 1) := by decide +kernel
theorem dX1_joined_18 : decode cX1_joined 18 = .ok (.i2l, 1) := by decide +kernel
theorem dX1_joined_19 : decode cX1_joined 19 = .ok (.bipush 14, 2) := by decide +kernel
theorem dX1_joined_21 : decode cX1_joined 21 = .ok (.lshl, 1) := by decide +kernel
theorem dX1_joined_22 : decode cX1_joined 22 = .ok (.lor, 1) := by decide +kernel
theorem dX1_joined_23 : decode cX1_joined 23 = .ok (.iload 4, 2) := by decide +kernel
theorem dX1_joined_25 : decode cX1_joined 25 = .ok (.i2l, 1) := by decide +kernel
theorem dX1_joined_26 : decode cX1_joined 26 = .ok (.lor, 1) := by decide +kernel
theorem dX1_joined_27 : decode cX1_joined 27 = .ok (.lreturn, 1) := by decide +kernel
theorem dX1_keyOf_0 : decode cX1_keyOf 0 = .ok (.lload_n 0, 1) := by decide +kernel
theorem dX1_keyOf_1 : decode cX1_keyOf 1 = .ok (.bipush 51, 2) := by decide +kernel
theorem dX1_keyOf_3 : decode cX1_keyOf 3 = .ok (.lushr, 1) := by decide +kernel
theorem dX1_keyOf_4 : decode cX1_keyOf 4 = .ok (.l2i, 1) := by decide +kernel
theorem dX1_keyOf_5 : decode cX1_keyOf 5 = .ok (.bipush 15, 2) := by decide +kernel
theorem dX1_keyOf_7 : decode cX1_keyOf 7 = .ok (.iand, 1) := by decide +kernel
theorem dX1_keyOf_8 : decode cX1_keyOf 8 = .ok (.ireturn, 1) := by decide +kernel
theorem dX1_kindOf_0 : decode cX1_kindOf 0 = .ok (.lload_n 0, 1) := by decide +kernel
theorem dX1_kindOf_1 : decode cX1_kindOf 1 = .ok (.bipush 47, 2) := by decide +kernel
theorem dX1_kindOf_3 : decode cX1_kindOf 3 = .ok (.lushr, 1) := by decide +kernel
theorem dX1_kindOf_4 : decode cX1_kindOf 4 = .ok (.l2i, 1) := by decide +kernel
theorem dX1_kindOf_5 : decode cX1_kindOf 5 = .ok (.bipush 15, 2) := by decide +kernel
theorem dX1_kindOf_7 : decode cX1_kindOf 7 = .ok (.iand, 1) := by decide +kernel
theorem dX1_kindOf_8 : decode cX1_kindOf 8 = .ok (.ireturn, 1) := by decide +kernel
theorem dX1_valueOf_0 : decode cX1_valueOf 0 = .ok (.lload_n 0, 1) := by decide +kernel
theorem dX1_valueOf_1 : decode cX1_valueOf 1 = .ok (.bipush 30, 2) := by decide +kernel
theorem dX1_valueOf_3 : decode cX1_valueOf 3 = .ok (.lushr, 1) := by decide +kernel
theorem dX1_valueOf_4 : decode cX1_valueOf 4 = .ok (.l2i, 1) := by decide +kernel
theorem dX1_valueOf_5 : decode cX1_valueOf 5 = .ok (.ldc 7, 2) := by decide +kernel
theorem dX1_valueOf_7 : decode cX1_valueOf 7 = .ok (.iand, 1) := by decide +kernel
theorem dX1_valueOf_8 : decode cX1_valueOf 8 = .ok (.ireturn, 1) := by decide +kernel
theorem dX1_dayOf_0 : decode cX1_dayOf 0 = .ok (.lload_n 0, 1) := by decide +kernel
theorem dX1_dayOf_1 : decode cX1_dayOf 1 = .ok (.bipush 14, 2) := by decide +kernel
theorem dX1_dayOf_3 : decode cX1_dayOf 3 = .ok (.lushr, 1) := by decide +kernel
theorem dX1_dayOf_4 : decode cX1_dayOf 4 = .ok (.l2i, 1) := by decide +kernel
theorem dX1_dayOf_5 : decode cX1_dayOf 5 = .ok (.ldc 8, 2) := by decide +kernel
theorem dX1_dayOf_7 : decode cX1_dayOf 7 = .ok (.iand, 1) := by decide +kernel
theorem dX1_dayOf_8 : decode cX1_dayOf 8 = .ok (.ireturn, 1) := by decide +kernel
theorem dX1_serialOf_0 : decode cX1_serialOf 0 = .ok (.lload_n 0, 1) := by decide +kernel
theorem dX1_serialOf_1 : decode cX1_serialOf 1 = .ok (.l2i, 1) := by decide +kernel
theorem dX1_serialOf_2 : decode cX1_serialOf 2 = .ok (.sipush 16383, 3) := by decide +kernel
theorem dX1_serialOf_5 : decode cX1_serialOf 5 = .ok (.iand, 1) := by decide +kernel
theorem dX1_serialOf_6 : decode cX1_serialOf 6 = .ok (.ireturn, 1) := by decide +kernel
theorem dX2_init_0 : decode cX2_init 0 = .ok (.aload_n 0, 1) := by decide +kernel
theorem dX2_init_1 : decode cX2_init 1 = .ok (.invokespecial 1, 3) := by decide +kernel
theorem dX2_init_4 : decode cX2_init 4 = .ok (.aload_n 0, 1) := by decide +kernel
theorem dX2_init_5 : decode cX2_init 5 = .ok (.bipush 32, 2) := by decide +kernel
theorem dX2_init_7 : decode cX2_init 7 = .ok (.newarray .byte, 2) := by decide +kernel
theorem dX2_init_9 : decode cX2_init 9 = .ok (.putfield 9, 3) := by decide +kernel
theorem dX2_init_12 : decode cX2_init 12 = .ok (.aload_n 0, 1) := by decide +kernel
theorem dX2_init_13 : decode cX2_init 13 = .ok (.iload_n 1, 1) := by decide +kernel
theorem dX2_init_14 : decode cX2_init 14 = .ok (.putfield 13, 3) := by decide +kernel
theorem dX2_init_17 : decode cX2_init 17 = .ok (.aload_n 0, 1) := by decide +kernel
theorem dX2_init_18 : decode cX2_init 18 = .ok (.iload_n 2, 1) := by decide +kernel
theorem dX2_init_19 : decode cX2_init 19 = .ok (.putfield 17, 3) := by decide +kernel
theorem dX2_init_22 : decode cX2_init 22 = .ok (.return_, 1) := by decide +kernel
theorem dX2_holdsOn_0 : decode cX2_holdsOn 0 = .ok (.aload_n 0, 1) := by decide +kernel
theorem dX2_holdsOn_1 : decode cX2_holdsOn 1 = .ok (.getfield 13, 3) := by decide +kernel
theorem dX2_holdsOn_4 : decode cX2_holdsOn 4 = .ok (.i2l, 1) := by decide +kernel
theorem dX2_holdsOn_5 : decode cX2_holdsOn 5 = .ok (.lload_n 1, 1) := by decide +kernel
theorem dX2_holdsOn_6 : decode cX2_holdsOn 6 = .ok (.lcmp, 1) := by decide +kernel
theorem dX2_holdsOn_7 : decode cX2_holdsOn 7 = .ok (.ifCond .gt 17, 3) := by decide +kernel
theorem dX2_holdsOn_10 : decode cX2_holdsOn 10 = .ok (.lload_n 1, 1) := by decide +kernel
theorem dX2_holdsOn_11 : decode cX2_holdsOn 11 = .ok (.aload_n 0, 1) := by decide +kernel
theorem dX2_holdsOn_12 : decode cX2_holdsOn 12 = .ok (.getfield 17, 3) := by decide +kernel
theorem dX2_holdsOn_15 : decode cX2_holdsOn 15 = .ok (.i2l, 1) := by decide +kernel
theorem dX2_holdsOn_16 : decode cX2_holdsOn 16 = .ok (.lcmp, 1) := by decide +kernel
theorem dX2_holdsOn_17 : decode cX2_holdsOn 17 = .ok (.ifCond .gt 7, 3) := by decide +kernel
theorem dX2_holdsOn_20 : decode cX2_holdsOn 20 = .ok (.iconst 1, 1) := by decide +kernel
theorem dX2_holdsOn_21 : decode cX2_holdsOn 21 = .ok (.goto 4, 3) := by decide +kernel
theorem dX2_holdsOn_24 : decode cX2_holdsOn 24 = .ok (.iconst 0, 1) := by decide +kernel
theorem dX2_holdsOn_25 : decode cX2_holdsOn 25 = .ok (.ireturn, 1) := by decide +kernel
theorem dX2_take_0 : decode cX2_take 0 = .ok (.aload_n 0, 1) := by decide +kernel
theorem dX2_take_1 : decode cX2_take 1 = .ok (.getfield 20, 3) := by decide +kernel
theorem dX2_take_4 : decode cX2_take 4 = .ok (.ifCond .ne 12, 3) := by decide +kernel
theorem dX2_take_7 : decode cX2_take 7 = .ok (.aload_n 0, 1) := by decide +kernel
theorem dX2_take_8 : decode cX2_take 8 = .ok (.getfield 24, 3) := by decide +kernel
theorem dX2_take_11 : decode cX2_take 11 = .ok (.bipush 32, 2) := by decide +kernel
theorem dX2_take_13 : decode cX2_take 13 = .ok (.if_icmp .lt 4, 3) := by decide +kernel
theorem dX2_take_16 : decode cX2_take 16 = .ok (.return_, 1) := by decide +kernel
theorem dX2_take_17 : decode cX2_take 17 = .ok (.aload_n 0, 1) := by decide +kernel
theorem dX2_take_18 : decode cX2_take 18 = .ok (.getfield 9, 3) := by decide +kernel
theorem dX2_take_21 : decode cX2_take 21 = .ok (.aload_n 0, 1) := by decide +kernel
theorem dX2_take_22 : decode cX2_take 22 = .ok (.getfield 24, 3) := by decide +kernel
theorem dX2_take_25 : decode cX2_take 25 = .ok (.iload_n 1, 1) := by decide +kernel
theorem dX2_take_26 : decode cX2_take 26 = .ok (.bastore, 1) := by decide +kernel
theorem dX2_take_27 : decode cX2_take 27 = .ok (.aload_n 0, 1) := by decide +kernel
theorem dX2_take_28 : decode cX2_take 28 = .ok (.dup, 1) := by decide +kernel
theorem dX2_take_29 : decode cX2_take 29 = .ok (.getfield 24, 3) := by decide +kernel
theorem dX2_take_32 : decode cX2_take 32 = .ok (.iconst 1, 1) := by decide +kernel
theorem dX2_take_33 : decode cX2_take 33 = .ok (.iadd, 1) := by decide +kernel
theorem dX2_take_34 : decode cX2_take 34 = .ok (.putfield 24, 3) := by decide +kernel
theorem dX2_take_37 : decode cX2_take 37 = .ok (.return_, 1) := by decide +kernel
theorem dX2_close_0 : decode cX2_close 0 = .ok (.aload_n 0, 1) := by decide +kernel
theorem dX2_close_1 : decode cX2_close 1 = .ok (.iconst 1, 1) := by decide +kernel
theorem dX2_close_2 : decode cX2_close 2 = .ok (.putfield 20, 3) := by decide +kernel
theorem dX2_close_5 : decode cX2_close 5 = .ok (.return_, 1) := by decide +kernel
theorem dX2_size_0 : decode cX2_size 0 = .ok (.aload_n 0, 1) := by decide +kernel
theorem dX2_size_1 : decode cX2_size 1 = .ok (.getfield 24, 3) := by decide +kernel
theorem dX2_size_4 : decode cX2_size 4 = .ok (.ireturn, 1) := by decide +kernel
theorem dX2_octetAt_0 : decode cX2_octetAt 0 = .ok (.iload_n 1, 1) := by decide +kernel
theorem dX2_octetAt_1 : decode cX2_octetAt 1 = .ok (.ifCond .lt 22, 3) := by decide +kernel
theorem dX2_octetAt_4 : decode cX2_octetAt 4 = .ok (.iload_n 1, 1) := by decide +kernel
theorem dX2_octetAt_5 : decode cX2_octetAt 5 = .ok (.bipush 32, 2) := by decide +kernel
theorem dX2_octetAt_7 : decode cX2_octetAt 7 = .ok (.if_icmp .ge 16, 3) := by decide +kernel
theorem dX2_octetAt_10 : decode cX2_octetAt 10 = .ok (.aload_n 0, 1) := by decide +kernel
theorem dX2_octetAt_11 : decode cX2_octetAt 11 = .ok (.getfield 9, 3) := by decide +kernel
theorem dX2_octetAt_14 : decode cX2_octetAt 14 = .ok (.iload_n 1, 1) := by decide +kernel
theorem dX2_octetAt_15 : decode cX2_octetAt 15 = .ok (.baload, 1) := by decide +kernel
theorem dX2_octetAt_16 : decode cX2_octetAt 16 = .ok (.sipush 255, 3) := by decide +kernel
theorem dX2_octetAt_19 : decode cX2_octetAt 19 = .ok (.iand, 1) := by decide +kernel
theorem dX2_octetAt_20 : decode cX2_octetAt 20 = .ok (.goto 4, 3) := by decide +kernel
theorem dX2_octetAt_23 : decode cX2_octetAt 23 = .ok (.iconst 0, 1) := by decide +kernel
theorem dX2_octetAt_24 : decode cX2_octetAt 24 = .ok (.ireturn, 1) := by decide +kernel
theorem dX3_init_0 : decode cX3_init 0 = .ok (.aload_n 0, 1) := by decide +kernel
theorem dX3_init_1 : decode cX3_init 1 = .ok (.invokespecial 3, 3) := by decide +kernel
theorem dX3_init_4 : decode cX3_init 4 = .ok (.aload_n 0, 1) := by decide +kernel
theorem dX3_init_5 : decode cX3_init 5 = .ok (.sipush 16384, 3) := by decide +kernel
theorem dX3_init_8 : decode cX3_init 8 = .ok (.newarray .byte, 2) := by decide +kernel
theorem dX3_init_10 : decode cX3_init 10 = .ok (.putfield 9, 3) := by decide +kernel
theorem dX3_init_13 : decode cX3_init 13 = .ok (.aload_n 0, 1) := by decide +kernel
theorem dX3_init_14 : decode cX3_init 14 = .ok (.sipush 16384, 3) := by decide +kernel
theorem dX3_init_17 : decode cX3_init 17 = .ok (.newarray .int, 2) := by decide +kernel
theorem dX3_init_19 : decode cX3_init 19 = .ok (.putfield 15, 3) := by decide +kernel
theorem dX3_init_22 : decode cX3_init 22 = .ok (.aload_n 0, 1) := by decide +kernel
theorem dX3_init_23 : decode cX3_init 23 = .ok (.sipush 16384, 3) := by decide +kernel
theorem dX3_init_26 : decode cX3_init 26 = .ok (.newarray .int, 2) := by decide +kernel
theorem dX3_init_28 : decode cX3_init 28 = .ok (.putfield 19, 3) := by decide +kernel
theorem dX3_init_31 : decode cX3_init 31 = .ok (.return_, 1) := by decide +kernel
theorem dX3_isSerial_0 : decode cX3_isSerial 0 = .ok (.lload_n 0, 1) := by decide +kernel
theorem dX3_isSerial_1 : decode cX3_isSerial 1 = .ok (.lconst 0, 1) := by decide +kernel
theorem dX3_isSerial_2 : decode cX3_isSerial 2 = .ok (.lcmp, 1) := by decide +kernel
theorem dX3_isSerial_3 : decode cX3_isSerial 3 = .ok (.ifCond .lt 15, 3) := by decide +kernel
theorem dX3_isSerial_6 : decode cX3_isSerial 6 = .ok (.lload_n 0, 1) := by decide +kernel
theorem dX3_isSerial_7 : decode cX3_isSerial 7 = .ok (.ldc2_w 22, 3) := by decide +kernel
theorem dX3_isSerial_10 : decode cX3_isSerial 10 = .ok (.lcmp, 1) := by decide +kernel
theorem dX3_isSerial_11 : decode cX3_isSerial 11 = .ok (.ifCond .ge 7, 3) := by decide +kernel
theorem dX3_isSerial_14 : decode cX3_isSerial 14 = .ok (.iconst 1, 1) := by decide +kernel
theorem dX3_isSerial_15 : decode cX3_isSerial 15 = .ok (.goto 4, 3) := by decide +kernel
theorem dX3_isSerial_18 : decode cX3_isSerial 18 = .ok (.iconst 0, 1) := by decide +kernel
theorem dX3_isSerial_19 : decode cX3_isSerial 19 = .ok (.ireturn, 1) := by decide +kernel
