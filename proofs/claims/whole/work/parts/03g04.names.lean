set_option maxRecDepth 20000 in
theorem ggX5_sign_J0_charAt_5068e : GoodIn wsX5_sign wsJ0_charAt_5068e := goodIn_r _ [5, 6, 7, 8, 9, 4, 10, 11, 12, 13, 14, 15, 16, 17, 18, 19, 20, 21, 22, 23, 24, 25, 26, 27, 28, 29, 30, 31, 32, 33, 34, 35, 36, 37, 38, 39, 40, 41, 42, 43] (by decide +kernel) (by decide +kernel)
set_option maxRecDepth 20000 in
theorem gX5_sign_J0_charAt_5068e : GoodIn wsX5_sign (wsV RX5 163 RJ0 yJ0_charAt_5068e wsJ0_charAt_5068e) := goodIn_app (goodIn_of _ (by decide +kernel)) ggX5_sign_J0_charAt_5068e
theorem dX5_sign_0 : decode cX5_sign 0 = .ok (.ldc 161, 2) := by decide +kernel
theorem dX5_sign_2 : decode cX5_sign 2 = .ok (.iload_n 0, 1) := by decide +kernel
theorem dX5_sign_3 : decode cX5_sign 3 = .ok (.invokevirtual 163, 3) := by decide +kernel
theorem dX5_sign_6 : decode cX5_sign 6 = .ok (.ireturn, 1) := by decide +kernel
set_option maxRecDepth 20000 in
theorem ggX5_valueOf_X5_sign : GoodIn wsX5_valueOf wsX5_sign := goodIn_r _ [4, 5, 6, 7, 8, 9, 10, 11, 12, 13, 14, 15, 16, 17, 18, 19, 20, 21, 22, 23, 24, 25, 26, 27, 28, 29, 30, 31, 32, 33, 34, 35, 36, 37, 38, 39, 40, 41, 42, 43, 44, 45, 46, 47] (by decide +kernel) (by decide +kernel)
set_option maxRecDepth 20000 in
theorem gX5_valueOf_X5_sign : GoodIn wsX5_valueOf (va_wsS RX5 169 yX5_sign wsX5_sign) := goodIn_app (goodIn_of _ (by decide +kernel)) ggX5_valueOf_X5_sign
theorem dX5_valueOf_0 : decode cX5_valueOf 0 = .ok (.iconst 0, 1) := by decide +kernel
theorem dX5_valueOf_1 : decode cX5_valueOf 1 = .ok (.istore_n 1, 1) := by decide +kernel
theorem dX5_valueOf_2 : decode cX5_valueOf 2 = .ok (.iload_n 1, 1) := by decide +kernel
theorem dX5_valueOf_3 : decode cX5_valueOf 3 = .ok (.bipush 32, 2) := by decide +kernel
theorem dX5_valueOf_5 : decode cX5_valueOf 5 = .ok (.if_icmp .ge 19, 3) := by decide +kernel
theorem dX5_valueOf_8 : decode cX5_valueOf 8 = .ok (.iload_n 1, 1) := by decide +kernel
theorem dX5_valueOf_9 : decode cX5_valueOf 9 = .ok (.invokestatic 169, 3) := by decide +kernel
theorem dX5_valueOf_12 : decode cX5_valueOf 12 = .ok (.iload_n 0, 1) := by decide +kernel
theorem dX5_valueOf_13 : decode cX5_valueOf 13 = .ok (.if_icmp .ne 5, 3) := by decide +kernel
theorem dX5_valueOf_16 : decode cX5_valueOf 16 = .ok (.iload_n 1, 1) := by decide +kernel
theorem dX5_valueOf_17 : decode cX5_valueOf 17 = .ok (.ireturn, 1) := by decide +kernel
theorem dX5_valueOf_18 : decode cX5_valueOf 18 = .ok (.iinc 1 1, 3) := by decide +kernel
theorem dX5_valueOf_21 : decode cX5_valueOf 21 = .ok (.goto (-19), 3) := by decide +kernel
theorem dX5_valueOf_24 : decode cX5_valueOf 24 = .ok (.iconst (-1), 1) := by decide +kernel
theorem dX5_valueOf_25 : decode cX5_valueOf 25 = .ok (.ireturn, 1) := by decide +kernel
set_option maxRecDepth 20000 in
theorem ggX5_make_X5_isKey : GoodIn wsX5_make wsX5_isKey := goodIn_r _ [20, 21, 22, 23, 19, 24, 92, 93, 94, 95, 96, 97, 98, 99, 100, 101, 102, 103, 104, 105, 106, 107, 108, 109, 110, 111, 112, 113, 114] (by decide +kernel) (by decide +kernel)
set_option maxRecDepth 20000 in
theorem gX5_make_X5_isKey : GoodIn wsX5_make (wsV RX5 145 RX5 yX5_isKey wsX5_isKey) := goodIn_app (goodIn_of _ (by decide +kernel)) ggX5_make_X5_isKey
set_option maxRecDepth 20000 in
theorem ggX5_make_X5_within : GoodIn wsX5_make wsX5_within := goodIn_r _ [24] (by decide +kernel) (by decide +kernel)
set_option maxRecDepth 20000 in
theorem gX5_make_X5_within : GoodIn wsX5_make (va_wsS RX5 139 yX5_within wsX5_within) := goodIn_app (goodIn_of _ (by decide +kernel)) ggX5_make_X5_within
set_option maxRecDepth 20000 in
theorem ggX5_make_X5_reckon : GoodIn wsX5_make wsX5_reckon := goodIn_ca (goodIn_r _ [28, 29, 30, 31, 32, 33, 34, 35, 36, 37, 19, 38, 39, 40, 41, 42, 43, 92, 93, 94, 95, 96, 97, 98, 99, 100, 101, 102, 103, 104, 105, 106, 107, 108, 109, 110, 111, 112, 113, 114] (by decide +kernel) (by decide +kernel)) (goodIn_sub (fun _ h => List.mem_cons_of_mem _ (List.mem_append_right _ h)) (by decide +kernel))
set_option maxRecDepth 20000 in
theorem gX5_make_X5_reckon : GoodIn wsX5_make (wsV RX5 188 RX5 yX5_reckon wsX5_reckon) := goodIn_app (goodIn_of _ (by decide +kernel)) ggX5_make_X5_reckon
set_option maxRecDepth 20000 in
theorem ggX5_make_X5_five : GoodIn wsX5_make wsX5_five := goodIn_ca (goodIn_r _ [47, 33, 92, 93, 94, 95, 96, 97, 98, 99, 100, 101, 102, 103, 104, 105, 106, 107, 108, 109, 110, 111, 112, 113, 114] (by decide +kernel) (by decide +kernel)) (goodIn_sub (fun _ h => List.mem_cons_of_mem _ (List.mem_append_right _ h)) (by decide +kernel))
set_option maxRecDepth 20000 in
theorem gX5_make_X5_five : GoodIn wsX5_make (wsV RX5 194 RX5 yX5_five wsX5_five) := goodIn_app (goodIn_of _ (by decide +kernel)) ggX5_make_X5_five
set_option maxRecDepth 20000 in
theorem ggX5_make_X5_sign : GoodIn wsX5_make wsX5_sign := goodIn_r _ [50, 51, 52, 53, 54, 55, 56, 57, 58, 59, 60, 61, 62, 63, 64, 65, 66, 67, 68, 69, 70, 71, 72, 73, 74, 75, 76, 77, 78, 79, 80, 81, 82, 83, 84, 85, 86, 87, 88, 89, 90, 91, 115, 116] (by decide +kernel) (by decide +kernel)
set_option maxRecDepth 20000 in
theorem gX5_make_X5_sign : GoodIn wsX5_make (va_wsS RX5 169 yX5_sign wsX5_sign) := goodIn_app (goodIn_of _ (by decide +kernel)) ggX5_make_X5_sign
theorem dX5_make_0 : decode cX5_make 0 = .ok (.aload_n 0, 1) := by decide +kernel
theorem dX5_make_1 : decode cX5_make 1 = .ok (.iconst 0, 1) := by decide +kernel
theorem dX5_make_2 : decode cX5_make 2 = .ok (.putfield 136, 3) := by decide +kernel
theorem dX5_make_5 : decode cX5_make 5 = .ok (.aload_n 0, 1) := by decide +kernel
theorem dX5_make_6 : decode cX5_make 6 = .ok (.iload_n 1, 1) := by decide +kernel
theorem dX5_make_7 : decode cX5_make 7 = .ok (.invokevirtual 145, 3) := by decide +kernel
theorem dX5_make_10 : decode cX5_make 10 = .ok (.ifCond .ne 6, 3) := by decide +kernel
theorem dX5_make_13 : decode cX5_make 13 = .ok (.bipush (-21), 2) := by decide +kernel
theorem dX5_make_15 : decode cX5_make 15 = .ok (.ireturn, 1) := by decide +kernel
theorem dX5_make_16 : decode cX5_make 16 = .ok (.iload_n 2, 1) := by decide +kernel
theorem dX5_make_17 : decode cX5_make 17 = .ok (.i2l, 1) := by decide +kernel
theorem dX5_make_18 : decode cX5_make 18 = .ok (.lconst 1, 1) := by decide +kernel
theorem dX5_make_19 : decode cX5_make 19 = .ok (.ldc2_w 173, 3) := by decide +kernel
theorem dX5_make_22 : decode cX5_make 22 = .ok (.invokestatic 139, 3) := by decide +kernel
theorem dX5_make_25 : decode cX5_make 25 = .ok (.ifCond .eq 27, 3) := by decide +kernel
theorem dX5_make_28 : decode cX5_make 28 = .ok (.iload_n 3, 1) := by decide +kernel
theorem dX5_make_29 : decode cX5_make 29 = .ok (.i2l, 1) := by decide +kernel
theorem dX5_make_30 : decode cX5_make 30 = .ok (.lconst 0, 1) := by decide +kernel
theorem dX5_make_31 : decode cX5_make 31 = .ok (.ldc2_w 175, 3) := by decide +kernel
theorem dX5_make_34 : decode cX5_make 34 = .ok (.invokestatic 139, 3) := by decide +kernel
theorem dX5_make_37 : decode cX5_make 37 = .ok (.ifCond .eq 15, 3) := by decide +kernel
theorem dX5_make_40 : decode cX5_make 40 = .ok (.lload 4, 2) := by decide +kernel
theorem dX5_make_42 : decode cX5_make 42 = .ok (.lconst 0, 1) := by decide +kernel
theorem dX5_make_43 : decode cX5_make 43 = .ok (.ldc2_w 143, 3) := by decide +kernel
theorem dX5_make_46 : decode cX5_make 46 = .ok (.invokestatic 139, 3) := by decide +kernel
theorem dX5_make_49 : decode cX5_make 49 = .ok (.ifCond .ne 6, 3) := by decide +kernel
theorem dX5_make_52 : decode cX5_make 52 = .ok (.bipush (-22), 2) := by decide +kernel
theorem dX5_make_54 : decode cX5_make 54 = .ok (.ireturn, 1) := by decide +kernel
theorem dX5_make_55 : decode cX5_make 55 = .ok (.lload 4, 2) := by decide +kernel
theorem dX5_make_57 : decode cX5_make 57 = .ok (.aload_n 0, 1) := by decide +kernel
theorem dX5_make_58 : decode cX5_make 58 = .ok (.getfield 7, 3) := by decide +kernel
theorem dX5_make_61 : decode cX5_make 61 = .ok (.iload_n 1, 1) := by decide +kernel
theorem dX5_make_62 : decode cX5_make 62 = .ok (.iaload, 1) := by decide +kernel
theorem dX5_make_63 : decode cX5_make 63 = .ok (.i2l, 1) := by decide +kernel
theorem dX5_make_64 : decode cX5_make 64 = .ok (.aload_n 0, 1) := by decide +kernel
theorem dX5_make_65 : decode cX5_make 65 = .ok (.getfield 13, 3) := by decide +kernel
theorem dX5_make_68 : decode cX5_make 68 = .ok (.iload_n 1, 1) := by decide +kernel
theorem dX5_make_69 : decode cX5_make 69 = .ok (.iaload, 1) := by decide +kernel
theorem dX5_make_70 : decode cX5_make 70 = .ok (.i2l, 1) := by decide +kernel
theorem dX5_make_71 : decode cX5_make 71 = .ok (.invokestatic 139, 3) := by decide +kernel
theorem dX5_make_74 : decode cX5_make 74 = .ok (.ifCond .ne 6, 3) := by decide +kernel
theorem dX5_make_77 : decode cX5_make 77 = .ok (.bipush (-23), 2) := by decide +kernel
theorem dX5_make_79 : decode cX5_make 79 = .ok (.ireturn, 1) := by decide +kernel
theorem dX5_make_80 : decode cX5_make 80 = .ok (.aload_n 0, 1) := by decide +kernel
theorem dX5_make_81 : decode cX5_make 81 = .ok (.getfield 177, 3) := by decide +kernel
theorem dX5_make_84 : decode cX5_make 84 = .ok (.sipush 16384, 3) := by decide +kernel
theorem dX5_make_87 : decode cX5_make 87 = .ok (.if_icmp .ne 6, 3) := by decide +kernel
theorem dX5_make_90 : decode cX5_make 90 = .ok (.bipush (-24), 2) := by decide +kernel
theorem dX5_make_92 : decode cX5_make 92 = .ok (.ireturn, 1) := by decide +kernel
theorem dX5_make_93 : decode cX5_make 93 = .ok (.iload_n 1, 1) := by decide +kernel
theorem dX5_make_94 : decode cX5_make 94 = .ok (.i2l, 1) := by decide +kernel
theorem dX5_make_95 : decode cX5_make 95 = .ok (.ldc2_w 180, 3) := by decide +kernel
theorem dX5_make_98 : decode cX5_make 98 = .ok (.lmul, 1) := by decide +kernel
theorem dX5_make_99 : decode cX5_make 99 = .ok (.iload_n 3, 1) := by decide +kernel
theorem dX5_make_100 : decode cX5_make 100 = .ok (.i2l, 1) := by decide +kernel
theorem dX5_make_101 : decode cX5_make 101 = .ok (.ladd, 1) := by decide +kernel
theorem dX5_make_102 : decode cX5_make 102 = .ok (.ldc2_w 182, 3) := by decide +kernel
theorem dX5_make_105 : decode cX5_make 105 = .ok (.lmul, 1) := by decide +kernel
theorem dX5_make_106 : decode cX5_make 106 = .ok (.iload_n 2, 1) := by decide +kernel
theorem dX5_make_107 : decode cX5_make 107 = .ok (.i2l, 1) := by decide +kernel
theorem dX5_make_108 : decode cX5_make 108 = .ok (.ladd, 1) := by decide +kernel
theorem dX5_make_109 : decode cX5_make 109 = .ok (.ldc2_w 184, 3) := by decide +kernel
theorem dX5_make_112 : decode cX5_make 112 = .ok (.lmul, 1) := by decide +kernel
theorem dX5_make_113 : decode cX5_make 113 = .ok (.lload 4, 2) := by decide +kernel
theorem dX5_make_115 : decode cX5_make 115 = .ok (.ladd, 1) := by decide +kernel
theorem dX5_make_116 : decode cX5_make 116 = .ok (.ldc2_w 186, 3) := by decide +kernel
theorem dX5_make_119 : decode cX5_make 119 = .ok (.lmul, 1) := by decide +kernel
theorem dX5_make_120 : decode cX5_make 120 = .ok (.aload_n 0, 1) := by decide +kernel
theorem dX5_make_121 : decode cX5_make 121 = .ok (.getfield 177, 3) := by decide +kernel
theorem dX5_make_124 : decode cX5_make 124 = .ok (.i2l, 1) := by decide +kernel
theorem dX5_make_125 : decode cX5_make 125 = .ok (.ladd, 1) := by decide +kernel
theorem dX5_make_126 : decode cX5_make 126 = .ok (.lstore 6, 2) := by decide +kernel
theorem dX5_make_128 : decode cX5_make 128 = .ok (.aload_n 0, 1) := by decide +kernel
theorem dX5_make_129 : decode cX5_make 129 = .ok (.iload_n 1, 1) := by decide +kernel
theorem dX5_make_130 : decode cX5_make 130 = .ok (.lload 6, 2) := by decide +kernel
theorem dX5_make_132 : decode cX5_make 132 = .ok (.invokevirtual 188, 3) := by decide +kernel
theorem dX5_make_135 : decode cX5_make 135 = .ok (.iconst 0, 1) := by decide +kernel
theorem dX5_make_136 : decode cX5_make 136 = .ok (.istore 8, 2) := by decide +kernel
theorem dX5_make_138 : decode cX5_make 138 = .ok (.iload 8, 2) := by decide +kernel
theorem dX5_make_140 : decode cX5_make 140 = .ok (.bipush 16, 2) := by decide +kernel
theorem dX5_make_142 : decode cX5_make 142 = .ok (.if_icmp .ge 53, 3) := by decide +kernel
theorem dX5_make_145 : decode cX5_make 145 = .ok (.aload_n 0, 1) := by decide +kernel
theorem dX5_make_146 : decode cX5_make 146 = .ok (.getfield 27, 3) := by decide +kernel
theorem dX5_make_149 : decode cX5_make 149 = .ok (.iload 8, 2) := by decide +kernel
theorem dX5_make_151 : decode cX5_make 151 = .ok (.iload 8, 2) := by decide +kernel
theorem dX5_make_153 : decode cX5_make 153 = .ok (.bipush 11, 2) := by decide +kernel
theorem dX5_make_155 : decode cX5_make 155 = .ok (.if_icmp .ge 21, 3) := by decide +kernel
theorem dX5_make_158 : decode cX5_make 158 = .ok (.lload 6, 2) := by decide +kernel
theorem dX5_make_160 : decode cX5_make 160 = .ok (.bipush 50, 2) := by decide +kernel
theorem dX5_make_162 : decode cX5_make 162 = .ok (.iconst 5, 1) := by decide +kernel
theorem dX5_make_163 : decode cX5_make 163 = .ok (.iload 8, 2) := by decide +kernel
theorem dX5_make_165 : decode cX5_make 165 = .ok (.imul, 1) := by decide +kernel
theorem dX5_make_166 : decode cX5_make 166 = .ok (.isub, 1) := by decide +kernel
theorem dX5_make_167 : decode cX5_make 167 = .ok (.lshr, 1) := by decide +kernel
theorem dX5_make_168 : decode cX5_make 168 = .ok (.ldc2_w 192, 3) := by decide +kernel
theorem dX5_make_171 : decode cX5_make 171 = .ok (.land, 1) := by decide +kernel
theorem dX5_make_172 : decode cX5_make 172 = .ok (.l2i, 1) := by decide +kernel
theorem dX5_make_173 : decode cX5_make 173 = .ok (.goto 12, 3) := by decide +kernel
theorem dX5_make_176 : decode cX5_make 176 = .ok (.aload_n 0, 1) := by decide +kernel
theorem dX5_make_177 : decode cX5_make 177 = .ok (.iload 8, 2) := by decide +kernel
theorem dX5_make_179 : decode cX5_make 179 = .ok (.bipush 11, 2) := by decide +kernel
theorem dX5_make_181 : decode cX5_make 181 = .ok (.isub, 1) := by decide +kernel
theorem dX5_make_182 : decode cX5_make 182 = .ok (.invokevirtual 194, 3) := by decide +kernel
theorem dX5_make_185 : decode cX5_make 185 = .ok (.invokestatic 169, 3) := by decide +kernel
theorem dX5_make_188 : decode cX5_make 188 = .ok (.iastore, 1) := by decide +kernel
theorem dX5_make_189 : decode cX5_make 189 = .ok (.iinc 8 1, 3) := by decide +kernel
theorem dX5_make_192 : decode cX5_make 192 = .ok (.goto (-54), 3) := by decide +kernel
theorem dX5_make_195 : decode cX5_make 195 = .ok (.aload_n 0, 1) := by decide +kernel
theorem dX5_make_196 : decode cX5_make 196 = .ok (.iconst 1, 1) := by decide +kernel
theorem dX5_make_197 : decode cX5_make 197 = .ok (.putfield 197, 3) := by decide +kernel
theorem dX5_make_200 : decode cX5_make 200 = .ok (.aload_n 0, 1) := by decide +kernel
theorem dX5_make_201 : decode cX5_make 201 = .ok (.getfield 19, 3) := by decide +kernel
theorem dX5_make_204 : decode cX5_make 204 = .ok (.iload_n 1, 1) := by decide +kernel
