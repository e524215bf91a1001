set_option maxRecDepth 20000 in
theorem ggX5_sign_J0_charAt_5068e : GoodIn wsX5_sign wsJ0_charAt_5068e := goodIn_r _ [5, 6, 7, 8, 9, 4, 10, 11, 12, 13, 14, 15, 16, 17, 18, 19, 20, 21, 22, 23, 24, 25, 26, 27, 28, 29, 30, 31, 32, 33, 34, 35, 36, 37, 38, 39, 40, 41, 42, 43] (by decide +kernel) (by decide +kernel)
set_option maxRecDepth 20000 in
theorem gX5_sign_J0_charAt_5068e : GoodIn wsX5_sign (wsV RX5 163 RJ0 yJ0_charAt_5068e wsJ0_charAt_5068e) := goodIn_app (goodIn_of _ (by decide +kernel)) ggX5_sign_J0_charAt_5068e
theorem dX5_sign_0 : decode cX5_sign 0 = .ok (.ldc 161, 2) := by decide +kernel
theorem dX5_sign_2 : decode cX5_sign 2 = .ok (.iload_n 0, 1) := by decide +kernel
theorem dX5_sign_3 : decode cX5_sign 3 = .ok (.invokevirtual 163, 3) := by decide +kernel
theorem dX5_sign_6 : decode cX5_sign 6 = .ok (.ireturn, 1) := by decide +kernel
set_option maxRecDepth 20000 in
theorem ggX5_valueOf_X5_sign : GoodIn wsX5_valueOf wsX5_sign := goodIn_r _ [4, 5, 6, 7, 8, 9, 10, 11, 12, 13, 14, 15, 16, 17, 18, 19, 20, 21, 22, 23, 24, 25, 26, 27, 28, 29, 30, 31, 32, 33, 34, 35, 36, 37, 38, 39, 40, 41, 42, 43, 44, 45, 46, 47] (by decide +kernel) (by decide +kernel)
set_option maxRecDepth 20000 in
theorem gX5_valueOf_X5_sign : GoodIn wsX5_valueOf (va_wsS RX5 169 yX5_sign wsX5_sign) := goodIn_app (goodIn_of _ (by decide +kernel)) ggX5_valueOf_X5_sign
theorem dX5_valueOf_0 : decode cX5_valueOf 0 = .ok (.iconst 0, 1) := by decide +kernel
theorem dX5_valueOf_1 : decode cX5_valueOf 1 = .ok (.istore_n 1, 1) := by decide +kernel
theorem dX5_valueOf_2 : decode cX5_valueOf 2 = .ok (.iload_n 1, 1) := by decide +kernel
theorem dX5_valueOf_3 : decode cX5_valueOf 3 = .ok (.bipush 32, 2) := by decide +kernel
theorem dX5_valueOf_5 : decode cX5_valueOf 5 = .ok (.if_icmp .ge 19, 3) := by decide +kernel
theorem dX5_valueOf_8 : decode cX5_valueOf 8 = .ok (.iload_n 1, 1) := by decide +kernel
theorem dX5_valueOf_9 : decode cX5_valueOf 9 = .ok (.invokestatic 169, 3) := by decide +kernel
theorem dX5_valueOf_12 : decode cX5_valueOf 12 = .ok (.iload_n 0, 1) := by decide +kernel
theorem dX5_valueOf_13 : decode cX5_valueOf 13 = .ok (.if_icmp .ne 5, 3) := by decide +kernel
theorem dX5_valueOf_16 : decode cX5_valueOf 16 = .ok (.iload_n 1, 1) := by decide +kernel
theorem dX5_valueOf_17 : decode cX5_valueOf 17 = .ok (.ireturn, 1) := by decide +kernel
theorem dX5_valueOf_18 : decode cX5_valueOf 18 = .ok (.iinc 1 1, 3) := by decide +kernel
theorem dX5_valueOf_21 : decode cX5_valueOf 21 = .ok (.goto (-19), 3) := by decide +kernel
theorem dX5_valueOf_24 : decode cX5_valueOf 24 = .ok (.iconst (-1), 1) := by decide +kernel
theorem dX5_valueOf_25 : decode cX5_valueOf 25 = .ok (.ireturn, 1) := by decide +kernel
set_option maxRecDepth 20000 in
theorem ggX5_make_X5_isKey : GoodIn wsX5_make wsX5_isKey := goodIn_r _ [20, 21, 22, 23, 19, 24, 92, 93, 94, 95, 96, 97, 98, 99, 100, 101, 102, 103, 104, 105, 106, 107, 108, 109, 110, 111, 112, 113, 114] (by decide +kernel) (by decide +kernel)
set_option maxRecDepth 20000 in
theorem gX5_make_X5_isKey : GoodIn wsX5_make (wsV RX5 145 RX5 yX5_isKey wsX5_isKey) := goodIn_app (goodIn_of _ (by decide +kernel)) ggX5_make_X5_isKey
set_option maxRecDepth 20000 in
theorem ggX5_make_X5_within : GoodIn wsX5_make wsX5_within := goodIn_r _ [24] (by decide +kernel) (by decide +kernel)
set_option maxRecDepth 20000 in
theorem gX5_make_X5_within : GoodIn wsX5_make (va_wsS RX5 139 yX5_within wsX5_within) := goodIn_app (goodIn_of _ (by decide +kernel)) ggX5_make_X5_within
set_option maxRecDepth 20000 in
theorem ggX5_make_X5_reckon : GoodIn wsX5_make wsX5_reckon := goodIn_ca (goodIn_r _ [28, 29, 30, 31, 32, 33, 34, 35, 36, 37, 19, 38, 39, 40, 41, 42, 43, 92, 93, 94, 95, 96, 97, 98, 99, 100, 101, 102, 103, 104, 105, 106, 107, 108, 109, 110, 111, 112, 113, 114] (by decide +kernel) (by decide +kernel)) (goodIn_sub (fun _ h => List.mem_cons_of_mem _ (List.mem_append_right _ h)) (by decide +kernel))
set_option maxRecDepth 20000 in
theorem gX5_make_X5_reckon : GoodIn wsX5_make (wsV RX5 188 RX5 yX5_reckon wsX5_reckon) := goodIn_app (goodIn_of _ (by decide +kernel)) ggX5_make_X5_reckon
set_option maxRecDepth 20000 in
theorem ggX5_make_X5_five : GoodIn wsX5_make wsX5_five := goodIn_ca (goodIn_r _ [47, 33, 92, 93, 94, 95, 96, 97, 98, 99, 100, 101, 102, 103, 104, 105, 106, 107, 108, 109, 110, 111, 112, 113, 114] (by decide +kernel) (by decide +kernel)) (goodIn_sub (fun _ h => List.mem_cons_of_mem _ (List.mem_append_right _ h)) (by decide +kernel))
set_option maxRecDepth 20000 in
theorem gX5_make_X5_five : GoodIn wsX5_make (wsV RX5 194 RX5 yX5_five wsX5_five) := goodIn_app (goodIn_of _ (by decide +kernel)) ggX5_make_X5_five
set_option maxRecDepth 20000 in
theorem ggX5_make_X5_sign : GoodIn wsX5_make wsX5_sign := goodIn_r _ [50, 51, 52, 53, 54, 55, 56, 57, 58, 59, 60, 61, 62, 63, 64, 65, 66, 67, 68, 69, 70, 71, 72, 73, 74, 75, 76, 77, 78, 79, 80, 81, 82, 83, 84, 85, 86, 87, 88, 89, 90, 91, 115, 116] (by decide +kernel) (by decide +kernel)
set_option maxRecDepth 20000 in
theorem gX5_make_X5_sign : GoodIn wsX5_make (va_wsS RX5 169 yX5_sign wsX5_sign) := goodIn_app (goodIn_of _ (by decide +kernel)) ggX5_make_X5_sign
theorem dX5_make_0 : decode cX5_make 0 = .ok (.aload_n 0, 1) := by decide +kernel
theorem dX5_make_1 : decode cX5_make 1 = .ok (.iconst 0, 1) := by decide +kernel
theorem dX5_make_2 : decode cX5_make 2 = .ok (.putfield 136, 3) := by decide +kernel
theorem dX5_make_5 : decode cX5_make 5 = .ok (.aload_n 0, 1) := by decide +kernel
theorem dX5_make_6 : decode cX5_make 6 = .ok (.iload_n 1, 1) := by decide +kernel
theorem dX5_make_7 : decode cX5_make 7 = .ok (.invokevirtual 145, 3) := by decide +kernel
theorem dX5_make_10 : decode cX5_make 10 = .ok (.ifCond .ne 6, 3) := by decide +kernel
theorem dX5_make_13 : decode cX5_make 13 = .ok (.bipush (-21), 2) := by decide +kernel
theorem dX5_make_15 : decode cX5_make 15 = .ok (.ireturn, 1) := by decide +kernel
theorem dX5_make_16 : decode cX5_make 16 = .ok (.iload_n 2, 1) := by decide +kernel
theorem dX5_make_17 : decode cX5_make 17 = .ok (.i2l, 1) := by decide +kernel
theorem dX5_make_18 : decode cX5_make 18 = .ok (.lconst 1, 1) := by decide +kernel
theorem dX5_make_19 : decode cX5_make 19 = .ok (.ldc2_w 173, 3) := by decide +kernel
theorem dX5_make_22 : decode cX5_make 22 = .ok (.invokestatic 139, 3) := by decide +kernel
theorem dX5_make_25 : decode cX5_make 25 = .ok (.ifCond .eq 27, 3) := by decide +kernel
theorem dX5_make_28 : decode cX5_make 28 = .ok (.iload_n 3, 1) := by decide +kernel
theorem dX5_make_29 : decode cX5_make 29 = .ok (.i2l, 1) := by decide +kernel
theorem dX5_make_30 : decode cX5_make 30 = .ok (.lconst 0, 1) := by decide +kernel
theorem dX5_make_31 : decode cX5_make 31 = .ok (.ldc2_w 175, 3) := by decide +kernel
theorem dX5_make_34 : decode cX5_make 34 = .ok (.invokestatic 139, 3) := by decide +kernel
theorem dX5_make_37 : decode cX5_make 37 = .ok (.ifCond .eq 15, 3) := by decide +kernel
theorem dX5_make_40 : decode cX5_make 40 = .ok (.lload 4, 2) := by decide +kernel
theorem dX5_make_42 : decode cX5_make 42 = .ok (.lconst 0, 1) := by decide +kernel
theorem dX5_make_43 : decode cX5_make 43 = .ok (.ldc2_w 143, 3) := by decide +kernel
theorem dX5_make_46 : decode cX5_make 46 = .ok (.invokestatic 139, 3) := by decide +kernel
theorem dX5_make_49 : decode cX5_make 49 = .ok (.ifCond .ne 6, 3) := by decide +kernel
theorem dX5_make_52 : decode cX5_make 52 = .ok (.bipush (-22), 2) := by decide +kernel
theorem dX5_make_54 : decode cX5_make 54 = .ok (.ireturn, 1) := by decide +kernel
theorem dX5_make_55 : decode cX5_make 55 = .ok (.lload 4, 2) := by decide +kernel
theorem dX5_make_57 : decode cX5_make 57 = .ok (.aload_n 0, 1) := by decide +kernel
theorem dX5_make_58 : decode cX5_make 58 = .ok (.getfield 7, 3) := by decide +kernel
theorem dX5_make_61 : decode cX5_make 61 = .ok (.iload_n 1, 1) := by decide +kernel
theorem dX5_make_62 : decode cX5_make 62 = .ok (.iaload, 1) := by decide +kernel
theorem dX5_make_63 : decode cX5_make 63 = .ok (.i2l, 1) := by decide +kernel
theorem dX5_make_64 : decode cX5_make 64 = .ok (.aload_n 0, 1) := by decide +kernel
theorem dX5_make_65 : decode cX5_make 65 = .ok (.getfield 13, 3) := by decide +kernel
theorem dX5_make_68 : decode cX5_make 68 = .ok (.iload_n 1, 1) := by decide +kernel
theorem dX5_make_69 : decode cX5_make 69 = .ok (.iaload, 1) := by decide +kernel
theorem dX5_make_70 : decode cX5_make 70 = .ok (.i2l, 1) := by decide +kernel
theorem dX5_make_71 : decode cX5_make 71 = .ok (.invokestatic 139, 3) := by decide +kernel
theorem dX5_make_74 : decode cX5_make 74 = .ok (.ifCond .ne 6, 3) := by decide +kernel
theorem dX5_make_77 : decode cX5_make 77 = .ok (.bipush (-23), 2) := by decide +kernel
theorem dX5_make_79 : decode cX5_make 79 = .ok (.ireturn, 1) := by decide +kernel
theorem dX5_make_80 : decode cX5_make 80 = .ok (.aload_n 0, 1) := by decide +kernel
theorem dX5_make_81 : decode cX5_make 81 = .ok (.getfield 177, 3) := by decide +kernel
theorem dX5_make_84 : decode cX5_make 84 = .ok (.sipush 16384, 3) := by decide +kernel
theorem dX5_make_87 : decode cX5_make 87 = .ok (.if_icmp .ne 6, 3) := by decide +kernel
theorem dX5_make_90 : decode cX5_make 90 = .ok (.bipush (-24), 2) := by decide +kernel
theorem dX5_make_92 : decode cX5_make 92 = .ok (.ireturn, 1) := by decide +kernel
theorem dX5_make_93 : decode cX5_make 93 = .ok (.iload_n 1, 1) := by decide +kernel
theorem dX5_make_94 : decode cX5_make 94 = .ok (.i2l, 1) := by decide +kernel
theorem dX5_make_95 : decode cX5_make 95 = .ok (.ldc2_w 180, 3) := by decide +kernel
theorem dX5_make_98 : decode cX5_make 98 = .ok (.lmul, 1) := by decide +kernel
theorem dX5_make_99 : decode cX5_make 99 = .ok (.iload_n 3, 1) := by decide +kernel
theorem dX5_make_100 : decode cX5_make 100 = .ok (.i2l, 1) := by decide +kernel
theorem dX5_make_101 : decode cX5_make 101 = .ok (.ladd, 1) := by decide +kernel
theorem dX5_make_102 : decode cX5_make 102 = .ok (.ldc2_w 182, 3) := by decide +kernel
theorem dX5_make_105 : decode cX5_make 105 = .ok (.lmul, 1) := by decide +kernel
theorem dX5_make_106 : decode cX5_make 106 = .ok (.iload_n 2, 1) := by decide +kernel
theorem dX5_make_107 : decode cX5_make 107 = .ok (.i2l, 1) := by decide +kernel
theorem dX5_make_108 : decode cX5_make 108 = .ok (.ladd, 1) := by decide +kernel
theorem dX5_make_109 : decode cX5_make 109 = .ok (.ldc2_w 184, 3) := by decide +kernel
theorem dX5_make_112 : decode cX5_make 112 = .ok (.lmul, 1) := by decide +kernel
theorem dX5_make_113 : decode cX5_make 113 = .ok (.lload 4, 2) := by decide +kernel
theorem dX5_make_115 : decode cX5_make 115 = .ok (.ladd, 1) := by decide +kernel
theorem dX5_make_116 : decode cX5_make 116 = .ok (.ldc2_w 186, 3) := by decide +kernel
theorem dX5_make_119 : decode cX5_make 119 = .ok (.lmul, 1) := by decide +kernel
theorem dX5_make_120 : decode cX5_make 120 = .ok (.aload_n 0, 1) := by decide +kernel
theorem dX5_make_121 : decode cX5_make 121 = .ok (.getfield 177, 3) := by decide +kernel
theorem dX5_make_124 : decode cX5_make 124 = .ok (.i2l, 1) := by decide +kernel
theorem dX5_make_125 : decode cX5_make 125 = .ok (.ladd, 1) := by decide +kernel
theorem dX5_make_126 : decode cX5_make 126 = .ok (.lstore 6, 2) := by decide +kernel
theorem dX5_make_128 : decode cX5_make 128 = .ok (.aload_n 0, 1) := by decide +kernel
theorem dX5_make_129 : decode cX5_make 129 = .ok (.iload_n 1, 1) := by decide +kernel
theorem dX5_make_130 : decode cX5_make 130 = .ok (.lload 6, 2) := by decide +kernel
theorem dX5_make_132 : decode cX5_make 132 = .ok (.invokevirtual 188, 3) := by decide +kernel
theorem dX5_make_135 : decode cX5_make 135 = .ok (.iconst 0, 1) := by decide +kernel
theorem dX5_make_136 : decode cX5_make 136 = .ok (.istore 8, 2) := by decide +kernel
theorem dX5_make_138 : decode cX5_make 138 = .ok (.iload 8, 2) := by decide +kernel
theorem dX5_make_140 : decode cX5_make 140 = .ok (.bipush 16, 2) := by decide +kernel
theorem dX5_make_142 : decode cX5_make 142 = .ok (.if_icmp .ge 53, 3) := by decide +kernel
theorem dX5_make_145 : decode cX5_make 145 = .ok (.aload_n 0, 1) := by decide +kernel
theorem dX5_make_146 : decode cX5_make 146 = .ok (.getfield 27, 3) := by decide +kernel
theorem dX5_make_149 : decode cX5_make 149 = .ok (.iload 8, 2) := by decide +kernel
theorem dX5_make_151 : decode cX5_make 151 = .ok (.iload 8, 2) := by decide +kernel
theorem dX5_make_153 : decode cX5_make 153 = .ok (.bipush 11, 2) := by decide +kernel
theorem dX5_make_155 : decode cX5_make 155 = .ok (.if_icmp .ge 21, 3) := by decide +kernel
theorem dX5_make_158 : decode cX5_make 158 = .ok (.lload 6, 2) := by decide +kernel
theorem dX5_make_160 : decode cX5_make 160 = .ok (.bipush 50, 2) := by decide +kernel
theorem dX5_make_162 : decode cX5_make 162 = .ok (.iconst 5, 1) := by decide +kernel
theorem dX5_make_163 : decode cX5_make 163 = .ok (.iload 8, 2) := by decide +kernel
theorem dX5_make_165 : decode cX5_make 165 = .ok (.imul, 1) := by decide +kernel
theorem dX5_make_166 : decode cX5_make 166 = .ok (.isub, 1) := by decide +kernel
theorem dX5_make_167 : decode cX5_make 167 = .ok (.lshr, 1) := by decide +kernel
theorem dX5_make_168 : decode cX5_make 168 = .ok (.ldc2_w 192, 3) := by decide +kernel
theorem dX5_make_171 : decode cX5_make 171 = .ok (.land, 1) := by decide +kernel
theorem dX5_make_172 : decode cX5_make 172 = .ok (.l2i, 1) := by decide +kernel
theorem dX5_make_173 : decode cX5_make 173 = .ok (.goto 12, 3) := by decide +kernel
theorem dX5_make_176 : decode cX5_make 176 = .ok (.aload_n 0, 1) := by decide +kernel
theorem dX5_make_177 : decode cX5_make 177 = .ok (.iload 8, 2) := by decide +kernel
theorem dX5_make_179 : decode cX5_make 179 = .ok (.bipush 11, 2) := by decide +kernel
theorem dX5_make_181 : decode cX5_make 181 = .ok (.isub, 1) := by decide +kernel
theorem dX5_make_182 : decode cX5_make 182 = .ok (.invokevirtual 194, 3) := by decide +kernel
theorem dX5_make_185 : decode cX5_make 185 = .ok (.invokestatic 169, 3) := by decide +kernel
theorem dX5_make_188 : decode cX5_make 188 = .ok (.iastore, 1) := by decide +kernel
theorem dX5_make_189 : decode cX5_make 189 = .ok (.iinc 8 1, 3) := by decide +kernel
theorem dX5_make_192 : decode cX5_make 192 = .ok (.goto (-54), 3) := by decide +kernel
theorem dX5_make_195 : decode cX5_make 195 = .ok (.aload_n 0, 1) := by decide +kernel
theorem dX5_make_196 : decode cX5_make 196 = .ok (.iconst 1, 1) := by decide +kernel
theorem dX5_make_197 : decode cX5_make 197 = .ok (.putfield 197, 3) := by decide +kernel
theorem dX5_make_200 : decode cX5_make 200 = .ok (.aload_n 0, 1) := by decide +kernel
theorem dX5_make_201 : decode cX5_make 201 = .ok (.getfield 19, 3) := by decide +kernel
theorem dX5_make_204 : decode cX5_make 204 = .ok (.iload_n 1, 1) := by decide +kernel
theorem dX5_make_205 : decode cX5_make 205 = .ok (.iconst 1, 1) := by decide +kernel
theorem dX5_make_206 : decode cX5_make 206 = .ok (.bastore, 1) := by decide +kernel
theorem dX5_make_207 : decode cX5_make 207 = .ok (.aload_n 0, 1) := by decide +kernel
theorem dX5_make_208 : decode cX5_make 208 = .ok (.dup, 1) := by decide +kernel
theorem dX5_make_209 : decode cX5_make 209 = .ok (.getfield 177, 3) := by decide +kernel
theorem dX5_make_212 : decode cX5_make 212 = .ok (.iconst 1, 1) := by decide +kernel
theorem dX5_make_213 : decode cX5_make 213 = .ok (.iadd, 1) := by decide +kernel
theorem dX5_make_214 : decode cX5_make 214 = .ok (.putfield 177, 3) := by decide +kernel
theorem dX5_make_217 : decode cX5_make 217 = .ok (.bipush 16, 2) := by decide +kernel
theorem dX5_make_219 : decode cX5_make 219 = .ok (.ireturn, 1) := by decide +kernel
set_option maxRecDepth 20000 in
theorem ggX5_letter_X5_within : GoodIn wsX5_letter wsX5_within := goodIn_r _ [8] (by decide +kernel) (by decide +kernel)
set_option maxRecDepth 20000 in
theorem gX5_letter_X5_within : GoodIn wsX5_letter (va_wsS RX5 139 yX5_within wsX5_within) := goodIn_app (goodIn_of _ (by decide +kernel)) ggX5_letter_X5_within
theorem dX5_letter_0 : decode cX5_letter 0 = .ok (.aload_n 0, 1) := by decide +kernel
theorem dX5_letter_1 : decode cX5_letter 1 = .ok (.iconst 0, 1) := by decide +kernel
theorem dX5_letter_2 : decode cX5_letter 2 = .ok (.putfield 136, 3) := by decide +kernel
theorem dX5_letter_5 : decode cX5_letter 5 = .ok (.aload_n 0, 1) := by decide +kernel
theorem dX5_letter_6 : decode cX5_letter 6 = .ok (.getfield 197, 3) := by decide +kernel
theorem dX5_letter_9 : decode cX5_letter 9 = .ok (.ifCond .eq 24, 3) := by decide +kernel
theorem dX5_letter_12 : decode cX5_letter 12 = .ok (.iload_n 1, 1) := by decide +kernel
theorem dX5_letter_13 : decode cX5_letter 13 = .ok (.i2l, 1) := by decide +kernel
theorem dX5_letter_14 : decode cX5_letter 14 = .ok (.lconst 0, 1) := by decide +kernel
theorem dX5_letter_15 : decode cX5_letter 15 = .ok (.ldc2_w 200, 3) := by decide +kernel
theorem dX5_letter_18 : decode cX5_letter 18 = .ok (.invokestatic 139, 3) := by decide +kernel
theorem dX5_letter_21 : decode cX5_letter 21 = .ok (.ifCond .eq 12, 3) := by decide +kernel
theorem dX5_letter_24 : decode cX5_letter 24 = .ok (.aload_n 0, 1) := by decide +kernel
theorem dX5_letter_25 : decode cX5_letter 25 = .ok (.getfield 27, 3) := by decide +kernel
theorem dX5_letter_28 : decode cX5_letter 28 = .ok (.iload_n 1, 1) := by decide +kernel
theorem dX5_letter_29 : decode cX5_letter 29 = .ok (.iaload, 1) := by decide +kernel
theorem dX5_letter_30 : decode cX5_letter 30 = .ok (.goto 4, 3) := by decide +kernel
theorem dX5_letter_33 : decode cX5_letter 33 = .ok (.iconst 0, 1) := by decide +kernel
theorem dX5_letter_34 : decode cX5_letter 34 = .ok (.ireturn, 1) := by decide +kernel
theorem dX5_type_0 : decode cX5_type 0 = .ok (.aload_n 0, 1) := by decide +kernel
theorem dX5_type_1 : decode cX5_type 1 = .ok (.iconst 0, 1) := by decide +kernel
theorem dX5_type_2 : decode cX5_type 2 = .ok (.putfield 136, 3) := by decide +kernel
theorem dX5_type_5 : decode cX5_type 5 = .ok (.aload_n 0, 1) := by decide +kernel
theorem dX5_type_6 : decode cX5_type 6 = .ok (.getfield 202, 3) := by decide +kernel
theorem dX5_type_9 : decode cX5_type 9 = .ok (.bipush 40, 2) := by decide +kernel
theorem dX5_type_11 : decode cX5_type 11 = .ok (.if_icmp .ge 23, 3) := by decide +kernel
theorem dX5_type_14 : decode cX5_type 14 = .ok (.aload_n 0, 1) := by decide +kernel
theorem dX5_type_15 : decode cX5_type 15 = .ok (.getfield 30, 3) := by decide +kernel
theorem dX5_type_18 : decode cX5_type 18 = .ok (.aload_n 0, 1) := by decide +kernel
theorem dX5_type_19 : decode cX5_type 19 = .ok (.getfield 202, 3) := by decide +kernel
theorem dX5_type_22 : decode cX5_type 22 = .ok (.iload_n 1, 1) := by decide +kernel
theorem dX5_type_23 : decode cX5_type 23 = .ok (.iastore, 1) := by decide +kernel
theorem dX5_type_24 : decode cX5_type 24 = .ok (.aload_n 0, 1) := by decide +kernel
theorem dX5_type_25 : decode cX5_type 25 = .ok (.dup, 1) := by decide +kernel
theorem dX5_type_26 : decode cX5_type 26 = .ok (.getfield 202, 3) := by decide +kernel
theorem dX5_type_29 : decode cX5_type 29 = .ok (.iconst 1, 1) := by decide +kernel
theorem dX5_type_30 : decode cX5_type 30 = .ok (.iadd, 1) := by decide +kernel
theorem dX5_type_31 : decode cX5_type 31 = .ok (.putfield 202, 3) := by decide +kernel
theorem dX5_type_34 : decode cX5_type 34 = .ok (.return_, 1) := by decide +kernel
set_option maxRecDepth 20000 in
theorem ggX5_check_X5_within : GoodIn wsX5_check wsX5_within := goodIn_r _ [8] (by decide +kernel) (by decide +kernel)
set_option maxRecDepth 20000 in
theorem gX5_check_X5_within : GoodIn wsX5_check (va_wsS RX5 139 yX5_within wsX5_within) := goodIn_app (goodIn_of _ (by decide +kernel)) ggX5_check_X5_within
set_option maxRecDepth 20000 in
theorem ggX5_check_X5_reasonOf : GoodIn wsX5_check wsX5_reasonOf := goodIn_ca (goodIn_r _ [12, 4, 13, 14, 15, 16, 2, 17, 18, 19, 20, 21, 22, 23, 24, 3, 25, 26, 7, 27, 28, 29, 30, 31, 32, 33, 34, 35, 36, 37, 38, 39, 40, 41, 42, 43, 44, 45, 46, 47, 48, 49, 50, 51, 52, 53, 54, 55, 56, 57, 58, 59, 60, 61, 62, 63, 64, 65, 66, 67, 68, 69, 70, 71, 72, 73, 74, 75, 76, 5, 6, 8, 77, 78, 79, 80, 81, 82, 83, 84, 85, 86, 87, 88, 89, 90, 91, 92, 93, 94, 95, 96, 97, 98, 99, 100, 101, 102, 103, 104, 105, 106, 107, 108, 109, 110, 111, 112, 113, 114, 115, 116, 117, 118, 119, 120, 121, 122, 123, 124] (by decide +kernel) (by decide +kernel)) (goodIn_sub (fun _ h => List.mem_cons_of_mem _ (List.mem_append_right _ h)) (by decide +kernel))
set_option maxRecDepth 20000 in
theorem gX5_check_X5_reasonOf : GoodIn wsX5_check (wsV RX5 208 RX5 yX5_reasonOf wsX5_reasonOf) := goodIn_app (goodIn_of _ (by decide +kernel)) ggX5_check_X5_reasonOf
theorem dX5_check_0 : decode cX5_check 0 = .ok (.aload_n 0, 1) := by decide +kernel
theorem dX5_check_1 : decode cX5_check 1 = .ok (.iconst 0, 1) := by decide +kernel
theorem dX5_check_2 : decode cX5_check 2 = .ok (.putfield 136, 3) := by decide +kernel
theorem dX5_check_5 : decode cX5_check 5 = .ok (.lload_n 1, 1) := by decide +kernel
theorem dX5_check_6 : decode cX5_check 6 = .ok (.lconst 0, 1) := by decide +kernel
theorem dX5_check_7 : decode cX5_check 7 = .ok (.ldc2_w 143, 3) := by decide +kernel
theorem dX5_check_10 : decode cX5_check 10 = .ok (.invokestatic 139, 3) := by decide +kernel
theorem dX5_check_13 : decode cX5_check 13 = .ok (.ifCond .ne 6, 3) := by decide +kernel
theorem dX5_check_16 : decode cX5_check 16 = .ok (.bipush (-22), 2) := by decide +kernel
theorem dX5_check_18 : decode cX5_check 18 = .ok (.ireturn, 1) := by decide +kernel
theorem dX5_check_19 : decode cX5_check 19 = .ok (.aload_n 0, 1) := by decide +kernel
theorem dX5_check_20 : decode cX5_check 20 = .ok (.dup, 1) := by decide +kernel
theorem dX5_check_21 : decode cX5_check 21 = .ok (.getfield 205, 3) := by decide +kernel
theorem dX5_check_24 : decode cX5_check 24 = .ok (.iconst 1, 1) := by decide +kernel
theorem dX5_check_25 : decode cX5_check 25 = .ok (.iadd, 1) := by decide +kernel
theorem dX5_check_26 : decode cX5_check 26 = .ok (.putfield 205, 3) := by decide +kernel
theorem dX5_check_29 : decode cX5_check 29 = .ok (.aload_n 0, 1) := by decide +kernel
theorem dX5_check_30 : decode cX5_check 30 = .ok (.lload_n 1, 1) := by decide +kernel
theorem dX5_check_31 : decode cX5_check 31 = .ok (.l2i, 1) := by decide +kernel
theorem dX5_check_32 : decode cX5_check 32 = .ok (.invokevirtual 208, 3) := by decide +kernel
theorem dX5_check_35 : decode cX5_check 35 = .ok (.istore_n 3, 1) := by decide +kernel
theorem dX5_check_36 : decode cX5_check 36 = .ok (.aload_n 0, 1) := by decide +kernel
theorem dX5_check_37 : decode cX5_check 37 = .ok (.iconst 0, 1) := by decide +kernel
theorem dX5_check_38 : decode cX5_check 38 = .ok (.putfield 202, 3) := by decide +kernel
theorem dX5_check_41 : decode cX5_check 41 = .ok (.iload_n 3, 1) := by decide +kernel
theorem dX5_check_42 : decode cX5_check 42 = .ok (.ifCond .ne 7, 3) := by decide +kernel
theorem dX5_check_45 : decode cX5_check 45 = .ok (.iconst 1, 1) := by decide +kernel
theorem dX5_check_46 : decode cX5_check 46 = .ok (.goto 6, 3) := by decide +kernel
theorem dX5_check_49 : decode cX5_check 49 = .ok (.iconst (-1), 1) := by decide +kernel
theorem dX5_check_50 : decode cX5_check 50 = .ok (.iload_n 3, 1) := by decide +kernel
theorem dX5_check_51 : decode cX5_check 51 = .ok (.isub, 1) := by decide +kernel
theorem dX5_check_52 : decode cX5_check 52 = .ok (.ireturn, 1) := by decide +kernel
set_option maxRecDepth 20000 in
theorem ggX5_reasonOf_X5_valueOf : GoodIn wsX5_reasonOf wsX5_valueOf := goodIn_r _ [19, 20, 21, 18, 22, 23, 24, 25, 26, 27, 28, 29, 30, 31, 32, 33, 34, 35, 36, 37, 38, 39, 40, 41, 42, 43, 44, 45, 46, 47, 48, 49, 50, 51, 52, 53, 54, 55, 56, 57, 58, 59, 60, 61, 62, 63, 118, 119] (by decide +kernel) (by decide +kernel)
set_option maxRecDepth 20000 in
theorem gX5_reasonOf_X5_valueOf : GoodIn wsX5_reasonOf (va_wsS RX5 211 yX5_valueOf wsX5_valueOf) := goodIn_app (goodIn_of _ (by decide +kernel)) ggX5_reasonOf_X5_valueOf
set_option maxRecDepth 20000 in
theorem ggX5_reasonOf_X5_isKey : GoodIn wsX5_reasonOf wsX5_isKey := goodIn_r _ [67, 68, 69, 70, 18, 71, 95, 96, 97, 98, 99, 100, 101, 102, 103, 104, 105, 106, 107, 108, 109, 110, 111, 112, 113, 114, 115, 116, 117] (by decide +kernel) (by decide +kernel)
set_option maxRecDepth 20000 in
theorem gX5_reasonOf_X5_isKey : GoodIn wsX5_reasonOf (wsV RX5 145 RX5 yX5_isKey wsX5_isKey) := goodIn_app (goodIn_of _ (by decide +kernel)) ggX5_reasonOf_X5_isKey
set_option maxRecDepth 20000 in
theorem ggX5_reasonOf_X5_within : GoodIn wsX5_reasonOf wsX5_within := goodIn_r _ [71] (by decide +kernel) (by decide +kernel)
set_option maxRecDepth 20000 in
theorem gX5_reasonOf_X5_within : GoodIn wsX5_reasonOf (va_wsS RX5 139 yX5_within wsX5_within) := goodIn_app (goodIn_of _ (by decide +kernel)) ggX5_reasonOf_X5_within
set_option maxRecDepth 20000 in
theorem ggX5_reasonOf_X5_reckon : GoodIn wsX5_reasonOf wsX5_reckon := goodIn_ca (goodIn_r _ [75, 76, 77, 78, 79, 80, 81, 82, 83, 84, 18, 85, 86, 87, 88, 89, 90, 95, 96, 97, 98, 99, 100, 101, 102, 103, 104, 105, 106, 107, 108, 109, 110, 111, 112, 113, 114, 115, 116, 117] (by decide +kernel) (by decide +kernel)) (goodIn_sub (fun _ h => List.mem_cons_of_mem _ (List.mem_append_right _ h)) (by decide +kernel))
set_option maxRecDepth 20000 in
theorem gX5_reasonOf_X5_reckon : GoodIn wsX5_reasonOf (wsV RX5 188 RX5 yX5_reckon wsX5_reckon) := goodIn_app (goodIn_of _ (by decide +kernel)) ggX5_reasonOf_X5_reckon
set_option maxRecDepth 20000 in
theorem ggX5_reasonOf_X5_five : GoodIn wsX5_reasonOf wsX5_five := goodIn_ca (goodIn_r _ [94, 80, 95, 96, 97, 98, 99, 100, 101, 102, 103, 104, 105, 106, 107, 108, 109, 110, 111, 112, 113, 114, 115, 116, 117] (by decide +kernel) (by decide +kernel)) (goodIn_sub (fun _ h => List.mem_cons_of_mem _ (List.mem_append_right _ h)) (by decide +kernel))
set_option maxRecDepth 20000 in
theorem gX5_reasonOf_X5_five : GoodIn wsX5_reasonOf (wsV RX5 194 RX5 yX5_five wsX5_five) := goodIn_app (goodIn_of _ (by decide +kernel)) ggX5_reasonOf_X5_five
theorem dX5_reasonOf_0 : decode cX5_reasonOf 0 = .ok (.aload_n 0, 1) := by decide +kernel
theorem dX5_reasonOf_1 : decode cX5_reasonOf 1 = .ok (.getfield 202, 3) := by decide +kernel
theorem dX5_reasonOf_4 : decode cX5_reasonOf 4 = .ok (.bipush 16, 2) := by decide +kernel
theorem dX5_reasonOf_6 : decode cX5_reasonOf 6 = .ok (.if_icmp .eq 5, 3) := by decide +kernel
theorem dX5_reasonOf_9 : decode cX5_reasonOf 9 = .ok (.iconst 1, 1) := by decide +kernel
theorem dX5_reasonOf_10 : decode cX5_reasonOf 10 = .ok (.ireturn, 1) := by decide +kernel
theorem dX5_reasonOf_11 : decode cX5_reasonOf 11 = .ok (.lconst 0, 1) := by decide +kernel
theorem dX5_reasonOf_12 : decode cX5_reasonOf 12 = .ok (.lstore_n 2, 1) := by decide +kernel
theorem dX5_reasonOf_13 : decode cX5_reasonOf 13 = .ok (.iconst 0, 1) := by decide +kernel
theorem dX5_reasonOf_14 : decode cX5_reasonOf 14 = .ok (.istore 4, 2) := by decide +kernel
theorem dX5_reasonOf_16 : decode cX5_reasonOf 16 = .ok (.iload 4, 2) := by decide +kernel
theorem dX5_reasonOf_18 : decode cX5_reasonOf 18 = .ok (.bipush 16, 2) := by decide +kernel
theorem dX5_reasonOf_20 : decode cX5_reasonOf 20 = .ok (.if_icmp .ge 53, 3) := by decide +kernel
theorem dX5_reasonOf_23 : decode cX5_reasonOf 23 = .ok (.aload_n 0, 1) := by decide +kernel
theorem dX5_reasonOf_24 : decode cX5_reasonOf 24 = .ok (.getfield 30, 3) := by decide +kernel
theorem dX5_reasonOf_27 : decode cX5_reasonOf 27 = .ok (.iload 4, 2) := by decide +kernel
theorem dX5_reasonOf_29 : decode cX5_reasonOf 29 = .ok (.iaload, 1) := by decide +kernel
theorem dX5_reasonOf_30 : decode cX5_reasonOf 30 = .ok (.invokestatic 211, 3) := by decide +kernel
theorem dX5_reasonOf_33 : decode cX5_reasonOf 33 = .ok (.ifCond .ge 5, 3) := by decide +kernel
theorem dX5_reasonOf_36 : decode cX5_reasonOf 36 = .ok (.iconst 2, 1) := by decide +kernel
theorem dX5_reasonOf_37 : decode cX5_reasonOf 37 = .ok (.ireturn, 1) := by decide +kernel
theorem dX5_reasonOf_38 : decode cX5_reasonOf 38 = .ok (.iload 4, 2) := by decide +kernel
theorem dX5_reasonOf_40 : decode cX5_reasonOf 40 = .ok (.bipush 11, 2) := by decide +kernel
theorem dX5_reasonOf_42 : decode cX5_reasonOf 42 = .ok (.if_icmp .ge 23, 3) := by decide +kernel
theorem dX5_reasonOf_45 : decode cX5_reasonOf 45 = .ok (.ldc2_w 214, 3) := by decide +kernel
theorem dX5_reasonOf_48 : decode cX5_reasonOf 48 = .ok (.lload_n 2, 1) := by decide +kernel
theorem dX5_reasonOf_49 : decode cX5_reasonOf 49 = .ok (.lmul, 1) := by decide +kernel
theorem dX5_reasonOf_50 : decode cX5_reasonOf 50 = .ok (.aload_n 0, 1) := by decide +kernel
theorem dX5_reasonOf_51 : decode cX5_reasonOf 51 = .ok (.getfield 30, 3) := by decide +kernel
theorem dX5_reasonOf_54 : decode cX5_reasonOf 54 = .ok (.iload 4, 2) := by decide +kernel
theorem dX5_reasonOf_56 : decode cX5_reasonOf 56 = .ok (.iaload, 1) := by decide +kernel
theorem dX5_reasonOf_57 : decode cX5_reasonOf 57 = .ok (.invokestatic 211, 3) := by decide +kernel
theorem dX5_reasonOf_60 : decode cX5_reasonOf 60 = .ok (.i2l, 1) := by decide +kernel
theorem dX5_reasonOf_61 : decode cX5_reasonOf 61 = .ok (.ladd, 1) := by decide +kernel
theorem dX5_reasonOf_62 : decode cX5_reasonOf 62 = .ok (.goto 4, 3) := by decide +kernel
theorem dX5_reasonOf_65 : decode cX5_reasonOf 65 = .ok (.lload_n 2, 1) := by decide +kernel
theorem dX5_reasonOf_66 : decode cX5_reasonOf 66 = .ok (.lstore_n 2, 1) := by decide +kernel
theorem dX5_reasonOf_67 : decode cX5_reasonOf 67 = .ok (.iinc 4 1, 3) := by decide +kernel
theorem dX5_reasonOf_70 : decode cX5_reasonOf 70 = .ok (.goto (-54), 3) := by decide +kernel
theorem dX5_reasonOf_73 : decode cX5_reasonOf 73 = .ok (.lload_n 2, 1) := by decide +kernel
theorem dX5_reasonOf_74 : decode cX5_reasonOf 74 = .ok (.bipush 51, 2) := by decide +kernel
theorem dX5_reasonOf_76 : decode cX5_reasonOf 76 = .ok (.lshr, 1) := by decide +kernel
theorem dX5_reasonOf_77 : decode cX5_reasonOf 77 = .ok (.l2i, 1) := by decide +kernel
theorem dX5_reasonOf_78 : decode cX5_reasonOf 78 = .ok (.istore 4, 2) := by decide +kernel
theorem dX5_reasonOf_80 : decode cX5_reasonOf 80 = .ok (.lload_n 2, 1) := by decide +kernel
theorem dX5_reasonOf_81 : decode cX5_reasonOf 81 = .ok (.bipush 47, 2) := by decide +kernel
theorem dX5_reasonOf_83 : decode cX5_reasonOf 83 = .ok (.lshr, 1) := by decide +kernel
theorem dX5_reasonOf_84 : decode cX5_reasonOf 84 = .ok (.ldc2_w 200, 3) := by decide +kernel
theorem dX5_reasonOf_87 : decode cX5_reasonOf 87 = .ok (.land, 1) := by decide +kernel
theorem dX5_reasonOf_88 : decode cX5_reasonOf 88 = .ok (.l2i, 1) := by decide +kernel
theorem dX5_reasonOf_89 : decode cX5_reasonOf 89 = .ok (.istore 5, 2) := by decide +kernel
theorem dX5_reasonOf_91 : decode cX5_reasonOf 91 = .ok (.lload_n 2, 1) := by decide +kernel
theorem dX5_reasonOf_92 : decode cX5_reasonOf 92 = .ok (.bipush 30, 2) := by decide +kernel
theorem dX5_reasonOf_94 : decode cX5_reasonOf 94 = .ok (.lshr, 1) := by decide +kernel
theorem dX5_reasonOf_95 : decode cX5_reasonOf 95 = .ok (.ldc2_w 216, 3) := by decide +kernel
theorem dX5_reasonOf_98 : decode cX5_reasonOf 98 = .ok (.land, 1) := by decide +kernel
theorem dX5_reasonOf_99 : decode cX5_reasonOf 99 = .ok (.l2i, 1) := by decide +kernel
theorem dX5_reasonOf_100 : decode cX5_reasonOf 100 = .ok (.istore 6, 2) := by decide +kernel
theorem dX5_reasonOf_102 : decode cX5_reasonOf 102 = .ok (.lload_n 2, 1) := by decide +kernel
theorem dX5_reasonOf_103 : decode cX5_reasonOf 103 = .ok (.bipush 14, 2) := by decide +kernel
theorem dX5_reasonOf_105 : decode cX5_reasonOf 105 = .ok (.lshr, 1) := by decide +kernel
theorem dX5_reasonOf_106 : decode cX5_reasonOf 106 = .ok (.ldc2_w 143, 3) := by decide +kernel
theorem dX5_reasonOf_109 : decode cX5_reasonOf 109 = .ok (.land, 1) := by decide +kernel
theorem dX5_reasonOf_110 : decode cX5_reasonOf 110 = .ok (.l2i, 1) := by decide +kernel
theorem dX5_reasonOf_111 : decode cX5_reasonOf 111 = .ok (.istore 7, 2) := by decide +kernel
theorem dX5_reasonOf_113 : decode cX5_reasonOf 113 = .ok (.lload_n 2, 1) := by decide +kernel
theorem dX5_reasonOf_114 : decode cX5_reasonOf 114 = .ok (.ldc2_w 218, 3) := by decide +kernel
theorem dX5_reasonOf_117 : decode cX5_reasonOf 117 = .ok (.land, 1) := by decide +kernel
theorem dX5_reasonOf_118 : decode cX5_reasonOf 118 = .ok (.l2i, 1) := by decide +kernel
theorem dX5_reasonOf_119 : decode cX5_reasonOf 119 = .ok (.istore 8, 2) := by decide +kernel
theorem dX5_reasonOf_121 : decode cX5_reasonOf 121 = .ok (.aload_n 0, 1) := by decide +kernel
theorem dX5_reasonOf_122 : decode cX5_reasonOf 122 = .ok (.iload 4, 2) := by decide +kernel
theorem dX5_reasonOf_124 : decode cX5_reasonOf 124 = .ok (.invokevirtual 145, 3) := by decide +kernel
theorem dX5_reasonOf_127 : decode cX5_reasonOf 127 = .ok (.ifCond .eq 23, 3) := by decide +kernel
theorem dX5_reasonOf_130 : decode cX5_reasonOf 130 = .ok (.iload 5, 2) := by decide +kernel
theorem dX5_reasonOf_132 : decode cX5_reasonOf 132 = .ok (.bipush 9, 2) := by decide +kernel
theorem dX5_reasonOf_134 : decode cX5_reasonOf 134 = .ok (.if_icmp .gt 16, 3) := by decide +kernel
theorem dX5_reasonOf_137 : decode cX5_reasonOf 137 = .ok (.iload 6, 2) := by decide +kernel
theorem dX5_reasonOf_139 : decode cX5_reasonOf 139 = .ok (.i2l, 1) := by decide +kernel
theorem dX5_reasonOf_140 : decode cX5_reasonOf 140 = .ok (.lconst 1, 1) := by decide +kernel
theorem dX5_reasonOf_141 : decode cX5_reasonOf 141 = .ok (.ldc2_w 173, 3) := by decide +kernel
theorem dX5_reasonOf_144 : decode cX5_reasonOf 144 = .ok (.invokestatic 139, 3) := by decide +kernel
theorem dX5_reasonOf_147 : decode cX5_reasonOf 147 = .ok (.ifCond .ne 5, 3) := by decide +kernel
theorem dX5_reasonOf_150 : decode cX5_reasonOf 150 = .ok (.iconst 3, 1) := by decide +kernel
theorem dX5_reasonOf_151 : decode cX5_reasonOf 151 = .ok (.ireturn, 1) := by decide +kernel
theorem dX5_reasonOf_152 : decode cX5_reasonOf 152 = .ok (.aload_n 0, 1) := by decide +kernel
theorem dX5_reasonOf_153 : decode cX5_reasonOf 153 = .ok (.iload 4, 2) := by decide +kernel
theorem dX5_reasonOf_155 : decode cX5_reasonOf 155 = .ok (.lload_n 2, 1) := by decide +kernel
theorem dX5_reasonOf_156 : decode cX5_reasonOf 156 = .ok (.invokevirtual 188, 3) := by decide +kernel
theorem dX5_reasonOf_159 : decode cX5_reasonOf 159 = .ok (.iconst 0, 1) := by decide +kernel
theorem dX5_reasonOf_160 : decode cX5_reasonOf 160 = .ok (.istore 9, 2) := by decide +kernel
theorem dX5_reasonOf_162 : decode cX5_reasonOf 162 = .ok (.iload 9, 2) := by decide +kernel
theorem dX5_reasonOf_164 : decode cX5_reasonOf 164 = .ok (.iconst 5, 1) := by decide +kernel
theorem dX5_reasonOf_165 : decode cX5_reasonOf 165 = .ok (.if_icmp .ge 33, 3) := by decide +kernel
theorem dX5_reasonOf_168 : decode cX5_reasonOf 168 = .ok (.aload_n 0, 1) := by decide +kernel
theorem dX5_reasonOf_169 : decode cX5_reasonOf 169 = .ok (.iload 9, 2) := by decide +kernel
theorem dX5_reasonOf_171 : decode cX5_reasonOf 171 = .ok (.invokevirtual 194, 3) := by decide +kernel
theorem dX5_reasonOf_174 : decode cX5_reasonOf 174 = .ok (.aload_n 0, 1) := by decide +kernel
theorem dX5_reasonOf_175 : decode cX5_reasonOf 175 = .ok (.getfield 30, 3) := by decide +kernel
theorem dX5_reasonOf_178 : decode cX5_reasonOf 178 = .ok (.bipush 11, 2) := by decide +kernel
theorem dX5_reasonOf_180 : decode cX5_reasonOf 180 = .ok (.iload 9, 2) := by decide +kernel
theorem dX5_reasonOf_182 : decode cX5_reasonOf 182 = .ok (.iadd, 1) := by decide +kernel
theorem dX5_reasonOf_183 : decode cX5_reasonOf 183 = .ok (.iaload, 1) := by decide +kernel
theorem dX5_reasonOf_184 : decode cX5_reasonOf 184 = .ok (.invokestatic 211, 3) := by decide +kernel
theorem dX5_reasonOf_187 : decode cX5_reasonOf 187 = .ok (.if_icmp .eq 5, 3) := by decide +kernel
theorem dX5_reasonOf_190 : decode cX5_reasonOf 190 = .ok (.iconst 4, 1) := by decide +kernel
theorem dX5_reasonOf_191 : decode cX5_reasonOf 191 = .ok (.ireturn, 1) := by decide +kernel
theorem dX5_reasonOf_192 : decode cX5_reasonOf 192 = .ok (.iinc 9 1, 3) := by decide +kernel
theorem dX5_reasonOf_195 : decode cX5_reasonOf 195 = .ok (.goto (-33), 3) := by decide +kernel
theorem dX5_reasonOf_198 : decode cX5_reasonOf 198 = .ok (.iload_n 1, 1) := by decide +kernel
theorem dX5_reasonOf_199 : decode cX5_reasonOf 199 = .ok (.iload 7, 2) := by decide +kernel
theorem dX5_reasonOf_201 : decode cX5_reasonOf 201 = .ok (.if_icmp .lt 36, 3) := by decide +kernel
theorem dX5_reasonOf_204 : decode cX5_reasonOf 204 = .ok (.iload_n 1, 1) := by decide +kernel
theorem dX5_reasonOf_205 : decode cX5_reasonOf 205 = .ok (.iload 7, 2) := by decide +kernel
theorem dX5_reasonOf_207 : decode cX5_reasonOf 207 = .ok (.bipush 100, 2) := by decide +kernel
theorem dX5_reasonOf_209 : decode cX5_reasonOf 209 = .ok (.iadd, 1) := by decide +kernel
theorem dX5_reasonOf_210 : decode cX5_reasonOf 210 = .ok (.if_icmp .gt 27, 3) := by decide +kernel
theorem dX5_reasonOf_213 : decode cX5_reasonOf 213 = .ok (.iload_n 1, 1) := by decide +kernel
theorem dX5_reasonOf_214 : decode cX5_reasonOf 214 = .ok (.i2l, 1) := by decide +kernel
theorem dX5_reasonOf_215 : decode cX5_reasonOf 215 = .ok (.aload_n 0, 1) := by decide +kernel
theorem dX5_reasonOf_216 : decode cX5_reasonOf 216 = .ok (.getfield 7, 3) := by decide +kernel
theorem dX5_reasonOf_219 : decode cX5_reasonOf 219 = .ok (.iload 4, 2) := by decide +kernel
theorem dX5_reasonOf_221 : decode cX5_reasonOf 221 = .ok (.iaload, 1) := by decide +kernel
theorem dX5_reasonOf_222 : decode cX5_reasonOf 222 = .ok (.i2l, 1) := by decide +kernel
theorem dX5_reasonOf_223 : decode cX5_reasonOf 223 = .ok (.aload_n 0, 1) := by decide +kernel
theorem dX5_reasonOf_224 : decode cX5_reasonOf 224 = .ok (.getfield 13, 3) := by decide +kernel
theorem dX5_reasonOf_227 : decode cX5_reasonOf 227 = .ok (.iload 4, 2) := by decide +kernel
theorem dX5_reasonOf_229 : decode cX5_reasonOf 229 = .ok (.iaload, 1) := by decide +kernel
theorem dX5_reasonOf_230 : decode cX5_reasonOf 230 = .ok (.i2l, 1) := by decide +kernel
theorem dX5_reasonOf_231 : decode cX5_reasonOf 231 = .ok (.invokestatic 139, 3) := by decide +kernel
theorem dX5_reasonOf_234 : decode cX5_reasonOf 234 = .ok (.ifCond .ne 5, 3) := by decide +kernel
theorem dX5_reasonOf_237 : decode cX5_reasonOf 237 = .ok (.iconst 5, 1) := by decide +kernel
theorem dX5_reasonOf_238 : decode cX5_reasonOf 238 = .ok (.ireturn, 1) := by decide +kernel
theorem dX5_reasonOf_239 : decode cX5_reasonOf 239 = .ok (.aload_n 0, 1) := by decide +kernel
theorem dX5_reasonOf_240 : decode cX5_reasonOf 240 = .ok (.getfield 33, 3) := by decide +kernel
theorem dX5_reasonOf_243 : decode cX5_reasonOf 243 = .ok (.iload 8, 2) := by decide +kernel
theorem dX5_reasonOf_245 : decode cX5_reasonOf 245 = .ok (.baload, 1) := by decide +kernel
theorem dX5_reasonOf_246 : decode cX5_reasonOf 246 = .ok (.iconst 2, 1) := by decide +kernel
theorem dX5_reasonOf_247 : decode cX5_reasonOf 247 = .ok (.if_icmp .ne 6, 3) := by decide +kernel
theorem dX5_reasonOf_250 : decode cX5_reasonOf 250 = .ok (.bipush 7, 2) := by decide +kernel
theorem dX5_reasonOf_252 : decode cX5_reasonOf 252 = .ok (.ireturn, 1) := by decide +kernel
theorem dX5_reasonOf_253 : decode cX5_reasonOf 253 = .ok (.aload_n 0, 1) := by decide +kernel
theorem dX5_reasonOf_254 : decode cX5_reasonOf 254 = .ok (.iload 8, 2) := by decide +kernel
theorem dX5_reasonOf_256 : decode cX5_reasonOf 256 = .ok (.putfield 42, 3) := by decide +kernel
theorem dX5_reasonOf_259 : decode cX5_reasonOf 259 = .ok (.aload_n 0, 1) := by decide +kernel
theorem dX5_reasonOf_260 : decode cX5_reasonOf 260 = .ok (.getfield 33, 3) := by decide +kernel
theorem dX5_reasonOf_263 : decode cX5_reasonOf 263 = .ok (.iload 8, 2) := by decide +kernel
theorem dX5_reasonOf_265 : decode cX5_reasonOf 265 = .ok (.baload, 1) := by decide +kernel
theorem dX5_reasonOf_266 : decode cX5_reasonOf 266 = .ok (.iconst 1, 1) := by decide +kernel
theorem dX5_reasonOf_267 : decode cX5_reasonOf 267 = .ok (.if_icmp .ne 6, 3) := by decide +kernel
theorem dX5_reasonOf_270 : decode cX5_reasonOf 270 = .ok (.bipush 6, 2) := by decide +kernel
theorem dX5_reasonOf_272 : decode cX5_reasonOf 272 = .ok (.ireturn, 1) := by decide +kernel
theorem dX5_reasonOf_273 : decode cX5_reasonOf 273 = .ok (.aload_n 0, 1) := by decide +kernel
theorem dX5_reasonOf_274 : decode cX5_reasonOf 274 = .ok (.getfield 33, 3) := by decide +kernel
theorem dX5_reasonOf_277 : decode cX5_reasonOf 277 = .ok (.iload 8, 2) := by decide +kernel
theorem dX5_reasonOf_279 : decode cX5_reasonOf 279 = .ok (.iconst 1, 1) := by decide +kernel
theorem dX5_reasonOf_280 : decode cX5_reasonOf 280 = .ok (.bastore, 1) := by decide +kernel
theorem dX5_reasonOf_281 : decode cX5_reasonOf 281 = .ok (.aload_n 0, 1) := by decide +kernel
theorem dX5_reasonOf_282 : decode cX5_reasonOf 282 = .ok (.getfield 36, 3) := by decide +kernel
theorem dX5_reasonOf_285 : decode cX5_reasonOf 285 = .ok (.iload 8, 2) := by decide +kernel
theorem dX5_reasonOf_287 : decode cX5_reasonOf 287 = .ok (.iload_n 1, 1) := by decide +kernel
theorem dX5_reasonOf_288 : decode cX5_reasonOf 288 = .ok (.iastore, 1) := by decide +kernel
theorem dX5_reasonOf_289 : decode cX5_reasonOf 289 = .ok (.aload_n 0, 1) := by decide +kernel
theorem dX5_reasonOf_290 : decode cX5_reasonOf 290 = .ok (.getfield 39, 3) := by decide +kernel
theorem dX5_reasonOf_293 : decode cX5_reasonOf 293 = .ok (.iload 8, 2) := by decide +kernel
theorem dX5_reasonOf_295 : decode cX5_reasonOf 295 = .ok (.aload_n 0, 1) := by decide +kernel
theorem dX5_reasonOf_296 : decode cX5_reasonOf 296 = .ok (.getfield 205, 3) := by decide +kernel
theorem dX5_reasonOf_299 : decode cX5_reasonOf 299 = .ok (.iastore, 1) := by decide +kernel
theorem dX5_reasonOf_300 : decode cX5_reasonOf 300 = .ok (.iconst 0, 1) := by decide +kernel
theorem dX5_reasonOf_301 : decode cX5_reasonOf 301 = .ok (.ireturn, 1) := by decide +kernel
set_option maxRecDepth 20000 in
theorem ggX5_first_X5_within : GoodIn wsX5_first wsX5_within := goodIn_r _ [9] (by decide +kernel) (by decide +kernel)
set_option maxRecDepth 20000 in
theorem gX5_first_X5_within : GoodIn wsX5_first (va_wsS RX5 139 yX5_within wsX5_within) := goodIn_app (goodIn_of _ (by decide +kernel)) ggX5_first_X5_within
theorem dX5_first_0 : decode cX5_first 0 = .ok (.aload_n 0, 1) := by decide +kernel
theorem dX5_first_1 : decode cX5_first 1 = .ok (.iconst 0, 1) := by decide +kernel
theorem dX5_first_2 : decode cX5_first 2 = .ok (.putfield 136, 3) := by decide +kernel
theorem dX5_first_5 : decode cX5_first 5 = .ok (.iload_n 1, 1) := by decide +kernel
theorem dX5_first_6 : decode cX5_first 6 = .ok (.i2l, 1) := by decide +kernel
theorem dX5_first_7 : decode cX5_first 7 = .ok (.lconst 0, 1) := by decide +kernel
theorem dX5_first_8 : decode cX5_first 8 = .ok (.ldc2_w 220, 3) := by decide +kernel
theorem dX5_first_11 : decode cX5_first 11 = .ok (.invokestatic 139, 3) := by decide +kernel
theorem dX5_first_14 : decode cX5_first 14 = .ok (.ifCond .ne 6, 3) := by decide +kernel
theorem dX5_first_17 : decode cX5_first 17 = .ok (.bipush (-22), 2) := by decide +kernel
theorem dX5_first_19 : decode cX5_first 19 = .ok (.ireturn, 1) := by decide +kernel
theorem dX5_first_20 : decode cX5_first 20 = .ok (.aload_n 0, 1) := by decide +kernel
theorem dX5_first_21 : decode cX5_first 21 = .ok (.getfield 42, 3) := by decide +kernel
theorem dX5_first_24 : decode cX5_first 24 = .ok (.ifCond .ge 7, 3) := by decide +kernel
theorem dX5_first_27 : decode cX5_first 27 = .ok (.iconst (-1), 1) := by decide +kernel
theorem dX5_first_28 : decode cX5_first 28 = .ok (.goto 40, 3) := by decide +kernel
theorem dX5_first_31 : decode cX5_first 31 = .ok (.iload_n 1, 1) := by decide +kernel
theorem dX5_first_32 : decode cX5_first 32 = .ok (.ifCond .ne 10, 3) := by decide +kernel
theorem dX5_first_35 : decode cX5_first 35 = .ok (.aload_n 0, 1) := by decide +kernel
theorem dX5_first_36 : decode cX5_first 36 = .ok (.getfield 42, 3) := by decide +kernel
theorem dX5_first_39 : decode cX5_first 39 = .ok (.goto 29, 3) := by decide +kernel
theorem dX5_first_42 : decode cX5_first 42 = .ok (.iload_n 1, 1) := by decide +kernel
theorem dX5_first_43 : decode cX5_first 43 = .ok (.iconst 1, 1) := by decide +kernel
theorem dX5_first_44 : decode cX5_first 44 = .ok (.if_icmp .ne 15, 3) := by decide +kernel
theorem dX5_first_47 : decode cX5_first 47 = .ok (.aload_n 0, 1) := by decide +kernel
theorem dX5_first_48 : decode cX5_first 48 = .ok (.getfield 36, 3) := by decide +kernel
theorem dX5_first_51 : decode cX5_first 51 = .ok (.aload_n 0, 1) := by decide +kernel
theorem dX5_first_52 : decode cX5_first 52 = .ok (.getfield 42, 3) := by decide +kernel
theorem dX5_first_55 : decode cX5_first 55 = .ok (.iaload, 1) := by decide +kernel
theorem dX5_first_56 : decode cX5_first 56 = .ok (.goto 12, 3) := by decide +kernel
theorem dX5_first_59 : decode cX5_first 59 = .ok (.aload_n 0, 1) := by decide +kernel
theorem dX5_first_60 : decode cX5_first 60 = .ok (.getfield 39, 3) := by decide +kernel
theorem dX5_first_63 : decode cX5_first 63 = .ok (.aload_n 0, 1) := by decide +kernel
theorem dX5_first_64 : decode cX5_first 64 = .ok (.getfield 42, 3) := by decide +kernel
theorem dX5_first_67 : decode cX5_first 67 = .ok (.iaload, 1) := by decide +kernel
theorem dX5_first_68 : decode cX5_first 68 = .ok (.ireturn, 1) := by decide +kernel
