theorem dX5_make_42 : decode cX5_make 42 = .ok (.lconst 0, 1) := by decide +kernel
theorem dX5_make_43 : decode cX5_make 43 = .ok (.ldc2_w 143, 3) := by decide +kernel
theorem dX5_make_46 : decode cX5_make 46 = .ok (.invokestatic 139, 3) := by decide +kernel
theorem dX5_make_49 : decode cX5_make 49 = .ok (.ifCond .ne 6, 3) := by decide +kernel
theorem dX5_make_52 : decode cX5_make 52 = .ok (.bipush (-22), 2) := by decide +kernel
theorem dX5_make_54 : decode cX5_make 54 = .ok (.ireturn, 1) := by decide +kernel
theorem dX5_make_55 : decode cX5_make 55 = .ok (.lload 4, 2) := by decide +kernel
theorem dX5_make_57 : decode cX5_make 57 = .ok (.aload_n 0, 1) := by decide +kernel
theorem dX5_make_58 : decode cX5_make 58 = .ok (.getfield 7, 3) := by decide +kernel
theorem dX5_make_61 : decode cX5_make 61 = .ok (.iload_n 1, 1) := by decide +kernel
theorem dX5_make_62 : decode cX5_make 62 = .ok (.iaload, 1) := by decide +kernel
theorem dX5_make_63 : decode cX5_make 63 = .ok (.i2l, 1) := by decide +kernel
theorem dX5_make_64 : decode cX5_make 64 = .ok (.aload_n 0, 1) := by decide +kernel
theorem dX5_make_65 : decode cX5_make 65 = .ok (.getfield 13, 3) := by decide +kernel
theorem dX5_make_68 : decode cX5_make 68 = .ok (.iload_n 1, 1) := by decide +kernel
theorem dX5_make_69 : decode cX5_make 69 = .ok (.iaload, 1) := by decide +kernel
theorem dX5_make_70 : decode cX5_make 70 = .ok (.i2l, 1) := by decide +kernel
theorem dX5_make_71 : decode cX5_make 71 = .ok (.invokestatic 139, 3) := by decide +kernel
theorem dX5_make_74 : decode cX5_make 74 = .ok (.ifCond .ne 6, 3) := by decide +kernel
theorem dX5_make_77 : decode cX5_make 77 = .ok (.bipush (-23), 2) := by decide +kernel
theorem dX5_make_79 : decode cX5_make 79 = .ok (.ireturn, 1) := by decide +kernel
theorem dX5_make_80 : decode cX5_make 80 = .ok (.aload_n 0, 1) := by decide +kernel
theorem dX5_make_81 : decode cX5_make 81 = .ok (.getfield 177, 3) := by decide +kernel
theorem dX5_make_84 : decode cX5_make 84 = .ok (.sipush 16384, 3) := by decide +kernel
theorem dX5_make_87 : decode cX5_make 87 = .ok (.if_icmp .ne 6, 3) := by decide +kernel
theorem dX5_make_90 : decode cX5_make 90 = .ok (.bipush (-24), 2) := by decide +kernel
theorem dX5_make_92 : decode cX5_make 92 = .ok (.ireturn, 1) := by decide +kernel
theorem dX5_make_93 : decode cX5_make 93 = .ok (.iload_n 1, 1) := by decide +kernel
theorem dX5_make_94 : decode cX5_make 94 = .ok (.i2l, 1) := by decide +kernel
theorem dX5_make_95 : decode cX5_make 95 = .ok (.ldc2_w 180, 3) := by decide +kernel
theorem dX5_make_98 : decode cX5_make 98 = .ok (.lmul, 1) := by decide +kernel
theorem dX5_make_99 : decode cX5_make 99 = .ok (.iload_n 3, 1) := by decide +kernel
theorem dX5_make_100 : decode cX5_make 100 = .ok (.i2l, 1) := by decide +kernel
theorem dX5_make_101 : decode cX5_make 101 = .ok (.ladd, 1) := by decide +kernel
theorem dX5_make_102 : decode cX5_make 102 = .ok (.ldc2_w 182, 3) := by decide +kernel
theorem dX5_make_105 : decode cX5_make 105 = .ok (.lmul, 1) := by decide +kernel
theorem dX5_make_106 : decode cX5_make 106 = .ok (.iload_n 2, 1) := by decide +kernel
theorem dX5_make_107 : decode cX5_make 107 = .ok (.i2l, 1) := by decide +kernel
theorem dX5_make_108 : decode cX5_make 108 = .ok (.ladd, 1) := by decide +kernel
theorem dX5_make_109 : decode cX5_make 109 = .ok (.ldc2_w 184, 3) := by decide +kernel
theorem dX5_make_112 : decode cX5_make 112 = .ok (.lmul, 1) := by decide +kernel
theorem dX5_make_113 : decode cX5_make 113 = .ok (.lload 4, 2) := by decide +kernel
theorem dX5_make_115 : decode cX5_make 115 = .ok (.ladd, 1) := by decide +kernel
theorem dX5_make_116 : decode cX5_make 116 = .ok (.ldc2_w 186, 3) := by decide +kernel
theorem dX5_make_119 : decode cX5_make 119 = .ok (.lmul, 1) := by decide +kernel
theorem dX5_make_120 : decode cX5_make 120 = .ok (.aload_n 0, 1) := by decide +kernel
theorem dX5_make_121 : decode cX5_make 121 = .ok (.getfield 177, 3) := by decide +kernel
theorem dX5_make_124 : decode cX5_make 124 = .ok (.i2l, 1) := by decide +kernel
theorem dX5_make_125 : decode cX5_make 125 = .ok (.ladd, 1) := by decide +kernel
theorem dX5_make_126 : decode cX5_make 126 = .ok (.lstore 6, 2) := by decide +kernel
theorem dX5_make_128 : decode cX5_make 128 = .ok (.aload_n 0, 1) := by decide +kernel
theorem dX5_make_129 : decode cX5_make 129 = .ok (.iload_n 1, 1) := by decide +kernel
theorem dX5_make_130 : decode cX5_make 130 = .ok (.lload 6, 2) := by decide +kernel
theorem dX5_make_132 : decode cX5_make 132 = .ok (.invokevirtual 188, 3) := by decide +kernel
theorem dX5_make_135 : decode cX5_make 135 = .ok (.iconst 0, 1) := by decide +kernel
theorem dX5_make_136 : decode cX5_make 136 = .ok (.istore 8, 2) := by decide +kernel
theorem dX5_make_138 : decode cX5_make 138 = .ok (.iload 8, 2) := by decide +kernel
theorem dX5_make_140 : decode cX5_make 140 = .ok (.bipush 16, 2) := by decide +kernel
theorem dX5_make_142 : decode cX5_make 142 = .ok (.if_icmp .ge 53, 3) := by decide +kernel
theorem dX5_make_145 : decode cX5_make 145 = .ok (.aload_n 0, 1) := by decide +kernel
theorem dX5_make_146 : decode cX5_make 146 = .ok (.getfield 27, 3) := by decide +kernel
theorem dX5_make_149 : decode cX5_make 149 = .ok (.iload 8, 2) := by decide +kernel
theorem dX5_make_151 : decode cX5_make 151 = .ok (.iload 8, 2) := by decide +kernel
theorem dX5_make_153 : decode cX5_make 153 = .ok (.bipush 11, 2) := by decide +kernel
theorem dX5_make_155 : decode cX5_make 155 = .ok (.if_icmp .ge 21, 3) := by decide +kernel
theorem dX5_make_158 : decode cX5_make 158 = .ok (.lload 6, 2) := by decide +kernel
theorem dX5_make_160 : decode cX5_make 160 = .ok (.bipush 50, 2) := by decide +kernel
theorem dX5_make_162 : decode cX5_make 162 = .ok (.iconst 5, 1) := by decide +kernel
theorem dX5_make_163 : decode cX5_make 163 = .ok (.iload 8, 2) := by decide +kernel
theorem dX5_make_165 : decode cX5_make 165 = .ok (.imul, 1) := by decide +kernel
theorem dX5_make_166 : decode cX5_make 166 = .ok (.isub, 1) := by decide +kernel
theorem dX5_make_167 : decode cX5_make 167 = .ok (.lshr, 1) := by decide +kernel
theorem dX5_make_168 : decode cX5_make 168 = .ok (.ldc2_w 192, 3) := by decide +kernel
theorem dX5_make_171 : decode cX5_make 171 = .ok (.land, 1) := by decide +kernel
theorem dX5_make_172 : decode cX5_make 172 = .ok (.l2i, 1) := by decide +kernel
theorem dX5_make_173 : decode cX5_make 173 = .ok (.goto 12, 3) := by decide +kernel
theorem dX5_make_176 : decode cX5_make 176 = .ok (.aload_n 0, 1) := by decide +kernel
theorem dX5_make_177 : decode cX5_make 177 = .ok (.iload 8, 2) := by decide +kernel
theorem dX5_make_179 : decode cX5_make 179 = .ok (.bipush 11, 2) := by decide +kernel
theorem dX5_make_181 : decode cX5_make 181 = .ok (.isub, 1) := by decide +kernel
theorem dX5_make_182 : decode cX5_make 182 = .ok (.invokevirtual 194, 3) := by decide +kernel
theorem dX5_make_185 : decode cX5_make 185 = .ok (.invokestatic 169, 3) := by decide +kernel
theorem dX5_make_188 : decode cX5_make 188 = .ok (.iastore, 1) := by decide +kernel
theorem dX5_make_189 : decode cX5_make 189 = .ok (.iinc 8 1, 3) := by decide +kernel
theorem dX5_make_192 : decode cX5_make 192 = .ok (.goto (-54), 3) := by decide +kernel
theorem dX5_make_195 : decode cX5_make 195 = .ok (.aload_n 0, 1) := by decide +kernel
theorem dX5_make_196 : decode cX5_make 196 = .ok (.iconst 1, 1) := by decide +kernel
theorem dX5_make_197 : decode cX5_make 197 = .ok (.putfield 197, 3) := by decide +kernel
theorem dX5_make_200 : decode cX5_make 200 = .ok (.aload_n 0, 1) := by decide +kernel
theorem dX5_make_201 : decode cX5_make 201 = .ok (.getfield 19, 3) := by decide +kernel
theorem dX5_make_204 : decode cX5_make 204 = .ok (.iload_n 1, 1) := by decide +kernel
theorem dX5_make_205 : decode cX5_make 205 = .ok (.iconst 1, 1) := by decide +kernel
theorem dX5_make_206 : decode cX5_make 206 = .ok (.bastore, 1) := by decide +kernel
theorem dX5_make_207 : decode cX5_make 207 = .ok (.aload_n 0, 1) := by decide +kernel
theorem dX5_make_208 : decode cX5_make 208 = .ok (.dup, 1) := by decide +kernel
theorem dX5_make_209 : decode cX5_make 209 = .ok (.getfield 177, 3) := by decide +kernel
theorem dX5_make_212 : decode cX5_make 212 = .ok (.iconst 1, 1) := by decide +kernel
theorem dX5_make_213 : decode cX5_make 213 = .ok (.iadd, 1) := by decide +kernel
theorem dX5_make_214 : decode cX5_make 214 = .ok (.putfield 177, 3) := by decide +kernel
theorem dX5_make_217 : decode cX5_make 217 = .ok (.bipush 16, 2) := by decide +kernel
theorem dX5_make_219 : decode cX5_make 219 = .ok (.ireturn, 1) := by decide +kernel
set_option maxRecDepth 20000 in
theorem ggX5_letter_X5_within : GoodIn wsX5_letter wsX5_within := goodIn_r _ [8] (by decide +kernel) (by decide +kernel)
set_option maxRecDepth 20000 in
theorem gX5_letter_X5_within : GoodIn wsX5_letter (va_wsS RX5 139 yX5_within wsX5_within) := goodIn_app (goodIn_of _ (by decide +kernel)) ggX5_letter_X5_within
theorem dX5_letter_0 : decode cX5_letter 0 = .ok (.aload_n 0, 1) := by decide +kernel
theorem dX5_letter_1 : decode cX5_letter 1 = .ok (.iconst 0, 1) := by decide +kernel
theorem dX5_letter_2 : decode cX5_letter 2 = .ok (.putfield 136, 3) := by decide +kernel
theorem dX5_letter_5 : decode cX5_letter 5 = .ok (.aload_n 0, 1) := by decide +kernel
theorem dX5_letter_6 : decode cX5_letter 6 = .ok (.getfield 197, 3) := by decide +kernel
theorem dX5_letter_9 : decode cX5_letter 9 = .ok (.ifCond .eq 24, 3) := by decide +kernel
theorem dX5_letter_12 : decode cX5_letter 12 = .ok (.iload_n 1, 1) := by decide +kernel
theorem dX5_letter_13 : decode cX5_letter 13 = .ok (.i2l, 1) := by decide +kernel
theorem dX5_letter_14 : decode cX5_letter 14 = .ok (.lconst 0, 1) := by decide +kernel
theorem dX5_letter_15 : decode cX5_letter 15 = .ok (.ldc2_w 200, 3) := by decide +kernel
theorem dX5_letter_18 : decode cX5_letter 18 = .ok (.invokestatic 139, 3) := by decide +kernel
theorem dX5_letter_21 : decode cX5_letter 21 = .ok (.ifCond .eq 12, 3) := by decide +kernel
theorem dX5_letter_24 : decode cX5_letter 24 = .ok (.aload_n 0, 1) := by decide +kernel
theorem dX5_letter_25 : decode cX5_letter 25 = .ok (.getfield 27, 3) := by decide +kernel
theorem dX5_letter_28 : decode cX5_letter 28 = .ok (.iload_n 1, 1) := by decide +kernel
theorem dX5_letter_29 : decode cX5_letter 29 = .ok (.iaload, 1) := by decide +kernel
theorem dX5_letter_30 : decode cX5_letter 30 = .ok (.goto 4, 3) := by decide +kernel
theorem dX5_letter_33 : decode cX5_letter 33 = .ok (.iconst 0, 1) := by decide +kernel
theorem dX5_letter_34 : decode cX5_letter 34 = .ok (.ireturn, 1) := by decide +kernel
theorem dX5_type_0 : decode cX5_type 0 = .ok (.aload_n 0, 1) := by decide +kernel
theorem dX5_type_1 : decode cX5_type 1 = .ok (.iconst 0, 1) := by decide +kernel
theorem dX5_type_2 : decode cX5_type 2 = .ok (.putfield 136, 3) := by decide +kernel
theorem dX5_type_5 : decode cX5_type 5 = .ok (.aload_n 0, 1) := by decide +kernel
theorem dX5_type_6 : decode cX5_type 6 = .ok (.getfield 202, 3) := by decide +kernel
theorem dX5_type_9 : decode cX5_type 9 = .ok (.bipush 40, 2) := by decide +kernel
theorem dX5_type_11 : decode cX5_type 11 = .ok (.if_icmp .ge 23, 3) := by decide +kernel
theorem dX5_type_14 : decode cX5_type 14 = .ok (.aload_n 0, 1) := by decide +kernel
theorem dX5_type_15 : decode cX5_type 15 = .ok (.getfield 30, 3) := by decide +kernel
theorem dX5_type_18 : decode cX5_type 18 = .ok (.aload_n 0, 1) := by decide +kernel
theorem dX5_type_19 : decode cX5_type 19 = .ok (.getfield 202, 3) := by decide +kernel
theorem dX5_type_22 : decode cX5_type 22 = .ok (.iload_n 1, 1) := by decide +kernel
theorem dX5_type_23 : decode cX5_type 23 = .ok (.iastore, 1) := by decide +kernel
theorem dX5_type_24 : decode cX5_type 24 = .ok (.aload_n 0, 1) := by decide +kernel
theorem dX5_type_25 : decode cX5_type 25 = .ok (.dup, 1) := by decide +kernel
theorem dX5_type_26 : decode cX5_type 26 = .ok (.getfield 202, 3) := by decide +kernel
theorem dX5_type_29 : decode cX5_type 29 = .ok (.iconst 1, 1) := by decide +kernel
theorem dX5_type_30 : decode cX5_type 30 = .ok (.iadd, 1) := by decide +kernel
theorem dX5_type_31 : decode cX5_type 31 = .ok (.putfield 202, 3) := by decide +kernel
theorem dX5_type_34 : decode cX5_type 34 = .ok (.return_, 1) := by decide +kernel
set_option maxRecDepth 20000 in
theorem ggX5_check_X5_within : GoodIn wsX5_check wsX5_within := goodIn_r _ [8] (by decide +kernel) (by decide +kernel)
set_option maxRecDepth 20000 in
theorem gX5_check_X5_within : GoodIn wsX5_check (va_wsS RX5 139 yX5_within wsX5_within) := goodIn_app (goodIn_of _ (by decide +kernel)) ggX5_check_X5_within
set_option maxRecDepth 20000 in
theorem ggX5_check_X5_reasonOf : GoodIn wsX5_check wsX5_reasonOf := goodIn_ca (goodIn_r _ [12, 4, 13, 14, 15, 16, 2, 17, 18, 19, 20, 21, 22, 23, 24, 3, 25, 26, 7, 27, 28, 29, 30, 31, 32, 33, 34, 35, 36, 37, 38, 39, 40, 41, 42, 43, 44, 45, 46, 47, 48, 49, 50, 51, 52, 53, 54, 55, 56, 57, 58, 59, 60, 61, 62, 63, 64, 65, 66, 67, 68, 69, 70, 71, 72, 73, 74, 75, 76, 5, 6, 8, 77, 78, 79, 80, 81, 82, 83, 84, 85, 86, 87, 88, 89, 90, 91, 92, 93, 94, 95, 96, 97, 98, 99, 100, 101, 102, 103, 104, 105, 106, 107, 108, 109, 110, 111, 112, 113, 114, 115, 116, 117, 118, 119, 120, 121, 122, 123, 124] rfl (by decide +kernel)) (goodIn_sub (fun _ h => List.mem_cons_of_mem _ (List.mem_append_right _ h)) (by decide +kernel))
set_option maxRecDepth 20000 in
theorem gX5_check_X5_reasonOf : GoodIn wsX5_check (wsV RX5 208 RX5 yX5_reasonOf wsX5_reasonOf) := goodIn_app (goodIn_of _ (by decide +kernel)) ggX5_check_X5_reasonOf
theorem dX5_check_0 : decode cX5_check 0 = .ok (.aload_n 0, 1) := by decide +kernel
theorem dX5_check_1 : decode cX5_check 1 = .ok (.iconst 0, 1) := by decide +kernel
theorem dX5_check_2 : decode cX5_check 2 = .ok (.putfield 136, 3) := by decide +kernel
theorem dX5_check_5 : decode cX5_check 5 = .ok (.lload_n 1, 1) := by decide +kernel
theorem dX5_check_6 : decode cX5_check 6 = .ok (.lconst 0, 1) := by decide +kernel
theorem dX5_check_7 : decode cX5_check 7 = .ok (.ldc2_w 143, 3) := by decide +kernel
theorem dX5_check_10 : decode cX5_check 10 = .ok (.invokestatic 139, 3) := by decide +kernel
theorem dX5_check_13 : decode cX5_check 13 = .ok (.ifCond .ne 6, 3) := by decide +kernel
