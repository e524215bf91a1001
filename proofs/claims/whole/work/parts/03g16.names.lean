theorem dX5_check_16 : decode cX5_check 16 = .ok (.bipush (-22), 2) := by decide +kernel
theorem dX5_check_18 : decode cX5_check 18 = .ok (.ireturn, 1) := by decide +kernel
theorem dX5_check_19 : decode cX5_check 19 = .ok (.aload_n 0, 1) := by decide +kernel
theorem dX5_check_20 : decode cX5_check 20 = .ok (.dup, 1) := by decide +kernel
theorem dX5_check_21 : decode cX5_check 21 = .ok (.getfield 205, 3) := by decide +kernel
theorem dX5_check_24 : decode cX5_check 24 = .ok (.iconst 1, 1) := by decide +kernel
theorem dX5_check_25 : decode cX5_check 25 = .ok (.iadd, 1) := by decide +kernel
theorem dX5_check_26 : decode cX5_check 26 = .ok (.putfield 205, 3) := by decide +kernel
theorem dX5_check_29 : decode cX5_check 29 = .ok (.aload_n 0, 1) := by decide +kernel
theorem dX5_check_30 : decode cX5_check 30 = .ok (.lload_n 1, 1) := by decide +kernel
theorem dX5_check_31 : decode cX5_check 31 = .ok (.l2i, 1) := by decide +kernel
theorem dX5_check_32 : decode cX5_check 32 = .ok (.invokevirtual 208, 3) := by decide +kernel
theorem dX5_check_35 : decode cX5_check 35 = .ok (.istore_n 3, 1) := by decide +kernel
theorem dX5_check_36 : decode cX5_check 36 = .ok (.aload_n 0, 1) := by decide +kernel
theorem dX5_check_37 : decode cX5_check 37 = .ok (.iconst 0, 1) := by decide +kernel
theorem dX5_check_38 : decode cX5_check 38 = .ok (.putfield 202, 3) := by decide +kernel
theorem dX5_check_41 : decode cX5_check 41 = .ok (.iload_n 3, 1) := by decide +kernel
theorem dX5_check_42 : decode cX5_check 42 = .ok (.ifCond .ne 7, 3) := by decide +kernel
theorem dX5_check_45 : decode cX5_check 45 = .ok (.iconst 1, 1) := by decide +kernel
theorem dX5_check_46 : decode cX5_check 46 = .ok (.goto 6, 3) := by decide +kernel
theorem dX5_check_49 : decode cX5_check 49 = .ok (.iconst (-1), 1) := by decide +kernel
theorem dX5_check_50 : decode cX5_check 50 = .ok (.iload_n 3, 1) := by decide +kernel
theorem dX5_check_51 : decode cX5_check 51 = .ok (.isub, 1) := by decide +kernel
theorem dX5_check_52 : decode cX5_check 52 = .ok (.ireturn, 1) := by decide +kernel
set_option maxRecDepth 20000 in
theorem ggX5_reasonOf_X5_valueOf : GoodIn wsX5_reasonOf wsX5_valueOf := goodIn_r _ [19, 20, 21, 18, 22, 23, 24, 25, 26, 27, 28, 29, 30, 31, 32, 33, 34, 35, 36, 37, 38, 39, 40, 41, 42, 43, 44, 45, 46, 47, 48, 49, 50, 51, 52, 53, 54, 55, 56, 57, 58, 59, 60, 61, 62, 63, 118, 119] rfl (by decide +kernel)
set_option maxRecDepth 20000 in
theorem gX5_reasonOf_X5_valueOf : GoodIn wsX5_reasonOf (va_wsS RX5 211 yX5_valueOf wsX5_valueOf) := goodIn_app (goodIn_of _ (by decide +kernel)) ggX5_reasonOf_X5_valueOf
set_option maxRecDepth 20000 in
theorem ggX5_reasonOf_X5_isKey : GoodIn wsX5_reasonOf wsX5_isKey := goodIn_r _ [67, 68, 69, 70, 18, 71, 95, 96, 97, 98, 99, 100, 101, 102, 103, 104, 105, 106, 107, 108, 109, 110, 111, 112, 113, 114, 115, 116, 117] (by decide +kernel) (by decide +kernel)
set_option maxRecDepth 20000 in
theorem gX5_reasonOf_X5_isKey : GoodIn wsX5_reasonOf (wsV RX5 145 RX5 yX5_isKey wsX5_isKey) := goodIn_app (goodIn_of _ (by decide +kernel)) ggX5_reasonOf_X5_isKey
set_option maxRecDepth 20000 in
theorem ggX5_reasonOf_X5_within : GoodIn wsX5_reasonOf wsX5_within := goodIn_r _ [71] (by decide +kernel) (by decide +kernel)
set_option maxRecDepth 20000 in
theorem gX5_reasonOf_X5_within : GoodIn wsX5_reasonOf (va_wsS RX5 139 yX5_within wsX5_within) := goodIn_app (goodIn_of _ (by decide +kernel)) ggX5_reasonOf_X5_within
set_option maxRecDepth 20000 in
theorem ggX5_reasonOf_X5_reckon : GoodIn wsX5_reasonOf wsX5_reckon := goodIn_ca (goodIn_r _ [75, 76, 77, 78, 79, 80, 81, 82, 83, 84, 18, 85, 86, 87, 88, 89, 90, 95, 96, 97, 98, 99, 100, 101, 102, 103, 104, 105, 106, 107, 108, 109, 110, 111, 112, 113, 114, 115, 116, 117] (by decide +kernel) (by decide +kernel)) (goodIn_sub (fun _ h => List.mem_cons_of_mem _ (List.mem_append_right _ h)) (by decide +kernel))
set_option maxRecDepth 20000 in
theorem gX5_reasonOf_X5_reckon : GoodIn wsX5_reasonOf (wsV RX5 188 RX5 yX5_reckon wsX5_reckon) := goodIn_app (goodIn_of _ (by decide +kernel)) ggX5_reasonOf_X5_reckon
set_option maxRecDepth 20000 in
theorem ggX5_reasonOf_X5_five : GoodIn wsX5_reasonOf wsX5_five := goodIn_ca (goodIn_r _ [94, 80, 95, 96, 97, 98, 99, 100, 101, 102, 103, 104, 105, 106, 107, 108, 109, 110, 111, 112, 113, 114, 115, 116, 117] (by decide +kernel) (by decide +kernel)) (goodIn_sub (fun _ h => List.mem_cons_of_mem _ (List.mem_append_right _ h)) (by decide +kernel))
set_option maxRecDepth 20000 in
theorem gX5_reasonOf_X5_five : GoodIn wsX5_reasonOf (wsV RX5 194 RX5 yX5_five wsX5_five) := goodIn_app (goodIn_of _ (by decide +kernel)) ggX5_reasonOf_X5_five
theorem dX5_reasonOf_0 : decode cX5_reasonOf 0 = .ok (.aload_n 0, 1) := by decide +kernel
theorem dX5_reasonOf_1 : decode cX5_reasonOf 1 = .ok (.getfield 202, 3) := by decide +kernel
theorem dX5_reasonOf_4 : decode cX5_reasonOf 4 = .ok (.bipush 16, 2) := by decide +kernel
theorem dX5_reasonOf_6 : decode cX5_reasonOf 6 = .ok (.if_icmp .eq 5, 3) := by decide +kernel
theorem dX5_reasonOf_9 : decode cX5_reasonOf 9 = .ok (.iconst 1, 1) := by decide +kernel
theorem dX5_reasonOf_10 : decode cX5_reasonOf 10 = .ok (.ireturn, 1) := by decide +kernel
theorem dX5_reasonOf_11 : decode cX5_reasonOf 11 = .ok (.lconst 0, 1) := by decide +kernel
theorem dX5_reasonOf_12 : decode cX5_reasonOf 12 = .ok (.lstore_n 2, 1) := by decide +kernel
theorem dX5_reasonOf_13 : decode cX5_reasonOf 13 = .ok (.iconst 0, 1) := by decide +kernel
theorem dX5_reasonOf_14 : decode cX5_reasonOf 14 = .ok (.istore 4, 2) := by decide +kernel
theorem dX5_reasonOf_16 : decode cX5_reasonOf 16 = .ok (.iload 4, 2) := by decide +kernel
theorem dX5_reasonOf_18 : decode cX5_reasonOf 18 = .ok (.bipush 16, 2) := by decide +kernel
theorem dX5_reasonOf_20 : decode cX5_reasonOf 20 = .ok (.if_icmp .ge 53, 3) := by decide +kernel
theorem dX5_reasonOf_23 : decode cX5_reasonOf 23 = .ok (.aload_n 0, 1) := by decide +kernel
theorem dX5_reasonOf_24 : decode cX5_reasonOf 24 = .ok (.getfield 30, 3) := by decide +kernel
theorem dX5_reasonOf_27 : decode cX5_reasonOf 27 = .ok (.iload 4, 2) := by decide +kernel
theorem dX5_reasonOf_29 : decode cX5_reasonOf 29 = .ok (.iaload, 1) := by decide +kernel
theorem dX5_reasonOf_30 : decode cX5_reasonOf 30 = .ok (.invokestatic 211, 3) := by decide +kernel
theorem dX5_reasonOf_33 : decode cX5_reasonOf 33 = .ok (.ifCond .ge 5, 3) := by decide +kernel
theorem dX5_reasonOf_36 : decode cX5_reasonOf 36 = .ok (.iconst 2, 1) := by decide +kernel
theorem dX5_reasonOf_37 : decode cX5_reasonOf 37 = .ok (.ireturn, 1) := by decide +kernel
theorem dX5_reasonOf_38 : decode cX5_reasonOf 38 = .ok (.iload 4, 2) := by decide +kernel
theorem dX5_reasonOf_40 : decode cX5_reasonOf 40 = .ok (.bipush 11, 2) := by decide +kernel
theorem dX5_reasonOf_42 : decode cX5_reasonOf 42 = .ok (.if_icmp .ge 23, 3) := by decide +kernel
theorem dX5_reasonOf_45 : decode cX5_reasonOf 45 = .ok (.ldc2_w 214, 3) := by decide +kernel
theorem dX5_reasonOf_48 : decode cX5_reasonOf 48 = .ok (.lload_n 2, 1) := by decide +kernel
theorem dX5_reasonOf_49 : decode cX5_reasonOf 49 = .ok (.lmul, 1) := by decide +kernel
theorem dX5_reasonOf_50 : decode cX5_reasonOf 50 = .ok (.aload_n 0, 1) := by decide +kernel
theorem dX5_reasonOf_51 : decode cX5_reasonOf 51 = .ok (.getfield 30, 3) := by decide +kernel
theorem dX5_reasonOf_54 : decode cX5_reasonOf 54 = .ok (.iload 4, 2) := by decide +kernel
theorem dX5_reasonOf_56 : decode cX5_reasonOf 56 = .ok (.iaload, 1) := by decide +kernel
theorem dX5_reasonOf_57 : decode cX5_reasonOf 57 = .ok (.invokestatic 211, 3) := by decide +kernel
theorem dX5_reasonOf_60 : decode cX5_reasonOf 60 = .ok (.i2l, 1) := by decide +kernel
theorem dX5_reasonOf_61 : decode cX5_reasonOf 61 = .ok (.ladd, 1) := by decide +kernel
theorem dX5_reasonOf_62 : decode cX5_reasonOf 62 = .ok (.goto 4, 3) := by decide +kernel
theorem dX5_reasonOf_65 : decode cX5_reasonOf 65 = .ok (.lload_n 2, 1) := by decide +kernel
theorem dX5_reasonOf_66 : decode cX5_reasonOf 66 = .ok (.lstore_n 2, 1) := by decide +kernel
theorem dX5_reasonOf_67 : decode cX5_reasonOf 67 = .ok (.iinc 4 1, 3) := by decide +kernel
theorem dX5_reasonOf_70 : decode cX5_reasonOf 70 = .ok (.goto (-54), 3) := by decide +kernel
theorem dX5_reasonOf_73 : decode cX5_reasonOf 73 = .ok (.lload_n 2, 1) := by decide +kernel
theorem dX5_reasonOf_74 : decode cX5_reasonOf 74 = .ok (.bipush 51, 2) := by decide +kernel
theorem dX5_reasonOf_76 : decode cX5_reasonOf 76 = .ok (.lshr, 1) := by decide +kernel
theorem dX5_reasonOf_77 : decode cX5_reasonOf 77 = .ok (.l2i, 1) := by decide +kernel
theorem dX5_reasonOf_78 : decode cX5_reasonOf 78 = .ok (.istore 4, 2) := by decide +kernel
theorem dX5_reasonOf_80 : decode cX5_reasonOf 80 = .ok (.lload_n 2, 1) := by decide +kernel
theorem dX5_reasonOf_81 : decode cX5_reasonOf 81 = .ok (.bipush 47, 2) := by decide +kernel
theorem dX5_reasonOf_83 : decode cX5_reasonOf 83 = .ok (.lshr, 1) := by decide +kernel
theorem dX5_reasonOf_84 : decode cX5_reasonOf 84 = .ok (.ldc2_w 200, 3) := by decide +kernel
theorem dX5_reasonOf_87 : decode cX5_reasonOf 87 = .ok (.land, 1) := by decide +kernel
theorem dX5_reasonOf_88 : decode cX5_reasonOf 88 = .ok (.l2i, 1) := by decide +kernel
theorem dX5_reasonOf_89 : decode cX5_reasonOf 89 = .ok (.istore 5, 2) := by decide +kernel
theorem dX5_reasonOf_91 : decode cX5_reasonOf 91 = .ok (.lload_n 2, 1) := by decide +kernel
theorem dX5_reasonOf_92 : decode cX5_reasonOf 92 = .ok (.bipush 30, 2) := by decide +kernel
theorem dX5_reasonOf_94 : decode cX5_reasonOf 94 = .ok (.lshr, 1) := by decide +kernel
theorem dX5_reasonOf_95 : decode cX5_reasonOf 95 = .ok (.ldc2_w 216, 3) := by decide +kernel
theorem dX5_reasonOf_98 : decode cX5_reasonOf 98 = .ok (.land, 1) := by decide +kernel
theorem dX5_reasonOf_99 : decode cX5_reasonOf 99 = .ok (.l2i, 1) := by decide +kernel
theorem dX5_reasonOf_100 : decode cX5_reasonOf 100 = .ok (.istore 6, 2) := by decide +kernel
theorem dX5_reasonOf_102 : decode cX5_reasonOf 102 = .ok (.lload_n 2, 1) := by decide +kernel
theorem dX5_reasonOf_103 : decode cX5_reasonOf 103 = .ok (.bipush 14, 2) := by decide +kernel
theorem dX5_reasonOf_105 : decode cX5_reasonOf 105 = .ok (.lshr, 1) := by decide +kernel
theorem dX5_reasonOf_106 : decode cX5_reasonOf 106 = .ok (.ldc2_w 143, 3) := by decide +kernel
theorem dX5_reasonOf_109 : decode cX5_reasonOf 109 = .ok (.land, 1) := by decide +kernel
theorem dX5_reasonOf_110 : decode cX5_reasonOf 110 = .ok (.l2i, 1) := by decide +kernel
theorem dX5_reasonOf_111 : decode cX5_reasonOf 111 = .ok (.istore 7, 2) := by decide +kernel
theorem dX5_reasonOf_113 : decode cX5_reasonOf 113 = .ok (.lload_n 2, 1) := by decide +kernel
theorem dX5_reasonOf_114 : decode cX5_reasonOf 114 = .ok (.ldc2_w 218, 3) := by decide +kernel
theorem dX5_reasonOf_117 : decode cX5_reasonOf 117 = .ok (.land, 1) := by decide +kernel
theorem dX5_reasonOf_118 : decode cX5_reasonOf 118 = .ok (.l2i, 1) := by decide +kernel
theorem dX5_reasonOf_119 : decode cX5_reasonOf 119 = .ok (.istore 8, 2) := by decide +kernel
theorem dX5_reasonOf_121 : decode cX5_reasonOf 121 = .ok (.aload_n 0, 1) := by decide +kernel
theorem dX5_reasonOf_122 : decode cX5_reasonOf 122 = .ok (.iload 4, 2) := by decide +kernel
theorem dX5_reasonOf_124 : decode cX5_reasonOf 124 = .ok (.invokevirtual 145, 3) := by decide +kernel
theorem dX5_reasonOf_127 : decode cX5_reasonOf 127 = .ok (.ifCond .eq 23, 3) := by decide +kernel
theorem dX5_reasonOf_130 : decode cX5_reasonOf 130 = .ok (.iload 5, 2) := by decide +kernel
theorem dX5_reasonOf_132 : decode cX5_reasonOf 132 = .ok (.bipush 9, 2) := by decide +kernel
theorem dX5_reasonOf_134 : decode cX5_reasonOf 134 = .ok (.if_icmp .gt 16, 3) := by decide +kernel
theorem dX5_reasonOf_137 : decode cX5_reasonOf 137 = .ok (.iload 6, 2) := by decide +kernel
theorem dX5_reasonOf_139 : decode cX5_reasonOf 139 = .ok (.i2l, 1) := by decide +kernel
theorem dX5_reasonOf_140 : decode cX5_reasonOf 140 = .ok (.lconst 1, 1) := by decide +kernel
theorem dX5_reasonOf_141 : decode cX5_reasonOf 141 = .ok (.ldc2_w 173, 3) := by decide +kernel
theorem dX5_reasonOf_144 : decode cX5_reasonOf 144 = .ok (.invokestatic 139, 3) := by decide +kernel
theorem dX5_reasonOf_147 : decode cX5_reasonOf 147 = .ok (.ifCond .ne 5, 3) := by decide +kernel
theorem dX5_reasonOf_150 : decode cX5_reasonOf 150 = .ok (.iconst 3, 1) := by decide +kernel
theorem dX5_reasonOf_151 : decode cX5_reasonOf 151 = .ok (.ireturn, 1) := by decide +kernel
theorem dX5_reasonOf_152 : decode cX5_reasonOf 152 = .ok (.aload_n 0, 1) := by decide +kernel
theorem dX5_reasonOf_153 : decode cX5_reasonOf 153 = .ok (.iload 4, 2) := by decide +kernel
theorem dX5_reasonOf_155 : decode cX5_reasonOf 155 = .ok (.lload_n 2, 1) := by decide +kernel
theorem dX5_reasonOf_156 : decode cX5_reasonOf 156 = .ok (.invokevirtual 188, 3) := by decide +kernel
theorem dX5_reasonOf_159 : decode cX5_reasonOf 159 = .ok (.iconst 0, 1) := by decide +kernel
theorem dX5_reasonOf_160 : decode cX5_reasonOf 160 = .ok (.istore 9, 2) := by decide +kernel
theorem dX5_reasonOf_162 : decode cX5_reasonOf 162 = .ok (.iload 9, 2) := by decide +kernel
theorem dX5_reasonOf_164 : decode cX5_reasonOf 164 = .ok (.iconst 5, 1) := by decide +kernel
theorem dX5_reasonOf_165 : decode cX5_reasonOf 165 = .ok (.if_icmp .ge 33, 3) := by decide +kernel
theorem dX5_reasonOf_168 : decode cX5_reasonOf 168 = .ok (.aload_n 0, 1) := by decide +kernel
theorem dX5_reasonOf_169 : decode cX5_reasonOf 169 = .ok (.iload 9, 2) := by decide +kernel
theorem dX5_reasonOf_171 : decode cX5_reasonOf 171 = .ok (.invokevirtual 194, 3) := by decide +kernel
theorem dX5_reasonOf_174 : decode cX5_reasonOf 174 = .ok (.aload_n 0, 1) := by decide +kernel
theorem dX5_reasonOf_175 : decode cX5_reasonOf 175 = .ok (.getfield 30, 3) := by decide +kernel
theorem dX5_reasonOf_178 : decode cX5_reasonOf 178 = .ok (.bipush 11, 2) := by decide +kernel
theorem dX5_reasonOf_180 : decode cX5_reasonOf 180 = .ok (.iload 9, 2) := by decide +kernel
theorem dX5_reasonOf_182 : decode cX5_reasonOf 182 = .ok (.iadd, 1) := by decide +kernel
theorem dX5_reasonOf_183 : decode cX5_reasonOf 183 = .ok (.iaload, 1) := by decide +kernel
theorem dX5_reasonOf_184 : decode cX5_reasonOf 184 = .ok (.invokestatic 211, 3) := by decide +kernel
theorem dX5_reasonOf_187 : decode cX5_reasonOf 187 = .ok (.if_icmp .eq 5, 3) := by decide +kernel
theorem dX5_reasonOf_190 : decode cX5_reasonOf 190 = .ok (.iconst 4, 1) := by decide +kernel
theorem dX5_reasonOf_191 : decode cX5_reasonOf 191 = .ok (.ireturn, 1) := by decide +kernel
theorem dX5_reasonOf_192 : decode cX5_reasonOf 192 = .ok (.iinc 9 1, 3) := by decide +kernel
theorem dX5_reasonOf_195 : decode cX5_reasonOf 195 = .ok (.goto (-33), 3) := by decide +kernel
theorem dX5_reasonOf_198 : decode cX5_reasonOf 198 = .ok (.iload_n 1, 1) := by decide +kernel
theorem dX5_reasonOf_199 : decode cX5_reasonOf 199 = .ok (.iload 7, 2) := by decide +kernel
theorem dX5_reasonOf_201 : decode cX5_reasonOf 201 = .ok (.if_icmp .lt 36, 3) := by decide +kernel
theorem dX5_reasonOf_204 : decode cX5_reasonOf 204 = .ok (.iload_n 1, 1) := by decide +kernel
theorem dX5_reasonOf_205 : decode cX5_reasonOf 205 = .ok (.iload 7, 2) := by decide +kernel
theorem dX5_reasonOf_207 : decode cX5_reasonOf 207 = .ok (.bipush 100, 2) := by decide +kernel
theorem dX5_reasonOf_209 : decode cX5_reasonOf 209 = .ok (.iadd, 1) := by decide +kernel
