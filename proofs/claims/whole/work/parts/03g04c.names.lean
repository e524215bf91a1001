theorem dX5_reasonOf_84 : decode cX5_reasonOf 84 = .ok (.ldc2_w 200, 3) := by decide +kernel
theorem dX5_reasonOf_87 : decode cX5_reasonOf 87 = .ok (.land, 1) := by decide +kernel
theorem dX5_reasonOf_88 : decode cX5_reasonOf 88 = .ok (.l2i, 1) := by decide +kernel
theorem dX5_reasonOf_89 : decode cX5_reasonOf 89 = .ok (.istore 5, 2) := by decide +kernel
theorem dX5_reasonOf_91 : decode cX5_reasonOf 91 = .ok (.lload_n 2, 1) := by decide +kernel
theorem dX5_reasonOf_92 : decode cX5_reasonOf 92 = .ok (.bipush 30, 2) := by decide +kernel
theorem dX5_reasonOf_94 : decode cX5_reasonOf 94 = .ok (.lshr, 1) := by decide +kernel
theorem dX5_reasonOf_95 : decode cX5_reasonOf 95 = .ok (.ldc2_w 216, 3) := by decide +kernel
theorem dX5_reasonOf_98 : decode cX5_reasonOf 98 = .ok (.land, 1) := by decide +kernel
theorem dX5_reasonOf_99 : decode cX5_reasonOf 99 = .ok (.l2i, 1) := by decide +kernel
theorem dX5_reasonOf_100 : decode cX5_reasonOf 100 = .ok (.istore 6, 2) := by decide +kernel
theorem dX5_reasonOf_102 : decode cX5_reasonOf 102 = .ok (.lload_n 2, 1) := by decide +kernel
theorem dX5_reasonOf_103 : decode cX5_reasonOf 103 = .ok (.bipush 14, 2) := by decide +kernel
theorem dX5_reasonOf_105 : decode cX5_reasonOf 105 = .ok (.lshr, 1) := by decide +kernel
theorem dX5_reasonOf_106 : decode cX5_reasonOf 106 = .ok (.ldc2_w 143, 3) := by decide +kernel
theorem dX5_reasonOf_109 : decode cX5_reasonOf 109 = .ok (.land, 1) := by decide +kernel
theorem dX5_reasonOf_110 : decode cX5_reasonOf 110 = .ok (.l2i, 1) := by decide +kernel
theorem dX5_reasonOf_111 : decode cX5_reasonOf 111 = .ok (.istore 7, 2) := by decide +kernel
theorem dX5_reasonOf_113 : decode cX5_reasonOf 113 = .ok (.lload_n 2, 1) := by decide +kernel
theorem dX5_reasonOf_114 : decode cX5_reasonOf 114 = .ok (.ldc2_w 218, 3) := by decide +kernel
theorem dX5_reasonOf_117 : decode cX5_reasonOf 117 = .ok (.land, 1) := by decide +kernel
theorem dX5_reasonOf_118 : decode cX5_reasonOf 118 = .ok (.l2i, 1) := by decide +kernel
theorem dX5_reasonOf_119 : decode cX5_reasonOf 119 = .ok (.istore 8, 2) := by decide +kernel
theorem dX5_reasonOf_121 : decode cX5_reasonOf 121 = .ok (.aload_n 0, 1) := by decide +kernel
theorem dX5_reasonOf_122 : decode cX5_reasonOf 122 = .ok (.iload 4, 2) := by decide +kernel
theorem dX5_reasonOf_124 : decode cX5_reasonOf 124 = .ok (.invokevirtual 145, 3) := by decide +kernel
theorem dX5_reasonOf_127 : decode cX5_reasonOf 127 = .ok (.ifCond .eq 23, 3) := by decide +kernel
theorem dX5_reasonOf_130 : decode cX5_reasonOf 130 = .ok (.iload 5, 2) := by decide +kernel
theorem dX5_reasonOf_132 : decode cX5_reasonOf 132 = .ok (.bipush 9, 2) := by decide +kernel
theorem dX5_reasonOf_134 : decode cX5_reasonOf 134 = .ok (.if_icmp .gt 16, 3) := by decide +kernel
theorem dX5_reasonOf_137 : decode cX5_reasonOf 137 = .ok (.iload 6, 2) := by decide +kernel
theorem dX5_reasonOf_139 : decode cX5_reasonOf 139 = .ok (.i2l, 1) := by decide +kernel
theorem dX5_reasonOf_140 : decode cX5_reasonOf 140 = .ok (.lconst 1, 1) := by decide +kernel
theorem dX5_reasonOf_141 : decode cX5_reasonOf 141 = .ok (.ldc2_w 173, 3) := by decide +kernel
theorem dX5_reasonOf_144 : decode cX5_reasonOf 144 = .ok (.invokestatic 139, 3) := by decide +kernel
theorem dX5_reasonOf_147 : decode cX5_reasonOf 147 = .ok (.ifCond .ne 5, 3) := by decide +kernel
theorem dX5_reasonOf_150 : decode cX5_reasonOf 150 = .ok (.iconst 3, 1) := by decide +kernel
theorem dX5_reasonOf_151 : decode cX5_reasonOf 151 = .ok (.ireturn, 1) := by decide +kernel
theorem dX5_reasonOf_152 : decode cX5_reasonOf 152 = .ok (.aload_n 0, 1) := by decide +kernel
theorem dX5_reasonOf_153 : decode cX5_reasonOf 153 = .ok (.iload 4, 2) := by decide +kernel
theorem dX5_reasonOf_155 : decode cX5_reasonOf 155 = .ok (.lload_n 2, 1) := by decide +kernel
theorem dX5_reasonOf_156 : decode cX5_reasonOf 156 = .ok (.invokevirtual 188, 3) := by decide +kernel
theorem dX5_reasonOf_159 : decode cX5_reasonOf 159 = .ok (.iconst 0, 1) := by decide +kernel
theorem dX5_reasonOf_160 : decode cX5_reasonOf 160 = .ok (.istore 9, 2) := by decide +kernel
theorem dX5_reasonOf_162 : decode cX5_reasonOf 162 = .ok (.iload 9, 2) := by decide +kernel
theorem dX5_reasonOf_164 : decode cX5_reasonOf 164 = .ok (.iconst 5, 1) := by decide +kernel
theorem dX5_reasonOf_165 : decode cX5_reasonOf 165 = .ok (.if_icmp .ge 33, 3) := by decide +kernel
theorem dX5_reasonOf_168 : decode cX5_reasonOf 168 = .ok (.aload_n 0, 1) := by decide +kernel
theorem dX5_reasonOf_169 : decode cX5_reasonOf 169 = .ok (.iload 9, 2) := by decide +kernel
theorem dX5_reasonOf_171 : decode cX5_reasonOf 171 = .ok (.invokevirtual 194, 3) := by decide +kernel
theorem dX5_reasonOf_174 : decode cX5_reasonOf 174 = .ok (.aload_n 0, 1) := by decide +kernel
theorem dX5_reasonOf_175 : decode cX5_reasonOf 175 = .ok (.getfield 30, 3) := by decide +kernel
theorem dX5_reasonOf_178 : decode cX5_reasonOf 178 = .ok (.bipush 11, 2) := by decide +kernel
theorem dX5_reasonOf_180 : decode cX5_reasonOf 180 = .ok (.iload 9, 2) := by decide +kernel
theorem dX5_reasonOf_182 : decode cX5_reasonOf 182 = .ok (.iadd, 1) := by decide +kernel
theorem dX5_reasonOf_183 : decode cX5_reasonOf 183 = .ok (.iaload, 1) := by decide +kernel
theorem dX5_reasonOf_184 : decode cX5_reasonOf 184 = .ok (.invokestatic 211, 3) := by decide +kernel
theorem dX5_reasonOf_187 : decode cX5_reasonOf 187 = .ok (.if_icmp .eq 5, 3) := by decide +kernel
theorem dX5_reasonOf_190 : decode cX5_reasonOf 190 = .ok (.iconst 4, 1) := by decide +kernel
theorem dX5_reasonOf_191 : decode cX5_reasonOf 191 = .ok (.ireturn, 1) := by decide +kernel
theorem dX5_reasonOf_192 : decode cX5_reasonOf 192 = .ok (.iinc 9 1, 3) := by decide +kernel
theorem dX5_reasonOf_195 : decode cX5_reasonOf 195 = .ok (.goto (-33), 3) := by decide +kernel
theorem dX5_reasonOf_198 : decode cX5_reasonOf 198 = .ok (.iload_n 1, 1) := by decide +kernel
theorem dX5_reasonOf_199 : decode cX5_reasonOf 199 = .ok (.iload 7, 2) := by decide +kernel
theorem dX5_reasonOf_201 : decode cX5_reasonOf 201 = .ok (.if_icmp .lt 36, 3) := by decide +kernel
theorem dX5_reasonOf_204 : decode cX5_reasonOf 204 = .ok (.iload_n 1, 1) := by decide +kernel
theorem dX5_reasonOf_205 : decode cX5_reasonOf 205 = .ok (.iload 7, 2) := by decide +kernel
theorem dX5_reasonOf_207 : decode cX5_reasonOf 207 = .ok (.bipush 100, 2) := by decide +kernel
theorem dX5_reasonOf_209 : decode cX5_reasonOf 209 = .ok (.iadd, 1) := by decide +kernel
theorem dX5_reasonOf_210 : decode cX5_reasonOf 210 = .ok (.if_icmp .gt 27, 3) := by decide +kernel
theorem dX5_reasonOf_213 : decode cX5_reasonOf 213 = .ok (.iload_n 1, 1) := by decide +kernel
theorem dX5_reasonOf_214 : decode cX5_reasonOf 214 = .ok (.i2l, 1) := by decide +kernel
theorem dX5_reasonOf_215 : decode cX5_reasonOf 215 = .ok (.aload_n 0, 1) := by decide +kernel
theorem dX5_reasonOf_216 : decode cX5_reasonOf 216 = .ok (.getfield 7, 3) := by decide +kernel
theorem dX5_reasonOf_219 : decode cX5_reasonOf 219 = .ok (.iload 4, 2) := by decide +kernel
theorem dX5_reasonOf_221 : decode cX5_reasonOf 221 = .ok (.iaload, 1) := by decide +kernel
theorem dX5_reasonOf_222 : decode cX5_reasonOf 222 = .ok (.i2l, 1) := by decide +kernel
theorem dX5_reasonOf_223 : decode cX5_reasonOf 223 = .ok (.aload_n 0, 1) := by decide +kernel
theorem dX5_reasonOf_224 : decode cX5_reasonOf 224 = .ok (.getfield 13, 3) := by decide +kernel
theorem dX5_reasonOf_227 : decode cX5_reasonOf 227 = .ok (.iload 4, 2) := by decide +kernel
theorem dX5_reasonOf_229 : decode cX5_reasonOf 229 = .ok (.iaload, 1) := by decide +kernel
theorem dX5_reasonOf_230 : decode cX5_reasonOf 230 = .ok (.i2l, 1) := by decide +kernel
theorem dX5_reasonOf_231 : decode cX5_reasonOf 231 = .ok (.invokestatic 139, 3) := by decide +kernel
theorem dX5_reasonOf_234 : decode cX5_reasonOf 234 = .ok (.ifCond .ne 5, 3) := by decide +kernel
theorem dX5_reasonOf_237 : decode cX5_reasonOf 237 = .ok (.iconst 5, 1) := by decide +kernel
theorem dX5_reasonOf_238 : decode cX5_reasonOf 238 = .ok (.ireturn, 1) := by decide +kernel
theorem dX5_reasonOf_239 : decode cX5_reasonOf 239 = .ok (.aload_n 0, 1) := by decide +kernel
theorem dX5_reasonOf_240 : decode cX5_reasonOf 240 = .ok (.getfield 33, 3) := by decide +kernel
theorem dX5_reasonOf_243 : decode cX5_reasonOf 243 = .ok (.iload 8, 2) := by decide +kernel
theorem dX5_reasonOf_245 : decode cX5_reasonOf 245 = .ok (.baload, 1) := by decide +kernel
theorem dX5_reasonOf_246 : decode cX5_reasonOf 246 = .ok (.iconst 2, 1) := by decide +kernel
theorem dX5_reasonOf_247 : decode cX5_reasonOf 247 = .ok (.if_icmp .ne 6, 3) := by decide +kernel
theorem dX5_reasonOf_250 : decode cX5_reasonOf 250 = .ok (.bipush 7, 2) := by decide +kernel
theorem dX5_reasonOf_252 : decode cX5_reasonOf 252 = .ok (.ireturn, 1) := by decide +kernel
theorem dX5_reasonOf_253 : decode cX5_reasonOf 253 = .ok (.aload_n 0, 1) := by decide +kernel
theorem dX5_reasonOf_254 : decode cX5_reasonOf 254 = .ok (.iload 8, 2) := by decide +kernel
theorem dX5_reasonOf_256 : decode cX5_reasonOf 256 = .ok (.putfield 42, 3) := by decide +kernel
theorem dX5_reasonOf_259 : decode cX5_reasonOf 259 = .ok (.aload_n 0, 1) := by decide +kernel
theorem dX5_reasonOf_260 : decode cX5_reasonOf 260 = .ok (.getfield 33, 3) := by decide +kernel
theorem dX5_reasonOf_263 : decode cX5_reasonOf 263 = .ok (.iload 8, 2) := by decide +kernel
theorem dX5_reasonOf_265 : decode cX5_reasonOf 265 = .ok (.baload, 1) := by decide +kernel
theorem dX5_reasonOf_266 : decode cX5_reasonOf 266 = .ok (.iconst 1, 1) := by decide +kernel
theorem dX5_reasonOf_267 : decode cX5_reasonOf 267 = .ok (.if_icmp .ne 6, 3) := by decide +kernel
theorem dX5_reasonOf_270 : decode cX5_reasonOf 270 = .ok (.bipush 6, 2) := by decide +kernel
theorem dX5_reasonOf_272 : decode cX5_reasonOf 272 = .ok (.ireturn, 1) := by decide +kernel
theorem dX5_reasonOf_273 : decode cX5_reasonOf 273 = .ok (.aload_n 0, 1) := by decide +kernel
theorem dX5_reasonOf_274 : decode cX5_reasonOf 274 = .ok (.getfield 33, 3) := by decide +kernel
theorem dX5_reasonOf_277 : decode cX5_reasonOf 277 = .ok (.iload 8, 2) := by decide +kernel
theorem dX5_reasonOf_279 : decode cX5_reasonOf 279 = .ok (.iconst 1, 1) := by decide +kernel
theorem dX5_reasonOf_280 : decode cX5_reasonOf 280 = .ok (.bastore, 1) := by decide +kernel
theorem dX5_reasonOf_281 : decode cX5_reasonOf 281 = .ok (.aload_n 0, 1) := by decide +kernel
theorem dX5_reasonOf_282 : decode cX5_reasonOf 282 = .ok (.getfield 36, 3) := by decide +kernel
theorem dX5_reasonOf_285 : decode cX5_reasonOf 285 = .ok (.iload 8, 2) := by decide +kernel
theorem dX5_reasonOf_287 : decode cX5_reasonOf 287 = .ok (.iload_n 1, 1) := by decide +kernel
theorem dX5_reasonOf_288 : decode cX5_reasonOf 288 = .ok (.iastore, 1) := by decide +kernel
theorem dX5_reasonOf_289 : decode cX5_reasonOf 289 = .ok (.aload_n 0, 1) := by decide +kernel
theorem dX5_reasonOf_290 : decode cX5_reasonOf 290 = .ok (.getfield 39, 3) := by decide +kernel
theorem dX5_reasonOf_293 : decode cX5_reasonOf 293 = .ok (.iload 8, 2) := by decide +kernel
theorem dX5_reasonOf_295 : decode cX5_reasonOf 295 = .ok (.aload_n 0, 1) := by decide +kernel
theorem dX5_reasonOf_296 : decode cX5_reasonOf 296 = .ok (.getfield 205, 3) := by decide +kernel
theorem dX5_reasonOf_299 : decode cX5_reasonOf 299 = .ok (.iastore, 1) := by decide +kernel
theorem dX5_reasonOf_300 : decode cX5_reasonOf 300 = .ok (.iconst 0, 1) := by decide +kernel
theorem dX5_reasonOf_301 : decode cX5_reasonOf 301 = .ok (.ireturn, 1) := by decide +kernel
set_option maxRecDepth 20000 in
theorem ggX5_first_X5_within : GoodIn wsX5_first wsX5_within := goodIn_r _ [9] (by decide +kernel) (by decide +kernel)
set_option maxRecDepth 20000 in
theorem gX5_first_X5_within : GoodIn wsX5_first (va_wsS RX5 139 yX5_within wsX5_within) := goodIn_app (goodIn_of _ (by decide +kernel)) ggX5_first_X5_within
theorem dX5_first_0 : decode cX5_first 0 = .ok (.aload_n 0, 1) := by decide +kernel
theorem dX5_first_1 : decode cX5_first 1 = .ok (.iconst 0, 1) := by decide +kernel
theorem dX5_first_2 : decode cX5_first 2 = .ok (.putfield 136, 3) := by decide +kernel
theorem dX5_first_5 : decode cX5_first 5 = .ok (.iload_n 1, 1) := by decide +kernel
theorem dX5_first_6 : decode cX5_first 6 = .ok (.i2l, 1) := by decide +kernel
theorem dX5_first_7 : decode cX5_first 7 = .ok (.lconst 0, 1) := by decide +kernel
theorem dX5_first_8 : decode cX5_first 8 = .ok (.ldc2_w 220, 3) := by decide +kernel
theorem dX5_first_11 : decode cX5_first 11 = .ok (.invokestatic 139, 3) := by decide +kernel
theorem dX5_first_14 : decode cX5_first 14 = .ok (.ifCond .ne 6, 3) := by decide +kernel
theorem dX5_first_17 : decode cX5_first 17 = .ok (.bipush (-22), 2) := by decide +kernel
theorem dX5_first_19 : decode cX5_first 19 = .ok (.ireturn, 1) := by decide +kernel
theorem dX5_first_20 : decode cX5_first 20 = .ok (.aload_n 0, 1) := by decide +kernel
theorem dX5_first_21 : decode cX5_first 21 = .ok (.getfield 42, 3) := by decide +kernel
theorem dX5_first_24 : decode cX5_first 24 = .ok (.ifCond .ge 7, 3) := by decide +kernel
theorem dX5_first_27 : decode cX5_first 27 = .ok (.iconst (-1), 1) := by decide +kernel
theorem dX5_first_28 : decode cX5_first 28 = .ok (.goto 40, 3) := by decide +kernel
theorem dX5_first_31 : decode cX5_first 31 = .ok (.iload_n 1, 1) := by decide +kernel
theorem dX5_first_32 : decode cX5_first 32 = .ok (.ifCond .ne 10, 3) := by decide +kernel
theorem dX5_first_35 : decode cX5_first 35 = .ok (.aload_n 0, 1) := by decide +kernel
theorem dX5_first_36 : decode cX5_first 36 = .ok (.getfield 42, 3) := by decide +kernel
theorem dX5_first_39 : decode cX5_first 39 = .ok (.goto 29, 3) := by decide +kernel
theorem dX5_first_42 : decode cX5_first 42 = .ok (.iload_n 1, 1) := by decide +kernel
theorem dX5_first_43 : decode cX5_first 43 = .ok (.iconst 1, 1) := by decide +kernel
theorem dX5_first_44 : decode cX5_first 44 = .ok (.if_icmp .ne 15, 3) := by decide +kernel
theorem dX5_first_47 : decode cX5_first 47 = .ok (.aload_n 0, 1) := by decide +kernel
theorem dX5_first_48 : decode cX5_first 48 = .ok (.getfield 36, 3) := by decide +kernel
theorem dX5_first_51 : decode cX5_first 51 = .ok (.aload_n 0, 1) := by decide +kernel
theorem dX5_first_52 : decode cX5_first 52 = .ok (.getfield 42, 3) := by decide +kernel
theorem dX5_first_55 : decode cX5_first 55 = .ok (.iaload, 1) := by decide +kernel
theorem dX5_first_56 : decode cX5_first 56 = .ok (.goto 12, 3) := by decide +kernel
theorem dX5_first_59 : decode cX5_first 59 = .ok (.aload_n 0, 1) := by decide +kernel
theorem dX5_first_60 : decode cX5_first 60 = .ok (.getfield 39, 3) := by decide +kernel
theorem dX5_first_63 : decode cX5_first 63 = .ok (.aload_n 0, 1) := by decide +kernel
theorem dX5_first_64 : decode cX5_first 64 = .ok (.getfield 42, 3) := by decide +kernel
theorem dX5_first_67 : decode cX5_first 67 = .ok (.iaload, 1) := by decide +kernel
theorem dX5_first_68 : decode cX5_first 68 = .ok (.ireturn, 1) := by decide +kernel
