theorem dX5_reasonOf_210 : decode cX5_reasonOf 210 = .ok (.if_icmp .gt 27, 3) := by decide +kernel
theorem dX5_reasonOf_213 : decode cX5_reasonOf 213 = .ok (.iload_n 1, 1) := by decide +kernel
theorem dX5_reasonOf_214 : decode cX5_reasonOf 214 = .ok (.i2l, 1) := by decide +kernel
theorem dX5_reasonOf_215 : decode cX5_reasonOf 215 = .ok (.aload_n 0, 1) := by decide +kernel
theorem dX5_reasonOf_216 : decode cX5_reasonOf 216 = .ok (.getfield 7, 3) := by decide +kernel
theorem dX5_reasonOf_219 : decode cX5_reasonOf 219 = .ok (.iload 4, 2) := by decide +kernel
theorem dX5_reasonOf_221 : decode cX5_reasonOf 221 = .ok (.iaload, 1) := by decide +kernel
theorem dX5_reasonOf_222 : decode cX5_reasonOf 222 = .ok (.i2l, 1) := by decide +kernel
theorem dX5_reasonOf_223 : decode cX5_reasonOf 223 = .ok (.aload_n 0, 1) := by decide +kernel
theorem dX5_reasonOf_224 : decode cX5_reasonOf 224 = .ok (.getfield 13, 3) := by decide +kernel
theorem dX5_reasonOf_227 : decode cX5_reasonOf 227 = .ok (.iload 4, 2) := by decide +kernel
theorem dX5_reasonOf_229 : decode cX5_reasonOf 229 = .ok (.iaload, 1) := by decide +kernel
theorem dX5_reasonOf_230 : decode cX5_reasonOf 230 = .ok (.i2l, 1) := by decide +kernel
theorem dX5_reasonOf_231 : decode cX5_reasonOf 231 = .ok (.invokestatic 139, 3) := by decide +kernel
theorem dX5_reasonOf_234 : decode cX5_reasonOf 234 = .ok (.ifCond .ne 5, 3) := by decide +kernel
theorem dX5_reasonOf_237 : decode cX5_reasonOf 237 = .ok (.iconst 5, 1) := by decide +kernel
theorem dX5_reasonOf_238 : decode cX5_reasonOf 238 = .ok (.ireturn, 1) := by decide +kernel
theorem dX5_reasonOf_239 : decode cX5_reasonOf 239 = .ok (.aload_n 0, 1) := by decide +kernel
theorem dX5_reasonOf_240 : decode cX5_reasonOf 240 = .ok (.getfield 33, 3) := by decide +kernel
theorem dX5_reasonOf_243 : decode cX5_reasonOf 243 = .ok (.iload 8, 2) := by decide +kernel
theorem dX5_reasonOf_245 : decode cX5_reasonOf 245 = .ok (.baload, 1) := by decide +kernel
theorem dX5_reasonOf_246 : decode cX5_reasonOf 246 = .ok (.iconst 2, 1) := by decide +kernel
theorem dX5_reasonOf_247 : decode cX5_reasonOf 247 = .ok (.if_icmp .ne 6, 3) := by decide +kernel
theorem dX5_reasonOf_250 : decode cX5_reasonOf 250 = .ok (.bipush 7, 2) := by decide +kernel
theorem dX5_reasonOf_252 : decode cX5_reasonOf 252 = .ok (.ireturn, 1) := by decide +kernel
theorem dX5_reasonOf_253 : decode cX5_reasonOf 253 = .ok (.aload_n 0, 1) := by decide +kernel
theorem dX5_reasonOf_254 : decode cX5_reasonOf 254 = .ok (.iload 8, 2) := by decide +kernel
theorem dX5_reasonOf_256 : decode cX5_reasonOf 256 = .ok (.putfield 42, 3) := by decide +kernel
theorem dX5_reasonOf_259 : decode cX5_reasonOf 259 = .ok (.aload_n 0, 1) := by decide +kernel
theorem dX5_reasonOf_260 : decode cX5_reasonOf 260 = .ok (.getfield 33, 3) := by decide +kernel
theorem dX5_reasonOf_263 : decode cX5_reasonOf 263 = .ok (.iload 8, 2) := by decide +kernel
theorem dX5_reasonOf_265 : decode cX5_reasonOf 265 = .ok (.baload, 1) := by decide +kernel
theorem dX5_reasonOf_266 : decode cX5_reasonOf 266 = .ok (.iconst 1, 1) := by decide +kernel
theorem dX5_reasonOf_267 : decode cX5_reasonOf 267 = .ok (.if_icmp .ne 6, 3) := by decide +kernel
theorem dX5_reasonOf_270 : decode cX5_reasonOf 270 = .ok (.bipush 6, 2) := by decide +kernel
theorem dX5_reasonOf_272 : decode cX5_reasonOf 272 = .ok (.ireturn, 1) := by decide +kernel
theorem dX5_reasonOf_273 : decode cX5_reasonOf 273 = .ok (.aload_n 0, 1) := by decide +kernel
theorem dX5_reasonOf_274 : decode cX5_reasonOf 274 = .ok (.getfield 33, 3) := by decide +kernel
theorem dX5_reasonOf_277 : decode cX5_reasonOf 277 = .ok (.iload 8, 2) := by decide +kernel
theorem dX5_reasonOf_279 : decode cX5_reasonOf 279 = .ok (.iconst 1, 1) := by decide +kernel
theorem dX5_reasonOf_280 : decode cX5_reasonOf 280 = .ok (.bastore, 1) := by decide +kernel
theorem dX5_reasonOf_281 : decode cX5_reasonOf 281 = .ok (.aload_n 0, 1) := by decide +kernel
theorem dX5_reasonOf_282 : decode cX5_reasonOf 282 = .ok (.getfield 36, 3) := by decide +kernel
theorem dX5_reasonOf_285 : decode cX5_reasonOf 285 = .ok (.iload 8, 2) := by decide +kernel
theorem dX5_reasonOf_287 : decode cX5_reasonOf 287 = .ok (.iload_n 1, 1) := by decide +kernel
theorem dX5_reasonOf_288 : decode cX5_reasonOf 288 = .ok (.iastore, 1) := by decide +kernel
theorem dX5_reasonOf_289 : decode cX5_reasonOf 289 = .ok (.aload_n 0, 1) := by decide +kernel
theorem dX5_reasonOf_290 : decode cX5_reasonOf 290 = .ok (.getfield 39, 3) := by decide +kernel
theorem dX5_reasonOf_293 : decode cX5_reasonOf 293 = .ok (.iload 8, 2) := by decide +kernel
theorem dX5_reasonOf_295 : decode cX5_reasonOf 295 = .ok (.aload_n 0, 1) := by decide +kernel
theorem dX5_reasonOf_296 : decode cX5_reasonOf 296 = .ok (.getfield 205, 3) := by decide +kernel
theorem dX5_reasonOf_299 : decode cX5_reasonOf 299 = .ok (.iastore, 1) := by decide +kernel
theorem dX5_reasonOf_300 : decode cX5_reasonOf 300 = .ok (.iconst 0, 1) := by decide +kernel
theorem dX5_reasonOf_301 : decode cX5_reasonOf 301 = .ok (.ireturn, 1) := by decide +kernel
set_option maxRecDepth 20000 in
theorem ggX5_first_X5_within : GoodIn wsX5_first wsX5_within := goodIn_r _ [9] (by decide +kernel) (by decide +kernel)
set_option maxRecDepth 20000 in
theorem gX5_first_X5_within : GoodIn wsX5_first (va_wsS RX5 139 yX5_within wsX5_within) := goodIn_app (goodIn_of _ (by decide +kernel)) ggX5_first_X5_within
theorem dX5_first_0 : decode cX5_first 0 = .ok (.aload_n 0, 1) := by decide +kernel
theorem dX5_first_1 : decode cX5_first 1 = .ok (.iconst 0, 1) := by decide +kernel
theorem dX5_first_2 : decode cX5_first 2 = .ok (.putfield 136, 3) := by decide +kernel
theorem dX5_first_5 : decode cX5_first 5 = .ok (.iload_n 1, 1) := by decide +kernel
theorem dX5_first_6 : decode cX5_first 6 = .ok (.i2l, 1) := by decide +kernel
theorem dX5_first_7 : decode cX5_first 7 = .ok (.lconst 0, 1) := by decide +kernel
theorem dX5_first_8 : decode cX5_first 8 = .ok (.ldc2_w 220, 3) := by decide +kernel
theorem dX5_first_11 : decode cX5_first 11 = .ok (.invokestatic 139, 3) := by decide +kernel
theorem dX5_first_14 : decode cX5_first 14 = .ok (.ifCond .ne 6, 3) := by decide +kernel
theorem dX5_first_17 : decode cX5_first 17 = .ok (.bipush (-22), 2) := by decide +kernel
theorem dX5_first_19 : decode cX5_first 19 = .ok (.ireturn, 1) := by decide +kernel
theorem dX5_first_20 : decode cX5_first 20 = .ok (.aload_n 0, 1) := by decide +kernel
theorem dX5_first_21 : decode cX5_first 21 = .ok (.getfield 42, 3) := by decide +kernel
theorem dX5_first_24 : decode cX5_first 24 = .ok (.ifCond .ge 7, 3) := by decide +kernel
theorem dX5_first_27 : decode cX5_first 27 = .ok (.iconst (-1), 1) := by decide +kernel
theorem dX5_first_28 : decode cX5_first 28 = .ok (.goto 40, 3) := by decide +kernel
theorem dX5_first_31 : decode cX5_first 31 = .ok (.iload_n 1, 1) := by decide +kernel
theorem dX5_first_32 : decode cX5_first 32 = .ok (.ifCond .ne 10, 3) := by decide +kernel
theorem dX5_first_35 : decode cX5_first 35 = .ok (.aload_n 0, 1) := by decide +kernel
theorem dX5_first_36 : decode cX5_first 36 = .ok (.getfield 42, 3) := by decide +kernel
theorem dX5_first_39 : decode cX5_first 39 = .ok (.goto 29, 3) := by decide +kernel
theorem dX5_first_42 : decode cX5_first 42 = .ok (.iload_n 1, 1) := by decide +kernel
theorem dX5_first_43 : decode cX5_first 43 = .ok (.iconst 1, 1) := by decide +kernel
theorem dX5_first_44 : decode cX5_first 44 = .ok (.if_icmp .ne 15, 3) := by decide +kernel
theorem dX5_first_47 : decode cX5_first 47 = .ok (.aload_n 0, 1) := by decide +kernel
theorem dX5_first_48 : decode cX5_first 48 = .ok (.getfield 36, 3) := by decide +kernel
theorem dX5_first_51 : decode cX5_first 51 = .ok (.aload_n 0, 1) := by decide +kernel
theorem dX5_first_52 : decode cX5_first 52 = .ok (.getfield 42, 3) := by decide +kernel
theorem dX5_first_55 : decode cX5_first 55 = .ok (.iaload, 1) := by decide +kernel
theorem dX5_first_56 : decode cX5_first 56 = .ok (.goto 12, 3) := by decide +kernel
theorem dX5_first_59 : decode cX5_first 59 = .ok (.aload_n 0, 1) := by decide +kernel
theorem dX5_first_60 : decode cX5_first 60 = .ok (.getfield 39, 3) := by decide +kernel
theorem dX5_first_63 : decode cX5_first 63 = .ok (.aload_n 0, 1) := by decide +kernel
theorem dX5_first_64 : decode cX5_first 64 = .ok (.getfield 42, 3) := by decide +kernel
theorem dX5_first_67 : decode cX5_first 67 = .ok (.iaload, 1) := by decide +kernel
theorem dX5_first_68 : decode cX5_first 68 = .ok (.ireturn, 1) := by decide +kernel
set_option maxRecDepth 20000 in
theorem ggX5_refund_X5_within : GoodIn wsX5_refund wsX5_within := goodIn_r _ [7] (by decide +kernel) (by decide +kernel)
set_option maxRecDepth 20000 in
theorem gX5_refund_X5_within : GoodIn wsX5_refund (va_wsS RX5 139 yX5_within wsX5_within) := goodIn_app (goodIn_of _ (by decide +kernel)) ggX5_refund_X5_within
theorem dX5_refund_0 : decode cX5_refund 0 = .ok (.aload_n 0, 1) := by decide +kernel
theorem dX5_refund_1 : decode cX5_refund 1 = .ok (.iconst 0, 1) := by decide +kernel
theorem dX5_refund_2 : decode cX5_refund 2 = .ok (.putfield 136, 3) := by decide +kernel
theorem dX5_refund_5 : decode cX5_refund 5 = .ok (.lload_n 1, 1) := by decide +kernel
theorem dX5_refund_6 : decode cX5_refund 6 = .ok (.lconst 0, 1) := by decide +kernel
theorem dX5_refund_7 : decode cX5_refund 7 = .ok (.aload_n 0, 1) := by decide +kernel
theorem dX5_refund_8 : decode cX5_refund 8 = .ok (.getfield 177, 3) := by decide +kernel
theorem dX5_refund_11 : decode cX5_refund 11 = .ok (.iconst 1, 1) := by decide +kernel
theorem dX5_refund_12 : decode cX5_refund 12 = .ok (.isub, 1) := by decide +kernel
theorem dX5_refund_13 : decode cX5_refund 13 = .ok (.i2l, 1) := by decide +kernel
theorem dX5_refund_14 : decode cX5_refund 14 = .ok (.invokestatic 139, 3) := by decide +kernel
theorem dX5_refund_17 : decode cX5_refund 17 = .ok (.ifCond .eq 13, 3) := by decide +kernel
theorem dX5_refund_20 : decode cX5_refund 20 = .ok (.aload_n 0, 1) := by decide +kernel
theorem dX5_refund_21 : decode cX5_refund 21 = .ok (.getfield 33, 3) := by decide +kernel
theorem dX5_refund_24 : decode cX5_refund 24 = .ok (.lload_n 1, 1) := by decide +kernel
theorem dX5_refund_25 : decode cX5_refund 25 = .ok (.l2i, 1) := by decide +kernel
theorem dX5_refund_26 : decode cX5_refund 26 = .ok (.baload, 1) := by decide +kernel
theorem dX5_refund_27 : decode cX5_refund 27 = .ok (.ifCond .le 5, 3) := by decide +kernel
theorem dX5_refund_30 : decode cX5_refund 30 = .ok (.iconst 0, 1) := by decide +kernel
theorem dX5_refund_31 : decode cX5_refund 31 = .ok (.ireturn, 1) := by decide +kernel
theorem dX5_refund_32 : decode cX5_refund 32 = .ok (.aload_n 0, 1) := by decide +kernel
theorem dX5_refund_33 : decode cX5_refund 33 = .ok (.getfield 33, 3) := by decide +kernel
theorem dX5_refund_36 : decode cX5_refund 36 = .ok (.lload_n 1, 1) := by decide +kernel
theorem dX5_refund_37 : decode cX5_refund 37 = .ok (.l2i, 1) := by decide +kernel
theorem dX5_refund_38 : decode cX5_refund 38 = .ok (.iconst 2, 1) := by decide +kernel
theorem dX5_refund_39 : decode cX5_refund 39 = .ok (.bastore, 1) := by decide +kernel
theorem dX5_refund_40 : decode cX5_refund 40 = .ok (.iconst 1, 1) := by decide +kernel
theorem dX5_refund_41 : decode cX5_refund 41 = .ok (.ireturn, 1) := by decide +kernel
set_option maxRecDepth 20000 in
theorem ggX5_digest_X5_within : GoodIn wsX5_digest wsX5_within := goodIn_r _ [8] (by decide +kernel) (by decide +kernel)
set_option maxRecDepth 20000 in
theorem gX5_digest_X5_within : GoodIn wsX5_digest (va_wsS RX5 139 yX5_within wsX5_within) := goodIn_app (goodIn_of _ (by decide +kernel)) ggX5_digest_X5_within
theorem dX5_digest_0 : decode cX5_digest 0 = .ok (.aload_n 0, 1) := by decide +kernel
theorem dX5_digest_1 : decode cX5_digest 1 = .ok (.aload_n 0, 1) := by decide +kernel
theorem dX5_digest_2 : decode cX5_digest 2 = .ok (.getfield 157, 3) := by decide +kernel
theorem dX5_digest_5 : decode cX5_digest 5 = .ok (.ifCond .eq 19, 3) := by decide +kernel
theorem dX5_digest_8 : decode cX5_digest 8 = .ok (.iload_n 1, 1) := by decide +kernel
theorem dX5_digest_9 : decode cX5_digest 9 = .ok (.i2l, 1) := by decide +kernel
theorem dX5_digest_10 : decode cX5_digest 10 = .ok (.lconst 0, 1) := by decide +kernel
theorem dX5_digest_11 : decode cX5_digest 11 = .ok (.ldc2_w 192, 3) := by decide +kernel
theorem dX5_digest_14 : decode cX5_digest 14 = .ok (.invokestatic 139, 3) := by decide +kernel
theorem dX5_digest_17 : decode cX5_digest 17 = .ok (.ifCond .eq 7, 3) := by decide +kernel
theorem dX5_digest_20 : decode cX5_digest 20 = .ok (.iconst 0, 1) := by decide +kernel
theorem dX5_digest_21 : decode cX5_digest 21 = .ok (.goto 4, 3) := by decide +kernel
theorem dX5_digest_24 : decode cX5_digest 24 = .ok (.iconst 1, 1) := by decide +kernel
theorem dX5_digest_25 : decode cX5_digest 25 = .ok (.putfield 136, 3) := by decide +kernel
theorem dX5_digest_28 : decode cX5_digest 28 = .ok (.aload_n 0, 1) := by decide +kernel
theorem dX5_digest_29 : decode cX5_digest 29 = .ok (.getfield 136, 3) := by decide +kernel
theorem dX5_digest_32 : decode cX5_digest 32 = .ok (.ifCond .le 7, 3) := by decide +kernel
theorem dX5_digest_35 : decode cX5_digest 35 = .ok (.iconst 0, 1) := by decide +kernel
theorem dX5_digest_36 : decode cX5_digest 36 = .ok (.goto 9, 3) := by decide +kernel
theorem dX5_digest_39 : decode cX5_digest 39 = .ok (.aload_n 0, 1) := by decide +kernel
theorem dX5_digest_40 : decode cX5_digest 40 = .ok (.getfield 46, 3) := by decide +kernel
theorem dX5_digest_43 : decode cX5_digest 43 = .ok (.iload_n 1, 1) := by decide +kernel
theorem dX5_digest_44 : decode cX5_digest 44 = .ok (.baload, 1) := by decide +kernel
theorem dX5_digest_45 : decode cX5_digest 45 = .ok (.ireturn, 1) := by decide +kernel
set_option maxRecDepth 20000 in
theorem ggX5_spent_X5_within : GoodIn wsX5_spent wsX5_within := goodIn_r _ [7] (by decide +kernel) (by decide +kernel)
set_option maxRecDepth 20000 in
theorem gX5_spent_X5_within : GoodIn wsX5_spent (va_wsS RX5 139 yX5_within wsX5_within) := goodIn_app (goodIn_of _ (by decide +kernel)) ggX5_spent_X5_within
theorem dX5_spent_0 : decode cX5_spent 0 = .ok (.aload_n 0, 1) := by decide +kernel
theorem dX5_spent_1 : decode cX5_spent 1 = .ok (.iconst 0, 1) := by decide +kernel
