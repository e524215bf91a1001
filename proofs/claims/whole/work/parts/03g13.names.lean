theorem dX5_reckon_118 : decode cX5_reckon 118 = .ok (.iload 5, 2) := by decide +kernel
theorem dX5_reckon_120 : decode cX5_reckon 120 = .ok (.bipush 7, 2) := by decide +kernel
theorem dX5_reckon_122 : decode cX5_reckon 122 = .ok (.invokestatic 153, 3) := by decide +kernel
theorem dX5_reckon_125 : decode cX5_reckon 125 = .ok (.iload 5, 2) := by decide +kernel
theorem dX5_reckon_127 : decode cX5_reckon 127 = .ok (.bipush 18, 2) := by decide +kernel
theorem dX5_reckon_129 : decode cX5_reckon 129 = .ok (.invokestatic 153, 3) := by decide +kernel
theorem dX5_reckon_132 : decode cX5_reckon 132 = .ok (.ixor, 1) := by decide +kernel
theorem dX5_reckon_133 : decode cX5_reckon 133 = .ok (.iload 5, 2) := by decide +kernel
theorem dX5_reckon_135 : decode cX5_reckon 135 = .ok (.iconst 3, 1) := by decide +kernel
theorem dX5_reckon_136 : decode cX5_reckon 136 = .ok (.iushr, 1) := by decide +kernel
theorem dX5_reckon_137 : decode cX5_reckon 137 = .ok (.ixor, 1) := by decide +kernel
theorem dX5_reckon_138 : decode cX5_reckon 138 = .ok (.iadd, 1) := by decide +kernel
theorem dX5_reckon_139 : decode cX5_reckon 139 = .ok (.aload_n 0, 1) := by decide +kernel
theorem dX5_reckon_140 : decode cX5_reckon 140 = .ok (.getfield 49, 3) := by decide +kernel
theorem dX5_reckon_143 : decode cX5_reckon 143 = .ok (.iload 4, 2) := by decide +kernel
theorem dX5_reckon_145 : decode cX5_reckon 145 = .ok (.bipush 7, 2) := by decide +kernel
theorem dX5_reckon_147 : decode cX5_reckon 147 = .ok (.isub, 1) := by decide +kernel
theorem dX5_reckon_148 : decode cX5_reckon 148 = .ok (.iaload, 1) := by decide +kernel
theorem dX5_reckon_149 : decode cX5_reckon 149 = .ok (.iadd, 1) := by decide +kernel
theorem dX5_reckon_150 : decode cX5_reckon 150 = .ok (.iload 6, 2) := by decide +kernel
theorem dX5_reckon_152 : decode cX5_reckon 152 = .ok (.bipush 17, 2) := by decide +kernel
theorem dX5_reckon_154 : decode cX5_reckon 154 = .ok (.invokestatic 153, 3) := by decide +kernel
theorem dX5_reckon_157 : decode cX5_reckon 157 = .ok (.iload 6, 2) := by decide +kernel
theorem dX5_reckon_159 : decode cX5_reckon 159 = .ok (.bipush 19, 2) := by decide +kernel
theorem dX5_reckon_161 : decode cX5_reckon 161 = .ok (.invokestatic 153, 3) := by decide +kernel
theorem dX5_reckon_164 : decode cX5_reckon 164 = .ok (.ixor, 1) := by decide +kernel
theorem dX5_reckon_165 : decode cX5_reckon 165 = .ok (.iload 6, 2) := by decide +kernel
theorem dX5_reckon_167 : decode cX5_reckon 167 = .ok (.bipush 10, 2) := by decide +kernel
theorem dX5_reckon_169 : decode cX5_reckon 169 = .ok (.iushr, 1) := by decide +kernel
theorem dX5_reckon_170 : decode cX5_reckon 170 = .ok (.ixor, 1) := by decide +kernel
theorem dX5_reckon_171 : decode cX5_reckon 171 = .ok (.iadd, 1) := by decide +kernel
theorem dX5_reckon_172 : decode cX5_reckon 172 = .ok (.iastore, 1) := by decide +kernel
theorem dX5_reckon_173 : decode cX5_reckon 173 = .ok (.iinc 4 1, 3) := by decide +kernel
theorem dX5_reckon_176 : decode cX5_reckon 176 = .ok (.goto (-173), 3) := by decide +kernel
theorem dX5_reckon_179 : decode cX5_reckon 179 = .ok (.iconst 0, 1) := by decide +kernel
theorem dX5_reckon_180 : decode cX5_reckon 180 = .ok (.istore 4, 2) := by decide +kernel
theorem dX5_reckon_182 : decode cX5_reckon 182 = .ok (.iload 4, 2) := by decide +kernel
theorem dX5_reckon_184 : decode cX5_reckon 184 = .ok (.bipush 8, 2) := by decide +kernel
theorem dX5_reckon_186 : decode cX5_reckon 186 = .ok (.if_icmp .ge 23, 3) := by decide +kernel
theorem dX5_reckon_189 : decode cX5_reckon 189 = .ok (.aload_n 0, 1) := by decide +kernel
theorem dX5_reckon_190 : decode cX5_reckon 190 = .ok (.getfield 52, 3) := by decide +kernel
theorem dX5_reckon_193 : decode cX5_reckon 193 = .ok (.iload 4, 2) := by decide +kernel
theorem dX5_reckon_195 : decode cX5_reckon 195 = .ok (.aload_n 0, 1) := by decide +kernel
theorem dX5_reckon_196 : decode cX5_reckon 196 = .ok (.getfield 130, 3) := by decide +kernel
theorem dX5_reckon_199 : decode cX5_reckon 199 = .ok (.iload 4, 2) := by decide +kernel
theorem dX5_reckon_201 : decode cX5_reckon 201 = .ok (.iaload, 1) := by decide +kernel
theorem dX5_reckon_202 : decode cX5_reckon 202 = .ok (.iastore, 1) := by decide +kernel
theorem dX5_reckon_203 : decode cX5_reckon 203 = .ok (.iinc 4 1, 3) := by decide +kernel
theorem dX5_reckon_206 : decode cX5_reckon 206 = .ok (.goto (-24), 3) := by decide +kernel
theorem dX5_reckon_209 : decode cX5_reckon 209 = .ok (.iconst 0, 1) := by decide +kernel
theorem dX5_reckon_210 : decode cX5_reckon 210 = .ok (.istore 4, 2) := by decide +kernel
theorem dX5_reckon_212 : decode cX5_reckon 212 = .ok (.iload 4, 2) := by decide +kernel
theorem dX5_reckon_214 : decode cX5_reckon 214 = .ok (.bipush 64, 2) := by decide +kernel
theorem dX5_reckon_216 : decode cX5_reckon 216 = .ok (.if_icmp .ge 212, 3) := by decide +kernel
theorem dX5_reckon_219 : decode cX5_reckon 219 = .ok (.aload_n 0, 1) := by decide +kernel
theorem dX5_reckon_220 : decode cX5_reckon 220 = .ok (.getfield 52, 3) := by decide +kernel
theorem dX5_reckon_223 : decode cX5_reckon 223 = .ok (.iconst 4, 1) := by decide +kernel
theorem dX5_reckon_224 : decode cX5_reckon 224 = .ok (.iaload, 1) := by decide +kernel
theorem dX5_reckon_225 : decode cX5_reckon 225 = .ok (.istore 5, 2) := by decide +kernel
theorem dX5_reckon_227 : decode cX5_reckon 227 = .ok (.aload_n 0, 1) := by decide +kernel
theorem dX5_reckon_228 : decode cX5_reckon 228 = .ok (.getfield 52, 3) := by decide +kernel
theorem dX5_reckon_231 : decode cX5_reckon 231 = .ok (.iconst 0, 1) := by decide +kernel
theorem dX5_reckon_232 : decode cX5_reckon 232 = .ok (.iaload, 1) := by decide +kernel
theorem dX5_reckon_233 : decode cX5_reckon 233 = .ok (.istore 6, 2) := by decide +kernel
theorem dX5_reckon_235 : decode cX5_reckon 235 = .ok (.aload_n 0, 1) := by decide +kernel
theorem dX5_reckon_236 : decode cX5_reckon 236 = .ok (.getfield 52, 3) := by decide +kernel
theorem dX5_reckon_239 : decode cX5_reckon 239 = .ok (.bipush 7, 2) := by decide +kernel
theorem dX5_reckon_241 : decode cX5_reckon 241 = .ok (.iaload, 1) := by decide +kernel
theorem dX5_reckon_242 : decode cX5_reckon 242 = .ok (.iload 5, 2) := by decide +kernel
theorem dX5_reckon_244 : decode cX5_reckon 244 = .ok (.bipush 6, 2) := by decide +kernel
theorem dX5_reckon_246 : decode cX5_reckon 246 = .ok (.invokestatic 153, 3) := by decide +kernel
theorem dX5_reckon_249 : decode cX5_reckon 249 = .ok (.iload 5, 2) := by decide +kernel
theorem dX5_reckon_251 : decode cX5_reckon 251 = .ok (.bipush 11, 2) := by decide +kernel
theorem dX5_reckon_253 : decode cX5_reckon 253 = .ok (.invokestatic 153, 3) := by decide +kernel
theorem dX5_reckon_256 : decode cX5_reckon 256 = .ok (.ixor, 1) := by decide +kernel
theorem dX5_reckon_257 : decode cX5_reckon 257 = .ok (.iload 5, 2) := by decide +kernel
theorem dX5_reckon_259 : decode cX5_reckon 259 = .ok (.bipush 25, 2) := by decide +kernel
theorem dX5_reckon_261 : decode cX5_reckon 261 = .ok (.invokestatic 153, 3) := by decide +kernel
theorem dX5_reckon_264 : decode cX5_reckon 264 = .ok (.ixor, 1) := by decide +kernel
theorem dX5_reckon_265 : decode cX5_reckon 265 = .ok (.iadd, 1) := by decide +kernel
theorem dX5_reckon_266 : decode cX5_reckon 266 = .ok (.iload 5, 2) := by decide +kernel
theorem dX5_reckon_268 : decode cX5_reckon 268 = .ok (.aload_n 0, 1) := by decide +kernel
theorem dX5_reckon_269 : decode cX5_reckon 269 = .ok (.getfield 52, 3) := by decide +kernel
theorem dX5_reckon_272 : decode cX5_reckon 272 = .ok (.iconst 5, 1) := by decide +kernel
theorem dX5_reckon_273 : decode cX5_reckon 273 = .ok (.iaload, 1) := by decide +kernel
theorem dX5_reckon_274 : decode cX5_reckon 274 = .ok (.iand, 1) := by decide +kernel
theorem dX5_reckon_275 : decode cX5_reckon 275 = .ok (.iload 5, 2) := by decide +kernel
theorem dX5_reckon_277 : decode cX5_reckon 277 = .ok (.iconst (-1), 1) := by decide +kernel
theorem dX5_reckon_278 : decode cX5_reckon 278 = .ok (.ixor, 1) := by decide +kernel
theorem dX5_reckon_279 : decode cX5_reckon 279 = .ok (.aload_n 0, 1) := by decide +kernel
theorem dX5_reckon_280 : decode cX5_reckon 280 = .ok (.getfield 52, 3) := by decide +kernel
theorem dX5_reckon_283 : decode cX5_reckon 283 = .ok (.bipush 6, 2) := by decide +kernel
theorem dX5_reckon_285 : decode cX5_reckon 285 = .ok (.iaload, 1) := by decide +kernel
theorem dX5_reckon_286 : decode cX5_reckon 286 = .ok (.iand, 1) := by decide +kernel
theorem dX5_reckon_287 : decode cX5_reckon 287 = .ok (.ixor, 1) := by decide +kernel
theorem dX5_reckon_288 : decode cX5_reckon 288 = .ok (.iadd, 1) := by decide +kernel
theorem dX5_reckon_289 : decode cX5_reckon 289 = .ok (.aload_n 0, 1) := by decide +kernel
theorem dX5_reckon_290 : decode cX5_reckon 290 = .ok (.getfield 119, 3) := by decide +kernel
theorem dX5_reckon_293 : decode cX5_reckon 293 = .ok (.iload 4, 2) := by decide +kernel
theorem dX5_reckon_295 : decode cX5_reckon 295 = .ok (.iaload, 1) := by decide +kernel
theorem dX5_reckon_296 : decode cX5_reckon 296 = .ok (.iadd, 1) := by decide +kernel
theorem dX5_reckon_297 : decode cX5_reckon 297 = .ok (.aload_n 0, 1) := by decide +kernel
theorem dX5_reckon_298 : decode cX5_reckon 298 = .ok (.getfield 49, 3) := by decide +kernel
theorem dX5_reckon_301 : decode cX5_reckon 301 = .ok (.iload 4, 2) := by decide +kernel
theorem dX5_reckon_303 : decode cX5_reckon 303 = .ok (.iaload, 1) := by decide +kernel
theorem dX5_reckon_304 : decode cX5_reckon 304 = .ok (.iadd, 1) := by decide +kernel
theorem dX5_reckon_305 : decode cX5_reckon 305 = .ok (.istore 7, 2) := by decide +kernel
theorem dX5_reckon_307 : decode cX5_reckon 307 = .ok (.iload 6, 2) := by decide +kernel
theorem dX5_reckon_309 : decode cX5_reckon 309 = .ok (.iconst 2, 1) := by decide +kernel
theorem dX5_reckon_310 : decode cX5_reckon 310 = .ok (.invokestatic 153, 3) := by decide +kernel
theorem dX5_reckon_313 : decode cX5_reckon 313 = .ok (.iload 6, 2) := by decide +kernel
theorem dX5_reckon_315 : decode cX5_reckon 315 = .ok (.bipush 13, 2) := by decide +kernel
theorem dX5_reckon_317 : decode cX5_reckon 317 = .ok (.invokestatic 153, 3) := by decide +kernel
theorem dX5_reckon_320 : decode cX5_reckon 320 = .ok (.ixor, 1) := by decide +kernel
theorem dX5_reckon_321 : decode cX5_reckon 321 = .ok (.iload 6, 2) := by decide +kernel
theorem dX5_reckon_323 : decode cX5_reckon 323 = .ok (.bipush 22, 2) := by decide +kernel
theorem dX5_reckon_325 : decode cX5_reckon 325 = .ok (.invokestatic 153, 3) := by decide +kernel
theorem dX5_reckon_328 : decode cX5_reckon 328 = .ok (.ixor, 1) := by decide +kernel
theorem dX5_reckon_329 : decode cX5_reckon 329 = .ok (.iload 6, 2) := by decide +kernel
theorem dX5_reckon_331 : decode cX5_reckon 331 = .ok (.aload_n 0, 1) := by decide +kernel
theorem dX5_reckon_332 : decode cX5_reckon 332 = .ok (.getfield 52, 3) := by decide +kernel
theorem dX5_reckon_335 : decode cX5_reckon 335 = .ok (.iconst 1, 1) := by decide +kernel
theorem dX5_reckon_336 : decode cX5_reckon 336 = .ok (.iaload, 1) := by decide +kernel
theorem dX5_reckon_337 : decode cX5_reckon 337 = .ok (.iand, 1) := by decide +kernel
theorem dX5_reckon_338 : decode cX5_reckon 338 = .ok (.iload 6, 2) := by decide +kernel
theorem dX5_reckon_340 : decode cX5_reckon 340 = .ok (.aload_n 0, 1) := by decide +kernel
theorem dX5_reckon_341 : decode cX5_reckon 341 = .ok (.getfield 52, 3) := by decide +kernel
theorem dX5_reckon_344 : decode cX5_reckon 344 = .ok (.iconst 2, 1) := by decide +kernel
theorem dX5_reckon_345 : decode cX5_reckon 345 = .ok (.iaload, 1) := by decide +kernel
theorem dX5_reckon_346 : decode cX5_reckon 346 = .ok (.iand, 1) := by decide +kernel
theorem dX5_reckon_347 : decode cX5_reckon 347 = .ok (.ixor, 1) := by decide +kernel
theorem dX5_reckon_348 : decode cX5_reckon 348 = .ok (.aload_n 0, 1) := by decide +kernel
theorem dX5_reckon_349 : decode cX5_reckon 349 = .ok (.getfield 52, 3) := by decide +kernel
theorem dX5_reckon_352 : decode cX5_reckon 352 = .ok (.iconst 1, 1) := by decide +kernel
theorem dX5_reckon_353 : decode cX5_reckon 353 = .ok (.iaload, 1) := by decide +kernel
theorem dX5_reckon_354 : decode cX5_reckon 354 = .ok (.aload_n 0, 1) := by decide +kernel
theorem dX5_reckon_355 : decode cX5_reckon 355 = .ok (.getfield 52, 3) := by decide +kernel
theorem dX5_reckon_358 : decode cX5_reckon 358 = .ok (.iconst 2, 1) := by decide +kernel
theorem dX5_reckon_359 : decode cX5_reckon 359 = .ok (.iaload, 1) := by decide +kernel
theorem dX5_reckon_360 : decode cX5_reckon 360 = .ok (.iand, 1) := by decide +kernel
theorem dX5_reckon_361 : decode cX5_reckon 361 = .ok (.ixor, 1) := by decide +kernel
theorem dX5_reckon_362 : decode cX5_reckon 362 = .ok (.iadd, 1) := by decide +kernel
theorem dX5_reckon_363 : decode cX5_reckon 363 = .ok (.istore 8, 2) := by decide +kernel
theorem dX5_reckon_365 : decode cX5_reckon 365 = .ok (.bipush 7, 2) := by decide +kernel
theorem dX5_reckon_367 : decode cX5_reckon 367 = .ok (.istore 9, 2) := by decide +kernel
theorem dX5_reckon_369 : decode cX5_reckon 369 = .ok (.iload 9, 2) := by decide +kernel
theorem dX5_reckon_371 : decode cX5_reckon 371 = .ok (.ifCond .le 25, 3) := by decide +kernel
theorem dX5_reckon_374 : decode cX5_reckon 374 = .ok (.aload_n 0, 1) := by decide +kernel
theorem dX5_reckon_375 : decode cX5_reckon 375 = .ok (.getfield 52, 3) := by decide +kernel
theorem dX5_reckon_378 : decode cX5_reckon 378 = .ok (.iload 9, 2) := by decide +kernel
theorem dX5_reckon_380 : decode cX5_reckon 380 = .ok (.aload_n 0, 1) := by decide +kernel
theorem dX5_reckon_381 : decode cX5_reckon 381 = .ok (.getfield 52, 3) := by decide +kernel
theorem dX5_reckon_384 : decode cX5_reckon 384 = .ok (.iload 9, 2) := by decide +kernel
theorem dX5_reckon_386 : decode cX5_reckon 386 = .ok (.iconst 1, 1) := by decide +kernel
theorem dX5_reckon_387 : decode cX5_reckon 387 = .ok (.isub, 1) := by decide +kernel
theorem dX5_reckon_388 : decode cX5_reckon 388 = .ok (.iaload, 1) := by decide +kernel
theorem dX5_reckon_389 : decode cX5_reckon 389 = .ok (.iastore, 1) := by decide +kernel
theorem dX5_reckon_390 : decode cX5_reckon 390 = .ok (.iinc 9 (-1), 3) := by decide +kernel
theorem dX5_reckon_393 : decode cX5_reckon 393 = .ok (.goto (-24), 3) := by decide +kernel
theorem dX5_reckon_396 : decode cX5_reckon 396 = .ok (.aload_n 0, 1) := by decide +kernel
