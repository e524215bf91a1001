theorem dX0_mix_68 : decode cX0_mix 68 = .ok (.bipush 64, 2) := by decide +kernel
theorem dX0_mix_70 : decode cX0_mix 70 = .ok (.if_icmp .ge 131, 3) := by decide +kernel
theorem dX0_mix_73 : decode cX0_mix 73 = .ok (.iload 8, 2) := by decide +kernel
theorem dX0_mix_75 : decode cX0_mix 75 = .ok (.iload 5, 2) := by decide +kernel
theorem dX0_mix_77 : decode cX0_mix 77 = .ok (.bipush 6, 2) := by decide +kernel
theorem dX0_mix_79 : decode cX0_mix 79 = .ok (.invokestatic 46, 3) := by decide +kernel
theorem dX0_mix_82 : decode cX0_mix 82 = .ok (.iload 5, 2) := by decide +kernel
theorem dX0_mix_84 : decode cX0_mix 84 = .ok (.bipush 11, 2) := by decide +kernel
theorem dX0_mix_86 : decode cX0_mix 86 = .ok (.invokestatic 46, 3) := by decide +kernel
theorem dX0_mix_89 : decode cX0_mix 89 = .ok (.ixor, 1) := by decide +kernel
theorem dX0_mix_90 : decode cX0_mix 90 = .ok (.iload 5, 2) := by decide +kernel
theorem dX0_mix_92 : decode cX0_mix 92 = .ok (.bipush 25, 2) := by decide +kernel
theorem dX0_mix_94 : decode cX0_mix 94 = .ok (.invokestatic 46, 3) := by decide +kernel
theorem dX0_mix_97 : decode cX0_mix 97 = .ok (.ixor, 1) := by decide +kernel
theorem dX0_mix_98 : decode cX0_mix 98 = .ok (.iadd, 1) := by decide +kernel
theorem dX0_mix_99 : decode cX0_mix 99 = .ok (.iload 5, 2) := by decide +kernel
theorem dX0_mix_101 : decode cX0_mix 101 = .ok (.iload 6, 2) := by decide +kernel
theorem dX0_mix_103 : decode cX0_mix 103 = .ok (.iand, 1) := by decide +kernel
theorem dX0_mix_104 : decode cX0_mix 104 = .ok (.iload 5, 2) := by decide +kernel
theorem dX0_mix_106 : decode cX0_mix 106 = .ok (.iconst (-1), 1) := by decide +kernel
theorem dX0_mix_107 : decode cX0_mix 107 = .ok (.ixor, 1) := by decide +kernel
theorem dX0_mix_108 : decode cX0_mix 108 = .ok (.iload 7, 2) := by decide +kernel
theorem dX0_mix_110 : decode cX0_mix 110 = .ok (.iand, 1) := by decide +kernel
theorem dX0_mix_111 : decode cX0_mix 111 = .ok (.ixor, 1) := by decide +kernel
theorem dX0_mix_112 : decode cX0_mix 112 = .ok (.iadd, 1) := by decide +kernel
theorem dX0_mix_113 : decode cX0_mix 113 = .ok (.getstatic 50, 3) := by decide +kernel
theorem dX0_mix_116 : decode cX0_mix 116 = .ok (.iload 9, 2) := by decide +kernel
theorem dX0_mix_118 : decode cX0_mix 118 = .ok (.iaload, 1) := by decide +kernel
theorem dX0_mix_119 : decode cX0_mix 119 = .ok (.iadd, 1) := by decide +kernel
theorem dX0_mix_120 : decode cX0_mix 120 = .ok (.aload_n 0, 1) := by decide +kernel
theorem dX0_mix_121 : decode cX0_mix 121 = .ok (.getfield 9, 3) := by decide +kernel
theorem dX0_mix_124 : decode cX0_mix 124 = .ok (.iload 9, 2) := by decide +kernel
theorem dX0_mix_126 : decode cX0_mix 126 = .ok (.iaload, 1) := by decide +kernel
theorem dX0_mix_127 : decode cX0_mix 127 = .ok (.iadd, 1) := by decide +kernel
theorem dX0_mix_128 : decode cX0_mix 128 = .ok (.istore 10, 2) := by decide +kernel
theorem dX0_mix_130 : decode cX0_mix 130 = .ok (.iload_n 1, 1) := by decide +kernel
theorem dX0_mix_131 : decode cX0_mix 131 = .ok (.iconst 2, 1) := by decide +kernel
theorem dX0_mix_132 : decode cX0_mix 132 = .ok (.invokestatic 46, 3) := by decide +kernel
theorem dX0_mix_135 : decode cX0_mix 135 = .ok (.iload_n 1, 1) := by decide +kernel
theorem dX0_mix_136 : decode cX0_mix 136 = .ok (.bipush 13, 2) := by decide +kernel
theorem dX0_mix_138 : decode cX0_mix 138 = .ok (.invokestatic 46, 3) := by decide +kernel
theorem dX0_mix_141 : decode cX0_mix 141 = .ok (.ixor, 1) := by decide +kernel
theorem dX0_mix_142 : decode cX0_mix 142 = .ok (.iload_n 1, 1) := by decide +kernel
theorem dX0_mix_143 : decode cX0_mix 143 = .ok (.bipush 22, 2) := by decide +kernel
theorem dX0_mix_145 : decode cX0_mix 145 = .ok (.invokestatic 46, 3) := by decide +kernel
theorem dX0_mix_148 : decode cX0_mix 148 = .ok (.ixor, 1) := by decide +kernel
theorem dX0_mix_149 : decode cX0_mix 149 = .ok (.iload_n 1, 1) := by decide +kernel
theorem dX0_mix_150 : decode cX0_mix 150 = .ok (.iload_n 2, 1) := by decide +kernel
theorem dX0_mix_151 : decode cX0_mix 151 = .ok (.iand, 1) := by decide +kernel
theorem dX0_mix_152 : decode cX0_mix 152 = .ok (.iload_n 1, 1) := by decide +kernel
theorem dX0_mix_153 : decode cX0_mix 153 = .ok (.iload_n 3, 1) := by decide +kernel
theorem dX0_mix_154 : decode cX0_mix 154 = .ok (.iand, 1) := by decide +kernel
theorem dX0_mix_155 : decode cX0_mix 155 = .ok (.ixor, 1) := by decide +kernel
theorem dX0_mix_156 : decode cX0_mix 156 = .ok (.iload_n 2, 1) := by decide +kernel
theorem dX0_mix_157 : decode cX0_mix 157 = .ok (.iload_n 3, 1) := by decide +kernel
theorem dX0_mix_158 : decode cX0_mix 158 = .ok (.iand, 1) := by decide +kernel
theorem dX0_mix_159 : decode cX0_mix 159 = .ok (.ixor, 1) := by decide +kernel
theorem dX0_mix_160 : decode cX0_mix 160 = .ok (.iadd, 1) := by decide +kernel
theorem dX0_mix_161 : decode cX0_mix 161 = .ok (.istore 11, 2) := by decide +kernel
theorem dX0_mix_163 : decode cX0_mix 163 = .ok (.iload 7, 2) := by decide +kernel
theorem dX0_mix_165 : decode cX0_mix 165 = .ok (.istore 8, 2) := by decide +kernel
theorem dX0_mix_167 : decode cX0_mix 167 = .ok (.iload 6, 2) := by decide +kernel
theorem dX0_mix_169 : decode cX0_mix 169 = .ok (.istore 7, 2) := by decide +kernel
theorem dX0_mix_171 : decode cX0_mix 171 = .ok (.iload 5, 2) := by decide +kernel
theorem dX0_mix_173 : decode cX0_mix 173 = .ok (.istore 6, 2) := by decide +kernel
theorem dX0_mix_175 : decode cX0_mix 175 = .ok (.iload 4, 2) := by decide +kernel
theorem dX0_mix_177 : decode cX0_mix 177 = .ok (.iload 10, 2) := by decide +kernel
theorem dX0_mix_179 : decode cX0_mix 179 = .ok (.iadd, 1) := by decide +kernel
theorem dX0_mix_180 : decode cX0_mix 180 = .ok (.istore 5, 2) := by decide +kernel
theorem dX0_mix_182 : decode cX0_mix 182 = .ok (.iload_n 3, 1) := by decide +kernel
theorem dX0_mix_183 : decode cX0_mix 183 = .ok (.istore 4, 2) := by decide +kernel
theorem dX0_mix_185 : decode cX0_mix 185 = .ok (.iload_n 2, 1) := by decide +kernel
theorem dX0_mix_186 : decode cX0_mix 186 = .ok (.istore_n 3, 1) := by decide +kernel
theorem dX0_mix_187 : decode cX0_mix 187 = .ok (.iload_n 1, 1) := by decide +kernel
theorem dX0_mix_188 : decode cX0_mix 188 = .ok (.istore_n 2, 1) := by decide +kernel
theorem dX0_mix_189 : decode cX0_mix 189 = .ok (.iload 10, 2) := by decide +kernel
theorem dX0_mix_191 : decode cX0_mix 191 = .ok (.iload 11, 2) := by decide +kernel
theorem dX0_mix_193 : decode cX0_mix 193 = .ok (.iadd, 1) := by decide +kernel
theorem dX0_mix_194 : decode cX0_mix 194 = .ok (.istore_n 1, 1) := by decide +kernel
theorem dX0_mix_195 : decode cX0_mix 195 = .ok (.iinc 9 1, 3) := by decide +kernel
theorem dX0_mix_198 : decode cX0_mix 198 = .ok (.goto (-132), 3) := by decide +kernel
theorem dX0_mix_201 : decode cX0_mix 201 = .ok (.aload_n 0, 1) := by decide +kernel
theorem dX0_mix_202 : decode cX0_mix 202 = .ok (.getfield 13, 3) := by decide +kernel
theorem dX0_mix_205 : decode cX0_mix 205 = .ok (.iconst 0, 1) := by decide +kernel
theorem dX0_mix_206 : decode cX0_mix 206 = .ok (.dup2, 1) := by decide +kernel
theorem dX0_mix_207 : decode cX0_mix 207 = .ok (.iaload, 1) := by decide +kernel
theorem dX0_mix_208 : decode cX0_mix 208 = .ok (.iload_n 1, 1) := by decide +kernel
theorem dX0_mix_209 : decode cX0_mix 209 = .ok (.iadd, 1) := by decide +kernel
theorem dX0_mix_210 : decode cX0_mix 210 = .ok (.iastore, 1) := by decide +kernel
theorem dX0_mix_211 : decode cX0_mix 211 = .ok (.aload_n 0, 1) := by decide +kernel
theorem dX0_mix_212 : decode cX0_mix 212 = .ok (.getfield 13, 3) := by decide +kernel
theorem dX0_mix_215 : decode cX0_mix 215 = .ok (.iconst 1, 1) := by decide +kernel
theorem dX0_mix_216 : decode cX0_mix 216 = .ok (.dup2, 1) := by decide +kernel
theorem dX0_mix_217 : decode cX0_mix 217 = .ok (.iaload, 1) := by decide +kernel
theorem dX0_mix_218 : decode cX0_mix 218 = .ok (.iload_n 2, 1) := by decide +kernel
theorem dX0_mix_219 : decode cX0_mix 219 = .ok (.iadd, 1) := by decide +kernel
theorem dX0_mix_220 : decode cX0_mix 220 = .ok (.iastore, 1) := by decide +kernel
theorem dX0_mix_221 : decode cX0_mix 221 = .ok (.aload_n 0, 1) := by decide +kernel
theorem dX0_mix_222 : decode cX0_mix 222 = .ok (.getfield 13, 3) := by decide +kernel
theorem dX0_mix_225 : decode cX0_mix 225 = .ok (.iconst 2, 1) := by decide +kernel
theorem dX0_mix_226 : decode cX0_mix 226 = .ok (.dup2, 1) := by decide +kernel
theorem dX0_mix_227 : decode cX0_mix 227 = .ok (.iaload, 1) := by decide +kernel
theorem dX0_mix_228 : decode cX0_mix 228 = .ok (.iload_n 3, 1) := by decide +kernel
theorem dX0_mix_229 : decode cX0_mix 229 = .ok (.iadd, 1) := by decide +kernel
theorem dX0_mix_230 : decode cX0_mix 230 = .ok (.iastore, 1) := by decide +kernel
theorem dX0_mix_231 : decode cX0_mix 231 = .ok (.aload_n 0, 1) := by decide +kernel
theorem dX0_mix_232 : decode cX0_mix 232 = .ok (.getfield 13, 3) := by decide +kernel
theorem dX0_mix_235 : decode cX0_mix 235 = .ok (.iconst 3, 1) := by decide +kernel
theorem dX0_mix_236 : decode cX0_mix 236 = .ok (.dup2, 1) := by decide +kernel
theorem dX0_mix_237 : decode cX0_mix 237 = .ok (.iaload, 1) := by decide +kernel
theorem dX0_mix_238 : decode cX0_mix 238 = .ok (.iload 4, 2) := by decide +kernel
theorem dX0_mix_240 : decode cX0_mix 240 = .ok (.iadd, 1) := by decide +kernel
theorem dX0_mix_241 : decode cX0_mix 241 = .ok (.iastore, 1) := by decide +kernel
theorem dX0_mix_242 : decode cX0_mix 242 = .ok (.aload_n 0, 1) := by decide +kernel
theorem dX0_mix_243 : decode cX0_mix 243 = .ok (.getfield 13, 3) := by decide +kernel
theorem dX0_mix_246 : decode cX0_mix 246 = .ok (.iconst 4, 1) := by decide +kernel
theorem dX0_mix_247 : decode cX0_mix 247 = .ok (.dup2, 1) := by decide +kernel
theorem dX0_mix_248 : decode cX0_mix 248 = .ok (.iaload, 1) := by decide +kernel
theorem dX0_mix_249 : decode cX0_mix 249 = .ok (.iload 5, 2) := by decide +kernel
theorem dX0_mix_251 : decode cX0_mix 251 = .ok (.iadd, 1) := by decide +kernel
theorem dX0_mix_252 : decode cX0_mix 252 = .ok (.iastore, 1) := by decide +kernel
theorem dX0_mix_253 : decode cX0_mix 253 = .ok (.aload_n 0, 1) := by decide +kernel
theorem dX0_mix_254 : decode cX0_mix 254 = .ok (.getfield 13, 3) := by decide +kernel
theorem dX0_mix_257 : decode cX0_mix 257 = .ok (.iconst 5, 1) := by decide +kernel
theorem dX0_mix_258 : decode cX0_mix 258 = .ok (.dup2, 1) := by decide +kernel
theorem dX0_mix_259 : decode cX0_mix 259 = .ok (.iaload, 1) := by decide +kernel
theorem dX0_mix_260 : decode cX0_mix 260 = .ok (.iload 6, 2) := by decide +kernel
theorem dX0_mix_262 : decode cX0_mix 262 = .ok (.iadd, 1) := by decide +kernel
theorem dX0_mix_263 : decode cX0_mix 263 = .ok (.iastore, 1) := by decide +kernel
theorem dX0_mix_264 : decode cX0_mix 264 = .ok (.aload_n 0, 1) := by decide +kernel
theorem dX0_mix_265 : decode cX0_mix 265 = .ok (.getfield 13, 3) := by decide +kernel
theorem dX0_mix_268 : decode cX0_mix 268 = .ok (.bipush 6, 2) := by decide +kernel
theorem dX0_mix_270 : decode cX0_mix 270 = .ok (.dup2, 1) := by decide +kernel
theorem dX0_mix_271 : decode cX0_mix 271 = .ok (.iaload, 1) := by decide +kernel
theorem dX0_mix_272 : decode cX0_mix 272 = .ok (.iload 7, 2) := by decide +kernel
theorem dX0_mix_274 : decode cX0_mix 274 = .ok (.iadd, 1) := by decide +kernel
theorem dX0_mix_275 : decode cX0_mix 275 = .ok (.iastore, 1) := by decide +kernel
theorem dX0_mix_276 : decode cX0_mix 276 = .ok (.aload_n 0, 1) := by decide +kernel
theorem dX0_mix_277 : decode cX0_mix 277 = .ok (.getfield 13, 3) := by decide +kernel
theorem dX0_mix_280 : decode cX0_mix 280 = .ok (.bipush 7, 2) := by decide +kernel
theorem dX0_mix_282 : decode cX0_mix 282 = .ok (.dup2, 1) := by decide +kernel
theorem dX0_mix_283 : decode cX0_mix 283 = .ok (.iaload, 1) := by decide +kernel
theorem dX0_mix_284 : decode cX0_mix 284 = .ok (.iload 8, 2) := by decide +kernel
theorem dX0_mix_286 : decode cX0_mix 286 = .ok (.iadd, 1) := by decide +kernel
theorem dX0_mix_287 : decode cX0_mix 287 = .ok (.iastore, 1) := by decide +kernel
theorem dX0_mix_288 : decode cX0_mix 288 = .ok (.return_, 1) := by decide +kernel
theorem dX0_ror_0 : decode cX0_ror 0 = .ok (.iload_n 0, 1) := by decide +kernel
theorem dX0_ror_1 : decode cX0_ror 1 = .ok (.iload_n 1, 1) := by decide +kernel
theorem dX0_ror_2 : decode cX0_ror 2 = .ok (.iushr, 1) := by decide +kernel
theorem dX0_ror_3 : decode cX0_ror 3 = .ok (.iload_n 0, 1) := by decide +kernel
theorem dX0_ror_4 : decode cX0_ror 4 = .ok (.bipush 32, 2) := by decide +kernel
theorem dX0_ror_6 : decode cX0_ror 6 = .ok (.iload_n 1, 1) := by decide +kernel
theorem dX0_ror_7 : decode cX0_ror 7 = .ok (.isub, 1) := by decide +kernel
theorem dX0_ror_8 : decode cX0_ror 8 = .ok (.ishl, 1) := by decide +kernel
theorem dX0_ror_9 : decode cX0_ror 9 = .ok (.ior, 1) := by decide +kernel
theorem dX0_ror_10 : decode cX0_ror 10 = .ok (.ireturn, 1) := by decide +kernel
theorem dX1_joined_0 : decode cX1_joined 0 = .ok (.iload_n 0, 1) := by decide +kernel
theorem dX1_joined_1 : decode cX1_joined 1 = .ok (.i2l, 1) := by decide +kernel
theorem dX1_joined_2 : decode cX1_joined 2 = .ok (.bipush 51, 2) := by decide +kernel
theorem dX1_joined_4 : decode cX1_joined 4 = .ok (.lshl, 1) := by decide +kernel
