theorem dX4_spendOrRefuse_36 : decode cX4_spendOrRefuse 36 = .ok (.ireturn, 1) := by decide +kernel
theorem dX4_spendOrRefuse_37 : decode cX4_spendOrRefuse 37 = .ok (.aload_n 0, 1) := by decide +kernel
theorem dX4_spendOrRefuse_38 : decode cX4_spendOrRefuse 38 = .ok (.getfield 29, 3) := by decide +kernel
theorem dX4_spendOrRefuse_41 : decode cX4_spendOrRefuse 41 = .ok (.iload_n 1, 1) := by decide +kernel
theorem dX4_spendOrRefuse_42 : decode cX4_spendOrRefuse 42 = .ok (.iload_n 2, 1) := by decide +kernel
theorem dX4_spendOrRefuse_43 : decode cX4_spendOrRefuse 43 = .ok (.aload_n 0, 1) := by decide +kernel
theorem dX4_spendOrRefuse_44 : decode cX4_spendOrRefuse 44 = .ok (.getfield 95, 3) := by decide +kernel
theorem dX4_spendOrRefuse_47 : decode cX4_spendOrRefuse 47 = .ok (.invokevirtual 178, 3) := by decide +kernel
theorem dX4_spendOrRefuse_50 : decode cX4_spendOrRefuse 50 = .ok (.iconst 1, 1) := by decide +kernel
theorem dX4_spendOrRefuse_51 : decode cX4_spendOrRefuse 51 = .ok (.ireturn, 1) := by decide +kernel
theorem dX5_init_0 : decode cX5_init 0 = .ok (.aload_n 0, 1) := by decide +kernel
theorem dX5_init_1 : decode cX5_init 1 = .ok (.invokespecial 1, 3) := by decide +kernel
theorem dX5_init_4 : decode cX5_init 4 = .ok (.aload_n 0, 1) := by decide +kernel
theorem dX5_init_5 : decode cX5_init 5 = .ok (.bipush 15, 2) := by decide +kernel
theorem dX5_init_7 : decode cX5_init 7 = .ok (.newarray .int, 2) := by decide +kernel
theorem dX5_init_9 : decode cX5_init 9 = .ok (.putfield 7, 3) := by decide +kernel
theorem dX5_init_12 : decode cX5_init 12 = .ok (.aload_n 0, 1) := by decide +kernel
theorem dX5_init_13 : decode cX5_init 13 = .ok (.bipush 15, 2) := by decide +kernel
theorem dX5_init_15 : decode cX5_init 15 = .ok (.newarray .int, 2) := by decide +kernel
theorem dX5_init_17 : decode cX5_init 17 = .ok (.putfield 13, 3) := by decide +kernel
theorem dX5_init_20 : decode cX5_init 20 = .ok (.aload_n 0, 1) := by decide +kernel
theorem dX5_init_21 : decode cX5_init 21 = .ok (.bipush 15, 2) := by decide +kernel
theorem dX5_init_23 : decode cX5_init 23 = .ok (.newarray .int, 2) := by decide +kernel
theorem dX5_init_25 : decode cX5_init 25 = .ok (.putfield 16, 3) := by decide +kernel
theorem dX5_init_28 : decode cX5_init 28 = .ok (.aload_n 0, 1) := by decide +kernel
theorem dX5_init_29 : decode cX5_init 29 = .ok (.bipush 15, 2) := by decide +kernel
theorem dX5_init_31 : decode cX5_init 31 = .ok (.newarray .boolean, 2) := by decide +kernel
theorem dX5_init_33 : decode cX5_init 33 = .ok (.putfield 19, 3) := by decide +kernel
theorem dX5_init_36 : decode cX5_init 36 = .ok (.aload_n 0, 1) := by decide +kernel
theorem dX5_init_37 : decode cX5_init 37 = .ok (.sipush 480, 3) := by decide +kernel
theorem dX5_init_40 : decode cX5_init 40 = .ok (.newarray .byte, 2) := by decide +kernel
theorem dX5_init_42 : decode cX5_init 42 = .ok (.putfield 23, 3) := by decide +kernel
theorem dX5_init_45 : decode cX5_init 45 = .ok (.aload_n 0, 1) := by decide +kernel
theorem dX5_init_46 : decode cX5_init 46 = .ok (.bipush 16, 2) := by decide +kernel
theorem dX5_init_48 : decode cX5_init 48 = .ok (.newarray .int, 2) := by decide +kernel
theorem dX5_init_50 : decode cX5_init 50 = .ok (.putfield 27, 3) := by decide +kernel
theorem dX5_init_53 : decode cX5_init 53 = .ok (.aload_n 0, 1) := by decide +kernel
theorem dX5_init_54 : decode cX5_init 54 = .ok (.bipush 40, 2) := by decide +kernel
theorem dX5_init_56 : decode cX5_init 56 = .ok (.newarray .int, 2) := by decide +kernel
theorem dX5_init_58 : decode cX5_init 58 = .ok (.putfield 30, 3) := by decide +kernel
theorem dX5_init_61 : decode cX5_init 61 = .ok (.aload_n 0, 1) := by decide +kernel
theorem dX5_init_62 : decode cX5_init 62 = .ok (.sipush 16384, 3) := by decide +kernel
theorem dX5_init_65 : decode cX5_init 65 = .ok (.newarray .byte, 2) := by decide +kernel
theorem dX5_init_67 : decode cX5_init 67 = .ok (.putfield 33, 3) := by decide +kernel
theorem dX5_init_70 : decode cX5_init 70 = .ok (.aload_n 0, 1) := by decide +kernel
theorem dX5_init_71 : decode cX5_init 71 = .ok (.sipush 16384, 3) := by decide +kernel
theorem dX5_init_74 : decode cX5_init 74 = .ok (.newarray .int, 2) := by decide +kernel
theorem dX5_init_76 : decode cX5_init 76 = .ok (.putfield 36, 3) := by decide +kernel
theorem dX5_init_79 : decode cX5_init 79 = .ok (.aload_n 0, 1) := by decide +kernel
theorem dX5_init_80 : decode cX5_init 80 = .ok (.sipush 16384, 3) := by decide +kernel
theorem dX5_init_83 : decode cX5_init 83 = .ok (.newarray .int, 2) := by decide +kernel
theorem dX5_init_85 : decode cX5_init 85 = .ok (.putfield 39, 3) := by decide +kernel
theorem dX5_init_88 : decode cX5_init 88 = .ok (.aload_n 0, 1) := by decide +kernel
theorem dX5_init_89 : decode cX5_init 89 = .ok (.iconst (-1), 1) := by decide +kernel
theorem dX5_init_90 : decode cX5_init 90 = .ok (.putfield 42, 3) := by decide +kernel
theorem dX5_init_93 : decode cX5_init 93 = .ok (.aload_n 0, 1) := by decide +kernel
theorem dX5_init_94 : decode cX5_init 94 = .ok (.bipush 32, 2) := by decide +kernel
theorem dX5_init_96 : decode cX5_init 96 = .ok (.newarray .byte, 2) := by decide +kernel
theorem dX5_init_98 : decode cX5_init 98 = .ok (.putfield 46, 3) := by decide +kernel
theorem dX5_init_101 : decode cX5_init 101 = .ok (.aload_n 0, 1) := by decide +kernel
theorem dX5_init_102 : decode cX5_init 102 = .ok (.bipush 64, 2) := by decide +kernel
theorem dX5_init_104 : decode cX5_init 104 = .ok (.newarray .int, 2) := by decide +kernel
theorem dX5_init_106 : decode cX5_init 106 = .ok (.putfield 49, 3) := by decide +kernel
theorem dX5_init_109 : decode cX5_init 109 = .ok (.aload_n 0, 1) := by decide +kernel
theorem dX5_init_110 : decode cX5_init 110 = .ok (.bipush 8, 2) := by decide +kernel
theorem dX5_init_112 : decode cX5_init 112 = .ok (.newarray .int, 2) := by decide +kernel
theorem dX5_init_114 : decode cX5_init 114 = .ok (.putfield 52, 3) := by decide +kernel
theorem dX5_init_117 : decode cX5_init 117 = .ok (.aload_n 0, 1) := by decide +kernel
theorem dX5_init_118 : decode cX5_init 118 = .ok (.bipush 64, 2) := by decide +kernel
theorem dX5_init_120 : decode cX5_init 120 = .ok (.newarray .int, 2) := by decide +kernel
theorem dX5_init_122 : decode cX5_init 122 = .ok (.dup, 1) := by decide +kernel
theorem dX5_init_123 : decode cX5_init 123 = .ok (.iconst 0, 1) := by decide +kernel
theorem dX5_init_124 : decode cX5_init 124 = .ok (.ldc 55, 2) := by decide +kernel
theorem dX5_init_126 : decode cX5_init 126 = .ok (.iastore, 1) := by decide +kernel
theorem dX5_init_127 : decode cX5_init 127 = .ok (.dup, 1) := by decide +kernel
theorem dX5_init_128 : decode cX5_init 128 = .ok (.iconst 1, 1) := by decide +kernel
theorem dX5_init_129 : decode cX5_init 129 = .ok (.ldc 56, 2) := by decide +kernel
theorem dX5_init_131 : decode cX5_init 131 = .ok (.iastore, 1) := by decide +kernel
theorem dX5_init_132 : decode cX5_init 132 = .ok (.dup, 1) := by decide +kernel
theorem dX5_init_133 : decode cX5_init 133 = .ok (.iconst 2, 1) := by decide +kernel
theorem dX5_init_134 : decode cX5_init 134 = .ok (.ldc 57, 2) := by decide +kernel
theorem dX5_init_136 : decode cX5_init 136 = .ok (.iastore, 1) := by decide +kernel
theorem dX5_init_137 : decode cX5_init 137 = .ok (.dup, 1) := by decide +kernel
theorem dX5_init_138 : decode cX5_init 138 = .ok (.iconst 3, 1) := by decide +kernel
theorem dX5_init_139 : decode cX5_init 139 = .ok (.ldc 58, 2) := by decide +kernel
theorem dX5_init_141 : decode cX5_init 141 = .ok (.iastore, 1) := by decide +kernel
theorem dX5_init_142 : decode cX5_init 142 = .ok (.dup, 1) := by decide +kernel
theorem dX5_init_143 : decode cX5_init 143 = .ok (.iconst 4, 1) := by decide +kernel
theorem dX5_init_144 : decode cX5_init 144 = .ok (.ldc 59, 2) := by decide +kernel
theorem dX5_init_146 : decode cX5_init 146 = .ok (.iastore, 1) := by decide +kernel
theorem dX5_init_147 : decode cX5_init 147 = .ok (.dup, 1) := by decide +kernel
theorem dX5_init_148 : decode cX5_init 148 = .ok (.iconst 5, 1) := by decide +kernel
theorem dX5_init_149 : decode cX5_init 149 = .ok (.ldc 60, 2) := by decide +kernel
theorem dX5_init_151 : decode cX5_init 151 = .ok (.iastore, 1) := by decide +kernel
theorem dX5_init_152 : decode cX5_init 152 = .ok (.dup, 1) := by decide +kernel
theorem dX5_init_153 : decode cX5_init 153 = .ok (.bipush 6, 2) := by decide +kernel
theorem dX5_init_155 : decode cX5_init 155 = .ok (.ldc 61, 2) := by decide +kernel
theorem dX5_init_157 : decode cX5_init 157 = .ok (.iastore, 1) := by decide +kernel
theorem dX5_init_158 : decode cX5_init 158 = .ok (.dup, 1) := by decide +kernel
theorem dX5_init_159 : decode cX5_init 159 = .ok (.bipush 7, 2) := by decide +kernel
theorem dX5_init_161 : decode cX5_init 161 = .ok (.ldc 62, 2) := by decide +kernel
theorem dX5_init_163 : decode cX5_init 163 = .ok (.iastore, 1) := by decide +kernel
theorem dX5_init_164 : decode cX5_init 164 = .ok (.dup, 1) := by decide +kernel
theorem dX5_init_165 : decode cX5_init 165 = .ok (.bipush 8, 2) := by decide +kernel
theorem dX5_init_167 : decode cX5_init 167 = .ok (.ldc 63, 2) := by decide +kernel
theorem dX5_init_169 : decode cX5_init 169 = .ok (.iastore, 1) := by decide +kernel
theorem dX5_init_170 : decode cX5_init 170 = .ok (.dup, 1) := by decide +kernel
theorem dX5_init_171 : decode cX5_init 171 = .ok (.bipush 9, 2) := by decide +kernel
theorem dX5_init_173 : decode cX5_init 173 = .ok (.ldc 64, 2) := by decide +kernel
theorem dX5_init_175 : decode cX5_init 175 = .ok (.iastore, 1) := by decide +kernel
theorem dX5_init_176 : decode cX5_init 176 = .ok (.dup, 1) := by decide +kernel
theorem dX5_init_177 : decode cX5_init 177 = .ok (.bipush 10, 2) := by decide +kernel
theorem dX5_init_179 : decode cX5_init 179 = .ok (.ldc 65, 2) := by decide +kernel
theorem dX5_init_181 : decode cX5_init 181 = .ok (.iastore, 1) := by decide +kernel
theorem dX5_init_182 : decode cX5_init 182 = .ok (.dup, 1) := by decide +kernel
theorem dX5_init_183 : decode cX5_init 183 = .ok (.bipush 11, 2) := by decide +kernel
theorem dX5_init_185 : decode cX5_init 185 = .ok (.ldc 66, 2) := by decide +kernel
theorem dX5_init_187 : decode cX5_init 187 = .ok (.iastore, 1) := by decide +kernel
theorem dX5_init_188 : decode cX5_init 188 = .ok (.dup, 1) := by decide +kernel
theorem dX5_init_189 : decode cX5_init 189 = .ok (.bipush 12, 2) := by decide +kernel
theorem dX5_init_191 : decode cX5_init 191 = .ok (.ldc 67, 2) := by decide +kernel
theorem dX5_init_193 : decode cX5_init 193 = .ok (.iastore, 1) := by decide +kernel
theorem dX5_init_194 : decode cX5_init 194 = .ok (.dup, 1) := by decide +kernel
theorem dX5_init_195 : decode cX5_init 195 = .ok (.bipush 13, 2) := by decide +kernel
theorem dX5_init_197 : decode cX5_init 197 = .ok (.ldc 68, 2) := by decide +kernel
theorem dX5_init_199 : decode cX5_init 199 = .ok (.iastore, 1) := by decide +kernel
theorem dX5_init_200 : decode cX5_init 200 = .ok (.dup, 1) := by decide +kernel
theorem dX5_init_201 : decode cX5_init 201 = .ok (.bipush 14, 2) := by decide +kernel
theorem dX5_init_203 : decode cX5_init 203 = .ok (.ldc 69, 2) := by decide +kernel
theorem dX5_init_205 : decode cX5_init 205 = .ok (.iastore, 1) := by decide +kernel
theorem dX5_init_206 : decode cX5_init 206 = .ok (.dup, 1) := by decide +kernel
theorem dX5_init_207 : decode cX5_init 207 = .ok (.bipush 15, 2) := by decide +kernel
theorem dX5_init_209 : decode cX5_init 209 = .ok (.ldc 70, 2) := by decide +kernel
theorem dX5_init_211 : decode cX5_init 211 = .ok (.iastore, 1) := by decide +kernel
theorem dX5_init_212 : decode cX5_init 212 = .ok (.dup, 1) := by decide +kernel
theorem dX5_init_213 : decode cX5_init 213 = .ok (.bipush 16, 2) := by decide +kernel
theorem dX5_init_215 : decode cX5_init 215 = .ok (.ldc 71, 2) := by decide +kernel
theorem dX5_init_217 : decode cX5_init 217 = .ok (.iastore, 1) := by decide +kernel
theorem dX5_init_218 : decode cX5_init 218 = .ok (.dup, 1) := by decide +kernel
theorem dX5_init_219 : decode cX5_init 219 = .ok (.bipush 17, 2) := by decide +kernel
theorem dX5_init_221 : decode cX5_init 221 = .ok (.ldc 72, 2) := by decide +kernel
theorem dX5_init_223 : decode cX5_init 223 = .ok (.iastore, 1) := by decide +kernel
theorem dX5_init_224 : decode cX5_init 224 = .ok (.dup, 1) := by decide +kernel
theorem dX5_init_225 : decode cX5_init 225 = .ok (.bipush 18, 2) := by decide +kernel
theorem dX5_init_227 : decode cX5_init 227 = .ok (.ldc 73, 2) := by decide +kernel
theorem dX5_init_229 : decode cX5_init 229 = .ok (.iastore, 1) := by decide +kernel
theorem dX5_init_230 : decode cX5_init 230 = .ok (.dup, 1) := by decide +kernel
theorem dX5_init_231 : decode cX5_init 231 = .ok (.bipush 19, 2) := by decide +kernel
theorem dX5_init_233 : decode cX5_init 233 = .ok (.ldc 74, 2) := by decide +kernel
theorem dX5_init_235 : decode cX5_init 235 = .ok (.iastore, 1) := by decide +kernel
theorem dX5_init_236 : decode cX5_init 236 = .ok (.dup, 1) := by decide +kernel
theorem dX5_init_237 : decode cX5_init 237 = .ok (.bipush 20, 2) := by decide +kernel
theorem dX5_init_239 : decode cX5_init 239 = .ok (.ldc 75, 2) := by decide +kernel
theorem dX5_init_241 : decode cX5_init 241 = .ok (.iastore, 1) := by decide +kernel
theorem dX5_init_242 : decode cX5_init 242 = .ok (.dup, 1) := by decide +kernel
theorem dX5_init_243 : decode cX5_init 243 = .ok (.bipush 21, 2) := by decide +kernel
theorem dX5_init_245 : decode cX5_init 245 = .ok (.ldc 76, 2) := by decide +kernel
theorem dX5_init_247 : decode cX5_init 247 = .ok (.iastore, 1) := by decide +kernel
theorem dX5_init_248 : decode cX5_init 248 = .ok (.dup, 1) := by decide +kernel
theorem dX5_init_249 : decode cX5_init 249 = .ok (.bipush 22, 2) := by decide +kernel
