theorem dX9_init_0 : decode cX9_init 0 = .ok (.aload_n 0, 1) := by decide +kernel
theorem dX9_init_1 : decode cX9_init 1 = .ok (.invokespecial 1, 3) := by decide +kernel
theorem dX9_init_4 : decode cX9_init 4 = .ok (.aload_n 0, 1) := by decide +kernel
theorem dX9_init_5 : decode cX9_init 5 = .ok (.bipush 10, 2) := by decide +kernel
theorem dX9_init_7 : decode cX9_init 7 = .ok (.newarray .int, 2) := by decide +kernel
theorem dX9_init_9 : decode cX9_init 9 = .ok (.putfield 7, 3) := by decide +kernel
theorem dX9_init_12 : decode cX9_init 12 = .ok (.aload_n 0, 1) := by decide +kernel
theorem dX9_init_13 : decode cX9_init 13 = .ok (.bipush 8, 2) := by decide +kernel
theorem dX9_init_15 : decode cX9_init 15 = .ok (.newarray .int, 2) := by decide +kernel
theorem dX9_init_17 : decode cX9_init 17 = .ok (.putfield 13, 3) := by decide +kernel
theorem dX9_init_20 : decode cX9_init 20 = .ok (.aload_n 0, 1) := by decide +kernel
theorem dX9_init_21 : decode cX9_init 21 = .ok (.bipush 16, 2) := by decide +kernel
theorem dX9_init_23 : decode cX9_init 23 = .ok (.newarray .int, 2) := by decide +kernel
theorem dX9_init_25 : decode cX9_init 25 = .ok (.putfield 16, 3) := by decide +kernel
theorem dX9_init_28 : decode cX9_init 28 = .ok (.aload_n 0, 1) := by decide +kernel
theorem dX9_init_29 : decode cX9_init 29 = .ok (.bipush 16, 2) := by decide +kernel
theorem dX9_init_31 : decode cX9_init 31 = .ok (.newarray .int, 2) := by decide +kernel
theorem dX9_init_33 : decode cX9_init 33 = .ok (.putfield 19, 3) := by decide +kernel
theorem dX9_init_36 : decode cX9_init 36 = .ok (.aload_n 0, 1) := by decide +kernel
theorem dX9_init_37 : decode cX9_init 37 = .ok (.sipush 255, 3) := by decide +kernel
theorem dX9_init_40 : decode cX9_init 40 = .ok (.putfield 22, 3) := by decide +kernel
theorem dX9_init_43 : decode cX9_init 43 = .ok (.aload_n 0, 1) := by decide +kernel
theorem dX9_init_44 : decode cX9_init 44 = .ok (.iconst 4, 1) := by decide +kernel
theorem dX9_init_45 : decode cX9_init 45 = .ok (.putfield 26, 3) := by decide +kernel
theorem dX9_init_48 : decode cX9_init 48 = .ok (.aload_n 0, 1) := by decide +kernel
theorem dX9_init_49 : decode cX9_init 49 = .ok (.bipush 12, 2) := by decide +kernel
theorem dX9_init_51 : decode cX9_init 51 = .ok (.newarray .int, 2) := by decide +kernel
theorem dX9_init_53 : decode cX9_init 53 = .ok (.putfield 29, 3) := by decide +kernel
theorem dX9_init_56 : decode cX9_init 56 = .ok (.aload_n 0, 1) := by decide +kernel
theorem dX9_init_57 : decode cX9_init 57 = .ok (.iconst 2, 1) := by decide +kernel
theorem dX9_init_58 : decode cX9_init 58 = .ok (.putfield 32, 3) := by decide +kernel
theorem dX9_init_61 : decode cX9_init 61 = .ok (.aload_n 0, 1) := by decide +kernel
theorem dX9_init_62 : decode cX9_init 62 = .ok (.iconst 3, 1) := by decide +kernel
theorem dX9_init_63 : decode cX9_init 63 = .ok (.newarray .int, 2) := by decide +kernel
theorem dX9_init_65 : decode cX9_init 65 = .ok (.putfield 35, 3) := by decide +kernel
theorem dX9_init_68 : decode cX9_init 68 = .ok (.aload_n 0, 1) := by decide +kernel
theorem dX9_init_69 : decode cX9_init 69 = .ok (.iconst 3, 1) := by decide +kernel
theorem dX9_init_70 : decode cX9_init 70 = .ok (.newarray .int, 2) := by decide +kernel
theorem dX9_init_72 : decode cX9_init 72 = .ok (.putfield 38, 3) := by decide +kernel
theorem dX9_init_75 : decode cX9_init 75 = .ok (.aload_n 0, 1) := by decide +kernel
theorem dX9_init_76 : decode cX9_init 76 = .ok (.bipush 12, 2) := by decide +kernel
theorem dX9_init_78 : decode cX9_init 78 = .ok (.newarray .int, 2) := by decide +kernel
theorem dX9_init_80 : decode cX9_init 80 = .ok (.putfield 41, 3) := by decide +kernel
theorem dX9_init_83 : decode cX9_init 83 = .ok (.aload_n 0, 1) := by decide +kernel
theorem dX9_init_84 : decode cX9_init 84 = .ok (.sipush 480, 3) := by decide +kernel
theorem dX9_init_87 : decode cX9_init 87 = .ok (.newarray .int, 2) := by decide +kernel
theorem dX9_init_89 : decode cX9_init 89 = .ok (.putfield 44, 3) := by decide +kernel
theorem dX9_init_92 : decode cX9_init 92 = .ok (.aload_n 0, 1) := by decide +kernel
theorem dX9_init_93 : decode cX9_init 93 = .ok (.iconst 1, 1) := by decide +kernel
theorem dX9_init_94 : decode cX9_init 94 = .ok (.putfield 47, 3) := by decide +kernel
theorem dX9_init_97 : decode cX9_init 97 = .ok (.aload_n 0, 1) := by decide +kernel
theorem dX9_init_98 : decode cX9_init 98 = .ok (.iconst 4, 1) := by decide +kernel
theorem dX9_init_99 : decode cX9_init 99 = .ok (.newarray .int, 2) := by decide +kernel
theorem dX9_init_101 : decode cX9_init 101 = .ok (.dup, 1) := by decide +kernel
theorem dX9_init_102 : decode cX9_init 102 = .ok (.iconst 0, 1) := by decide +kernel
theorem dX9_init_103 : decode cX9_init 103 = .ok (.iconst 2, 1) := by decide +kernel
theorem dX9_init_104 : decode cX9_init 104 = .ok (.iastore, 1) := by decide +kernel
theorem dX9_init_105 : decode cX9_init 105 = .ok (.dup, 1) := by decide +kernel
theorem dX9_init_106 : decode cX9_init 106 = .ok (.iconst 1, 1) := by decide +kernel
theorem dX9_init_107 : decode cX9_init 107 = .ok (.iconst 3, 1) := by decide +kernel
theorem dX9_init_108 : decode cX9_init 108 = .ok (.iastore, 1) := by decide +kernel
theorem dX9_init_109 : decode cX9_init 109 = .ok (.dup, 1) := by decide +kernel
theorem dX9_init_110 : decode cX9_init 110 = .ok (.iconst 2, 1) := by decide +kernel
theorem dX9_init_111 : decode cX9_init 111 = .ok (.iconst 5, 1) := by decide +kernel
theorem dX9_init_112 : decode cX9_init 112 = .ok (.iastore, 1) := by decide +kernel
theorem dX9_init_113 : decode cX9_init 113 = .ok (.dup, 1) := by decide +kernel
theorem dX9_init_114 : decode cX9_init 114 = .ok (.iconst 3, 1) := by decide +kernel
theorem dX9_init_115 : decode cX9_init 115 = .ok (.bipush 7, 2) := by decide +kernel
theorem dX9_init_117 : decode cX9_init 117 = .ok (.iastore, 1) := by decide +kernel
theorem dX9_init_118 : decode cX9_init 118 = .ok (.putfield 50, 3) := by decide +kernel
theorem dX9_init_121 : decode cX9_init 121 = .ok (.aload_n 0, 1) := by decide +kernel
theorem dX9_init_122 : decode cX9_init 122 = .ok (.iconst 4, 1) := by decide +kernel
theorem dX9_init_123 : decode cX9_init 123 = .ok (.newarray .int, 2) := by decide +kernel
theorem dX9_init_125 : decode cX9_init 125 = .ok (.dup, 1) := by decide +kernel
theorem dX9_init_126 : decode cX9_init 126 = .ok (.iconst 0, 1) := by decide +kernel
theorem dX9_init_127 : decode cX9_init 127 = .ok (.iconst 3, 1) := by decide +kernel
theorem dX9_init_128 : decode cX9_init 128 = .ok (.iastore, 1) := by decide +kernel
theorem dX9_init_129 : decode cX9_init 129 = .ok (.dup, 1) := by decide +kernel
theorem dX9_init_130 : decode cX9_init 130 = .ok (.iconst 1, 1) := by decide +kernel
theorem dX9_init_131 : decode cX9_init 131 = .ok (.iconst 5, 1) := by decide +kernel
theorem dX9_init_132 : decode cX9_init 132 = .ok (.iastore, 1) := by decide +kernel
theorem dX9_init_133 : decode cX9_init 133 = .ok (.dup, 1) := by decide +kernel
theorem dX9_init_134 : decode cX9_init 134 = .ok (.iconst 2, 1) := by decide +kernel
theorem dX9_init_135 : decode cX9_init 135 = .ok (.iconst 4, 1) := by decide +kernel
theorem dX9_init_136 : decode cX9_init 136 = .ok (.iastore, 1) := by decide +kernel
theorem dX9_init_137 : decode cX9_init 137 = .ok (.dup, 1) := by decide +kernel
theorem dX9_init_138 : decode cX9_init 138 = .ok (.iconst 3, 1) := by decide +kernel
theorem dX9_init_139 : decode cX9_init 139 = .ok (.iconst 5, 1) := by decide +kernel
theorem dX9_init_140 : decode cX9_init 140 = .ok (.iastore, 1) := by decide +kernel
theorem dX9_init_141 : decode cX9_init 141 = .ok (.putfield 53, 3) := by decide +kernel
theorem dX9_init_144 : decode cX9_init 144 = .ok (.aload_n 0, 1) := by decide +kernel
theorem dX9_init_145 : decode cX9_init 145 = .ok (.bipush 17, 2) := by decide +kernel
theorem dX9_init_147 : decode cX9_init 147 = .ok (.newarray .int, 2) := by decide +kernel
theorem dX9_init_149 : decode cX9_init 149 = .ok (.dup, 1) := by decide +kernel
theorem dX9_init_150 : decode cX9_init 150 = .ok (.iconst 0, 1) := by decide +kernel
theorem dX9_init_151 : decode cX9_init 151 = .ok (.bipush 116, 2) := by decide +kernel
theorem dX9_init_153 : decode cX9_init 153 = .ok (.iastore, 1) := by decide +kernel
theorem dX9_init_154 : decode cX9_init 154 = .ok (.dup, 1) := by decide +kernel
theorem dX9_init_155 : decode cX9_init 155 = .ok (.iconst 1, 1) := by decide +kernel
theorem dX9_init_156 : decode cX9_init 156 = .ok (.bipush 119, 2) := by decide +kernel
theorem dX9_init_158 : decode cX9_init 158 = .ok (.iastore, 1) := by decide +kernel
theorem dX9_init_159 : decode cX9_init 159 = .ok (.dup, 1) := by decide +kernel
theorem dX9_init_160 : decode cX9_init 160 = .ok (.iconst 2, 1) := by decide +kernel
theorem dX9_init_161 : decode cX9_init 161 = .ok (.bipush 111, 2) := by decide +kernel
theorem dX9_init_163 : decode cX9_init 163 = .ok (.iastore, 1) := by decide +kernel
theorem dX9_init_164 : decode cX9_init 164 = .ok (.dup, 1) := by decide +kernel
theorem dX9_init_165 : decode cX9_init 165 = .ok (.iconst 3, 1) := by decide +kernel
theorem dX9_init_166 : decode cX9_init 166 = .ok (.bipush 116, 2) := by decide +kernel
theorem dX9_init_168 : decode cX9_init 168 = .ok (.iastore, 1) := by decide +kernel
theorem dX9_init_169 : decode cX9_init 169 = .ok (.dup, 1) := by decide +kernel
theorem dX9_init_170 : decode cX9_init 170 = .ok (.iconst 4, 1) := by decide +kernel
theorem dX9_init_171 : decode cX9_init 171 = .ok (.bipush 104, 2) := by decide +kernel
theorem dX9_init_173 : decode cX9_init 173 = .ok (.iastore, 1) := by decide +kernel
theorem dX9_init_174 : decode cX9_init 174 = .ok (.dup, 1) := by decide +kernel
theorem dX9_init_175 : decode cX9_init 175 = .ok (.iconst 5, 1) := by decide +kernel
theorem dX9_init_176 : decode cX9_init 176 = .ok (.bipush 114, 2) := by decide +kernel
theorem dX9_init_178 : decode cX9_init 178 = .ok (.iastore, 1) := by decide +kernel
theorem dX9_init_179 : decode cX9_init 179 = .ok (.dup, 1) := by decide +kernel
theorem dX9_init_180 : decode cX9_init 180 = .ok (.bipush 6, 2) := by decide +kernel
theorem dX9_init_182 : decode cX9_init 182 = .ok (.bipush 101, 2) := by decide +kernel
theorem dX9_init_184 : decode cX9_init 184 = .ok (.iastore, 1) := by decide +kernel
theorem dX9_init_185 : decode cX9_init 185 = .ok (.dup, 1) := by decide +kernel
theorem dX9_init_186 : decode cX9_init 186 = .ok (.bipush 7, 2) := by decide +kernel
theorem dX9_init_188 : decode cX9_init 188 = .ok (.bipush 101, 2) := by decide +kernel
theorem dX9_init_190 : decode cX9_init 190 = .ok (.iastore, 1) := by decide +kernel
theorem dX9_init_191 : decode cX9_init 191 = .ok (.dup, 1) := by decide +kernel
theorem dX9_init_192 : decode cX9_init 192 = .ok (.bipush 8, 2) := by decide +kernel
theorem dX9_init_194 : decode cX9_init 194 = .ok (.bipush 102, 2) := by decide +kernel
theorem dX9_init_196 : decode cX9_init 196 = .ok (.iastore, 1) := by decide +kernel
theorem dX9_init_197 : decode cX9_init 197 = .ok (.dup, 1) := by decide +kernel
theorem dX9_init_198 : decode cX9_init 198 = .ok (.bipush 9, 2) := by decide +kernel
theorem dX9_init_200 : decode cX9_init 200 = .ok (.bipush 105, 2) := by decide +kernel
theorem dX9_init_202 : decode cX9_init 202 = .ok (.iastore, 1) := by decide +kernel
theorem dX9_init_203 : decode cX9_init 203 = .ok (.dup, 1) := by decide +kernel
theorem dX9_init_204 : decode cX9_init 204 = .ok (.bipush 10, 2) := by decide +kernel
theorem dX9_init_206 : decode cX9_init 206 = .ok (.bipush 118, 2) := by decide +kernel
theorem dX9_init_208 : decode cX9_init 208 = .ok (.iastore, 1) := by decide +kernel
theorem dX9_init_209 : decode cX9_init 209 = .ok (.dup, 1) := by decide +kernel
theorem dX9_init_210 : decode cX9_init 210 = .ok (.bipush 11, 2) := by decide +kernel
theorem dX9_init_212 : decode cX9_init 212 = .ok (.bipush 101, 2) := by decide +kernel
theorem dX9_init_214 : decode cX9_init 214 = .ok (.iastore, 1) := by decide +kernel
theorem dX9_init_215 : decode cX9_init 215 = .ok (.dup, 1) := by decide +kernel
theorem dX9_init_216 : decode cX9_init 216 = .ok (.bipush 12, 2) := by decide +kernel
theorem dX9_init_218 : decode cX9_init 218 = .ok (.bipush 115, 2) := by decide +kernel
theorem dX9_init_220 : decode cX9_init 220 = .ok (.iastore, 1) := by decide +kernel
theorem dX9_init_221 : decode cX9_init 221 = .ok (.dup, 1) := by decide +kernel
theorem dX9_init_222 : decode cX9_init 222 = .ok (.bipush 13, 2) := by decide +kernel
theorem dX9_init_224 : decode cX9_init 224 = .ok (.bipush 101, 2) := by decide +kernel
theorem dX9_init_226 : decode cX9_init 226 = .ok (.iastore, 1) := by decide +kernel
theorem dX9_init_227 : decode cX9_init 227 = .ok (.dup, 1) := by decide +kernel
theorem dX9_init_228 : decode cX9_init 228 = .ok (.bipush 14, 2) := by decide +kernel
theorem dX9_init_230 : decode cX9_init 230 = .ok (.bipush 118, 2) := by decide +kernel
theorem dX9_init_232 : decode cX9_init 232 = .ok (.iastore, 1) := by decide +kernel
theorem dX9_init_233 : decode cX9_init 233 = .ok (.dup, 1) := by decide +kernel
theorem dX9_init_234 : decode cX9_init 234 = .ok (.bipush 15, 2) := by decide +kernel
theorem dX9_init_236 : decode cX9_init 236 = .ok (.bipush 101, 2) := by decide +kernel
theorem dX9_init_238 : decode cX9_init 238 = .ok (.iastore, 1) := by decide +kernel
theorem dX9_init_239 : decode cX9_init 239 = .ok (.dup, 1) := by decide +kernel
theorem dX9_init_240 : decode cX9_init 240 = .ok (.bipush 16, 2) := by decide +kernel
theorem dX9_init_242 : decode cX9_init 242 = .ok (.bipush 110, 2) := by decide +kernel
theorem dX9_init_244 : decode cX9_init 244 = .ok (.iastore, 1) := by decide +kernel
theorem dX9_init_245 : decode cX9_init 245 = .ok (.putfield 56, 3) := by decide +kernel
theorem dX9_init_248 : decode cX9_init 248 = .ok (.aload_n 0, 1) := by decide +kernel
theorem dX9_init_249 : decode cX9_init 249 = .ok (.bipush 8, 2) := by decide +kernel
theorem dX9_init_251 : decode cX9_init 251 = .ok (.newarray .int, 2) := by decide +kernel
theorem dX9_init_253 : decode cX9_init 253 = .ok (.putfield 59, 3) := by decide +kernel
theorem dX9_init_256 : decode cX9_init 256 = .ok (.aload_n 0, 1) := by decide +kernel
theorem dX9_init_257 : decode cX9_init 257 = .ok (.bipush 8, 2) := by decide +kernel
theorem dX9_init_259 : decode cX9_init 259 = .ok (.newarray .int, 2) := by decide +kernel
theorem dX9_init_261 : decode cX9_init 261 = .ok (.putfield 62, 3) := by decide +kernel
theorem dX9_init_264 : decode cX9_init 264 = .ok (.aload_n 0, 1) := by decide +kernel
theorem dX9_init_265 : decode cX9_init 265 = .ok (.bipush 60, 2) := by decide +kernel
theorem dX9_init_267 : decode cX9_init 267 = .ok (.newarray .int, 2) := by decide +kernel
theorem dX9_init_269 : decode cX9_init 269 = .ok (.putfield 65, 3) := by decide +kernel
theorem dX9_init_272 : decode cX9_init 272 = .ok (.return_, 1) := by decide +kernel
theorem dX9_within_0 : decode cX9_within 0 = .ok (.iload_n 0, 1) := by decide +kernel
theorem dX9_within_1 : decode cX9_within 1 = .ok (.iload_n 1, 1) := by decide +kernel
theorem dX9_within_2 : decode cX9_within 2 = .ok (.if_icmp .lt 12, 3) := by decide +kernel
theorem dX9_within_5 : decode cX9_within 5 = .ok (.iload_n 0, 1) := by decide +kernel
theorem dX9_within_6 : decode cX9_within 6 = .ok (.iload_n 2, 1) := by decide +kernel
theorem dX9_within_7 : decode cX9_within 7 = .ok (.if_icmp .gt 7, 3) := by decide +kernel
theorem dX9_within_10 : decode cX9_within 10 = .ok (.iconst 1, 1) := by decide +kernel
theorem dX9_within_11 : decode cX9_within 11 = .ok (.goto 4, 3) := by decide +kernel
theorem dX9_within_14 : decode cX9_within 14 = .ok (.iconst 0, 1) := by decide +kernel
theorem dX9_within_15 : decode cX9_within 15 = .ok (.ireturn, 1) := by decide +kernel
theorem dX9_isIn_0 : decode cX9_isIn 0 = .ok (.iload_n 0, 1) := by decide +kernel
theorem dX9_isIn_1 : decode cX9_isIn 1 = .ok (.iload_n 1, 1) := by decide +kernel
theorem dX9_isIn_2 : decode cX9_isIn 2 = .ok (.ishr, 1) := by decide +kernel
theorem dX9_isIn_3 : decode cX9_isIn 3 = .ok (.iconst 1, 1) := by decide +kernel
theorem dX9_isIn_4 : decode cX9_isIn 4 = .ok (.iand, 1) := by decide +kernel
theorem dX9_isIn_5 : decode cX9_isIn 5 = .ok (.iconst 1, 1) := by decide +kernel
theorem dX9_isIn_6 : decode cX9_isIn 6 = .ok (.if_icmp .ne 7, 3) := by decide +kernel
theorem dX9_isIn_9 : decode cX9_isIn 9 = .ok (.iconst 1, 1) := by decide +kernel
theorem dX9_isIn_10 : decode cX9_isIn 10 = .ok (.goto 4, 3) := by decide +kernel
theorem dX9_isIn_13 : decode cX9_isIn 13 = .ok (.iconst 0, 1) := by decide +kernel
theorem dX9_isIn_14 : decode cX9_isIn 14 = .ok (.ireturn, 1) := by decide +kernel
theorem dX9_size_0 : decode cX9_size 0 = .ok (.iconst 0, 1) := by decide +kernel
theorem dX9_size_1 : decode cX9_size 1 = .ok (.istore_n 1, 1) := by decide +kernel
theorem dX9_size_2 : decode cX9_size 2 = .ok (.iconst 0, 1) := by decide +kernel
theorem dX9_size_3 : decode cX9_size 3 = .ok (.istore_n 2, 1) := by decide +kernel
theorem dX9_size_4 : decode cX9_size 4 = .ok (.iload_n 2, 1) := by decide +kernel
theorem dX9_size_5 : decode cX9_size 5 = .ok (.bipush 10, 2) := by decide +kernel
theorem dX9_size_7 : decode cX9_size 7 = .ok (.if_icmp .ge 17, 3) := by decide +kernel
theorem dX9_size_10 : decode cX9_size 10 = .ok (.iload_n 1, 1) := by decide +kernel
theorem dX9_size_11 : decode cX9_size 11 = .ok (.iload_n 0, 1) := by decide +kernel
theorem dX9_size_12 : decode cX9_size 12 = .ok (.iload_n 2, 1) := by decide +kernel
theorem dX9_size_13 : decode cX9_size 13 = .ok (.ishr, 1) := by decide +kernel
theorem dX9_size_14 : decode cX9_size 14 = .ok (.iconst 1, 1) := by decide +kernel
theorem dX9_size_15 : decode cX9_size 15 = .ok (.iand, 1) := by decide +kernel
theorem dX9_size_16 : decode cX9_size 16 = .ok (.iadd, 1) := by decide +kernel
theorem dX9_size_17 : decode cX9_size 17 = .ok (.istore_n 1, 1) := by decide +kernel
theorem dX9_size_18 : decode cX9_size 18 = .ok (.iinc 2 1, 3) := by decide +kernel
theorem dX9_size_21 : decode cX9_size 21 = .ok (.goto (-17), 3) := by decide +kernel
theorem dX9_size_24 : decode cX9_size 24 = .ok (.iload_n 1, 1) := by decide +kernel
theorem dX9_size_25 : decode cX9_size 25 = .ok (.ireturn, 1) := by decide +kernel
theorem dX9_isStation_0 : decode cX9_isStation 0 = .ok (.iload_n 0, 1) := by decide +kernel
theorem dX9_isStation_1 : decode cX9_isStation 1 = .ok (.iconst 0, 1) := by decide +kernel
theorem dX9_isStation_2 : decode cX9_isStation 2 = .ok (.bipush 7, 2) := by decide +kernel
theorem dX9_isStation_4 : decode cX9_isStation 4 = .ok (.invokestatic 68, 3) := by decide +kernel
theorem dX9_isStation_7 : decode cX9_isStation 7 = .ok (.ireturn, 1) := by decide +kernel
theorem dX9_isLetter_0 : decode cX9_isLetter 0 = .ok (.iload_n 1, 1) := by decide +kernel
theorem dX9_isLetter_1 : decode cX9_isLetter 1 = .ok (.iconst 0, 1) := by decide +kernel
theorem dX9_isLetter_2 : decode cX9_isLetter 2 = .ok (.bipush 9, 2) := by decide +kernel
theorem dX9_isLetter_4 : decode cX9_isLetter 4 = .ok (.invokestatic 68, 3) := by decide +kernel
theorem dX9_isLetter_7 : decode cX9_isLetter 7 = .ok (.ifCond .eq 18, 3) := by decide +kernel
theorem dX9_isLetter_10 : decode cX9_isLetter 10 = .ok (.aload_n 0, 1) := by decide +kernel
theorem dX9_isLetter_11 : decode cX9_isLetter 11 = .ok (.getfield 72, 3) := by decide +kernel
theorem dX9_isLetter_14 : decode cX9_isLetter 14 = .ok (.iload_n 1, 1) := by decide +kernel
theorem dX9_isLetter_15 : decode cX9_isLetter 15 = .ok (.invokestatic 75, 3) := by decide +kernel
theorem dX9_isLetter_18 : decode cX9_isLetter 18 = .ok (.ifCond .eq 7, 3) := by decide +kernel
theorem dX9_isLetter_21 : decode cX9_isLetter 21 = .ok (.iconst 1, 1) := by decide +kernel
theorem dX9_isLetter_22 : decode cX9_isLetter 22 = .ok (.goto 4, 3) := by decide +kernel
theorem dX9_isLetter_25 : decode cX9_isLetter 25 = .ok (.iconst 0, 1) := by decide +kernel
theorem dX9_isLetter_26 : decode cX9_isLetter 26 = .ok (.ireturn, 1) := by decide +kernel
theorem dX9_letter_0 : decode cX9_letter 0 = .ok (.iload_n 1, 1) := by decide +kernel
theorem dX9_letter_1 : decode cX9_letter 1 = .ok (.iconst 0, 1) := by decide +kernel
theorem dX9_letter_2 : decode cX9_letter 2 = .ok (.bipush 9, 2) := by decide +kernel
theorem dX9_letter_4 : decode cX9_letter 4 = .ok (.invokestatic 68, 3) := by decide +kernel
theorem dX9_letter_7 : decode cX9_letter 7 = .ok (.ifCond .ne 5, 3) := by decide +kernel
theorem dX9_letter_10 : decode cX9_letter 10 = .ok (.iconst (-1), 1) := by decide +kernel
theorem dX9_letter_11 : decode cX9_letter 11 = .ok (.ireturn, 1) := by decide +kernel
theorem dX9_letter_12 : decode cX9_letter 12 = .ok (.iload_n 2, 1) := by decide +kernel
theorem dX9_letter_13 : decode cX9_letter 13 = .ok (.iconst 0, 1) := by decide +kernel
theorem dX9_letter_14 : decode cX9_letter 14 = .ok (.sipush 255, 3) := by decide +kernel
theorem dX9_letter_17 : decode cX9_letter 17 = .ok (.invokestatic 68, 3) := by decide +kernel
theorem dX9_letter_20 : decode cX9_letter 20 = .ok (.ifCond .ne 6, 3) := by decide +kernel
theorem dX9_letter_23 : decode cX9_letter 23 = .ok (.bipush (-2), 2) := by decide +kernel
theorem dX9_letter_25 : decode cX9_letter 25 = .ok (.ireturn, 1) := by decide +kernel
theorem dX9_letter_26 : decode cX9_letter 26 = .ok (.aload_n 0, 1) := by decide +kernel
theorem dX9_letter_27 : decode cX9_letter 27 = .ok (.getfield 72, 3) := by decide +kernel
theorem dX9_letter_30 : decode cX9_letter 30 = .ok (.iload_n 1, 1) := by decide +kernel
theorem dX9_letter_31 : decode cX9_letter 31 = .ok (.ishr, 1) := by decide +kernel
theorem dX9_letter_32 : decode cX9_letter 32 = .ok (.iconst 1, 1) := by decide +kernel
theorem dX9_letter_33 : decode cX9_letter 33 = .ok (.iand, 1) := by decide +kernel
theorem dX9_letter_34 : decode cX9_letter 34 = .ok (.istore_n 3, 1) := by decide +kernel
theorem dX9_letter_35 : decode cX9_letter 35 = .ok (.aload_n 0, 1) := by decide +kernel
theorem dX9_letter_36 : decode cX9_letter 36 = .ok (.dup, 1) := by decide +kernel
theorem dX9_letter_37 : decode cX9_letter 37 = .ok (.getfield 72, 3) := by decide +kernel
theorem dX9_letter_40 : decode cX9_letter 40 = .ok (.iconst 1, 1) := by decide +kernel
theorem dX9_letter_41 : decode cX9_letter 41 = .ok (.iload_n 1, 1) := by decide +kernel
theorem dX9_letter_42 : decode cX9_letter 42 = .ok (.ishl, 1) := by decide +kernel
theorem dX9_letter_43 : decode cX9_letter 43 = .ok (.ior, 1) := by decide +kernel
theorem dX9_letter_44 : decode cX9_letter 44 = .ok (.putfield 72, 3) := by decide +kernel
theorem dX9_letter_47 : decode cX9_letter 47 = .ok (.aload_n 0, 1) := by decide +kernel
theorem dX9_letter_48 : decode cX9_letter 48 = .ok (.getfield 7, 3) := by decide +kernel
theorem dX9_letter_51 : decode cX9_letter 51 = .ok (.iload_n 1, 1) := by decide +kernel
theorem dX9_letter_52 : decode cX9_letter 52 = .ok (.iload_n 2, 1) := by decide +kernel
theorem dX9_letter_53 : decode cX9_letter 53 = .ok (.iastore, 1) := by decide +kernel
theorem dX9_letter_54 : decode cX9_letter 54 = .ok (.iload_n 3, 1) := by decide +kernel
theorem dX9_letter_55 : decode cX9_letter 55 = .ok (.ireturn, 1) := by decide +kernel
theorem dX9_goes_0 : decode cX9_goes 0 = .ok (.iconst 0, 1) := by decide +kernel
theorem dX9_goes_1 : decode cX9_goes 1 = .ok (.istore_n 3, 1) := by decide +kernel
theorem dX9_goes_2 : decode cX9_goes 2 = .ok (.iconst 0, 1) := by decide +kernel
theorem dX9_goes_3 : decode cX9_goes 3 = .ok (.istore 4, 2) := by decide +kernel
theorem dX9_goes_5 : decode cX9_goes 5 = .ok (.iload 4, 2) := by decide +kernel
theorem dX9_goes_7 : decode cX9_goes 7 = .ok (.aload_n 0, 1) := by decide +kernel
theorem dX9_goes_8 : decode cX9_goes 8 = .ok (.getfield 79, 3) := by decide +kernel
theorem dX9_goes_11 : decode cX9_goes 11 = .ok (.if_icmp .ge 71, 3) := by decide +kernel
theorem dX9_goes_14 : decode cX9_goes 14 = .ok (.aload_n 0, 1) := by decide +kernel
theorem dX9_goes_15 : decode cX9_goes 15 = .ok (.getfield 16, 3) := by decide +kernel
theorem dX9_goes_18 : decode cX9_goes 18 = .ok (.iload_n 3, 1) := by decide +kernel
theorem dX9_goes_19 : decode cX9_goes 19 = .ok (.aload_n 0, 1) := by decide +kernel
theorem dX9_goes_20 : decode cX9_goes 20 = .ok (.getfield 16, 3) := by decide +kernel
theorem dX9_goes_23 : decode cX9_goes 23 = .ok (.iload 4, 2) := by decide +kernel
theorem dX9_goes_25 : decode cX9_goes 25 = .ok (.iaload, 1) := by decide +kernel
theorem dX9_goes_26 : decode cX9_goes 26 = .ok (.iastore, 1) := by decide +kernel
theorem dX9_goes_27 : decode cX9_goes 27 = .ok (.aload_n 0, 1) := by decide +kernel
theorem dX9_goes_28 : decode cX9_goes 28 = .ok (.getfield 19, 3) := by decide +kernel
theorem dX9_goes_31 : decode cX9_goes 31 = .ok (.iload_n 3, 1) := by decide +kernel
theorem dX9_goes_32 : decode cX9_goes 32 = .ok (.aload_n 0, 1) := by decide +kernel
theorem dX9_goes_33 : decode cX9_goes 33 = .ok (.getfield 19, 3) := by decide +kernel
theorem dX9_goes_36 : decode cX9_goes 36 = .ok (.iload 4, 2) := by decide +kernel
theorem dX9_goes_38 : decode cX9_goes 38 = .ok (.iaload, 1) := by decide +kernel
theorem dX9_goes_39 : decode cX9_goes 39 = .ok (.iastore, 1) := by decide +kernel
theorem dX9_goes_40 : decode cX9_goes 40 = .ok (.iload_n 3, 1) := by decide +kernel
theorem dX9_goes_41 : decode cX9_goes 41 = .ok (.aload_n 0, 1) := by decide +kernel
theorem dX9_goes_42 : decode cX9_goes 42 = .ok (.getfield 16, 3) := by decide +kernel
theorem dX9_goes_45 : decode cX9_goes 45 = .ok (.iload 4, 2) := by decide +kernel
theorem dX9_goes_47 : decode cX9_goes 47 = .ok (.iaload, 1) := by decide +kernel
theorem dX9_goes_48 : decode cX9_goes 48 = .ok (.iload_n 1, 1) := by decide +kernel
theorem dX9_goes_49 : decode cX9_goes 49 = .ok (.if_icmp .ne 24, 3) := by decide +kernel
theorem dX9_goes_52 : decode cX9_goes 52 = .ok (.iload_n 2, 1) := by decide +kernel
theorem dX9_goes_53 : decode cX9_goes 53 = .ok (.bipush (-9), 2) := by decide +kernel
theorem dX9_goes_55 : decode cX9_goes 55 = .ok (.if_icmp .eq 14, 3) := by decide +kernel
theorem dX9_goes_58 : decode cX9_goes 58 = .ok (.aload_n 0, 1) := by decide +kernel
theorem dX9_goes_59 : decode cX9_goes 59 = .ok (.getfield 19, 3) := by decide +kernel
theorem dX9_goes_62 : decode cX9_goes 62 = .ok (.iload 4, 2) := by decide +kernel
theorem dX9_goes_64 : decode cX9_goes 64 = .ok (.iaload, 1) := by decide +kernel
theorem dX9_goes_65 : decode cX9_goes 65 = .ok (.iload_n 2, 1) := by decide +kernel
theorem dX9_goes_66 : decode cX9_goes 66 = .ok (.if_icmp .ne 7, 3) := by decide +kernel
theorem dX9_goes_69 : decode cX9_goes 69 = .ok (.iconst 0, 1) := by decide +kernel
theorem dX9_goes_70 : decode cX9_goes 70 = .ok (.goto 4, 3) := by decide +kernel
theorem dX9_goes_73 : decode cX9_goes 73 = .ok (.iconst 1, 1) := by decide +kernel
theorem dX9_goes_74 : decode cX9_goes 74 = .ok (.iadd, 1) := by decide +kernel
theorem dX9_goes_75 : decode cX9_goes 75 = .ok (.istore_n 3, 1) := by decide +kernel
theorem dX9_goes_76 : decode cX9_goes 76 = .ok (.iinc 4 1, 3) := by decide +kernel
theorem dX9_goes_79 : decode cX9_goes 79 = .ok (.goto (-74), 3) := by decide +kernel
theorem dX9_goes_82 : decode cX9_goes 82 = .ok (.aload_n 0, 1) := by decide +kernel
theorem dX9_goes_83 : decode cX9_goes 83 = .ok (.getfield 79, 3) := by decide +kernel
theorem dX9_goes_86 : decode cX9_goes 86 = .ok (.iload_n 3, 1) := by decide +kernel
theorem dX9_goes_87 : decode cX9_goes 87 = .ok (.isub, 1) := by decide +kernel
theorem dX9_goes_88 : decode cX9_goes 88 = .ok (.istore 4, 2) := by decide +kernel
theorem dX9_goes_90 : decode cX9_goes 90 = .ok (.aload_n 0, 1) := by decide +kernel
theorem dX9_goes_91 : decode cX9_goes 91 = .ok (.iload_n 3, 1) := by decide +kernel
theorem dX9_goes_92 : decode cX9_goes 92 = .ok (.putfield 79, 3) := by decide +kernel
theorem dX9_goes_95 : decode cX9_goes 95 = .ok (.iload 4, 2) := by decide +kernel
theorem dX9_goes_97 : decode cX9_goes 97 = .ok (.ireturn, 1) := by decide +kernel
theorem dX9_drop_0 : decode cX9_drop 0 = .ok (.aload_n 0, 1) := by decide +kernel
theorem dX9_drop_1 : decode cX9_drop 1 = .ok (.iload_n 1, 1) := by decide +kernel
theorem dX9_drop_2 : decode cX9_drop 2 = .ok (.invokevirtual 82, 3) := by decide +kernel
theorem dX9_drop_5 : decode cX9_drop 5 = .ok (.ifCond .ne 5, 3) := by decide +kernel
theorem dX9_drop_8 : decode cX9_drop 8 = .ok (.iconst (-1), 1) := by decide +kernel
theorem dX9_drop_9 : decode cX9_drop 9 = .ok (.ireturn, 1) := by decide +kernel
theorem dX9_drop_10 : decode cX9_drop 10 = .ok (.aload_n 0, 1) := by decide +kernel
theorem dX9_drop_11 : decode cX9_drop 11 = .ok (.dup, 1) := by decide +kernel
theorem dX9_drop_12 : decode cX9_drop 12 = .ok (.getfield 72, 3) := by decide +kernel
theorem dX9_drop_15 : decode cX9_drop 15 = .ok (.iconst 1, 1) := by decide +kernel
theorem dX9_drop_16 : decode cX9_drop 16 = .ok (.iload_n 1, 1) := by decide +kernel
theorem dX9_drop_17 : decode cX9_drop 17 = .ok (.ishl, 1) := by decide +kernel
theorem dX9_drop_18 : decode cX9_drop 18 = .ok (.iconst (-1), 1) := by decide +kernel
theorem dX9_drop_19 : decode cX9_drop 19 = .ok (.ixor, 1) := by decide +kernel
theorem dX9_drop_20 : decode cX9_drop 20 = .ok (.iand, 1) := by decide +kernel
theorem dX9_drop_21 : decode cX9_drop 21 = .ok (.putfield 72, 3) := by decide +kernel
theorem dX9_drop_24 : decode cX9_drop 24 = .ok (.iconst 0, 1) := by decide +kernel
theorem dX9_drop_25 : decode cX9_drop 25 = .ok (.istore_n 2, 1) := by decide +kernel
theorem dX9_drop_26 : decode cX9_drop 26 = .ok (.iload_n 2, 1) := by decide +kernel
theorem dX9_drop_27 : decode cX9_drop 27 = .ok (.bipush 8, 2) := by decide +kernel
theorem dX9_drop_29 : decode cX9_drop 29 = .ok (.if_icmp .ge 23, 3) := by decide +kernel
theorem dX9_drop_32 : decode cX9_drop 32 = .ok (.aload_n 0, 1) := by decide +kernel
theorem dX9_drop_33 : decode cX9_drop 33 = .ok (.getfield 13, 3) := by decide +kernel
theorem dX9_drop_36 : decode cX9_drop 36 = .ok (.iload_n 2, 1) := by decide +kernel
theorem dX9_drop_37 : decode cX9_drop 37 = .ok (.dup2, 1) := by decide +kernel
theorem dX9_drop_38 : decode cX9_drop 38 = .ok (.iaload, 1) := by decide +kernel
theorem dX9_drop_39 : decode cX9_drop 39 = .ok (.iconst 1, 1) := by decide +kernel
theorem dX9_drop_40 : decode cX9_drop 40 = .ok (.iload_n 1, 1) := by decide +kernel
theorem dX9_drop_41 : decode cX9_drop 41 = .ok (.ishl, 1) := by decide +kernel
theorem dX9_drop_42 : decode cX9_drop 42 = .ok (.iconst (-1), 1) := by decide +kernel
theorem dX9_drop_43 : decode cX9_drop 43 = .ok (.ixor, 1) := by decide +kernel
theorem dX9_drop_44 : decode cX9_drop 44 = .ok (.iand, 1) := by decide +kernel
theorem dX9_drop_45 : decode cX9_drop 45 = .ok (.iastore, 1) := by decide +kernel
theorem dX9_drop_46 : decode cX9_drop 46 = .ok (.iinc 2 1, 3) := by decide +kernel
theorem dX9_drop_49 : decode cX9_drop 49 = .ok (.goto (-23), 3) := by decide +kernel
theorem dX9_drop_52 : decode cX9_drop 52 = .ok (.aload_n 0, 1) := by decide +kernel
theorem dX9_drop_53 : decode cX9_drop 53 = .ok (.iload_n 1, 1) := by decide +kernel
theorem dX9_drop_54 : decode cX9_drop 54 = .ok (.bipush (-9), 2) := by decide +kernel
theorem dX9_drop_56 : decode cX9_drop 56 = .ok (.invokevirtual 86, 3) := by decide +kernel
theorem dX9_drop_59 : decode cX9_drop 59 = .ok (.ireturn, 1) := by decide +kernel
theorem dX9_has_0 : decode cX9_has 0 = .ok (.iload_n 1, 1) := by decide +kernel
theorem dX9_has_1 : decode cX9_has 1 = .ok (.invokestatic 90, 3) := by decide +kernel
theorem dX9_has_4 : decode cX9_has 4 = .ok (.ifCond .eq 11, 3) := by decide +kernel
theorem dX9_has_7 : decode cX9_has 7 = .ok (.aload_n 0, 1) := by decide +kernel
theorem dX9_has_8 : decode cX9_has 8 = .ok (.iload_n 2, 1) := by decide +kernel
theorem dX9_has_9 : decode cX9_has 9 = .ok (.invokevirtual 82, 3) := by decide +kernel
theorem dX9_has_12 : decode cX9_has 12 = .ok (.ifCond .ne 5, 3) := by decide +kernel
theorem dX9_has_15 : decode cX9_has 15 = .ok (.iconst (-1), 1) := by decide +kernel
theorem dX9_has_16 : decode cX9_has 16 = .ok (.ireturn, 1) := by decide +kernel
theorem dX9_has_17 : decode cX9_has 17 = .ok (.iload_n 3, 1) := by decide +kernel
theorem dX9_has_18 : decode cX9_has 18 = .ok (.iconst 0, 1) := by decide +kernel
theorem dX9_has_19 : decode cX9_has 19 = .ok (.iconst 1, 1) := by decide +kernel
theorem dX9_has_20 : decode cX9_has 20 = .ok (.invokestatic 68, 3) := by decide +kernel
theorem dX9_has_23 : decode cX9_has 23 = .ok (.ifCond .ne 6, 3) := by decide +kernel
theorem dX9_has_26 : decode cX9_has 26 = .ok (.bipush (-2), 2) := by decide +kernel
theorem dX9_has_28 : decode cX9_has 28 = .ok (.ireturn, 1) := by decide +kernel
theorem dX9_has_29 : decode cX9_has 29 = .ok (.aload_n 0, 1) := by decide +kernel
theorem dX9_has_30 : decode cX9_has 30 = .ok (.getfield 13, 3) := by decide +kernel
theorem dX9_has_33 : decode cX9_has 33 = .ok (.iload_n 1, 1) := by decide +kernel
theorem dX9_has_34 : decode cX9_has 34 = .ok (.iaload, 1) := by decide +kernel
theorem dX9_has_35 : decode cX9_has 35 = .ok (.iload_n 2, 1) := by decide +kernel
theorem dX9_has_36 : decode cX9_has 36 = .ok (.ishr, 1) := by decide +kernel
theorem dX9_has_37 : decode cX9_has 37 = .ok (.iconst 1, 1) := by decide +kernel
theorem dX9_has_38 : decode cX9_has 38 = .ok (.iand, 1) := by decide +kernel
theorem dX9_has_39 : decode cX9_has 39 = .ok (.istore 4, 2) := by decide +kernel
theorem dX9_has_41 : decode cX9_has 41 = .ok (.aload_n 0, 1) := by decide +kernel
theorem dX9_has_42 : decode cX9_has 42 = .ok (.getfield 13, 3) := by decide +kernel
theorem dX9_has_45 : decode cX9_has 45 = .ok (.iload_n 1, 1) := by decide +kernel
theorem dX9_has_46 : decode cX9_has 46 = .ok (.aload_n 0, 1) := by decide +kernel
theorem dX9_has_47 : decode cX9_has 47 = .ok (.getfield 13, 3) := by decide +kernel
theorem dX9_has_50 : decode cX9_has 50 = .ok (.iload_n 1, 1) := by decide +kernel
theorem dX9_has_51 : decode cX9_has 51 = .ok (.iaload, 1) := by decide +kernel
theorem dX9_has_52 : decode cX9_has 52 = .ok (.iconst 1, 1) := by decide +kernel
