theorem dX9_comes_20 : decode cX9_comes 20 = .ok (.getfield 62, 3) := by decide +kernel
theorem dX9_comes_23 : decode cX9_comes 23 = .ok (.iconst 0, 1) := by decide +kernel
theorem dX9_comes_24 : decode cX9_comes 24 = .ok (.iload_n 3, 1) := by decide +kernel
theorem dX9_comes_25 : decode cX9_comes 25 = .ok (.invokevirtual 162, 3) := by decide +kernel
theorem dX9_comes_28 : decode cX9_comes 28 = .ok (.istore 4, 2) := by decide +kernel
theorem dX9_comes_30 : decode cX9_comes 30 = .ok (.aload_n 0, 1) := by decide +kernel
theorem dX9_comes_31 : decode cX9_comes 31 = .ok (.aload_n 0, 1) := by decide +kernel
theorem dX9_comes_32 : decode cX9_comes 32 = .ok (.getfield 62, 3) := by decide +kernel
theorem dX9_comes_35 : decode cX9_comes 35 = .ok (.iload 4, 2) := by decide +kernel
theorem dX9_comes_37 : decode cX9_comes 37 = .ok (.iaload, 1) := by decide +kernel
theorem dX9_comes_38 : decode cX9_comes 38 = .ok (.invokevirtual 169, 3) := by decide +kernel
theorem dX9_comes_41 : decode cX9_comes 41 = .ok (.istore 5, 2) := by decide +kernel
theorem dX9_comes_43 : decode cX9_comes 43 = .ok (.iconst 0, 1) := by decide +kernel
theorem dX9_comes_44 : decode cX9_comes 44 = .ok (.istore 6, 2) := by decide +kernel
theorem dX9_comes_46 : decode cX9_comes 46 = .ok (.iload 6, 2) := by decide +kernel
theorem dX9_comes_48 : decode cX9_comes 48 = .ok (.iload_n 3, 1) := by decide +kernel
theorem dX9_comes_49 : decode cX9_comes 49 = .ok (.iconst 3, 1) := by decide +kernel
theorem dX9_comes_50 : decode cX9_comes 50 = .ok (.iadd, 1) := by decide +kernel
theorem dX9_comes_51 : decode cX9_comes 51 = .ok (.if_icmp .ge 31, 3) := by decide +kernel
theorem dX9_comes_54 : decode cX9_comes 54 = .ok (.aload_n 0, 1) := by decide +kernel
theorem dX9_comes_55 : decode cX9_comes 55 = .ok (.getfield 62, 3) := by decide +kernel
theorem dX9_comes_58 : decode cX9_comes 58 = .ok (.iload 6, 2) := by decide +kernel
theorem dX9_comes_60 : decode cX9_comes 60 = .ok (.aload_n 0, 1) := by decide +kernel
theorem dX9_comes_61 : decode cX9_comes 61 = .ok (.getfield 62, 3) := by decide +kernel
theorem dX9_comes_64 : decode cX9_comes 64 = .ok (.iload 6, 2) := by decide +kernel
theorem dX9_comes_66 : decode cX9_comes 66 = .ok (.iaload, 1) := by decide +kernel
theorem dX9_comes_67 : decode cX9_comes 67 = .ok (.iload 5, 2) := by decide +kernel
theorem dX9_comes_69 : decode cX9_comes 69 = .ok (.imul, 1) := by decide +kernel
theorem dX9_comes_70 : decode cX9_comes 70 = .ok (.aload_n 0, 1) := by decide +kernel
theorem dX9_comes_71 : decode cX9_comes 71 = .ok (.getfield 32, 3) := by decide +kernel
theorem dX9_comes_74 : decode cX9_comes 74 = .ok (.irem, 1) := by decide +kernel
theorem dX9_comes_75 : decode cX9_comes 75 = .ok (.iastore, 1) := by decide +kernel
theorem dX9_comes_76 : decode cX9_comes 76 = .ok (.iinc 6 1, 3) := by decide +kernel
theorem dX9_comes_79 : decode cX9_comes 79 = .ok (.goto (-33), 3) := by decide +kernel
theorem dX9_comes_82 : decode cX9_comes 82 = .ok (.iconst 0, 1) := by decide +kernel
theorem dX9_comes_83 : decode cX9_comes 83 = .ok (.istore 6, 2) := by decide +kernel
theorem dX9_comes_85 : decode cX9_comes 85 = .ok (.iconst 0, 1) := by decide +kernel
theorem dX9_comes_86 : decode cX9_comes 86 = .ok (.istore 7, 2) := by decide +kernel
theorem dX9_comes_88 : decode cX9_comes 88 = .ok (.iload 7, 2) := by decide +kernel
theorem dX9_comes_90 : decode cX9_comes 90 = .ok (.aload_n 0, 1) := by decide +kernel
theorem dX9_comes_91 : decode cX9_comes 91 = .ok (.iload_n 1, 1) := by decide +kernel
theorem dX9_comes_92 : decode cX9_comes 92 = .ok (.iload_n 2, 1) := by decide +kernel
theorem dX9_comes_93 : decode cX9_comes 93 = .ok (.invokevirtual 156, 3) := by decide +kernel
theorem dX9_comes_96 : decode cX9_comes 96 = .ok (.if_icmp .ge 114, 3) := by decide +kernel
theorem dX9_comes_99 : decode cX9_comes 99 = .ok (.iload_n 1, 1) := by decide +kernel
theorem dX9_comes_100 : decode cX9_comes 100 = .ok (.iload_n 2, 1) := by decide +kernel
theorem dX9_comes_101 : decode cX9_comes 101 = .ok (.iload 7, 2) := by decide +kernel
theorem dX9_comes_103 : decode cX9_comes 103 = .ok (.invokestatic 146, 3) := by decide +kernel
theorem dX9_comes_106 : decode cX9_comes 106 = .ok (.istore 8, 2) := by decide +kernel
theorem dX9_comes_108 : decode cX9_comes 108 = .ok (.aload_n 0, 1) := by decide +kernel
theorem dX9_comes_109 : decode cX9_comes 109 = .ok (.getfield 44, 3) := by decide +kernel
theorem dX9_comes_112 : decode cX9_comes 112 = .ok (.iload 8, 2) := by decide +kernel
theorem dX9_comes_114 : decode cX9_comes 114 = .ok (.iload 4, 2) := by decide +kernel
theorem dX9_comes_116 : decode cX9_comes 116 = .ok (.iadd, 1) := by decide +kernel
theorem dX9_comes_117 : decode cX9_comes 117 = .ok (.iaload, 1) := by decide +kernel
theorem dX9_comes_118 : decode cX9_comes 118 = .ok (.istore 9, 2) := by decide +kernel
theorem dX9_comes_120 : decode cX9_comes 120 = .ok (.iload 6, 2) := by decide +kernel
theorem dX9_comes_122 : decode cX9_comes 122 = .ok (.aload_n 0, 1) := by decide +kernel
theorem dX9_comes_123 : decode cX9_comes 123 = .ok (.aload_n 0, 1) := by decide +kernel
theorem dX9_comes_124 : decode cX9_comes 124 = .ok (.getfield 44, 3) := by decide +kernel
theorem dX9_comes_127 : decode cX9_comes 127 = .ok (.iload 8, 2) := by decide +kernel
theorem dX9_comes_129 : decode cX9_comes 129 = .ok (.iload_n 3, 1) := by decide +kernel
theorem dX9_comes_130 : decode cX9_comes 130 = .ok (.invokevirtual 162, 3) := by decide +kernel
theorem dX9_comes_133 : decode cX9_comes 133 = .ok (.iload 4, 2) := by decide +kernel
theorem dX9_comes_135 : decode cX9_comes 135 = .ok (.if_icmp .ge 7, 3) := by decide +kernel
theorem dX9_comes_138 : decode cX9_comes 138 = .ok (.iconst 1, 1) := by decide +kernel
theorem dX9_comes_139 : decode cX9_comes 139 = .ok (.goto 4, 3) := by decide +kernel
theorem dX9_comes_142 : decode cX9_comes 142 = .ok (.iconst 0, 1) := by decide +kernel
theorem dX9_comes_143 : decode cX9_comes 143 = .ok (.iadd, 1) := by decide +kernel
theorem dX9_comes_144 : decode cX9_comes 144 = .ok (.istore 6, 2) := by decide +kernel
theorem dX9_comes_146 : decode cX9_comes 146 = .ok (.iconst 0, 1) := by decide +kernel
theorem dX9_comes_147 : decode cX9_comes 147 = .ok (.istore 10, 2) := by decide +kernel
theorem dX9_comes_149 : decode cX9_comes 149 = .ok (.iload 10, 2) := by decide +kernel
theorem dX9_comes_151 : decode cX9_comes 151 = .ok (.iload_n 3, 1) := by decide +kernel
theorem dX9_comes_152 : decode cX9_comes 152 = .ok (.iconst 3, 1) := by decide +kernel
theorem dX9_comes_153 : decode cX9_comes 153 = .ok (.iadd, 1) := by decide +kernel
theorem dX9_comes_154 : decode cX9_comes 154 = .ok (.if_icmp .ge 50, 3) := by decide +kernel
theorem dX9_comes_157 : decode cX9_comes 157 = .ok (.aload_n 0, 1) := by decide +kernel
theorem dX9_comes_158 : decode cX9_comes 158 = .ok (.getfield 44, 3) := by decide +kernel
theorem dX9_comes_161 : decode cX9_comes 161 = .ok (.iload 8, 2) := by decide +kernel
theorem dX9_comes_163 : decode cX9_comes 163 = .ok (.iload 10, 2) := by decide +kernel
theorem dX9_comes_165 : decode cX9_comes 165 = .ok (.iadd, 1) := by decide +kernel
theorem dX9_comes_166 : decode cX9_comes 166 = .ok (.aload_n 0, 1) := by decide +kernel
theorem dX9_comes_167 : decode cX9_comes 167 = .ok (.getfield 44, 3) := by decide +kernel
theorem dX9_comes_170 : decode cX9_comes 170 = .ok (.iload 8, 2) := by decide +kernel
theorem dX9_comes_172 : decode cX9_comes 172 = .ok (.iload 10, 2) := by decide +kernel
theorem dX9_comes_174 : decode cX9_comes 174 = .ok (.iadd, 1) := by decide +kernel
theorem dX9_comes_175 : decode cX9_comes 175 = .ok (.iaload, 1) := by decide +kernel
theorem dX9_comes_176 : decode cX9_comes 176 = .ok (.aload_n 0, 1) := by decide +kernel
theorem dX9_comes_177 : decode cX9_comes 177 = .ok (.getfield 32, 3) := by decide +kernel
theorem dX9_comes_180 : decode cX9_comes 180 = .ok (.iload 9, 2) := by decide +kernel
theorem dX9_comes_182 : decode cX9_comes 182 = .ok (.isub, 1) := by decide +kernel
theorem dX9_comes_183 : decode cX9_comes 183 = .ok (.aload_n 0, 1) := by decide +kernel
theorem dX9_comes_184 : decode cX9_comes 184 = .ok (.getfield 62, 3) := by decide +kernel
theorem dX9_comes_187 : decode cX9_comes 187 = .ok (.iload 10, 2) := by decide +kernel
theorem dX9_comes_189 : decode cX9_comes 189 = .ok (.iaload, 1) := by decide +kernel
theorem dX9_comes_190 : decode cX9_comes 190 = .ok (.imul, 1) := by decide +kernel
theorem dX9_comes_191 : decode cX9_comes 191 = .ok (.iadd, 1) := by decide +kernel
theorem dX9_comes_192 : decode cX9_comes 192 = .ok (.aload_n 0, 1) := by decide +kernel
theorem dX9_comes_193 : decode cX9_comes 193 = .ok (.getfield 32, 3) := by decide +kernel
theorem dX9_comes_196 : decode cX9_comes 196 = .ok (.irem, 1) := by decide +kernel
theorem dX9_comes_197 : decode cX9_comes 197 = .ok (.iastore, 1) := by decide +kernel
theorem dX9_comes_198 : decode cX9_comes 198 = .ok (.iinc 10 1, 3) := by decide +kernel
theorem dX9_comes_201 : decode cX9_comes 201 = .ok (.goto (-52), 3) := by decide +kernel
theorem dX9_comes_204 : decode cX9_comes 204 = .ok (.iinc 7 1, 3) := by decide +kernel
theorem dX9_comes_207 : decode cX9_comes 207 = .ok (.goto (-119), 3) := by decide +kernel
theorem dX9_comes_210 : decode cX9_comes 210 = .ok (.aload_n 0, 1) := by decide +kernel
theorem dX9_comes_211 : decode cX9_comes 211 = .ok (.iload_n 1, 1) := by decide +kernel
theorem dX9_comes_212 : decode cX9_comes 212 = .ok (.iload_n 2, 1) := by decide +kernel
theorem dX9_comes_213 : decode cX9_comes 213 = .ok (.invokevirtual 156, 3) := by decide +kernel
theorem dX9_comes_216 : decode cX9_comes 216 = .ok (.istore 7, 2) := by decide +kernel
theorem dX9_comes_218 : decode cX9_comes 218 = .ok (.iload 7, 2) := by decide +kernel
theorem dX9_comes_220 : decode cX9_comes 220 = .ok (.iload 6, 2) := by decide +kernel
theorem dX9_comes_222 : decode cX9_comes 222 = .ok (.if_icmp .le 57, 3) := by decide +kernel
theorem dX9_comes_225 : decode cX9_comes 225 = .ok (.iconst 0, 1) := by decide +kernel
theorem dX9_comes_226 : decode cX9_comes 226 = .ok (.istore 8, 2) := by decide +kernel
theorem dX9_comes_228 : decode cX9_comes 228 = .ok (.iload 8, 2) := by decide +kernel
theorem dX9_comes_230 : decode cX9_comes 230 = .ok (.bipush 8, 2) := by decide +kernel
theorem dX9_comes_232 : decode cX9_comes 232 = .ok (.if_icmp .ge 41, 3) := by decide +kernel
theorem dX9_comes_235 : decode cX9_comes 235 = .ok (.aload_n 0, 1) := by decide +kernel
theorem dX9_comes_236 : decode cX9_comes 236 = .ok (.getfield 44, 3) := by decide +kernel
theorem dX9_comes_239 : decode cX9_comes 239 = .ok (.iload_n 1, 1) := by decide +kernel
theorem dX9_comes_240 : decode cX9_comes 240 = .ok (.iload_n 2, 1) := by decide +kernel
theorem dX9_comes_241 : decode cX9_comes 241 = .ok (.iload 7, 2) := by decide +kernel
theorem dX9_comes_243 : decode cX9_comes 243 = .ok (.invokestatic 146, 3) := by decide +kernel
theorem dX9_comes_246 : decode cX9_comes 246 = .ok (.iload 8, 2) := by decide +kernel
theorem dX9_comes_248 : decode cX9_comes 248 = .ok (.iadd, 1) := by decide +kernel
theorem dX9_comes_249 : decode cX9_comes 249 = .ok (.aload_n 0, 1) := by decide +kernel
theorem dX9_comes_250 : decode cX9_comes 250 = .ok (.getfield 44, 3) := by decide +kernel
theorem dX9_comes_253 : decode cX9_comes 253 = .ok (.iload_n 1, 1) := by decide +kernel
theorem dX9_comes_254 : decode cX9_comes 254 = .ok (.iload_n 2, 1) := by decide +kernel
theorem dX9_comes_255 : decode cX9_comes 255 = .ok (.iload 7, 2) := by decide +kernel
theorem dX9_comes_257 : decode cX9_comes 257 = .ok (.iconst 1, 1) := by decide +kernel
theorem dX9_comes_258 : decode cX9_comes 258 = .ok (.isub, 1) := by decide +kernel
theorem dX9_comes_259 : decode cX9_comes 259 = .ok (.invokestatic 146, 3) := by decide +kernel
theorem dX9_comes_262 : decode cX9_comes 262 = .ok (.iload 8, 2) := by decide +kernel
theorem dX9_comes_264 : decode cX9_comes 264 = .ok (.iadd, 1) := by decide +kernel
theorem dX9_comes_265 : decode cX9_comes 265 = .ok (.iaload, 1) := by decide +kernel
theorem dX9_comes_266 : decode cX9_comes 266 = .ok (.iastore, 1) := by decide +kernel
theorem dX9_comes_267 : decode cX9_comes 267 = .ok (.iinc 8 1, 3) := by decide +kernel
theorem dX9_comes_270 : decode cX9_comes 270 = .ok (.goto (-42), 3) := by decide +kernel
theorem dX9_comes_273 : decode cX9_comes 273 = .ok (.iinc 7 (-1), 3) := by decide +kernel
theorem dX9_comes_276 : decode cX9_comes 276 = .ok (.goto (-58), 3) := by decide +kernel
theorem dX9_comes_279 : decode cX9_comes 279 = .ok (.iconst 0, 1) := by decide +kernel
theorem dX9_comes_280 : decode cX9_comes 280 = .ok (.istore 7, 2) := by decide +kernel
theorem dX9_comes_282 : decode cX9_comes 282 = .ok (.iload 7, 2) := by decide +kernel
theorem dX9_comes_284 : decode cX9_comes 284 = .ok (.bipush 8, 2) := by decide +kernel
theorem dX9_comes_286 : decode cX9_comes 286 = .ok (.if_icmp .ge 31, 3) := by decide +kernel
theorem dX9_comes_289 : decode cX9_comes 289 = .ok (.aload_n 0, 1) := by decide +kernel
theorem dX9_comes_290 : decode cX9_comes 290 = .ok (.getfield 44, 3) := by decide +kernel
theorem dX9_comes_293 : decode cX9_comes 293 = .ok (.iload_n 1, 1) := by decide +kernel
theorem dX9_comes_294 : decode cX9_comes 294 = .ok (.iload_n 2, 1) := by decide +kernel
theorem dX9_comes_295 : decode cX9_comes 295 = .ok (.iload 6, 2) := by decide +kernel
theorem dX9_comes_297 : decode cX9_comes 297 = .ok (.invokestatic 146, 3) := by decide +kernel
theorem dX9_comes_300 : decode cX9_comes 300 = .ok (.iload 7, 2) := by decide +kernel
theorem dX9_comes_302 : decode cX9_comes 302 = .ok (.iadd, 1) := by decide +kernel
theorem dX9_comes_303 : decode cX9_comes 303 = .ok (.aload_n 0, 1) := by decide +kernel
theorem dX9_comes_304 : decode cX9_comes 304 = .ok (.getfield 62, 3) := by decide +kernel
theorem dX9_comes_307 : decode cX9_comes 307 = .ok (.iload 7, 2) := by decide +kernel
theorem dX9_comes_309 : decode cX9_comes 309 = .ok (.iaload, 1) := by decide +kernel
theorem dX9_comes_310 : decode cX9_comes 310 = .ok (.iastore, 1) := by decide +kernel
theorem dX9_comes_311 : decode cX9_comes 311 = .ok (.iinc 7 1, 3) := by decide +kernel
theorem dX9_comes_314 : decode cX9_comes 314 = .ok (.goto (-32), 3) := by decide +kernel
theorem dX9_comes_317 : decode cX9_comes 317 = .ok (.aload_n 0, 1) := by decide +kernel
theorem dX9_comes_318 : decode cX9_comes 318 = .ok (.getfield 41, 3) := by decide +kernel
theorem dX9_comes_321 : decode cX9_comes 321 = .ok (.iconst 4, 1) := by decide +kernel
theorem dX9_comes_322 : decode cX9_comes 322 = .ok (.iload_n 1, 1) := by decide +kernel
theorem dX9_comes_323 : decode cX9_comes 323 = .ok (.imul, 1) := by decide +kernel
theorem dX9_comes_324 : decode cX9_comes 324 = .ok (.iload_n 2, 1) := by decide +kernel
theorem dX9_comes_325 : decode cX9_comes 325 = .ok (.iadd, 1) := by decide +kernel
theorem dX9_comes_326 : decode cX9_comes 326 = .ok (.dup2, 1) := by decide +kernel
theorem dX9_comes_327 : decode cX9_comes 327 = .ok (.iaload, 1) := by decide +kernel
theorem dX9_comes_328 : decode cX9_comes 328 = .ok (.iconst 1, 1) := by decide +kernel
theorem dX9_comes_329 : decode cX9_comes 329 = .ok (.iadd, 1) := by decide +kernel
theorem dX9_comes_330 : decode cX9_comes 330 = .ok (.iastore, 1) := by decide +kernel
theorem dX9_comes_331 : decode cX9_comes 331 = .ok (.iconst 1, 1) := by decide +kernel
theorem dX9_comes_332 : decode cX9_comes 332 = .ok (.ireturn, 1) := by decide +kernel
theorem dX9_againstNodes_0 : decode cX9_againstNodes 0 = .ok (.aload_n 0, 1) := by decide +kernel
theorem dX9_againstNodes_1 : decode cX9_againstNodes 1 = .ok (.iload_n 1, 1) := by decide +kernel
theorem dX9_againstNodes_2 : decode cX9_againstNodes 2 = .ok (.invokevirtual 150, 3) := by decide +kernel
theorem dX9_againstNodes_5 : decode cX9_againstNodes 5 = .ok (.bipush (-9), 2) := by decide +kernel
theorem dX9_againstNodes_7 : decode cX9_againstNodes 7 = .ok (.if_icmp .eq 17, 3) := by decide +kernel
theorem dX9_againstNodes_10 : decode cX9_againstNodes 10 = .ok (.iload_n 2, 1) := by decide +kernel
theorem dX9_againstNodes_11 : decode cX9_againstNodes 11 = .ok (.invokestatic 153, 3) := by decide +kernel
theorem dX9_againstNodes_14 : decode cX9_againstNodes 14 = .ok (.ifCond .eq 10, 3) := by decide +kernel
theorem dX9_againstNodes_17 : decode cX9_againstNodes 17 = .ok (.iload_n 3, 1) := by decide +kernel
theorem dX9_againstNodes_18 : decode cX9_againstNodes 18 = .ok (.invokestatic 153, 3) := by decide +kernel
theorem dX9_againstNodes_21 : decode cX9_againstNodes 21 = .ok (.ifCond .ne 7, 3) := by decide +kernel
theorem dX9_againstNodes_24 : decode cX9_againstNodes 24 = .ok (.iconst (-1), 1) := by decide +kernel
theorem dX9_againstNodes_25 : decode cX9_againstNodes 25 = .ok (.goto 14, 3) := by decide +kernel
theorem dX9_againstNodes_28 : decode cX9_againstNodes 28 = .ok (.iload_n 2, 1) := by decide +kernel
theorem dX9_againstNodes_29 : decode cX9_againstNodes 29 = .ok (.iload_n 3, 1) := by decide +kernel
theorem dX9_againstNodes_30 : decode cX9_againstNodes 30 = .ok (.if_icmp .ne 8, 3) := by decide +kernel
theorem dX9_againstNodes_33 : decode cX9_againstNodes 33 = .ok (.bipush (-3), 2) := by decide +kernel
theorem dX9_againstNodes_35 : decode cX9_againstNodes 35 = .ok (.goto 4, 3) := by decide +kernel
theorem dX9_againstNodes_38 : decode cX9_againstNodes 38 = .ok (.iconst 0, 1) := by decide +kernel
theorem dX9_againstNodes_39 : decode cX9_againstNodes 39 = .ok (.ireturn, 1) := by decide +kernel
theorem dX9_mix_0 : decode cX9_mix 0 = .ok (.aload_n 0, 1) := by decide +kernel
theorem dX9_mix_1 : decode cX9_mix 1 = .ok (.iload_n 1, 1) := by decide +kernel
theorem dX9_mix_2 : decode cX9_mix 2 = .ok (.iload_n 2, 1) := by decide +kernel
theorem dX9_mix_3 : decode cX9_mix 3 = .ok (.iload_n 3, 1) := by decide +kernel
theorem dX9_mix_4 : decode cX9_mix 4 = .ok (.invokevirtual 172, 3) := by decide +kernel
theorem dX9_mix_7 : decode cX9_mix 7 = .ok (.istore 5, 2) := by decide +kernel
theorem dX9_mix_9 : decode cX9_mix 9 = .ok (.iload 5, 2) := by decide +kernel
theorem dX9_mix_11 : decode cX9_mix 11 = .ok (.iconst (-1), 1) := by decide +kernel
theorem dX9_mix_12 : decode cX9_mix 12 = .ok (.if_icmp .ne 5, 3) := by decide +kernel
theorem dX9_mix_15 : decode cX9_mix 15 = .ok (.iconst (-1), 1) := by decide +kernel
theorem dX9_mix_16 : decode cX9_mix 16 = .ok (.ireturn, 1) := by decide +kernel
theorem dX9_mix_17 : decode cX9_mix 17 = .ok (.iload 4, 2) := by decide +kernel
theorem dX9_mix_19 : decode cX9_mix 19 = .ok (.iconst 0, 1) := by decide +kernel
theorem dX9_mix_20 : decode cX9_mix 20 = .ok (.sipush 16806, 3) := by decide +kernel
theorem dX9_mix_23 : decode cX9_mix 23 = .ok (.invokestatic 68, 3) := by decide +kernel
theorem dX9_mix_26 : decode cX9_mix 26 = .ok (.ifCond .ne 6, 3) := by decide +kernel
theorem dX9_mix_29 : decode cX9_mix 29 = .ok (.bipush (-2), 2) := by decide +kernel
theorem dX9_mix_31 : decode cX9_mix 31 = .ok (.ireturn, 1) := by decide +kernel
theorem dX9_mix_32 : decode cX9_mix 32 = .ok (.iload 5, 2) := by decide +kernel
theorem dX9_mix_34 : decode cX9_mix 34 = .ok (.ifCond .eq 6, 3) := by decide +kernel
theorem dX9_mix_37 : decode cX9_mix 37 = .ok (.iload 5, 2) := by decide +kernel
theorem dX9_mix_39 : decode cX9_mix 39 = .ok (.ireturn, 1) := by decide +kernel
theorem dX9_mix_40 : decode cX9_mix 40 = .ok (.aload_n 0, 1) := by decide +kernel
theorem dX9_mix_41 : decode cX9_mix 41 = .ok (.iload_n 1, 1) := by decide +kernel
theorem dX9_mix_42 : decode cX9_mix 42 = .ok (.invokevirtual 150, 3) := by decide +kernel
theorem dX9_mix_45 : decode cX9_mix 45 = .ok (.istore 6, 2) := by decide +kernel
theorem dX9_mix_47 : decode cX9_mix 47 = .ok (.aload_n 0, 1) := by decide +kernel
theorem dX9_mix_48 : decode cX9_mix 48 = .ok (.iload 6, 2) := by decide +kernel
theorem dX9_mix_50 : decode cX9_mix 50 = .ok (.iload_n 2, 1) := by decide +kernel
theorem dX9_mix_51 : decode cX9_mix 51 = .ok (.iload 4, 2) := by decide +kernel
theorem dX9_mix_53 : decode cX9_mix 53 = .ok (.invokevirtual 175, 3) := by decide +kernel
theorem dX9_mix_56 : decode cX9_mix 56 = .ok (.aload_n 0, 1) := by decide +kernel
theorem dX9_mix_57 : decode cX9_mix 57 = .ok (.iload 6, 2) := by decide +kernel
theorem dX9_mix_59 : decode cX9_mix 59 = .ok (.iload_n 3, 1) := by decide +kernel
theorem dX9_mix_60 : decode cX9_mix 60 = .ok (.invokevirtual 179, 3) := by decide +kernel
theorem dX9_mix_63 : decode cX9_mix 63 = .ok (.ifCond .eq 7, 3) := by decide +kernel
theorem dX9_mix_66 : decode cX9_mix 66 = .ok (.iconst 1, 1) := by decide +kernel
theorem dX9_mix_67 : decode cX9_mix 67 = .ok (.goto 4, 3) := by decide +kernel
theorem dX9_mix_70 : decode cX9_mix 70 = .ok (.iconst 0, 1) := by decide +kernel
theorem dX9_mix_71 : decode cX9_mix 71 = .ok (.ireturn, 1) := by decide +kernel
theorem dX9_draw_0 : decode cX9_draw 0 = .ok (.aload_n 0, 1) := by decide +kernel
theorem dX9_draw_1 : decode cX9_draw 1 = .ok (.iload_n 1, 1) := by decide +kernel
theorem dX9_draw_2 : decode cX9_draw 2 = .ok (.iload_n 2, 1) := by decide +kernel
theorem dX9_draw_3 : decode cX9_draw 3 = .ok (.iload_n 3, 1) := by decide +kernel
theorem dX9_draw_4 : decode cX9_draw 4 = .ok (.invokevirtual 172, 3) := by decide +kernel
theorem dX9_draw_7 : decode cX9_draw 7 = .ok (.istore 4, 2) := by decide +kernel
theorem dX9_draw_9 : decode cX9_draw 9 = .ok (.iload 4, 2) := by decide +kernel
theorem dX9_draw_11 : decode cX9_draw 11 = .ok (.ifCond .eq 6, 3) := by decide +kernel
theorem dX9_draw_14 : decode cX9_draw 14 = .ok (.iload 4, 2) := by decide +kernel
theorem dX9_draw_16 : decode cX9_draw 16 = .ok (.ireturn, 1) := by decide +kernel
theorem dX9_draw_17 : decode cX9_draw 17 = .ok (.aload_n 0, 1) := by decide +kernel
theorem dX9_draw_18 : decode cX9_draw 18 = .ok (.ldc 182, 2) := by decide +kernel
theorem dX9_draw_20 : decode cX9_draw 20 = .ok (.aload_n 0, 1) := by decide +kernel
theorem dX9_draw_21 : decode cX9_draw 21 = .ok (.getfield 47, 3) := by decide +kernel
theorem dX9_draw_24 : decode cX9_draw 24 = .ok (.imul, 1) := by decide +kernel
theorem dX9_draw_25 : decode cX9_draw 25 = .ok (.sipush 12345, 3) := by decide +kernel
theorem dX9_draw_28 : decode cX9_draw 28 = .ok (.iadd, 1) := by decide +kernel
theorem dX9_draw_29 : decode cX9_draw 29 = .ok (.putfield 47, 3) := by decide +kernel
theorem dX9_draw_32 : decode cX9_draw 32 = .ok (.aload_n 0, 1) := by decide +kernel
theorem dX9_draw_33 : decode cX9_draw 33 = .ok (.getfield 47, 3) := by decide +kernel
theorem dX9_draw_36 : decode cX9_draw 36 = .ok (.bipush 16, 2) := by decide +kernel
theorem dX9_draw_38 : decode cX9_draw 38 = .ok (.iushr, 1) := by decide +kernel
theorem dX9_draw_39 : decode cX9_draw 39 = .ok (.sipush 16807, 3) := by decide +kernel
theorem dX9_draw_42 : decode cX9_draw 42 = .ok (.irem, 1) := by decide +kernel
theorem dX9_draw_43 : decode cX9_draw 43 = .ok (.istore 5, 2) := by decide +kernel
theorem dX9_draw_45 : decode cX9_draw 45 = .ok (.aload_n 0, 1) := by decide +kernel
theorem dX9_draw_46 : decode cX9_draw 46 = .ok (.iload_n 1, 1) := by decide +kernel
theorem dX9_draw_47 : decode cX9_draw 47 = .ok (.invokevirtual 150, 3) := by decide +kernel
theorem dX9_draw_50 : decode cX9_draw 50 = .ok (.istore 6, 2) := by decide +kernel
theorem dX9_draw_52 : decode cX9_draw 52 = .ok (.aload_n 0, 1) := by decide +kernel
theorem dX9_draw_53 : decode cX9_draw 53 = .ok (.iload 6, 2) := by decide +kernel
theorem dX9_draw_55 : decode cX9_draw 55 = .ok (.iload_n 2, 1) := by decide +kernel
theorem dX9_draw_56 : decode cX9_draw 56 = .ok (.iload 5, 2) := by decide +kernel
theorem dX9_draw_58 : decode cX9_draw 58 = .ok (.invokevirtual 175, 3) := by decide +kernel
theorem dX9_draw_61 : decode cX9_draw 61 = .ok (.aload_n 0, 1) := by decide +kernel
theorem dX9_draw_62 : decode cX9_draw 62 = .ok (.iload 6, 2) := by decide +kernel
theorem dX9_draw_64 : decode cX9_draw 64 = .ok (.iload_n 3, 1) := by decide +kernel
theorem dX9_draw_65 : decode cX9_draw 65 = .ok (.invokevirtual 179, 3) := by decide +kernel
theorem dX9_draw_68 : decode cX9_draw 68 = .ok (.pop, 1) := by decide +kernel
theorem dX9_draw_69 : decode cX9_draw 69 = .ok (.iload 5, 2) := by decide +kernel
theorem dX9_draw_71 : decode cX9_draw 71 = .ok (.ireturn, 1) := by decide +kernel
theorem dX9_mixesOf_0 : decode cX9_mixesOf 0 = .ok (.iconst 1, 1) := by decide +kernel
theorem dX9_mixesOf_1 : decode cX9_mixesOf 1 = .ok (.istore_n 3, 1) := by decide +kernel
theorem dX9_mixesOf_2 : decode cX9_mixesOf 2 = .ok (.iconst 0, 1) := by decide +kernel
theorem dX9_mixesOf_3 : decode cX9_mixesOf 3 = .ok (.istore 4, 2) := by decide +kernel
theorem dX9_mixesOf_5 : decode cX9_mixesOf 5 = .ok (.iload 4, 2) := by decide +kernel
theorem dX9_mixesOf_7 : decode cX9_mixesOf 7 = .ok (.aload_n 0, 1) := by decide +kernel
theorem dX9_mixesOf_8 : decode cX9_mixesOf 8 = .ok (.iload_n 1, 1) := by decide +kernel
theorem dX9_mixesOf_9 : decode cX9_mixesOf 9 = .ok (.iload_n 2, 1) := by decide +kernel
theorem dX9_mixesOf_10 : decode cX9_mixesOf 10 = .ok (.invokevirtual 156, 3) := by decide +kernel
theorem dX9_mixesOf_13 : decode cX9_mixesOf 13 = .ok (.if_icmp .ge 16, 3) := by decide +kernel
theorem dX9_mixesOf_16 : decode cX9_mixesOf 16 = .ok (.iload_n 3, 1) := by decide +kernel
theorem dX9_mixesOf_17 : decode cX9_mixesOf 17 = .ok (.aload_n 0, 1) := by decide +kernel
theorem dX9_mixesOf_18 : decode cX9_mixesOf 18 = .ok (.getfield 32, 3) := by decide +kernel
theorem dX9_mixesOf_21 : decode cX9_mixesOf 21 = .ok (.imul, 1) := by decide +kernel
theorem dX9_mixesOf_22 : decode cX9_mixesOf 22 = .ok (.istore_n 3, 1) := by decide +kernel
theorem dX9_mixesOf_23 : decode cX9_mixesOf 23 = .ok (.iinc 4 1, 3) := by decide +kernel
theorem dX9_mixesOf_26 : decode cX9_mixesOf 26 = .ok (.goto (-21), 3) := by decide +kernel
theorem dX9_mixesOf_29 : decode cX9_mixesOf 29 = .ok (.iload_n 3, 1) := by decide +kernel
theorem dX9_mixesOf_30 : decode cX9_mixesOf 30 = .ok (.ireturn, 1) := by decide +kernel
theorem dX9_freshOf_0 : decode cX9_freshOf 0 = .ok (.iconst 0, 1) := by decide +kernel
theorem dX9_freshOf_1 : decode cX9_freshOf 1 = .ok (.istore 4, 2) := by decide +kernel
theorem dX9_freshOf_3 : decode cX9_freshOf 3 = .ok (.iload 4, 2) := by decide +kernel
theorem dX9_freshOf_5 : decode cX9_freshOf 5 = .ok (.aload_n 0, 1) := by decide +kernel
theorem dX9_freshOf_6 : decode cX9_freshOf 6 = .ok (.iload_n 1, 1) := by decide +kernel
theorem dX9_freshOf_7 : decode cX9_freshOf 7 = .ok (.iload_n 2, 1) := by decide +kernel
theorem dX9_freshOf_8 : decode cX9_freshOf 8 = .ok (.invokevirtual 183, 3) := by decide +kernel
theorem dX9_freshOf_11 : decode cX9_freshOf 11 = .ok (.if_icmp .ge 29, 3) := by decide +kernel
theorem dX9_freshOf_14 : decode cX9_freshOf 14 = .ok (.aload_n 0, 1) := by decide +kernel
theorem dX9_freshOf_15 : decode cX9_freshOf 15 = .ok (.iload_n 1, 1) := by decide +kernel
theorem dX9_freshOf_16 : decode cX9_freshOf 16 = .ok (.iload_n 2, 1) := by decide +kernel
theorem dX9_freshOf_17 : decode cX9_freshOf 17 = .ok (.iload 4, 2) := by decide +kernel
theorem dX9_freshOf_19 : decode cX9_freshOf 19 = .ok (.invokevirtual 175, 3) := by decide +kernel
theorem dX9_freshOf_22 : decode cX9_freshOf 22 = .ok (.aload_n 0, 1) := by decide +kernel
theorem dX9_freshOf_23 : decode cX9_freshOf 23 = .ok (.iload_n 1, 1) := by decide +kernel
theorem dX9_freshOf_24 : decode cX9_freshOf 24 = .ok (.iload_n 3, 1) := by decide +kernel
theorem dX9_freshOf_25 : decode cX9_freshOf 25 = .ok (.invokevirtual 166, 3) := by decide +kernel
theorem dX9_freshOf_28 : decode cX9_freshOf 28 = .ok (.ifCond .eq 6, 3) := by decide +kernel
theorem dX9_freshOf_31 : decode cX9_freshOf 31 = .ok (.iload 4, 2) := by decide +kernel
theorem dX9_freshOf_33 : decode cX9_freshOf 33 = .ok (.ireturn, 1) := by decide +kernel
theorem dX9_freshOf_34 : decode cX9_freshOf 34 = .ok (.iinc 4 1, 3) := by decide +kernel
theorem dX9_freshOf_37 : decode cX9_freshOf 37 = .ok (.goto (-34), 3) := by decide +kernel
theorem dX9_freshOf_40 : decode cX9_freshOf 40 = .ok (.bipush (-9), 2) := by decide +kernel
theorem dX9_freshOf_42 : decode cX9_freshOf 42 = .ok (.ireturn, 1) := by decide +kernel
theorem dX9_fresh_0 : decode cX9_fresh 0 = .ok (.aload_n 0, 1) := by decide +kernel
theorem dX9_fresh_1 : decode cX9_fresh 1 = .ok (.iload_n 1, 1) := by decide +kernel
theorem dX9_fresh_2 : decode cX9_fresh 2 = .ok (.iload_n 2, 1) := by decide +kernel
theorem dX9_fresh_3 : decode cX9_fresh 3 = .ok (.iload_n 3, 1) := by decide +kernel
theorem dX9_fresh_4 : decode cX9_fresh 4 = .ok (.invokevirtual 172, 3) := by decide +kernel
theorem dX9_fresh_7 : decode cX9_fresh 7 = .ok (.istore 4, 2) := by decide +kernel
theorem dX9_fresh_9 : decode cX9_fresh 9 = .ok (.iload 4, 2) := by decide +kernel
theorem dX9_fresh_11 : decode cX9_fresh 11 = .ok (.ifCond .eq 8, 3) := by decide +kernel
theorem dX9_fresh_14 : decode cX9_fresh 14 = .ok (.iload 4, 2) := by decide +kernel
theorem dX9_fresh_16 : decode cX9_fresh 16 = .ok (.goto 14, 3) := by decide +kernel
theorem dX9_fresh_19 : decode cX9_fresh 19 = .ok (.aload_n 0, 1) := by decide +kernel
theorem dX9_fresh_20 : decode cX9_fresh 20 = .ok (.aload_n 0, 1) := by decide +kernel
theorem dX9_fresh_21 : decode cX9_fresh 21 = .ok (.iload_n 1, 1) := by decide +kernel
theorem dX9_fresh_22 : decode cX9_fresh 22 = .ok (.invokevirtual 150, 3) := by decide +kernel
theorem dX9_fresh_25 : decode cX9_fresh 25 = .ok (.iload_n 2, 1) := by decide +kernel
theorem dX9_fresh_26 : decode cX9_fresh 26 = .ok (.iload_n 3, 1) := by decide +kernel
theorem dX9_fresh_27 : decode cX9_fresh 27 = .ok (.invokevirtual 186, 3) := by decide +kernel
theorem dX9_fresh_30 : decode cX9_fresh 30 = .ok (.ireturn, 1) := by decide +kernel
theorem dX9_isNewToAll_0 : decode cX9_isNewToAll 0 = .ok (.iconst 0, 1) := by decide +kernel
theorem dX9_isNewToAll_1 : decode cX9_isNewToAll 1 = .ok (.istore_n 3, 1) := by decide +kernel
theorem dX9_isNewToAll_2 : decode cX9_isNewToAll 2 = .ok (.iload_n 3, 1) := by decide +kernel
theorem dX9_isNewToAll_3 : decode cX9_isNewToAll 3 = .ok (.iconst 4, 1) := by decide +kernel
theorem dX9_isNewToAll_4 : decode cX9_isNewToAll 4 = .ok (.if_icmp .ge 28, 3) := by decide +kernel
theorem dX9_isNewToAll_7 : decode cX9_isNewToAll 7 = .ok (.iload_n 2, 1) := by decide +kernel
theorem dX9_isNewToAll_8 : decode cX9_isNewToAll 8 = .ok (.iload_n 3, 1) := by decide +kernel
theorem dX9_isNewToAll_9 : decode cX9_isNewToAll 9 = .ok (.invokestatic 75, 3) := by decide +kernel
theorem dX9_isNewToAll_12 : decode cX9_isNewToAll 12 = .ok (.ifCond .eq 14, 3) := by decide +kernel
theorem dX9_isNewToAll_15 : decode cX9_isNewToAll 15 = .ok (.aload_n 0, 1) := by decide +kernel
theorem dX9_isNewToAll_16 : decode cX9_isNewToAll 16 = .ok (.iload_n 1, 1) := by decide +kernel
theorem dX9_isNewToAll_17 : decode cX9_isNewToAll 17 = .ok (.iload_n 3, 1) := by decide +kernel
theorem dX9_isNewToAll_18 : decode cX9_isNewToAll 18 = .ok (.invokevirtual 166, 3) := by decide +kernel
theorem dX9_isNewToAll_21 : decode cX9_isNewToAll 21 = .ok (.ifCond .ne 5, 3) := by decide +kernel
theorem dX9_isNewToAll_24 : decode cX9_isNewToAll 24 = .ok (.iconst 0, 1) := by decide +kernel
theorem dX9_isNewToAll_25 : decode cX9_isNewToAll 25 = .ok (.ireturn, 1) := by decide +kernel
theorem dX9_isNewToAll_26 : decode cX9_isNewToAll 26 = .ok (.iinc 3 1, 3) := by decide +kernel
theorem dX9_isNewToAll_29 : decode cX9_isNewToAll 29 = .ok (.goto (-27), 3) := by decide +kernel
theorem dX9_isNewToAll_32 : decode cX9_isNewToAll 32 = .ok (.iconst 1, 1) := by decide +kernel
theorem dX9_isNewToAll_33 : decode cX9_isNewToAll 33 = .ok (.ireturn, 1) := by decide +kernel
theorem dX9_forAll_0 : decode cX9_forAll 0 = .ok (.aload_n 0, 1) := by decide +kernel
theorem dX9_forAll_1 : decode cX9_forAll 1 = .ok (.iload_n 1, 1) := by decide +kernel
theorem dX9_forAll_2 : decode cX9_forAll 2 = .ok (.invokevirtual 150, 3) := by decide +kernel
theorem dX9_forAll_5 : decode cX9_forAll 5 = .ok (.istore_n 3, 1) := by decide +kernel
theorem dX9_forAll_6 : decode cX9_forAll 6 = .ok (.iload_n 3, 1) := by decide +kernel
theorem dX9_forAll_7 : decode cX9_forAll 7 = .ok (.bipush (-9), 2) := by decide +kernel
theorem dX9_forAll_9 : decode cX9_forAll 9 = .ok (.if_icmp .eq 10, 3) := by decide +kernel
theorem dX9_forAll_12 : decode cX9_forAll 12 = .ok (.iload_n 2, 1) := by decide +kernel
theorem dX9_forAll_13 : decode cX9_forAll 13 = .ok (.invokestatic 153, 3) := by decide +kernel
theorem dX9_forAll_16 : decode cX9_forAll 16 = .ok (.ifCond .ne 5, 3) := by decide +kernel
theorem dX9_forAll_19 : decode cX9_forAll 19 = .ok (.iconst (-1), 1) := by decide +kernel
theorem dX9_forAll_20 : decode cX9_forAll 20 = .ok (.ireturn, 1) := by decide +kernel
theorem dX9_forAll_21 : decode cX9_forAll 21 = .ok (.iconst 0, 1) := by decide +kernel
theorem dX9_forAll_22 : decode cX9_forAll 22 = .ok (.istore 4, 2) := by decide +kernel
theorem dX9_forAll_24 : decode cX9_forAll 24 = .ok (.iconst 0, 1) := by decide +kernel
theorem dX9_forAll_25 : decode cX9_forAll 25 = .ok (.istore 5, 2) := by decide +kernel
theorem dX9_forAll_27 : decode cX9_forAll 27 = .ok (.iload 5, 2) := by decide +kernel
theorem dX9_forAll_29 : decode cX9_forAll 29 = .ok (.iconst 4, 1) := by decide +kernel
theorem dX9_forAll_30 : decode cX9_forAll 30 = .ok (.if_icmp .ge 41, 3) := by decide +kernel
theorem dX9_forAll_33 : decode cX9_forAll 33 = .ok (.iload 4, 2) := by decide +kernel
theorem dX9_forAll_35 : decode cX9_forAll 35 = .ok (.iload 5, 2) := by decide +kernel
theorem dX9_forAll_37 : decode cX9_forAll 37 = .ok (.iload_n 2, 1) := by decide +kernel
theorem dX9_forAll_38 : decode cX9_forAll 38 = .ok (.if_icmp .eq 23, 3) := by decide +kernel
theorem dX9_forAll_41 : decode cX9_forAll 41 = .ok (.aload_n 0, 1) := by decide +kernel
theorem dX9_forAll_42 : decode cX9_forAll 42 = .ok (.iload_n 3, 1) := by decide +kernel
theorem dX9_forAll_43 : decode cX9_forAll 43 = .ok (.iload_n 2, 1) := by decide +kernel
theorem dX9_forAll_44 : decode cX9_forAll 44 = .ok (.iload 5, 2) := by decide +kernel
theorem dX9_forAll_46 : decode cX9_forAll 46 = .ok (.invokevirtual 186, 3) := by decide +kernel
theorem dX9_forAll_49 : decode cX9_forAll 49 = .ok (.bipush (-9), 2) := by decide +kernel
theorem dX9_forAll_51 : decode cX9_forAll 51 = .ok (.if_icmp .eq 10, 3) := by decide +kernel
theorem dX9_forAll_54 : decode cX9_forAll 54 = .ok (.iconst 1, 1) := by decide +kernel
theorem dX9_forAll_55 : decode cX9_forAll 55 = .ok (.iload 5, 2) := by decide +kernel
theorem dX9_forAll_57 : decode cX9_forAll 57 = .ok (.ishl, 1) := by decide +kernel
theorem dX9_forAll_58 : decode cX9_forAll 58 = .ok (.goto 4, 3) := by decide +kernel
theorem dX9_forAll_61 : decode cX9_forAll 61 = .ok (.iconst 0, 1) := by decide +kernel
theorem dX9_forAll_62 : decode cX9_forAll 62 = .ok (.ior, 1) := by decide +kernel
theorem dX9_forAll_63 : decode cX9_forAll 63 = .ok (.istore 4, 2) := by decide +kernel
theorem dX9_forAll_65 : decode cX9_forAll 65 = .ok (.iinc 5 1, 3) := by decide +kernel
theorem dX9_forAll_68 : decode cX9_forAll 68 = .ok (.goto (-41), 3) := by decide +kernel
theorem dX9_forAll_71 : decode cX9_forAll 71 = .ok (.iconst 0, 1) := by decide +kernel
theorem dX9_forAll_72 : decode cX9_forAll 72 = .ok (.istore 5, 2) := by decide +kernel
