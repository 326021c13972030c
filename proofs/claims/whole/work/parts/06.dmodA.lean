theorem dX11_init_0 : decode cX11_init 0 = .ok (.aload_n 0, 1) := by decide +kernel
theorem dX11_init_1 : decode cX11_init 1 = .ok (.invokespecial 1, 3) := by decide +kernel
theorem dX11_init_4 : decode cX11_init 4 = .ok (.aload_n 0, 1) := by decide +kernel
theorem dX11_init_5 : decode cX11_init 5 = .ok (.bipush 6, 2) := by decide +kernel
theorem dX11_init_7 : decode cX11_init 7 = .ok (.newarray .int, 2) := by decide +kernel
theorem dX11_init_9 : decode cX11_init 9 = .ok (.putfield 7, 3) := by decide +kernel
theorem dX11_init_12 : decode cX11_init 12 = .ok (.aload_n 0, 1) := by decide +kernel
theorem dX11_init_13 : decode cX11_init 13 = .ok (.bipush 6, 2) := by decide +kernel
theorem dX11_init_15 : decode cX11_init 15 = .ok (.newarray .int, 2) := by decide +kernel
theorem dX11_init_17 : decode cX11_init 17 = .ok (.putfield 13, 3) := by decide +kernel
theorem dX11_init_20 : decode cX11_init 20 = .ok (.aload_n 0, 1) := by decide +kernel
theorem dX11_init_21 : decode cX11_init 21 = .ok (.bipush 6, 2) := by decide +kernel
theorem dX11_init_23 : decode cX11_init 23 = .ok (.newarray .int, 2) := by decide +kernel
theorem dX11_init_25 : decode cX11_init 25 = .ok (.putfield 16, 3) := by decide +kernel
theorem dX11_init_28 : decode cX11_init 28 = .ok (.aload_n 0, 1) := by decide +kernel
theorem dX11_init_29 : decode cX11_init 29 = .ok (.bipush 24, 2) := by decide +kernel
theorem dX11_init_31 : decode cX11_init 31 = .ok (.newarray .int, 2) := by decide +kernel
theorem dX11_init_33 : decode cX11_init 33 = .ok (.putfield 19, 3) := by decide +kernel
theorem dX11_init_36 : decode cX11_init 36 = .ok (.aload_n 0, 1) := by decide +kernel
theorem dX11_init_37 : decode cX11_init 37 = .ok (.bipush 24, 2) := by decide +kernel
theorem dX11_init_39 : decode cX11_init 39 = .ok (.newarray .int, 2) := by decide +kernel
theorem dX11_init_41 : decode cX11_init 41 = .ok (.putfield 22, 3) := by decide +kernel
theorem dX11_init_44 : decode cX11_init 44 = .ok (.aload_n 0, 1) := by decide +kernel
theorem dX11_init_45 : decode cX11_init 45 = .ok (.bipush 24, 2) := by decide +kernel
theorem dX11_init_47 : decode cX11_init 47 = .ok (.newarray .int, 2) := by decide +kernel
theorem dX11_init_49 : decode cX11_init 49 = .ok (.putfield 25, 3) := by decide +kernel
theorem dX11_init_52 : decode cX11_init 52 = .ok (.aload_n 0, 1) := by decide +kernel
theorem dX11_init_53 : decode cX11_init 53 = .ok (.bipush 24, 2) := by decide +kernel
theorem dX11_init_55 : decode cX11_init 55 = .ok (.newarray .int, 2) := by decide +kernel
theorem dX11_init_57 : decode cX11_init 57 = .ok (.putfield 28, 3) := by decide +kernel
theorem dX11_init_60 : decode cX11_init 60 = .ok (.aload_n 0, 1) := by decide +kernel
theorem dX11_init_61 : decode cX11_init 61 = .ok (.bipush 24, 2) := by decide +kernel
theorem dX11_init_63 : decode cX11_init 63 = .ok (.newarray .int, 2) := by decide +kernel
theorem dX11_init_65 : decode cX11_init 65 = .ok (.putfield 31, 3) := by decide +kernel
theorem dX11_init_68 : decode cX11_init 68 = .ok (.aload_n 0, 1) := by decide +kernel
theorem dX11_init_69 : decode cX11_init 69 = .ok (.bipush 24, 2) := by decide +kernel
theorem dX11_init_71 : decode cX11_init 71 = .ok (.newarray .int, 2) := by decide +kernel
theorem dX11_init_73 : decode cX11_init 73 = .ok (.putfield 34, 3) := by decide +kernel
theorem dX11_init_76 : decode cX11_init 76 = .ok (.aload_n 0, 1) := by decide +kernel
theorem dX11_init_77 : decode cX11_init 77 = .ok (.bipush 24, 2) := by decide +kernel
theorem dX11_init_79 : decode cX11_init 79 = .ok (.newarray .int, 2) := by decide +kernel
theorem dX11_init_81 : decode cX11_init 81 = .ok (.putfield 37, 3) := by decide +kernel
theorem dX11_init_84 : decode cX11_init 84 = .ok (.aload_n 0, 1) := by decide +kernel
theorem dX11_init_85 : decode cX11_init 85 = .ok (.bipush 24, 2) := by decide +kernel
theorem dX11_init_87 : decode cX11_init 87 = .ok (.newarray .int, 2) := by decide +kernel
theorem dX11_init_89 : decode cX11_init 89 = .ok (.putfield 40, 3) := by decide +kernel
theorem dX11_init_92 : decode cX11_init 92 = .ok (.aload_n 0, 1) := by decide +kernel
theorem dX11_init_93 : decode cX11_init 93 = .ok (.bipush 100, 2) := by decide +kernel
theorem dX11_init_95 : decode cX11_init 95 = .ok (.newarray .int, 2) := by decide +kernel
theorem dX11_init_97 : decode cX11_init 97 = .ok (.putfield 43, 3) := by decide +kernel
theorem dX11_init_100 : decode cX11_init 100 = .ok (.aload_n 0, 1) := by decide +kernel
theorem dX11_init_101 : decode cX11_init 101 = .ok (.bipush 100, 2) := by decide +kernel
theorem dX11_init_103 : decode cX11_init 103 = .ok (.newarray .int, 2) := by decide +kernel
theorem dX11_init_105 : decode cX11_init 105 = .ok (.putfield 46, 3) := by decide +kernel
theorem dX11_init_108 : decode cX11_init 108 = .ok (.aload_n 0, 1) := by decide +kernel
theorem dX11_init_109 : decode cX11_init 109 = .ok (.bipush 100, 2) := by decide +kernel
theorem dX11_init_111 : decode cX11_init 111 = .ok (.newarray .int, 2) := by decide +kernel
theorem dX11_init_113 : decode cX11_init 113 = .ok (.putfield 49, 3) := by decide +kernel
theorem dX11_init_116 : decode cX11_init 116 = .ok (.aload_n 0, 1) := by decide +kernel
theorem dX11_init_117 : decode cX11_init 117 = .ok (.bipush 100, 2) := by decide +kernel
theorem dX11_init_119 : decode cX11_init 119 = .ok (.newarray .int, 2) := by decide +kernel
theorem dX11_init_121 : decode cX11_init 121 = .ok (.putfield 52, 3) := by decide +kernel
theorem dX11_init_124 : decode cX11_init 124 = .ok (.aload_n 0, 1) := by decide +kernel
theorem dX11_init_125 : decode cX11_init 125 = .ok (.bipush 12, 2) := by decide +kernel
theorem dX11_init_127 : decode cX11_init 127 = .ok (.newarray .int, 2) := by decide +kernel
theorem dX11_init_129 : decode cX11_init 129 = .ok (.putfield 55, 3) := by decide +kernel
theorem dX11_init_132 : decode cX11_init 132 = .ok (.aload_n 0, 1) := by decide +kernel
theorem dX11_init_133 : decode cX11_init 133 = .ok (.bipush 12, 2) := by decide +kernel
theorem dX11_init_135 : decode cX11_init 135 = .ok (.newarray .int, 2) := by decide +kernel
theorem dX11_init_137 : decode cX11_init 137 = .ok (.putfield 58, 3) := by decide +kernel
theorem dX11_init_140 : decode cX11_init 140 = .ok (.aload_n 0, 1) := by decide +kernel
theorem dX11_init_141 : decode cX11_init 141 = .ok (.bipush 12, 2) := by decide +kernel
theorem dX11_init_143 : decode cX11_init 143 = .ok (.newarray .boolean, 2) := by decide +kernel
theorem dX11_init_145 : decode cX11_init 145 = .ok (.putfield 61, 3) := by decide +kernel
theorem dX11_init_148 : decode cX11_init 148 = .ok (.aload_n 0, 1) := by decide +kernel
theorem dX11_init_149 : decode cX11_init 149 = .ok (.bipush 12, 2) := by decide +kernel
theorem dX11_init_151 : decode cX11_init 151 = .ok (.newarray .int, 2) := by decide +kernel
theorem dX11_init_153 : decode cX11_init 153 = .ok (.putfield 65, 3) := by decide +kernel
theorem dX11_init_156 : decode cX11_init 156 = .ok (.aload_n 0, 1) := by decide +kernel
theorem dX11_init_157 : decode cX11_init 157 = .ok (.bipush 12, 2) := by decide +kernel
theorem dX11_init_159 : decode cX11_init 159 = .ok (.newarray .int, 2) := by decide +kernel
theorem dX11_init_161 : decode cX11_init 161 = .ok (.putfield 68, 3) := by decide +kernel
theorem dX11_init_164 : decode cX11_init 164 = .ok (.aload_n 0, 1) := by decide +kernel
theorem dX11_init_165 : decode cX11_init 165 = .ok (.bipush 12, 2) := by decide +kernel
theorem dX11_init_167 : decode cX11_init 167 = .ok (.newarray .int, 2) := by decide +kernel
theorem dX11_init_169 : decode cX11_init 169 = .ok (.putfield 71, 3) := by decide +kernel
theorem dX11_init_172 : decode cX11_init 172 = .ok (.aload_n 0, 1) := by decide +kernel
theorem dX11_init_173 : decode cX11_init 173 = .ok (.bipush 12, 2) := by decide +kernel
theorem dX11_init_175 : decode cX11_init 175 = .ok (.newarray .int, 2) := by decide +kernel
theorem dX11_init_177 : decode cX11_init 177 = .ok (.putfield 74, 3) := by decide +kernel
theorem dX11_init_180 : decode cX11_init 180 = .ok (.aload_n 0, 1) := by decide +kernel
theorem dX11_init_181 : decode cX11_init 181 = .ok (.bipush 12, 2) := by decide +kernel
theorem dX11_init_183 : decode cX11_init 183 = .ok (.newarray .int, 2) := by decide +kernel
theorem dX11_init_185 : decode cX11_init 185 = .ok (.putfield 77, 3) := by decide +kernel
theorem dX11_init_188 : decode cX11_init 188 = .ok (.aload_n 0, 1) := by decide +kernel
theorem dX11_init_189 : decode cX11_init 189 = .ok (.bipush 12, 2) := by decide +kernel
theorem dX11_init_191 : decode cX11_init 191 = .ok (.newarray .int, 2) := by decide +kernel
theorem dX11_init_193 : decode cX11_init 193 = .ok (.putfield 80, 3) := by decide +kernel
theorem dX11_init_196 : decode cX11_init 196 = .ok (.aload_n 0, 1) := by decide +kernel
theorem dX11_init_197 : decode cX11_init 197 = .ok (.bipush 20, 2) := by decide +kernel
theorem dX11_init_199 : decode cX11_init 199 = .ok (.newarray .int, 2) := by decide +kernel
theorem dX11_init_201 : decode cX11_init 201 = .ok (.putfield 83, 3) := by decide +kernel
theorem dX11_init_204 : decode cX11_init 204 = .ok (.aload_n 0, 1) := by decide +kernel
theorem dX11_init_205 : decode cX11_init 205 = .ok (.bipush 20, 2) := by decide +kernel
theorem dX11_init_207 : decode cX11_init 207 = .ok (.newarray .int, 2) := by decide +kernel
theorem dX11_init_209 : decode cX11_init 209 = .ok (.putfield 86, 3) := by decide +kernel
theorem dX11_init_212 : decode cX11_init 212 = .ok (.aload_n 0, 1) := by decide +kernel
theorem dX11_init_213 : decode cX11_init 213 = .ok (.bipush 20, 2) := by decide +kernel
theorem dX11_init_215 : decode cX11_init 215 = .ok (.newarray .boolean, 2) := by decide +kernel
theorem dX11_init_217 : decode cX11_init 217 = .ok (.putfield 89, 3) := by decide +kernel
theorem dX11_init_220 : decode cX11_init 220 = .ok (.aload_n 0, 1) := by decide +kernel
theorem dX11_init_221 : decode cX11_init 221 = .ok (.iconst 4, 1) := by decide +kernel
theorem dX11_init_222 : decode cX11_init 222 = .ok (.newarray .int, 2) := by decide +kernel
theorem dX11_init_224 : decode cX11_init 224 = .ok (.putfield 92, 3) := by decide +kernel
theorem dX11_init_227 : decode cX11_init 227 = .ok (.aload_n 0, 1) := by decide +kernel
theorem dX11_init_228 : decode cX11_init 228 = .ok (.iconst 4, 1) := by decide +kernel
theorem dX11_init_229 : decode cX11_init 229 = .ok (.newarray .int, 2) := by decide +kernel
theorem dX11_init_231 : decode cX11_init 231 = .ok (.putfield 95, 3) := by decide +kernel
theorem dX11_init_234 : decode cX11_init 234 = .ok (.aload_n 0, 1) := by decide +kernel
theorem dX11_init_235 : decode cX11_init 235 = .ok (.bipush 60, 2) := by decide +kernel
theorem dX11_init_237 : decode cX11_init 237 = .ok (.newarray .int, 2) := by decide +kernel
theorem dX11_init_239 : decode cX11_init 239 = .ok (.putfield 98, 3) := by decide +kernel
theorem dX11_init_242 : decode cX11_init 242 = .ok (.aload_n 0, 1) := by decide +kernel
theorem dX11_init_243 : decode cX11_init 243 = .ok (.bipush 60, 2) := by decide +kernel
theorem dX11_init_245 : decode cX11_init 245 = .ok (.newarray .int, 2) := by decide +kernel
theorem dX11_init_247 : decode cX11_init 247 = .ok (.putfield 101, 3) := by decide +kernel
theorem dX11_init_250 : decode cX11_init 250 = .ok (.aload_n 0, 1) := by decide +kernel
theorem dX11_init_251 : decode cX11_init 251 = .ok (.bipush 60, 2) := by decide +kernel
theorem dX11_init_253 : decode cX11_init 253 = .ok (.newarray .int, 2) := by decide +kernel
theorem dX11_init_255 : decode cX11_init 255 = .ok (.putfield 104, 3) := by decide +kernel
theorem dX11_init_258 : decode cX11_init 258 = .ok (.aload_n 0, 1) := by decide +kernel
theorem dX11_init_259 : decode cX11_init 259 = .ok (.bipush 72, 2) := by decide +kernel
theorem dX11_init_261 : decode cX11_init 261 = .ok (.newarray .int, 2) := by decide +kernel
theorem dX11_init_263 : decode cX11_init 263 = .ok (.putfield 107, 3) := by decide +kernel
theorem dX11_init_266 : decode cX11_init 266 = .ok (.aload_n 0, 1) := by decide +kernel
theorem dX11_init_267 : decode cX11_init 267 = .ok (.iconst 4, 1) := by decide +kernel
theorem dX11_init_268 : decode cX11_init 268 = .ok (.newarray .int, 2) := by decide +kernel
theorem dX11_init_270 : decode cX11_init 270 = .ok (.putfield 110, 3) := by decide +kernel
theorem dX11_init_273 : decode cX11_init 273 = .ok (.aload_n 0, 1) := by decide +kernel
theorem dX11_init_274 : decode cX11_init 274 = .ok (.bipush 48, 2) := by decide +kernel
theorem dX11_init_276 : decode cX11_init 276 = .ok (.newarray .byte, 2) := by decide +kernel
theorem dX11_init_278 : decode cX11_init 278 = .ok (.putfield 113, 3) := by decide +kernel
theorem dX11_init_281 : decode cX11_init 281 = .ok (.aload_n 0, 1) := by decide +kernel
theorem dX11_init_282 : decode cX11_init 282 = .ok (.bipush 12, 2) := by decide +kernel
theorem dX11_init_284 : decode cX11_init 284 = .ok (.newarray .byte, 2) := by decide +kernel
theorem dX11_init_286 : decode cX11_init 286 = .ok (.putfield 117, 3) := by decide +kernel
theorem dX11_init_289 : decode cX11_init 289 = .ok (.aload_n 0, 1) := by decide +kernel
theorem dX11_init_290 : decode cX11_init 290 = .ok (.sipush 961, 3) := by decide +kernel
theorem dX11_init_293 : decode cX11_init 293 = .ok (.newarray .int, 2) := by decide +kernel
theorem dX11_init_295 : decode cX11_init 295 = .ok (.putfield 120, 3) := by decide +kernel
theorem dX11_init_298 : decode cX11_init 298 = .ok (.aload_n 0, 1) := by decide +kernel
theorem dX11_init_299 : decode cX11_init 299 = .ok (.bipush 31, 2) := by decide +kernel
theorem dX11_init_301 : decode cX11_init 301 = .ok (.newarray .int, 2) := by decide +kernel
theorem dX11_init_303 : decode cX11_init 303 = .ok (.putfield 123, 3) := by decide +kernel
theorem dX11_init_306 : decode cX11_init 306 = .ok (.aload_n 0, 1) := by decide +kernel
theorem dX11_init_307 : decode cX11_init 307 = .ok (.bipush 31, 2) := by decide +kernel
theorem dX11_init_309 : decode cX11_init 309 = .ok (.newarray .int, 2) := by decide +kernel
theorem dX11_init_311 : decode cX11_init 311 = .ok (.putfield 126, 3) := by decide +kernel
theorem dX11_init_314 : decode cX11_init 314 = .ok (.iconst 0, 1) := by decide +kernel
theorem dX11_init_315 : decode cX11_init 315 = .ok (.istore_n 1, 1) := by decide +kernel
theorem dX11_init_316 : decode cX11_init 316 = .ok (.iload_n 1, 1) := by decide +kernel
theorem dX11_init_317 : decode cX11_init 317 = .ok (.iconst 4, 1) := by decide +kernel
theorem dX11_init_318 : decode cX11_init 318 = .ok (.if_icmp .ge 18, 3) := by decide +kernel
theorem dX11_init_321 : decode cX11_init 321 = .ok (.aload_n 0, 1) := by decide +kernel
theorem dX11_init_322 : decode cX11_init 322 = .ok (.getfield 95, 3) := by decide +kernel
theorem dX11_init_325 : decode cX11_init 325 = .ok (.iload_n 1, 1) := by decide +kernel
theorem dX11_init_326 : decode cX11_init 326 = .ok (.sipush 30000, 3) := by decide +kernel
theorem dX11_init_329 : decode cX11_init 329 = .ok (.iastore, 1) := by decide +kernel
theorem dX11_init_330 : decode cX11_init 330 = .ok (.iinc 1 1, 3) := by decide +kernel
theorem dX11_init_333 : decode cX11_init 333 = .ok (.goto (-17), 3) := by decide +kernel
theorem dX11_init_336 : decode cX11_init 336 = .ok (.iconst 0, 1) := by decide +kernel
theorem dX11_init_337 : decode cX11_init 337 = .ok (.istore_n 1, 1) := by decide +kernel
theorem dX11_init_338 : decode cX11_init 338 = .ok (.iload_n 1, 1) := by decide +kernel
theorem dX11_init_339 : decode cX11_init 339 = .ok (.iconst 4, 1) := by decide +kernel
theorem dX11_init_340 : decode cX11_init 340 = .ok (.if_icmp .ge 16, 3) := by decide +kernel
theorem dX11_init_343 : decode cX11_init 343 = .ok (.aload_n 0, 1) := by decide +kernel
theorem dX11_init_344 : decode cX11_init 344 = .ok (.getfield 110, 3) := by decide +kernel
theorem dX11_init_347 : decode cX11_init 347 = .ok (.iload_n 1, 1) := by decide +kernel
theorem dX11_init_348 : decode cX11_init 348 = .ok (.iconst (-1), 1) := by decide +kernel
theorem dX11_init_349 : decode cX11_init 349 = .ok (.iastore, 1) := by decide +kernel
theorem dX11_init_350 : decode cX11_init 350 = .ok (.iinc 1 1, 3) := by decide +kernel
theorem dX11_init_353 : decode cX11_init 353 = .ok (.goto (-15), 3) := by decide +kernel
theorem dX11_init_356 : decode cX11_init 356 = .ok (.return_, 1) := by decide +kernel
theorem dX11_in_0 : decode cX11_in 0 = .ok (.iload_n 0, 1) := by decide +kernel
theorem dX11_in_1 : decode cX11_in 1 = .ok (.iload_n 1, 1) := by decide +kernel
theorem dX11_in_2 : decode cX11_in 2 = .ok (.if_icmp .lt 12, 3) := by decide +kernel
theorem dX11_in_5 : decode cX11_in 5 = .ok (.iload_n 0, 1) := by decide +kernel
theorem dX11_in_6 : decode cX11_in 6 = .ok (.iload_n 2, 1) := by decide +kernel
theorem dX11_in_7 : decode cX11_in 7 = .ok (.if_icmp .gt 7, 3) := by decide +kernel
theorem dX11_in_10 : decode cX11_in 10 = .ok (.iconst 1, 1) := by decide +kernel
theorem dX11_in_11 : decode cX11_in 11 = .ok (.goto 4, 3) := by decide +kernel
theorem dX11_in_14 : decode cX11_in 14 = .ok (.iconst 0, 1) := by decide +kernel
theorem dX11_in_15 : decode cX11_in 15 = .ok (.ireturn, 1) := by decide +kernel
theorem dX11_has_0 : decode cX11_has 0 = .ok (.iload_n 0, 1) := by decide +kernel
theorem dX11_has_1 : decode cX11_has 1 = .ok (.iload_n 1, 1) := by decide +kernel
theorem dX11_has_2 : decode cX11_has 2 = .ok (.ishr, 1) := by decide +kernel
theorem dX11_has_3 : decode cX11_has 3 = .ok (.iconst 1, 1) := by decide +kernel
theorem dX11_has_4 : decode cX11_has 4 = .ok (.iand, 1) := by decide +kernel
theorem dX11_has_5 : decode cX11_has 5 = .ok (.iconst 1, 1) := by decide +kernel
theorem dX11_has_6 : decode cX11_has 6 = .ok (.if_icmp .ne 7, 3) := by decide +kernel
theorem dX11_has_9 : decode cX11_has 9 = .ok (.iconst 1, 1) := by decide +kernel
theorem dX11_has_10 : decode cX11_has 10 = .ok (.goto 4, 3) := by decide +kernel
theorem dX11_has_13 : decode cX11_has 13 = .ok (.iconst 0, 1) := by decide +kernel
theorem dX11_has_14 : decode cX11_has 14 = .ok (.ireturn, 1) := by decide +kernel
theorem dX11_bitsOf_0 : decode cX11_bitsOf 0 = .ok (.iconst 0, 1) := by decide +kernel
theorem dX11_bitsOf_1 : decode cX11_bitsOf 1 = .ok (.istore_n 1, 1) := by decide +kernel
theorem dX11_bitsOf_2 : decode cX11_bitsOf 2 = .ok (.iconst 0, 1) := by decide +kernel
theorem dX11_bitsOf_3 : decode cX11_bitsOf 3 = .ok (.istore_n 2, 1) := by decide +kernel
theorem dX11_bitsOf_4 : decode cX11_bitsOf 4 = .ok (.iload_n 2, 1) := by decide +kernel
theorem dX11_bitsOf_5 : decode cX11_bitsOf 5 = .ok (.bipush 31, 2) := by decide +kernel
theorem dX11_bitsOf_7 : decode cX11_bitsOf 7 = .ok (.if_icmp .ge 17, 3) := by decide +kernel
theorem dX11_bitsOf_10 : decode cX11_bitsOf 10 = .ok (.iload_n 1, 1) := by decide +kernel
theorem dX11_bitsOf_11 : decode cX11_bitsOf 11 = .ok (.iload_n 0, 1) := by decide +kernel
theorem dX11_bitsOf_12 : decode cX11_bitsOf 12 = .ok (.iload_n 2, 1) := by decide +kernel
theorem dX11_bitsOf_13 : decode cX11_bitsOf 13 = .ok (.ishr, 1) := by decide +kernel
theorem dX11_bitsOf_14 : decode cX11_bitsOf 14 = .ok (.iconst 1, 1) := by decide +kernel
theorem dX11_bitsOf_15 : decode cX11_bitsOf 15 = .ok (.iand, 1) := by decide +kernel
theorem dX11_bitsOf_16 : decode cX11_bitsOf 16 = .ok (.iadd, 1) := by decide +kernel
theorem dX11_bitsOf_17 : decode cX11_bitsOf 17 = .ok (.istore_n 1, 1) := by decide +kernel
theorem dX11_bitsOf_18 : decode cX11_bitsOf 18 = .ok (.iinc 2 1, 3) := by decide +kernel
theorem dX11_bitsOf_21 : decode cX11_bitsOf 21 = .ok (.goto (-17), 3) := by decide +kernel
theorem dX11_bitsOf_24 : decode cX11_bitsOf 24 = .ok (.iload_n 1, 1) := by decide +kernel
theorem dX11_bitsOf_25 : decode cX11_bitsOf 25 = .ok (.ireturn, 1) := by decide +kernel
theorem dX11_meets_0 : decode cX11_meets 0 = .ok (.aload_n 0, 1) := by decide +kernel
theorem dX11_meets_1 : decode cX11_meets 1 = .ok (.iload_n 1, 1) := by decide +kernel
theorem dX11_meets_2 : decode cX11_meets 2 = .ok (.putfield 129, 3) := by decide +kernel
theorem dX11_meets_5 : decode cX11_meets 5 = .ok (.aload_n 0, 1) := by decide +kernel
theorem dX11_meets_6 : decode cX11_meets 6 = .ok (.getfield 7, 3) := by decide +kernel
theorem dX11_meets_9 : decode cX11_meets 9 = .ok (.iload_n 1, 1) := by decide +kernel
theorem dX11_meets_10 : decode cX11_meets 10 = .ok (.dup2, 1) := by decide +kernel
theorem dX11_meets_11 : decode cX11_meets 11 = .ok (.iaload, 1) := by decide +kernel
theorem dX11_meets_12 : decode cX11_meets 12 = .ok (.iconst 1, 1) := by decide +kernel
theorem dX11_meets_13 : decode cX11_meets 13 = .ok (.iadd, 1) := by decide +kernel
theorem dX11_meets_14 : decode cX11_meets 14 = .ok (.iastore, 1) := by decide +kernel
theorem dX11_meets_15 : decode cX11_meets 15 = .ok (.bipush (-3), 2) := by decide +kernel
theorem dX11_meets_17 : decode cX11_meets 17 = .ok (.ireturn, 1) := by decide +kernel
theorem dX11_finding_0 : decode cX11_finding 0 = .ok (.aload_n 0, 1) := by decide +kernel
theorem dX11_finding_1 : decode cX11_finding 1 = .ok (.getfield 129, 3) := by decide +kernel
theorem dX11_finding_4 : decode cX11_finding 4 = .ok (.ireturn, 1) := by decide +kernel
set_option maxRecDepth 20000 in
theorem ggX11_findings_X11_in : GoodIn wsX11_findings wsX11_in := goodIn_r _ [5] (by decide +kernel) (by decide +kernel)
set_option maxRecDepth 20000 in
theorem gX11_findings_X11_in : GoodIn wsX11_findings (va_wsS RX11 133 yX11_in wsX11_in) := goodIn_app (goodIn_of _ (by decide +kernel)) ggX11_findings_X11_in
theorem dX11_findings_0 : decode cX11_findings 0 = .ok (.iload_n 1, 1) := by decide +kernel
theorem dX11_findings_1 : decode cX11_findings 1 = .ok (.iconst 1, 1) := by decide +kernel
theorem dX11_findings_2 : decode cX11_findings 2 = .ok (.iconst 5, 1) := by decide +kernel
theorem dX11_findings_3 : decode cX11_findings 3 = .ok (.invokestatic 133, 3) := by decide +kernel
theorem dX11_findings_6 : decode cX11_findings 6 = .ok (.ifCond .eq 12, 3) := by decide +kernel
theorem dX11_findings_9 : decode cX11_findings 9 = .ok (.aload_n 0, 1) := by decide +kernel
theorem dX11_findings_10 : decode cX11_findings 10 = .ok (.getfield 7, 3) := by decide +kernel
theorem dX11_findings_13 : decode cX11_findings 13 = .ok (.iload_n 1, 1) := by decide +kernel
theorem dX11_findings_14 : decode cX11_findings 14 = .ok (.iaload, 1) := by decide +kernel
theorem dX11_findings_15 : decode cX11_findings 15 = .ok (.goto 4, 3) := by decide +kernel
theorem dX11_findings_18 : decode cX11_findings 18 = .ok (.iconst (-1), 1) := by decide +kernel
theorem dX11_findings_19 : decode cX11_findings 19 = .ok (.ireturn, 1) := by decide +kernel
theorem dX11_asked_0 : decode cX11_asked 0 = .ok (.aload_n 0, 1) := by decide +kernel
theorem dX11_asked_1 : decode cX11_asked 1 = .ok (.getfield 137, 3) := by decide +kernel
theorem dX11_asked_4 : decode cX11_asked 4 = .ok (.ireturn, 1) := by decide +kernel
set_option maxRecDepth 20000 in
theorem ggX11_isDay_X11_in : GoodIn wsX11_isDay wsX11_in := goodIn_r _ [4] (by decide +kernel) (by decide +kernel)
set_option maxRecDepth 20000 in
theorem gX11_isDay_X11_in : GoodIn wsX11_isDay (va_wsS RX11 133 yX11_in wsX11_in) := goodIn_app (goodIn_of _ (by decide +kernel)) ggX11_isDay_X11_in
theorem dX11_isDay_0 : decode cX11_isDay 0 = .ok (.iload_n 0, 1) := by decide +kernel
theorem dX11_isDay_1 : decode cX11_isDay 1 = .ok (.iconst 0, 1) := by decide +kernel
theorem dX11_isDay_2 : decode cX11_isDay 2 = .ok (.sipush 30000, 3) := by decide +kernel
theorem dX11_isDay_5 : decode cX11_isDay 5 = .ok (.invokestatic 133, 3) := by decide +kernel
theorem dX11_isDay_8 : decode cX11_isDay 8 = .ok (.ireturn, 1) := by decide +kernel
theorem dX11_later_0 : decode cX11_later 0 = .ok (.iload_n 1, 1) := by decide +kernel
theorem dX11_later_1 : decode cX11_later 1 = .ok (.ifCond .lt 15, 3) := by decide +kernel
theorem dX11_later_4 : decode cX11_later 4 = .ok (.iload_n 1, 1) := by decide +kernel
theorem dX11_later_5 : decode cX11_later 5 = .ok (.sipush 30000, 3) := by decide +kernel
theorem dX11_later_8 : decode cX11_later 8 = .ok (.aload_n 0, 1) := by decide +kernel
theorem dX11_later_9 : decode cX11_later 9 = .ok (.getfield 140, 3) := by decide +kernel
theorem dX11_later_12 : decode cX11_later 12 = .ok (.isub, 1) := by decide +kernel
theorem dX11_later_13 : decode cX11_later 13 = .ok (.if_icmp .le 5, 3) := by decide +kernel
theorem dX11_later_16 : decode cX11_later 16 = .ok (.iconst (-1), 1) := by decide +kernel
theorem dX11_later_17 : decode cX11_later 17 = .ok (.ireturn, 1) := by decide +kernel
theorem dX11_later_18 : decode cX11_later 18 = .ok (.aload_n 0, 1) := by decide +kernel
theorem dX11_later_19 : decode cX11_later 19 = .ok (.dup, 1) := by decide +kernel
theorem dX11_later_20 : decode cX11_later 20 = .ok (.getfield 140, 3) := by decide +kernel
theorem dX11_later_23 : decode cX11_later 23 = .ok (.iload_n 1, 1) := by decide +kernel
theorem dX11_later_24 : decode cX11_later 24 = .ok (.iadd, 1) := by decide +kernel
theorem dX11_later_25 : decode cX11_later 25 = .ok (.putfield 140, 3) := by decide +kernel
theorem dX11_later_28 : decode cX11_later 28 = .ok (.aload_n 0, 1) := by decide +kernel
theorem dX11_later_29 : decode cX11_later 29 = .ok (.getfield 140, 3) := by decide +kernel
theorem dX11_later_32 : decode cX11_later 32 = .ok (.ireturn, 1) := by decide +kernel
theorem dX11_fellow_0 : decode cX11_fellow 0 = .ok (.aload_n 0, 1) := by decide +kernel
theorem dX11_fellow_1 : decode cX11_fellow 1 = .ok (.getfield 143, 3) := by decide +kernel
theorem dX11_fellow_4 : decode cX11_fellow 4 = .ok (.bipush 16, 2) := by decide +kernel
theorem dX11_fellow_6 : decode cX11_fellow 6 = .ok (.if_icmp .ne 6, 3) := by decide +kernel
theorem dX11_fellow_9 : decode cX11_fellow 9 = .ok (.bipush (-2), 2) := by decide +kernel
theorem dX11_fellow_11 : decode cX11_fellow 11 = .ok (.ireturn, 1) := by decide +kernel
theorem dX11_fellow_12 : decode cX11_fellow 12 = .ok (.aload_n 0, 1) := by decide +kernel
theorem dX11_fellow_13 : decode cX11_fellow 13 = .ok (.dup, 1) := by decide +kernel
theorem dX11_fellow_14 : decode cX11_fellow 14 = .ok (.getfield 143, 3) := by decide +kernel
theorem dX11_fellow_17 : decode cX11_fellow 17 = .ok (.iconst 1, 1) := by decide +kernel
theorem dX11_fellow_18 : decode cX11_fellow 18 = .ok (.iadd, 1) := by decide +kernel
theorem dX11_fellow_19 : decode cX11_fellow 19 = .ok (.putfield 143, 3) := by decide +kernel
theorem dX11_fellow_22 : decode cX11_fellow 22 = .ok (.aload_n 0, 1) := by decide +kernel
theorem dX11_fellow_23 : decode cX11_fellow 23 = .ok (.getfield 143, 3) := by decide +kernel
theorem dX11_fellow_26 : decode cX11_fellow 26 = .ok (.iconst 1, 1) := by decide +kernel
theorem dX11_fellow_27 : decode cX11_fellow 27 = .ok (.isub, 1) := by decide +kernel
theorem dX11_fellow_28 : decode cX11_fellow 28 = .ok (.ireturn, 1) := by decide +kernel
set_option maxRecDepth 20000 in
theorem ggX11_isFellow_X11_in : GoodIn wsX11_isFellow wsX11_in := goodIn_r _ [5] (by decide +kernel) (by decide +kernel)
set_option maxRecDepth 20000 in
theorem gX11_isFellow_X11_in : GoodIn wsX11_isFellow (va_wsS RX11 133 yX11_in wsX11_in) := goodIn_app (goodIn_of _ (by decide +kernel)) ggX11_isFellow_X11_in
theorem dX11_isFellow_0 : decode cX11_isFellow 0 = .ok (.iload_n 1, 1) := by decide +kernel
theorem dX11_isFellow_1 : decode cX11_isFellow 1 = .ok (.iconst 0, 1) := by decide +kernel
theorem dX11_isFellow_2 : decode cX11_isFellow 2 = .ok (.aload_n 0, 1) := by decide +kernel
theorem dX11_isFellow_3 : decode cX11_isFellow 3 = .ok (.getfield 143, 3) := by decide +kernel
theorem dX11_isFellow_6 : decode cX11_isFellow 6 = .ok (.iconst 1, 1) := by decide +kernel
theorem dX11_isFellow_7 : decode cX11_isFellow 7 = .ok (.isub, 1) := by decide +kernel
theorem dX11_isFellow_8 : decode cX11_isFellow 8 = .ok (.invokestatic 133, 3) := by decide +kernel
theorem dX11_isFellow_11 : decode cX11_isFellow 11 = .ok (.ireturn, 1) := by decide +kernel
set_option maxRecDepth 20000 in
theorem ggX11_post_X11_in : GoodIn wsX11_post wsX11_in := goodIn_r _ [6] (by decide +kernel) (by decide +kernel)
set_option maxRecDepth 20000 in
theorem gX11_post_X11_in : GoodIn wsX11_post (va_wsS RX11 133 yX11_in wsX11_in) := goodIn_app (goodIn_of _ (by decide +kernel)) ggX11_post_X11_in
theorem dX11_post_0 : decode cX11_post 0 = .ok (.iload_n 1, 1) := by decide +kernel
theorem dX11_post_1 : decode cX11_post 1 = .ok (.iconst 0, 1) := by decide +kernel
theorem dX11_post_2 : decode cX11_post 2 = .ok (.iconst 5, 1) := by decide +kernel
theorem dX11_post_3 : decode cX11_post 3 = .ok (.invokestatic 133, 3) := by decide +kernel
theorem dX11_post_6 : decode cX11_post 6 = .ok (.ifCond .eq 25, 3) := by decide +kernel
theorem dX11_post_9 : decode cX11_post 9 = .ok (.iload_n 2, 1) := by decide +kernel
theorem dX11_post_10 : decode cX11_post 10 = .ok (.iconst 0, 1) := by decide +kernel
theorem dX11_post_11 : decode cX11_post 11 = .ok (.sipush 500, 3) := by decide +kernel
theorem dX11_post_14 : decode cX11_post 14 = .ok (.invokestatic 133, 3) := by decide +kernel
theorem dX11_post_17 : decode cX11_post 17 = .ok (.ifCond .eq 14, 3) := by decide +kernel
theorem dX11_post_20 : decode cX11_post 20 = .ok (.iload_n 3, 1) := by decide +kernel
theorem dX11_post_21 : decode cX11_post 21 = .ok (.iload_n 2, 1) := by decide +kernel
theorem dX11_post_22 : decode cX11_post 22 = .ok (.sipush 500, 3) := by decide +kernel
theorem dX11_post_25 : decode cX11_post 25 = .ok (.invokestatic 133, 3) := by decide +kernel
theorem dX11_post_28 : decode cX11_post 28 = .ok (.ifCond .ne 5, 3) := by decide +kernel
theorem dX11_post_31 : decode cX11_post 31 = .ok (.iconst (-1), 1) := by decide +kernel
theorem dX11_post_32 : decode cX11_post 32 = .ok (.ireturn, 1) := by decide +kernel
theorem dX11_post_33 : decode cX11_post 33 = .ok (.aload_n 0, 1) := by decide +kernel
theorem dX11_post_34 : decode cX11_post 34 = .ok (.getfield 13, 3) := by decide +kernel
theorem dX11_post_37 : decode cX11_post 37 = .ok (.iload_n 1, 1) := by decide +kernel
theorem dX11_post_38 : decode cX11_post 38 = .ok (.iload_n 2, 1) := by decide +kernel
theorem dX11_post_39 : decode cX11_post 39 = .ok (.iastore, 1) := by decide +kernel
theorem dX11_post_40 : decode cX11_post 40 = .ok (.aload_n 0, 1) := by decide +kernel
theorem dX11_post_41 : decode cX11_post 41 = .ok (.getfield 16, 3) := by decide +kernel
theorem dX11_post_44 : decode cX11_post 44 = .ok (.iload_n 1, 1) := by decide +kernel
theorem dX11_post_45 : decode cX11_post 45 = .ok (.iload_n 3, 1) := by decide +kernel
theorem dX11_post_46 : decode cX11_post 46 = .ok (.iastore, 1) := by decide +kernel
theorem dX11_post_47 : decode cX11_post 47 = .ok (.iconst 1, 1) := by decide +kernel
theorem dX11_post_48 : decode cX11_post 48 = .ok (.ireturn, 1) := by decide +kernel
set_option maxRecDepth 20000 in
theorem ggX11_isPaper_X11_in : GoodIn wsX11_isPaper wsX11_in := goodIn_r _ [5] (by decide +kernel) (by decide +kernel)
set_option maxRecDepth 20000 in
theorem gX11_isPaper_X11_in : GoodIn wsX11_isPaper (va_wsS RX11 133 yX11_in wsX11_in) := goodIn_app (goodIn_of _ (by decide +kernel)) ggX11_isPaper_X11_in
theorem dX11_isPaper_0 : decode cX11_isPaper 0 = .ok (.iload_n 1, 1) := by decide +kernel
theorem dX11_isPaper_1 : decode cX11_isPaper 1 = .ok (.iconst 0, 1) := by decide +kernel
theorem dX11_isPaper_2 : decode cX11_isPaper 2 = .ok (.aload_n 0, 1) := by decide +kernel
theorem dX11_isPaper_3 : decode cX11_isPaper 3 = .ok (.getfield 146, 3) := by decide +kernel
theorem dX11_isPaper_6 : decode cX11_isPaper 6 = .ok (.iconst 1, 1) := by decide +kernel
theorem dX11_isPaper_7 : decode cX11_isPaper 7 = .ok (.isub, 1) := by decide +kernel
theorem dX11_isPaper_8 : decode cX11_isPaper 8 = .ok (.invokestatic 133, 3) := by decide +kernel
theorem dX11_isPaper_11 : decode cX11_isPaper 11 = .ok (.ireturn, 1) := by decide +kernel
set_option maxRecDepth 20000 in
theorem ggX11_paper_X11_in : GoodIn wsX11_paper wsX11_in := goodIn_r _ [17] (by decide +kernel) (by decide +kernel)
set_option maxRecDepth 20000 in
theorem gX11_paper_X11_in : GoodIn wsX11_paper (va_wsS RX11 133 yX11_in wsX11_in) := goodIn_app (goodIn_of _ (by decide +kernel)) ggX11_paper_X11_in
set_option maxRecDepth 20000 in
theorem ggX11_paper_X11_isFellow : GoodIn wsX11_paper wsX11_isFellow := goodIn_r _ [21, 22, 14, 15, 16, 17, 23, 24, 25, 26, 27, 28, 29, 30, 31, 32, 33, 34, 35, 36, 37, 38, 39, 40, 41, 42, 43, 44, 45, 46, 47, 48, 49, 50, 51, 52, 53, 54, 55, 56, 57, 58, 59, 60, 61, 62, 63, 64, 65, 66, 67, 68, 69, 70, 71] (by decide +kernel) (by decide +kernel)
set_option maxRecDepth 20000 in
theorem gX11_paper_X11_isFellow : GoodIn wsX11_paper (wsV RX11 149 RX11 yX11_isFellow wsX11_isFellow) := goodIn_app (goodIn_of _ (by decide +kernel)) ggX11_paper_X11_isFellow
theorem dX11_paper_0 : decode cX11_paper 0 = .ok (.iload_n 1, 1) := by decide +kernel
theorem dX11_paper_1 : decode cX11_paper 1 = .ok (.iconst 0, 1) := by decide +kernel
theorem dX11_paper_2 : decode cX11_paper 2 = .ok (.iconst 2, 1) := by decide +kernel
theorem dX11_paper_3 : decode cX11_paper 3 = .ok (.invokestatic 133, 3) := by decide +kernel
theorem dX11_paper_6 : decode cX11_paper 6 = .ok (.ifCond .eq 49, 3) := by decide +kernel
theorem dX11_paper_9 : decode cX11_paper 9 = .ok (.aload_n 0, 1) := by decide +kernel
theorem dX11_paper_10 : decode cX11_paper 10 = .ok (.iload_n 2, 1) := by decide +kernel
theorem dX11_paper_11 : decode cX11_paper 11 = .ok (.invokevirtual 149, 3) := by decide +kernel
theorem dX11_paper_14 : decode cX11_paper 14 = .ok (.ifCond .eq 41, 3) := by decide +kernel
theorem dX11_paper_17 : decode cX11_paper 17 = .ok (.iload_n 3, 1) := by decide +kernel
theorem dX11_paper_18 : decode cX11_paper 18 = .ok (.iconst 0, 1) := by decide +kernel
theorem dX11_paper_19 : decode cX11_paper 19 = .ok (.ldc 153, 2) := by decide +kernel
theorem dX11_paper_21 : decode cX11_paper 21 = .ok (.invokestatic 133, 3) := by decide +kernel
theorem dX11_paper_24 : decode cX11_paper 24 = .ok (.ifCond .eq 31, 3) := by decide +kernel
theorem dX11_paper_27 : decode cX11_paper 27 = .ok (.iload_n 1, 1) := by decide +kernel
theorem dX11_paper_28 : decode cX11_paper 28 = .ok (.iconst 2, 1) := by decide +kernel
theorem dX11_paper_29 : decode cX11_paper 29 = .ok (.if_icmp .ne 28, 3) := by decide +kernel
theorem dX11_paper_32 : decode cX11_paper 32 = .ok (.iload 4, 2) := by decide +kernel
theorem dX11_paper_34 : decode cX11_paper 34 = .ok (.iconst 0, 1) := by decide +kernel
theorem dX11_paper_35 : decode cX11_paper 35 = .ok (.aload_n 0, 1) := by decide +kernel
theorem dX11_paper_36 : decode cX11_paper 36 = .ok (.getfield 140, 3) := by decide +kernel
theorem dX11_paper_39 : decode cX11_paper 39 = .ok (.invokestatic 133, 3) := by decide +kernel
theorem dX11_paper_42 : decode cX11_paper 42 = .ok (.ifCond .eq 13, 3) := by decide +kernel
theorem dX11_paper_45 : decode cX11_paper 45 = .ok (.iload 5, 2) := by decide +kernel
theorem dX11_paper_47 : decode cX11_paper 47 = .ok (.iconst 0, 1) := by decide +kernel
theorem dX11_paper_48 : decode cX11_paper 48 = .ok (.iconst 5, 1) := by decide +kernel
theorem dX11_paper_49 : decode cX11_paper 49 = .ok (.invokestatic 133, 3) := by decide +kernel
theorem dX11_paper_52 : decode cX11_paper 52 = .ok (.ifCond .ne 5, 3) := by decide +kernel
theorem dX11_paper_55 : decode cX11_paper 55 = .ok (.iconst (-1), 1) := by decide +kernel
theorem dX11_paper_56 : decode cX11_paper 56 = .ok (.ireturn, 1) := by decide +kernel
theorem dX11_paper_57 : decode cX11_paper 57 = .ok (.aload_n 0, 1) := by decide +kernel
theorem dX11_paper_58 : decode cX11_paper 58 = .ok (.getfield 146, 3) := by decide +kernel
theorem dX11_paper_61 : decode cX11_paper 61 = .ok (.bipush 24, 2) := by decide +kernel
theorem dX11_paper_63 : decode cX11_paper 63 = .ok (.if_icmp .ne 6, 3) := by decide +kernel
theorem dX11_paper_66 : decode cX11_paper 66 = .ok (.bipush (-2), 2) := by decide +kernel
theorem dX11_paper_68 : decode cX11_paper 68 = .ok (.ireturn, 1) := by decide +kernel
theorem dX11_paper_69 : decode cX11_paper 69 = .ok (.aload_n 0, 1) := by decide +kernel
theorem dX11_paper_70 : decode cX11_paper 70 = .ok (.getfield 146, 3) := by decide +kernel
theorem dX11_paper_73 : decode cX11_paper 73 = .ok (.istore 6, 2) := by decide +kernel
theorem dX11_paper_75 : decode cX11_paper 75 = .ok (.aload_n 0, 1) := by decide +kernel
theorem dX11_paper_76 : decode cX11_paper 76 = .ok (.getfield 19, 3) := by decide +kernel
theorem dX11_paper_79 : decode cX11_paper 79 = .ok (.iload 6, 2) := by decide +kernel
theorem dX11_paper_81 : decode cX11_paper 81 = .ok (.iload_n 1, 1) := by decide +kernel
theorem dX11_paper_82 : decode cX11_paper 82 = .ok (.iastore, 1) := by decide +kernel
theorem dX11_paper_83 : decode cX11_paper 83 = .ok (.aload_n 0, 1) := by decide +kernel
theorem dX11_paper_84 : decode cX11_paper 84 = .ok (.getfield 22, 3) := by decide +kernel
theorem dX11_paper_87 : decode cX11_paper 87 = .ok (.iload 6, 2) := by decide +kernel
theorem dX11_paper_89 : decode cX11_paper 89 = .ok (.iload_n 2, 1) := by decide +kernel
theorem dX11_paper_90 : decode cX11_paper 90 = .ok (.iastore, 1) := by decide +kernel
theorem dX11_paper_91 : decode cX11_paper 91 = .ok (.aload_n 0, 1) := by decide +kernel
theorem dX11_paper_92 : decode cX11_paper 92 = .ok (.getfield 25, 3) := by decide +kernel
theorem dX11_paper_95 : decode cX11_paper 95 = .ok (.iload 6, 2) := by decide +kernel
theorem dX11_paper_97 : decode cX11_paper 97 = .ok (.iload_n 3, 1) := by decide +kernel
theorem dX11_paper_98 : decode cX11_paper 98 = .ok (.iastore, 1) := by decide +kernel
theorem dX11_paper_99 : decode cX11_paper 99 = .ok (.aload_n 0, 1) := by decide +kernel
theorem dX11_paper_100 : decode cX11_paper 100 = .ok (.getfield 28, 3) := by decide +kernel
theorem dX11_paper_103 : decode cX11_paper 103 = .ok (.iload 6, 2) := by decide +kernel
theorem dX11_paper_105 : decode cX11_paper 105 = .ok (.aload_n 0, 1) := by decide +kernel
theorem dX11_paper_106 : decode cX11_paper 106 = .ok (.getfield 140, 3) := by decide +kernel
theorem dX11_paper_109 : decode cX11_paper 109 = .ok (.iastore, 1) := by decide +kernel
theorem dX11_paper_110 : decode cX11_paper 110 = .ok (.aload_n 0, 1) := by decide +kernel
theorem dX11_paper_111 : decode cX11_paper 111 = .ok (.getfield 40, 3) := by decide +kernel
theorem dX11_paper_114 : decode cX11_paper 114 = .ok (.iload 6, 2) := by decide +kernel
theorem dX11_paper_116 : decode cX11_paper 116 = .ok (.bipush (-9), 2) := by decide +kernel
theorem dX11_paper_118 : decode cX11_paper 118 = .ok (.iastore, 1) := by decide +kernel
theorem dX11_paper_119 : decode cX11_paper 119 = .ok (.aload_n 0, 1) := by decide +kernel
theorem dX11_paper_120 : decode cX11_paper 120 = .ok (.getfield 31, 3) := by decide +kernel
theorem dX11_paper_123 : decode cX11_paper 123 = .ok (.iload 6, 2) := by decide +kernel
theorem dX11_paper_125 : decode cX11_paper 125 = .ok (.iload_n 1, 1) := by decide +kernel
theorem dX11_paper_126 : decode cX11_paper 126 = .ok (.iconst 2, 1) := by decide +kernel
theorem dX11_paper_127 : decode cX11_paper 127 = .ok (.if_icmp .ne 8, 3) := by decide +kernel
theorem dX11_paper_130 : decode cX11_paper 130 = .ok (.iload 4, 2) := by decide +kernel
theorem dX11_paper_132 : decode cX11_paper 132 = .ok (.goto 5, 3) := by decide +kernel
theorem dX11_paper_135 : decode cX11_paper 135 = .ok (.bipush (-9), 2) := by decide +kernel
theorem dX11_paper_137 : decode cX11_paper 137 = .ok (.iastore, 1) := by decide +kernel
theorem dX11_paper_138 : decode cX11_paper 138 = .ok (.aload_n 0, 1) := by decide +kernel
theorem dX11_paper_139 : decode cX11_paper 139 = .ok (.getfield 34, 3) := by decide +kernel
theorem dX11_paper_142 : decode cX11_paper 142 = .ok (.iload 6, 2) := by decide +kernel
theorem dX11_paper_144 : decode cX11_paper 144 = .ok (.iload_n 1, 1) := by decide +kernel
theorem dX11_paper_145 : decode cX11_paper 145 = .ok (.iconst 2, 1) := by decide +kernel
theorem dX11_paper_146 : decode cX11_paper 146 = .ok (.if_icmp .ne 16, 3) := by decide +kernel
theorem dX11_paper_149 : decode cX11_paper 149 = .ok (.iload 4, 2) := by decide +kernel
theorem dX11_paper_151 : decode cX11_paper 151 = .ok (.aload_n 0, 1) := by decide +kernel
theorem dX11_paper_152 : decode cX11_paper 152 = .ok (.getfield 13, 3) := by decide +kernel
theorem dX11_paper_155 : decode cX11_paper 155 = .ok (.iload 5, 2) := by decide +kernel
theorem dX11_paper_157 : decode cX11_paper 157 = .ok (.iaload, 1) := by decide +kernel
theorem dX11_paper_158 : decode cX11_paper 158 = .ok (.iadd, 1) := by decide +kernel
theorem dX11_paper_159 : decode cX11_paper 159 = .ok (.goto 4, 3) := by decide +kernel
theorem dX11_paper_162 : decode cX11_paper 162 = .ok (.iconst 0, 1) := by decide +kernel
theorem dX11_paper_163 : decode cX11_paper 163 = .ok (.iastore, 1) := by decide +kernel
theorem dX11_paper_164 : decode cX11_paper 164 = .ok (.aload_n 0, 1) := by decide +kernel
theorem dX11_paper_165 : decode cX11_paper 165 = .ok (.getfield 37, 3) := by decide +kernel
theorem dX11_paper_168 : decode cX11_paper 168 = .ok (.iload 6, 2) := by decide +kernel
theorem dX11_paper_170 : decode cX11_paper 170 = .ok (.iload_n 1, 1) := by decide +kernel
theorem dX11_paper_171 : decode cX11_paper 171 = .ok (.iconst 2, 1) := by decide +kernel
theorem dX11_paper_172 : decode cX11_paper 172 = .ok (.if_icmp .ne 16, 3) := by decide +kernel
theorem dX11_paper_175 : decode cX11_paper 175 = .ok (.iload 4, 2) := by decide +kernel
theorem dX11_paper_177 : decode cX11_paper 177 = .ok (.aload_n 0, 1) := by decide +kernel
theorem dX11_paper_178 : decode cX11_paper 178 = .ok (.getfield 16, 3) := by decide +kernel
theorem dX11_paper_181 : decode cX11_paper 181 = .ok (.iload 5, 2) := by decide +kernel
theorem dX11_paper_183 : decode cX11_paper 183 = .ok (.iaload, 1) := by decide +kernel
theorem dX11_paper_184 : decode cX11_paper 184 = .ok (.iadd, 1) := by decide +kernel
theorem dX11_paper_185 : decode cX11_paper 185 = .ok (.goto 4, 3) := by decide +kernel
theorem dX11_paper_188 : decode cX11_paper 188 = .ok (.iconst 0, 1) := by decide +kernel
theorem dX11_paper_189 : decode cX11_paper 189 = .ok (.iastore, 1) := by decide +kernel
theorem dX11_paper_190 : decode cX11_paper 190 = .ok (.aload_n 0, 1) := by decide +kernel
theorem dX11_paper_191 : decode cX11_paper 191 = .ok (.dup, 1) := by decide +kernel
theorem dX11_paper_192 : decode cX11_paper 192 = .ok (.getfield 146, 3) := by decide +kernel
theorem dX11_paper_195 : decode cX11_paper 195 = .ok (.iconst 1, 1) := by decide +kernel
theorem dX11_paper_196 : decode cX11_paper 196 = .ok (.iadd, 1) := by decide +kernel
theorem dX11_paper_197 : decode cX11_paper 197 = .ok (.putfield 146, 3) := by decide +kernel
theorem dX11_paper_200 : decode cX11_paper 200 = .ok (.iload 6, 2) := by decide +kernel
theorem dX11_paper_202 : decode cX11_paper 202 = .ok (.ireturn, 1) := by decide +kernel
theorem dX11_lastOf_0 : decode cX11_lastOf 0 = .ok (.bipush (-9), 2) := by decide +kernel
theorem dX11_lastOf_2 : decode cX11_lastOf 2 = .ok (.istore 4, 2) := by decide +kernel
theorem dX11_lastOf_4 : decode cX11_lastOf 4 = .ok (.iconst 0, 1) := by decide +kernel
theorem dX11_lastOf_5 : decode cX11_lastOf 5 = .ok (.istore 5, 2) := by decide +kernel
theorem dX11_lastOf_7 : decode cX11_lastOf 7 = .ok (.iload 5, 2) := by decide +kernel
theorem dX11_lastOf_9 : decode cX11_lastOf 9 = .ok (.aload_n 0, 1) := by decide +kernel
theorem dX11_lastOf_10 : decode cX11_lastOf 10 = .ok (.getfield 154, 3) := by decide +kernel
theorem dX11_lastOf_13 : decode cX11_lastOf 13 = .ok (.if_icmp .ge 56, 3) := by decide +kernel
theorem dX11_lastOf_16 : decode cX11_lastOf 16 = .ok (.aload_n 0, 1) := by decide +kernel
theorem dX11_lastOf_17 : decode cX11_lastOf 17 = .ok (.getfield 43, 3) := by decide +kernel
theorem dX11_lastOf_20 : decode cX11_lastOf 20 = .ok (.iload 5, 2) := by decide +kernel
theorem dX11_lastOf_22 : decode cX11_lastOf 22 = .ok (.iaload, 1) := by decide +kernel
theorem dX11_lastOf_23 : decode cX11_lastOf 23 = .ok (.iload_n 1, 1) := by decide +kernel
theorem dX11_lastOf_24 : decode cX11_lastOf 24 = .ok (.if_icmp .ne 35, 3) := by decide +kernel
theorem dX11_lastOf_27 : decode cX11_lastOf 27 = .ok (.aload_n 0, 1) := by decide +kernel
theorem dX11_lastOf_28 : decode cX11_lastOf 28 = .ok (.getfield 46, 3) := by decide +kernel
theorem dX11_lastOf_31 : decode cX11_lastOf 31 = .ok (.iload 5, 2) := by decide +kernel
theorem dX11_lastOf_33 : decode cX11_lastOf 33 = .ok (.iaload, 1) := by decide +kernel
theorem dX11_lastOf_34 : decode cX11_lastOf 34 = .ok (.iload_n 2, 1) := by decide +kernel
theorem dX11_lastOf_35 : decode cX11_lastOf 35 = .ok (.if_icmp .ne 24, 3) := by decide +kernel
theorem dX11_lastOf_38 : decode cX11_lastOf 38 = .ok (.aload_n 0, 1) := by decide +kernel
theorem dX11_lastOf_39 : decode cX11_lastOf 39 = .ok (.getfield 52, 3) := by decide +kernel
theorem dX11_lastOf_42 : decode cX11_lastOf 42 = .ok (.iload 5, 2) := by decide +kernel
theorem dX11_lastOf_44 : decode cX11_lastOf 44 = .ok (.iaload, 1) := by decide +kernel
theorem dX11_lastOf_45 : decode cX11_lastOf 45 = .ok (.iload_n 3, 1) := by decide +kernel
theorem dX11_lastOf_46 : decode cX11_lastOf 46 = .ok (.if_icmp .gt 13, 3) := by decide +kernel
theorem dX11_lastOf_49 : decode cX11_lastOf 49 = .ok (.aload_n 0, 1) := by decide +kernel
theorem dX11_lastOf_50 : decode cX11_lastOf 50 = .ok (.getfield 49, 3) := by decide +kernel
theorem dX11_lastOf_53 : decode cX11_lastOf 53 = .ok (.iload 5, 2) := by decide +kernel
theorem dX11_lastOf_55 : decode cX11_lastOf 55 = .ok (.iaload, 1) := by decide +kernel
theorem dX11_lastOf_56 : decode cX11_lastOf 56 = .ok (.goto 5, 3) := by decide +kernel
theorem dX11_lastOf_59 : decode cX11_lastOf 59 = .ok (.iload 4, 2) := by decide +kernel
theorem dX11_lastOf_61 : decode cX11_lastOf 61 = .ok (.istore 4, 2) := by decide +kernel
theorem dX11_lastOf_63 : decode cX11_lastOf 63 = .ok (.iinc 5 1, 3) := by decide +kernel
theorem dX11_lastOf_66 : decode cX11_lastOf 66 = .ok (.goto (-59), 3) := by decide +kernel
theorem dX11_lastOf_69 : decode cX11_lastOf 69 = .ok (.iload 4, 2) := by decide +kernel
theorem dX11_lastOf_71 : decode cX11_lastOf 71 = .ok (.ireturn, 1) := by decide +kernel
set_option maxRecDepth 20000 in
theorem ggX11_mayNote_X11_lastOf : GoodIn wsX11_mayNote wsX11_lastOf := goodIn_r _ [8, 9, 10, 11, 12, 13, 17, 18, 19, 20, 21, 22, 23, 24, 25, 26, 27, 28, 29, 30, 31, 32, 33, 34, 35, 36, 37, 38, 39, 40, 41, 42, 43, 44, 45, 46, 47, 48, 49, 50, 51, 52, 53, 54, 55, 56, 57, 58, 59, 60, 61, 62, 63, 64, 65] (by decide +kernel) (by decide +kernel)
set_option maxRecDepth 20000 in
theorem gX11_mayNote_X11_lastOf : GoodIn wsX11_mayNote (wsV RX11 157 RX11 yX11_lastOf wsX11_lastOf) := goodIn_app (goodIn_of _ (by decide +kernel)) ggX11_mayNote_X11_lastOf
set_option maxRecDepth 20000 in
theorem ggX11_mayNote_X11_in : GoodIn wsX11_mayNote wsX11_in := goodIn_r _ [16] (by decide +kernel) (by decide +kernel)
set_option maxRecDepth 20000 in
theorem gX11_mayNote_X11_in : GoodIn wsX11_mayNote (va_wsS RX11 133 yX11_in wsX11_in) := goodIn_app (goodIn_of _ (by decide +kernel)) ggX11_mayNote_X11_in
theorem dX11_mayNote_0 : decode cX11_mayNote 0 = .ok (.iload_n 2, 1) := by decide +kernel
theorem dX11_mayNote_1 : decode cX11_mayNote 1 = .ok (.ifCond .ne 8, 3) := by decide +kernel
theorem dX11_mayNote_4 : decode cX11_mayNote 4 = .ok (.bipush (-9), 2) := by decide +kernel
theorem dX11_mayNote_6 : decode cX11_mayNote 6 = .ok (.goto 14, 3) := by decide +kernel
theorem dX11_mayNote_9 : decode cX11_mayNote 9 = .ok (.aload_n 0, 1) := by decide +kernel
theorem dX11_mayNote_10 : decode cX11_mayNote 10 = .ok (.iload_n 1, 1) := by decide +kernel
theorem dX11_mayNote_11 : decode cX11_mayNote 11 = .ok (.iload_n 2, 1) := by decide +kernel
theorem dX11_mayNote_12 : decode cX11_mayNote 12 = .ok (.iconst 1, 1) := by decide +kernel
theorem dX11_mayNote_13 : decode cX11_mayNote 13 = .ok (.isub, 1) := by decide +kernel
theorem dX11_mayNote_14 : decode cX11_mayNote 14 = .ok (.sipush 30000, 3) := by decide +kernel
theorem dX11_mayNote_17 : decode cX11_mayNote 17 = .ok (.invokevirtual 157, 3) := by decide +kernel
theorem dX11_mayNote_20 : decode cX11_mayNote 20 = .ok (.istore 4, 2) := by decide +kernel
theorem dX11_mayNote_22 : decode cX11_mayNote 22 = .ok (.iload_n 2, 1) := by decide +kernel
theorem dX11_mayNote_23 : decode cX11_mayNote 23 = .ok (.iconst 2, 1) := by decide +kernel
theorem dX11_mayNote_24 : decode cX11_mayNote 24 = .ok (.if_icmp .ne 8, 3) := by decide +kernel
theorem dX11_mayNote_27 : decode cX11_mayNote 27 = .ok (.bipush (-9), 2) := by decide +kernel
theorem dX11_mayNote_29 : decode cX11_mayNote 29 = .ok (.goto 14, 3) := by decide +kernel
theorem dX11_mayNote_32 : decode cX11_mayNote 32 = .ok (.aload_n 0, 1) := by decide +kernel
theorem dX11_mayNote_33 : decode cX11_mayNote 33 = .ok (.iload_n 1, 1) := by decide +kernel
theorem dX11_mayNote_34 : decode cX11_mayNote 34 = .ok (.iload_n 2, 1) := by decide +kernel
theorem dX11_mayNote_35 : decode cX11_mayNote 35 = .ok (.iconst 1, 1) := by decide +kernel
theorem dX11_mayNote_36 : decode cX11_mayNote 36 = .ok (.iadd, 1) := by decide +kernel
theorem dX11_mayNote_37 : decode cX11_mayNote 37 = .ok (.sipush 30000, 3) := by decide +kernel
theorem dX11_mayNote_40 : decode cX11_mayNote 40 = .ok (.invokevirtual 157, 3) := by decide +kernel
theorem dX11_mayNote_43 : decode cX11_mayNote 43 = .ok (.istore 5, 2) := by decide +kernel
theorem dX11_mayNote_45 : decode cX11_mayNote 45 = .ok (.iload_n 2, 1) := by decide +kernel
theorem dX11_mayNote_46 : decode cX11_mayNote 46 = .ok (.ifCond .gt 32, 3) := by decide +kernel
theorem dX11_mayNote_49 : decode cX11_mayNote 49 = .ok (.aload_n 0, 1) := by decide +kernel
theorem dX11_mayNote_50 : decode cX11_mayNote 50 = .ok (.getfield 19, 3) := by decide +kernel
theorem dX11_mayNote_53 : decode cX11_mayNote 53 = .ok (.iload_n 1, 1) := by decide +kernel
theorem dX11_mayNote_54 : decode cX11_mayNote 54 = .ok (.iaload, 1) := by decide +kernel
theorem dX11_mayNote_55 : decode cX11_mayNote 55 = .ok (.iconst 2, 1) := by decide +kernel
theorem dX11_mayNote_56 : decode cX11_mayNote 56 = .ok (.if_icmp .ne 22, 3) := by decide +kernel
theorem dX11_mayNote_59 : decode cX11_mayNote 59 = .ok (.iload_n 3, 1) := by decide +kernel
theorem dX11_mayNote_60 : decode cX11_mayNote 60 = .ok (.aload_n 0, 1) := by decide +kernel
theorem dX11_mayNote_61 : decode cX11_mayNote 61 = .ok (.getfield 34, 3) := by decide +kernel
theorem dX11_mayNote_64 : decode cX11_mayNote 64 = .ok (.iload_n 1, 1) := by decide +kernel
theorem dX11_mayNote_65 : decode cX11_mayNote 65 = .ok (.iaload, 1) := by decide +kernel
theorem dX11_mayNote_66 : decode cX11_mayNote 66 = .ok (.aload_n 0, 1) := by decide +kernel
theorem dX11_mayNote_67 : decode cX11_mayNote 67 = .ok (.getfield 37, 3) := by decide +kernel
theorem dX11_mayNote_70 : decode cX11_mayNote 70 = .ok (.iload_n 1, 1) := by decide +kernel
theorem dX11_mayNote_71 : decode cX11_mayNote 71 = .ok (.iaload, 1) := by decide +kernel
theorem dX11_mayNote_72 : decode cX11_mayNote 72 = .ok (.invokestatic 133, 3) := by decide +kernel
theorem dX11_mayNote_75 : decode cX11_mayNote 75 = .ok (.ifCond .eq 7, 3) := by decide +kernel
theorem dX11_mayNote_78 : decode cX11_mayNote 78 = .ok (.iconst 1, 1) := by decide +kernel
theorem dX11_mayNote_79 : decode cX11_mayNote 79 = .ok (.goto 4, 3) := by decide +kernel
theorem dX11_mayNote_82 : decode cX11_mayNote 82 = .ok (.iconst 0, 1) := by decide +kernel
theorem dX11_mayNote_83 : decode cX11_mayNote 83 = .ok (.istore 6, 2) := by decide +kernel
theorem dX11_mayNote_85 : decode cX11_mayNote 85 = .ok (.iload 6, 2) := by decide +kernel
theorem dX11_mayNote_87 : decode cX11_mayNote 87 = .ok (.ifCond .eq 37, 3) := by decide +kernel
theorem dX11_mayNote_90 : decode cX11_mayNote 90 = .ok (.iload_n 2, 1) := by decide +kernel
theorem dX11_mayNote_91 : decode cX11_mayNote 91 = .ok (.ifCond .eq 16, 3) := by decide +kernel
theorem dX11_mayNote_94 : decode cX11_mayNote 94 = .ok (.iload 4, 2) := by decide +kernel
theorem dX11_mayNote_96 : decode cX11_mayNote 96 = .ok (.bipush (-9), 2) := by decide +kernel
theorem dX11_mayNote_98 : decode cX11_mayNote 98 = .ok (.if_icmp .eq 26, 3) := by decide +kernel
theorem dX11_mayNote_101 : decode cX11_mayNote 101 = .ok (.iload 4, 2) := by decide +kernel
theorem dX11_mayNote_103 : decode cX11_mayNote 103 = .ok (.iload_n 3, 1) := by decide +kernel
theorem dX11_mayNote_104 : decode cX11_mayNote 104 = .ok (.if_icmp .gt 20, 3) := by decide +kernel
theorem dX11_mayNote_107 : decode cX11_mayNote 107 = .ok (.iload 5, 2) := by decide +kernel
theorem dX11_mayNote_109 : decode cX11_mayNote 109 = .ok (.bipush (-9), 2) := by decide +kernel
theorem dX11_mayNote_111 : decode cX11_mayNote 111 = .ok (.if_icmp .eq 9, 3) := by decide +kernel
theorem dX11_mayNote_114 : decode cX11_mayNote 114 = .ok (.iload_n 3, 1) := by decide +kernel
theorem dX11_mayNote_115 : decode cX11_mayNote 115 = .ok (.iload 5, 2) := by decide +kernel
theorem dX11_mayNote_117 : decode cX11_mayNote 117 = .ok (.if_icmp .gt 7, 3) := by decide +kernel
theorem dX11_mayNote_120 : decode cX11_mayNote 120 = .ok (.iconst 1, 1) := by decide +kernel
theorem dX11_mayNote_121 : decode cX11_mayNote 121 = .ok (.goto 4, 3) := by decide +kernel
theorem dX11_mayNote_124 : decode cX11_mayNote 124 = .ok (.iconst 0, 1) := by decide +kernel
theorem dX11_mayNote_125 : decode cX11_mayNote 125 = .ok (.ireturn, 1) := by decide +kernel
set_option maxRecDepth 20000 in
theorem ggX11_note_X11_isPaper : GoodIn wsX11_note wsX11_isPaper := goodIn_r _ [11, 12, 13, 14, 10, 15, 27, 28, 29, 30, 31, 32, 33, 34, 35, 36, 37, 38, 39, 40, 41, 42, 43, 44, 45, 46, 47, 48, 49, 50, 51, 52, 53, 54, 55, 56, 57, 58, 59, 60, 61, 62, 63, 64, 65, 66, 67, 68, 69, 70, 71, 72, 73, 74, 75] (by decide +kernel) (by decide +kernel)
set_option maxRecDepth 20000 in
theorem gX11_note_X11_isPaper : GoodIn wsX11_note (wsV RX11 161 RX11 yX11_isPaper wsX11_isPaper) := goodIn_app (goodIn_of _ (by decide +kernel)) ggX11_note_X11_isPaper
set_option maxRecDepth 20000 in
theorem ggX11_note_X11_in : GoodIn wsX11_note wsX11_in := goodIn_r _ [15] (by decide +kernel) (by decide +kernel)
set_option maxRecDepth 20000 in
theorem gX11_note_X11_in : GoodIn wsX11_note (va_wsS RX11 133 yX11_in wsX11_in) := goodIn_app (goodIn_of _ (by decide +kernel)) ggX11_note_X11_in
set_option maxRecDepth 20000 in
theorem ggX11_note_X11_mayNote : GoodIn wsX11_note wsX11_mayNote := goodIn_r _ [19, 20, 21, 22, 23, 24, 25, 10, 26, 2, 3, 4, 6, 5, 13, 14, 15, 27, 28, 29, 30, 31, 32, 33, 34, 35, 36, 37, 38, 39, 40, 41, 42, 43, 44, 45, 46, 47, 48, 49, 50, 51, 52, 53, 54, 55, 56, 57, 58, 59, 60, 61, 62, 63, 64, 65, 66, 67, 68, 69, 70, 71, 72, 73, 74, 75] (by decide +kernel) (by decide +kernel)
set_option maxRecDepth 20000 in
theorem gX11_note_X11_mayNote : GoodIn wsX11_note (wsV RX11 164 RX11 yX11_mayNote wsX11_mayNote) := goodIn_app (goodIn_of _ (by decide +kernel)) ggX11_note_X11_mayNote
theorem dX11_note_0 : decode cX11_note 0 = .ok (.aload_n 0, 1) := by decide +kernel
theorem dX11_note_1 : decode cX11_note 1 = .ok (.iload_n 1, 1) := by decide +kernel
theorem dX11_note_2 : decode cX11_note 2 = .ok (.invokevirtual 161, 3) := by decide +kernel
theorem dX11_note_5 : decode cX11_note 5 = .ok (.ifCond .eq 24, 3) := by decide +kernel
theorem dX11_note_8 : decode cX11_note 8 = .ok (.iload_n 2, 1) := by decide +kernel
theorem dX11_note_9 : decode cX11_note 9 = .ok (.iconst 0, 1) := by decide +kernel
theorem dX11_note_10 : decode cX11_note 10 = .ok (.iconst 2, 1) := by decide +kernel
theorem dX11_note_11 : decode cX11_note 11 = .ok (.invokestatic 133, 3) := by decide +kernel
theorem dX11_note_14 : decode cX11_note 14 = .ok (.ifCond .eq 15, 3) := by decide +kernel
theorem dX11_note_17 : decode cX11_note 17 = .ok (.iload_n 3, 1) := by decide +kernel
theorem dX11_note_18 : decode cX11_note 18 = .ok (.iconst 0, 1) := by decide +kernel
theorem dX11_note_19 : decode cX11_note 19 = .ok (.aload_n 0, 1) := by decide +kernel
theorem dX11_note_20 : decode cX11_note 20 = .ok (.getfield 140, 3) := by decide +kernel
theorem dX11_note_23 : decode cX11_note 23 = .ok (.invokestatic 133, 3) := by decide +kernel
theorem dX11_note_26 : decode cX11_note 26 = .ok (.ifCond .ne 5, 3) := by decide +kernel
theorem dX11_note_29 : decode cX11_note 29 = .ok (.iconst (-1), 1) := by decide +kernel
theorem dX11_note_30 : decode cX11_note 30 = .ok (.ireturn, 1) := by decide +kernel
theorem dX11_note_31 : decode cX11_note 31 = .ok (.aload_n 0, 1) := by decide +kernel
theorem dX11_note_32 : decode cX11_note 32 = .ok (.getfield 154, 3) := by decide +kernel
theorem dX11_note_35 : decode cX11_note 35 = .ok (.bipush 100, 2) := by decide +kernel
theorem dX11_note_37 : decode cX11_note 37 = .ok (.if_icmp .ne 6, 3) := by decide +kernel
theorem dX11_note_40 : decode cX11_note 40 = .ok (.bipush (-2), 2) := by decide +kernel
theorem dX11_note_42 : decode cX11_note 42 = .ok (.ireturn, 1) := by decide +kernel
theorem dX11_note_43 : decode cX11_note 43 = .ok (.aload_n 0, 1) := by decide +kernel
theorem dX11_note_44 : decode cX11_note 44 = .ok (.iload_n 1, 1) := by decide +kernel
theorem dX11_note_45 : decode cX11_note 45 = .ok (.iload_n 2, 1) := by decide +kernel
theorem dX11_note_46 : decode cX11_note 46 = .ok (.iload_n 3, 1) := by decide +kernel
theorem dX11_note_47 : decode cX11_note 47 = .ok (.invokevirtual 164, 3) := by decide +kernel
theorem dX11_note_50 : decode cX11_note 50 = .ok (.ifCond .ne 6, 3) := by decide +kernel
theorem dX11_note_53 : decode cX11_note 53 = .ok (.bipush (-4), 2) := by decide +kernel
theorem dX11_note_55 : decode cX11_note 55 = .ok (.ireturn, 1) := by decide +kernel
theorem dX11_note_56 : decode cX11_note 56 = .ok (.aload_n 0, 1) := by decide +kernel
theorem dX11_note_57 : decode cX11_note 57 = .ok (.getfield 43, 3) := by decide +kernel
theorem dX11_note_60 : decode cX11_note 60 = .ok (.aload_n 0, 1) := by decide +kernel
theorem dX11_note_61 : decode cX11_note 61 = .ok (.getfield 154, 3) := by decide +kernel
theorem dX11_note_64 : decode cX11_note 64 = .ok (.iload_n 1, 1) := by decide +kernel
theorem dX11_note_65 : decode cX11_note 65 = .ok (.iastore, 1) := by decide +kernel
theorem dX11_note_66 : decode cX11_note 66 = .ok (.aload_n 0, 1) := by decide +kernel
theorem dX11_note_67 : decode cX11_note 67 = .ok (.getfield 46, 3) := by decide +kernel
theorem dX11_note_70 : decode cX11_note 70 = .ok (.aload_n 0, 1) := by decide +kernel
theorem dX11_note_71 : decode cX11_note 71 = .ok (.getfield 154, 3) := by decide +kernel
theorem dX11_note_74 : decode cX11_note 74 = .ok (.iload_n 2, 1) := by decide +kernel
theorem dX11_note_75 : decode cX11_note 75 = .ok (.iastore, 1) := by decide +kernel
theorem dX11_note_76 : decode cX11_note 76 = .ok (.aload_n 0, 1) := by decide +kernel
theorem dX11_note_77 : decode cX11_note 77 = .ok (.getfield 49, 3) := by decide +kernel
theorem dX11_note_80 : decode cX11_note 80 = .ok (.aload_n 0, 1) := by decide +kernel
theorem dX11_note_81 : decode cX11_note 81 = .ok (.getfield 154, 3) := by decide +kernel
theorem dX11_note_84 : decode cX11_note 84 = .ok (.iload_n 3, 1) := by decide +kernel
theorem dX11_note_85 : decode cX11_note 85 = .ok (.iastore, 1) := by decide +kernel
theorem dX11_note_86 : decode cX11_note 86 = .ok (.aload_n 0, 1) := by decide +kernel
theorem dX11_note_87 : decode cX11_note 87 = .ok (.getfield 52, 3) := by decide +kernel
theorem dX11_note_90 : decode cX11_note 90 = .ok (.aload_n 0, 1) := by decide +kernel
theorem dX11_note_91 : decode cX11_note 91 = .ok (.getfield 154, 3) := by decide +kernel
theorem dX11_note_94 : decode cX11_note 94 = .ok (.aload_n 0, 1) := by decide +kernel
theorem dX11_note_95 : decode cX11_note 95 = .ok (.getfield 140, 3) := by decide +kernel
theorem dX11_note_98 : decode cX11_note 98 = .ok (.iastore, 1) := by decide +kernel
theorem dX11_note_99 : decode cX11_note 99 = .ok (.aload_n 0, 1) := by decide +kernel
theorem dX11_note_100 : decode cX11_note 100 = .ok (.dup, 1) := by decide +kernel
theorem dX11_note_101 : decode cX11_note 101 = .ok (.getfield 154, 3) := by decide +kernel
theorem dX11_note_104 : decode cX11_note 104 = .ok (.iconst 1, 1) := by decide +kernel
theorem dX11_note_105 : decode cX11_note 105 = .ok (.iadd, 1) := by decide +kernel
theorem dX11_note_106 : decode cX11_note 106 = .ok (.putfield 154, 3) := by decide +kernel
theorem dX11_note_109 : decode cX11_note 109 = .ok (.aload_n 0, 1) := by decide +kernel
theorem dX11_note_110 : decode cX11_note 110 = .ok (.getfield 154, 3) := by decide +kernel
theorem dX11_note_113 : decode cX11_note 113 = .ok (.ireturn, 1) := by decide +kernel
set_option maxRecDepth 20000 in
theorem ggX11_open_X11_isPaper : GoodIn wsX11_open wsX11_isPaper := goodIn_r _ [9, 10, 11, 12, 8, 13, 25, 26, 27, 28, 29, 30, 31, 32, 33, 34, 35, 36, 37, 38, 39, 40, 41, 42, 43, 44, 45, 46, 47, 48, 49, 50, 51, 52, 53, 54, 55, 56, 57, 58, 59, 60, 61, 62, 63, 64, 65, 66, 67, 68, 69, 70, 71, 72, 73] (by decide +kernel) (by decide +kernel)
set_option maxRecDepth 20000 in
theorem gX11_open_X11_isPaper : GoodIn wsX11_open (wsV RX11 161 RX11 yX11_isPaper wsX11_isPaper) := goodIn_app (goodIn_of _ (by decide +kernel)) ggX11_open_X11_isPaper
set_option maxRecDepth 20000 in
theorem ggX11_open_X11_isFellow : GoodIn wsX11_open wsX11_isFellow := goodIn_r _ [17, 18, 11, 12, 8, 13, 25, 26, 27, 28, 29, 30, 31, 32, 33, 34, 35, 36, 37, 38, 39, 40, 41, 42, 43, 44, 45, 46, 47, 48, 49, 50, 51, 52, 53, 54, 55, 56, 57, 58, 59, 60, 61, 62, 63, 64, 65, 66, 67, 68, 69, 70, 71, 72, 73] (by decide +kernel) (by decide +kernel)
set_option maxRecDepth 20000 in
theorem gX11_open_X11_isFellow : GoodIn wsX11_open (wsV RX11 149 RX11 yX11_isFellow wsX11_isFellow) := goodIn_app (goodIn_of _ (by decide +kernel)) ggX11_open_X11_isFellow
set_option maxRecDepth 20000 in
theorem ggX11_open_X11_meets : GoodIn wsX11_open wsX11_meets := goodIn_r _ [22, 23, 24, 25, 26, 27, 28, 29, 30, 31, 32, 33, 34, 35, 36, 37, 38, 39, 40, 41, 42, 43, 44, 45, 46, 47, 48, 49, 50, 51, 52, 53, 54, 55, 56, 57, 58, 59, 60, 61, 62, 63, 64, 65, 66, 67, 68, 69, 70, 71, 72, 73] (by decide +kernel) (by decide +kernel)
set_option maxRecDepth 20000 in
theorem gX11_open_X11_meets : GoodIn wsX11_open (wsV RX11 167 RX11 yX11_meets wsX11_meets) := goodIn_app (goodIn_of _ (by decide +kernel)) ggX11_open_X11_meets
theorem dX11_open_0 : decode cX11_open 0 = .ok (.aload_n 0, 1) := by decide +kernel
theorem dX11_open_1 : decode cX11_open 1 = .ok (.iload_n 1, 1) := by decide +kernel
theorem dX11_open_2 : decode cX11_open 2 = .ok (.invokevirtual 161, 3) := by decide +kernel
theorem dX11_open_5 : decode cX11_open 5 = .ok (.ifCond .eq 44, 3) := by decide +kernel
theorem dX11_open_8 : decode cX11_open 8 = .ok (.aload_n 0, 1) := by decide +kernel
theorem dX11_open_9 : decode cX11_open 9 = .ok (.iload_n 2, 1) := by decide +kernel
theorem dX11_open_10 : decode cX11_open 10 = .ok (.invokevirtual 149, 3) := by decide +kernel
theorem dX11_open_13 : decode cX11_open 13 = .ok (.ifCond .eq 36, 3) := by decide +kernel
theorem dX11_open_16 : decode cX11_open 16 = .ok (.aload_n 0, 1) := by decide +kernel
theorem dX11_open_17 : decode cX11_open 17 = .ok (.iload_n 3, 1) := by decide +kernel
theorem dX11_open_18 : decode cX11_open 18 = .ok (.invokevirtual 149, 3) := by decide +kernel
theorem dX11_open_21 : decode cX11_open 21 = .ok (.ifCond .eq 28, 3) := by decide +kernel
theorem dX11_open_24 : decode cX11_open 24 = .ok (.iload_n 2, 1) := by decide +kernel
theorem dX11_open_25 : decode cX11_open 25 = .ok (.iload_n 3, 1) := by decide +kernel
theorem dX11_open_26 : decode cX11_open 26 = .ok (.if_icmp .eq 23, 3) := by decide +kernel
theorem dX11_open_29 : decode cX11_open 29 = .ok (.iload_n 2, 1) := by decide +kernel
theorem dX11_open_30 : decode cX11_open 30 = .ok (.aload_n 0, 1) := by decide +kernel
theorem dX11_open_31 : decode cX11_open 31 = .ok (.getfield 22, 3) := by decide +kernel
theorem dX11_open_34 : decode cX11_open 34 = .ok (.iload_n 1, 1) := by decide +kernel
theorem dX11_open_35 : decode cX11_open 35 = .ok (.iaload, 1) := by decide +kernel
theorem dX11_open_36 : decode cX11_open 36 = .ok (.if_icmp .eq 13, 3) := by decide +kernel
theorem dX11_open_39 : decode cX11_open 39 = .ok (.iload_n 3, 1) := by decide +kernel
theorem dX11_open_40 : decode cX11_open 40 = .ok (.aload_n 0, 1) := by decide +kernel
theorem dX11_open_41 : decode cX11_open 41 = .ok (.getfield 22, 3) := by decide +kernel
theorem dX11_open_44 : decode cX11_open 44 = .ok (.iload_n 1, 1) := by decide +kernel
theorem dX11_open_45 : decode cX11_open 45 = .ok (.iaload, 1) := by decide +kernel
theorem dX11_open_46 : decode cX11_open 46 = .ok (.if_icmp .ne 5, 3) := by decide +kernel
theorem dX11_open_49 : decode cX11_open 49 = .ok (.iconst (-1), 1) := by decide +kernel
theorem dX11_open_50 : decode cX11_open 50 = .ok (.ireturn, 1) := by decide +kernel
theorem dX11_open_51 : decode cX11_open 51 = .ok (.aload_n 0, 1) := by decide +kernel
theorem dX11_open_52 : decode cX11_open 52 = .ok (.getfield 19, 3) := by decide +kernel
theorem dX11_open_55 : decode cX11_open 55 = .ok (.iload_n 1, 1) := by decide +kernel
theorem dX11_open_56 : decode cX11_open 56 = .ok (.iaload, 1) := by decide +kernel
theorem dX11_open_57 : decode cX11_open 57 = .ok (.iconst 1, 1) := by decide +kernel
theorem dX11_open_58 : decode cX11_open 58 = .ok (.if_icmp .eq 9, 3) := by decide +kernel
theorem dX11_open_61 : decode cX11_open 61 = .ok (.aload_n 0, 1) := by decide +kernel
theorem dX11_open_62 : decode cX11_open 62 = .ok (.iconst 3, 1) := by decide +kernel
theorem dX11_open_63 : decode cX11_open 63 = .ok (.invokevirtual 167, 3) := by decide +kernel
theorem dX11_open_66 : decode cX11_open 66 = .ok (.ireturn, 1) := by decide +kernel
theorem dX11_open_67 : decode cX11_open 67 = .ok (.aload_n 0, 1) := by decide +kernel
theorem dX11_open_68 : decode cX11_open 68 = .ok (.getfield 40, 3) := by decide +kernel
theorem dX11_open_71 : decode cX11_open 71 = .ok (.iload_n 1, 1) := by decide +kernel
theorem dX11_open_72 : decode cX11_open 72 = .ok (.iaload, 1) := by decide +kernel
theorem dX11_open_73 : decode cX11_open 73 = .ok (.bipush (-9), 2) := by decide +kernel
theorem dX11_open_75 : decode cX11_open 75 = .ok (.if_icmp .eq 6, 3) := by decide +kernel
theorem dX11_open_78 : decode cX11_open 78 = .ok (.bipush (-4), 2) := by decide +kernel
theorem dX11_open_80 : decode cX11_open 80 = .ok (.ireturn, 1) := by decide +kernel
theorem dX11_open_81 : decode cX11_open 81 = .ok (.aload_n 0, 1) := by decide +kernel
theorem dX11_open_82 : decode cX11_open 82 = .ok (.getfield 40, 3) := by decide +kernel
theorem dX11_open_85 : decode cX11_open 85 = .ok (.iload_n 1, 1) := by decide +kernel
theorem dX11_open_86 : decode cX11_open 86 = .ok (.aload_n 0, 1) := by decide +kernel
theorem dX11_open_87 : decode cX11_open 87 = .ok (.getfield 140, 3) := by decide +kernel
theorem dX11_open_90 : decode cX11_open 90 = .ok (.iastore, 1) := by decide +kernel
theorem dX11_open_91 : decode cX11_open 91 = .ok (.iconst 1, 1) := by decide +kernel
theorem dX11_open_92 : decode cX11_open 92 = .ok (.ireturn, 1) := by decide +kernel
set_option maxRecDepth 20000 in
theorem ggX11_toldOf_X11_lastOf : GoodIn wsX11_toldOf wsX11_lastOf := goodIn_r _ [9, 10, 11, 12, 13, 14, 15, 16, 17, 18, 19, 20, 21, 22, 23, 24, 25, 26, 27, 28, 29, 30, 31, 32, 33, 34, 35, 36, 37, 38, 39, 40, 41, 42, 43, 44, 45, 46, 47, 48, 49, 50, 51, 52, 53, 54, 55, 56, 57, 58, 59, 60, 61, 62, 63] (by decide +kernel) (by decide +kernel)
set_option maxRecDepth 20000 in
theorem gX11_toldOf_X11_lastOf : GoodIn wsX11_toldOf (wsV RX11 157 RX11 yX11_lastOf wsX11_lastOf) := goodIn_app (goodIn_of _ (by decide +kernel)) ggX11_toldOf_X11_lastOf
theorem dX11_toldOf_0 : decode cX11_toldOf 0 = .ok (.iload_n 2, 1) := by decide +kernel
theorem dX11_toldOf_1 : decode cX11_toldOf 1 = .ok (.tableswitch 59 0 3 #[31, 38, 45, 52], 31) := by decide +kernel
theorem dX11_toldOf_32 : decode cX11_toldOf 32 = .ok (.aload_n 0, 1) := by decide +kernel
theorem dX11_toldOf_33 : decode cX11_toldOf 33 = .ok (.getfield 19, 3) := by decide +kernel
theorem dX11_toldOf_36 : decode cX11_toldOf 36 = .ok (.iload_n 1, 1) := by decide +kernel
theorem dX11_toldOf_37 : decode cX11_toldOf 37 = .ok (.iaload, 1) := by decide +kernel
theorem dX11_toldOf_38 : decode cX11_toldOf 38 = .ok (.ireturn, 1) := by decide +kernel
theorem dX11_toldOf_39 : decode cX11_toldOf 39 = .ok (.aload_n 0, 1) := by decide +kernel
theorem dX11_toldOf_40 : decode cX11_toldOf 40 = .ok (.getfield 22, 3) := by decide +kernel
theorem dX11_toldOf_43 : decode cX11_toldOf 43 = .ok (.iload_n 1, 1) := by decide +kernel
theorem dX11_toldOf_44 : decode cX11_toldOf 44 = .ok (.iaload, 1) := by decide +kernel
theorem dX11_toldOf_45 : decode cX11_toldOf 45 = .ok (.ireturn, 1) := by decide +kernel
theorem dX11_toldOf_46 : decode cX11_toldOf 46 = .ok (.aload_n 0, 1) := by decide +kernel
theorem dX11_toldOf_47 : decode cX11_toldOf 47 = .ok (.getfield 25, 3) := by decide +kernel
theorem dX11_toldOf_50 : decode cX11_toldOf 50 = .ok (.iload_n 1, 1) := by decide +kernel
theorem dX11_toldOf_51 : decode cX11_toldOf 51 = .ok (.iaload, 1) := by decide +kernel
theorem dX11_toldOf_52 : decode cX11_toldOf 52 = .ok (.ireturn, 1) := by decide +kernel
theorem dX11_toldOf_53 : decode cX11_toldOf 53 = .ok (.aload_n 0, 1) := by decide +kernel
theorem dX11_toldOf_54 : decode cX11_toldOf 54 = .ok (.getfield 28, 3) := by decide +kernel
theorem dX11_toldOf_57 : decode cX11_toldOf 57 = .ok (.iload_n 1, 1) := by decide +kernel
theorem dX11_toldOf_58 : decode cX11_toldOf 58 = .ok (.iaload, 1) := by decide +kernel
theorem dX11_toldOf_59 : decode cX11_toldOf 59 = .ok (.ireturn, 1) := by decide +kernel
theorem dX11_toldOf_60 : decode cX11_toldOf 60 = .ok (.aload_n 0, 1) := by decide +kernel
theorem dX11_toldOf_61 : decode cX11_toldOf 61 = .ok (.iload_n 1, 1) := by decide +kernel
theorem dX11_toldOf_62 : decode cX11_toldOf 62 = .ok (.iload_n 2, 1) := by decide +kernel
theorem dX11_toldOf_63 : decode cX11_toldOf 63 = .ok (.iconst 4, 1) := by decide +kernel
theorem dX11_toldOf_64 : decode cX11_toldOf 64 = .ok (.isub, 1) := by decide +kernel
theorem dX11_toldOf_65 : decode cX11_toldOf 65 = .ok (.sipush 30000, 3) := by decide +kernel
theorem dX11_toldOf_68 : decode cX11_toldOf 68 = .ok (.invokevirtual 157, 3) := by decide +kernel
theorem dX11_toldOf_71 : decode cX11_toldOf 71 = .ok (.ireturn, 1) := by decide +kernel
set_option maxRecDepth 20000 in
theorem ggX11_told_X11_isPaper : GoodIn wsX11_told wsX11_isPaper := goodIn_r _ [5, 6, 7, 8, 4, 9, 27, 28, 29, 30, 31, 32, 33, 34, 35, 36, 37, 38, 39, 40, 41, 42, 43, 44, 45, 46, 47, 48, 49, 50, 51, 52, 53, 54, 55, 56, 57, 58, 59, 60, 61, 62, 63, 64, 65, 66, 67, 68, 69, 70, 71, 72, 73, 74, 75] (by decide +kernel) (by decide +kernel)
set_option maxRecDepth 20000 in
theorem gX11_told_X11_isPaper : GoodIn wsX11_told (wsV RX11 161 RX11 yX11_isPaper wsX11_isPaper) := goodIn_app (goodIn_of _ (by decide +kernel)) ggX11_told_X11_isPaper
set_option maxRecDepth 20000 in
theorem ggX11_told_X11_in : GoodIn wsX11_told wsX11_in := goodIn_r _ [9] (by decide +kernel) (by decide +kernel)
set_option maxRecDepth 20000 in
theorem gX11_told_X11_in : GoodIn wsX11_told (va_wsS RX11 133 yX11_in wsX11_in) := goodIn_app (goodIn_of _ (by decide +kernel)) ggX11_told_X11_in
set_option maxRecDepth 20000 in
theorem ggX11_told_X11_toldOf : GoodIn wsX11_told wsX11_toldOf := goodIn_r _ [13, 14, 15, 16, 17, 18, 19, 20, 4, 21, 22, 23, 24, 25, 26, 27, 28, 29, 30, 31, 32, 33, 34, 35, 36, 37, 38, 39, 40, 41, 42, 43, 44, 45, 46, 47, 48, 49, 50, 51, 52, 53, 54, 55, 56, 57, 58, 59, 60, 61, 62, 63, 64, 65, 66, 67, 68, 69, 70, 71, 72, 73, 74, 75] (by decide +kernel) (by decide +kernel)
set_option maxRecDepth 20000 in
theorem gX11_told_X11_toldOf : GoodIn wsX11_told (wsV RX11 171 RX11 yX11_toldOf wsX11_toldOf) := goodIn_app (goodIn_of _ (by decide +kernel)) ggX11_told_X11_toldOf
theorem dX11_told_0 : decode cX11_told 0 = .ok (.aload_n 0, 1) := by decide +kernel
theorem dX11_told_1 : decode cX11_told 1 = .ok (.iload_n 1, 1) := by decide +kernel
theorem dX11_told_2 : decode cX11_told 2 = .ok (.invokevirtual 161, 3) := by decide +kernel
theorem dX11_told_5 : decode cX11_told 5 = .ok (.ifCond .eq 22, 3) := by decide +kernel
theorem dX11_told_8 : decode cX11_told 8 = .ok (.iload_n 2, 1) := by decide +kernel
theorem dX11_told_9 : decode cX11_told 9 = .ok (.iconst 0, 1) := by decide +kernel
theorem dX11_told_10 : decode cX11_told 10 = .ok (.bipush 6, 2) := by decide +kernel
theorem dX11_told_12 : decode cX11_told 12 = .ok (.invokestatic 133, 3) := by decide +kernel
theorem dX11_told_15 : decode cX11_told 15 = .ok (.ifCond .eq 12, 3) := by decide +kernel
theorem dX11_told_18 : decode cX11_told 18 = .ok (.aload_n 0, 1) := by decide +kernel
theorem dX11_told_19 : decode cX11_told 19 = .ok (.iload_n 1, 1) := by decide +kernel
theorem dX11_told_20 : decode cX11_told 20 = .ok (.iload_n 2, 1) := by decide +kernel
theorem dX11_told_21 : decode cX11_told 21 = .ok (.invokevirtual 171, 3) := by decide +kernel
theorem dX11_told_24 : decode cX11_told 24 = .ok (.goto 4, 3) := by decide +kernel
theorem dX11_told_27 : decode cX11_told 27 = .ok (.iconst (-1), 1) := by decide +kernel
theorem dX11_told_28 : decode cX11_told 28 = .ok (.ireturn, 1) := by decide +kernel
set_option maxRecDepth 20000 in
theorem ggX11_mark_X11_isPaper : GoodIn wsX11_mark wsX11_isPaper := goodIn_r _ [9, 10, 11, 12, 8, 13, 23, 24, 25, 26, 27, 28, 29, 30, 31, 32, 33, 34, 35, 36, 37, 38, 39, 40, 41, 42, 43, 44, 45, 46, 47, 48, 49, 50, 51, 52, 53, 54, 55, 56, 57, 58, 59, 60, 61, 62, 63, 64, 65, 66, 67, 68, 69, 70, 71] (by decide +kernel) (by decide +kernel)
set_option maxRecDepth 20000 in
theorem gX11_mark_X11_isPaper : GoodIn wsX11_mark (wsV RX11 161 RX11 yX11_isPaper wsX11_isPaper) := goodIn_app (goodIn_of _ (by decide +kernel)) ggX11_mark_X11_isPaper
set_option maxRecDepth 20000 in
theorem ggX11_mark_X11_in : GoodIn wsX11_mark wsX11_in := goodIn_r _ [13] (by decide +kernel) (by decide +kernel)
set_option maxRecDepth 20000 in
theorem gX11_mark_X11_in : GoodIn wsX11_mark (va_wsS RX11 133 yX11_in wsX11_in) := goodIn_app (goodIn_of _ (by decide +kernel)) ggX11_mark_X11_in
set_option maxRecDepth 20000 in
theorem ggX11_mark_X11_bitsOf : GoodIn wsX11_mark wsX11_bitsOf := goodIn_r _ [16] (by decide +kernel) (by decide +kernel)
set_option maxRecDepth 20000 in
theorem gX11_mark_X11_bitsOf : GoodIn wsX11_mark (va_wsS RX11 175 yX11_bitsOf wsX11_bitsOf) := goodIn_app (goodIn_of _ (by decide +kernel)) ggX11_mark_X11_bitsOf
set_option maxRecDepth 20000 in
theorem ggX11_mark_X11_meets : GoodIn wsX11_mark wsX11_meets := goodIn_r _ [20, 21, 22, 23, 24, 25, 26, 27, 28, 29, 30, 31, 32, 33, 34, 35, 36, 37, 38, 39, 40, 41, 42, 43, 44, 45, 46, 47, 48, 49, 50, 51, 52, 53, 54, 55, 56, 57, 58, 59, 60, 61, 62, 63, 64, 65, 66, 67, 68, 69, 70, 71] (by decide +kernel) (by decide +kernel)
set_option maxRecDepth 20000 in
theorem gX11_mark_X11_meets : GoodIn wsX11_mark (wsV RX11 167 RX11 yX11_meets wsX11_meets) := goodIn_app (goodIn_of _ (by decide +kernel)) ggX11_mark_X11_meets
theorem dX11_mark_0 : decode cX11_mark 0 = .ok (.aload_n 0, 1) := by decide +kernel
theorem dX11_mark_1 : decode cX11_mark 1 = .ok (.iload_n 1, 1) := by decide +kernel
theorem dX11_mark_2 : decode cX11_mark 2 = .ok (.invokevirtual 161, 3) := by decide +kernel
theorem dX11_mark_5 : decode cX11_mark 5 = .ok (.ifCond .eq 12, 3) := by decide +kernel
theorem dX11_mark_8 : decode cX11_mark 8 = .ok (.iload_n 2, 1) := by decide +kernel
theorem dX11_mark_9 : decode cX11_mark 9 = .ok (.iconst 0, 1) := by decide +kernel
theorem dX11_mark_10 : decode cX11_mark 10 = .ok (.iconst 2, 1) := by decide +kernel
theorem dX11_mark_11 : decode cX11_mark 11 = .ok (.invokestatic 133, 3) := by decide +kernel
theorem dX11_mark_14 : decode cX11_mark 14 = .ok (.ifCond .ne 5, 3) := by decide +kernel
theorem dX11_mark_17 : decode cX11_mark 17 = .ok (.iconst (-1), 1) := by decide +kernel
theorem dX11_mark_18 : decode cX11_mark 18 = .ok (.ireturn, 1) := by decide +kernel
theorem dX11_mark_19 : decode cX11_mark 19 = .ok (.iload_n 2, 1) := by decide +kernel
theorem dX11_mark_20 : decode cX11_mark 20 = .ok (.ifCond .ne 13, 3) := by decide +kernel
theorem dX11_mark_23 : decode cX11_mark 23 = .ok (.aload_n 0, 1) := by decide +kernel
theorem dX11_mark_24 : decode cX11_mark 24 = .ok (.getfield 25, 3) := by decide +kernel
theorem dX11_mark_27 : decode cX11_mark 27 = .ok (.iload_n 1, 1) := by decide +kernel
theorem dX11_mark_28 : decode cX11_mark 28 = .ok (.iaload, 1) := by decide +kernel
theorem dX11_mark_29 : decode cX11_mark 29 = .ok (.invokestatic 175, 3) := by decide +kernel
theorem dX11_mark_32 : decode cX11_mark 32 = .ok (.ireturn, 1) := by decide +kernel
theorem dX11_mark_33 : decode cX11_mark 33 = .ok (.aload_n 0, 1) := by decide +kernel
theorem dX11_mark_34 : decode cX11_mark 34 = .ok (.getfield 19, 3) := by decide +kernel
theorem dX11_mark_37 : decode cX11_mark 37 = .ok (.iload_n 1, 1) := by decide +kernel
theorem dX11_mark_38 : decode cX11_mark 38 = .ok (.iaload, 1) := by decide +kernel
theorem dX11_mark_39 : decode cX11_mark 39 = .ok (.iload_n 2, 1) := by decide +kernel
theorem dX11_mark_40 : decode cX11_mark 40 = .ok (.if_icmp .eq 11, 3) := by decide +kernel
theorem dX11_mark_43 : decode cX11_mark 43 = .ok (.aload_n 0, 1) := by decide +kernel
theorem dX11_mark_44 : decode cX11_mark 44 = .ok (.iconst 3, 1) := by decide +kernel
theorem dX11_mark_45 : decode cX11_mark 45 = .ok (.invokevirtual 167, 3) := by decide +kernel
theorem dX11_mark_48 : decode cX11_mark 48 = .ok (.goto 23, 3) := by decide +kernel
theorem dX11_mark_51 : decode cX11_mark 51 = .ok (.iload_n 2, 1) := by decide +kernel
theorem dX11_mark_52 : decode cX11_mark 52 = .ok (.iconst 1, 1) := by decide +kernel
theorem dX11_mark_53 : decode cX11_mark 53 = .ok (.if_icmp .ne 12, 3) := by decide +kernel
theorem dX11_mark_56 : decode cX11_mark 56 = .ok (.aload_n 0, 1) := by decide +kernel
theorem dX11_mark_57 : decode cX11_mark 57 = .ok (.getfield 40, 3) := by decide +kernel
theorem dX11_mark_60 : decode cX11_mark 60 = .ok (.iload_n 1, 1) := by decide +kernel
theorem dX11_mark_61 : decode cX11_mark 61 = .ok (.iaload, 1) := by decide +kernel
theorem dX11_mark_62 : decode cX11_mark 62 = .ok (.goto 9, 3) := by decide +kernel
theorem dX11_mark_65 : decode cX11_mark 65 = .ok (.aload_n 0, 1) := by decide +kernel
theorem dX11_mark_66 : decode cX11_mark 66 = .ok (.getfield 31, 3) := by decide +kernel
theorem dX11_mark_69 : decode cX11_mark 69 = .ok (.iload_n 1, 1) := by decide +kernel
theorem dX11_mark_70 : decode cX11_mark 70 = .ok (.iaload, 1) := by decide +kernel
theorem dX11_mark_71 : decode cX11_mark 71 = .ok (.ireturn, 1) := by decide +kernel
set_option maxRecDepth 20000 in
theorem ggX11_known_X11_isPaper : GoodIn wsX11_known wsX11_isPaper := goodIn_r _ [5, 6, 7, 8, 4, 9, 22, 23, 24, 25, 26, 27, 28, 29, 30, 31, 32, 33, 34, 35, 36, 37, 38, 39, 40, 41, 42, 43, 44, 45, 46, 47, 48, 49, 50, 51, 52, 53, 54, 55, 56, 57, 58, 59, 60, 61, 62, 63, 64, 65, 66, 67, 68, 69, 70] (by decide +kernel) (by decide +kernel)
set_option maxRecDepth 20000 in
theorem gX11_known_X11_isPaper : GoodIn wsX11_known (wsV RX11 161 RX11 yX11_isPaper wsX11_isPaper) := goodIn_app (goodIn_of _ (by decide +kernel)) ggX11_known_X11_isPaper
set_option maxRecDepth 20000 in
theorem ggX11_known_X11_in : GoodIn wsX11_known wsX11_in := goodIn_r _ [9] (by decide +kernel) (by decide +kernel)
set_option maxRecDepth 20000 in
theorem gX11_known_X11_in : GoodIn wsX11_known (va_wsS RX11 133 yX11_in wsX11_in) := goodIn_app (goodIn_of _ (by decide +kernel)) ggX11_known_X11_in
set_option maxRecDepth 20000 in
theorem ggX11_known_X11_isDay : GoodIn wsX11_known wsX11_isDay := goodIn_r _ [12, 7, 8, 4, 9] (by decide +kernel) (by decide +kernel)
set_option maxRecDepth 20000 in
theorem gX11_known_X11_isDay : GoodIn wsX11_known (va_wsS RX11 178 yX11_isDay wsX11_isDay) := goodIn_app (goodIn_of _ (by decide +kernel)) ggX11_known_X11_isDay
set_option maxRecDepth 20000 in
theorem ggX11_known_X11_lastOf : GoodIn wsX11_known wsX11_lastOf := goodIn_r _ [16, 17, 18, 19, 20, 21, 22, 23, 24, 25, 26, 27, 28, 29, 30, 31, 32, 33, 34, 35, 36, 37, 38, 39, 40, 41, 42, 43, 44, 45, 46, 47, 48, 49, 50, 51, 52, 53, 54, 55, 56, 57, 58, 59, 60, 61, 62, 63, 64, 65, 66, 67, 68, 69, 70] (by decide +kernel) (by decide +kernel)
set_option maxRecDepth 20000 in
theorem gX11_known_X11_lastOf : GoodIn wsX11_known (wsV RX11 157 RX11 yX11_lastOf wsX11_lastOf) := goodIn_app (goodIn_of _ (by decide +kernel)) ggX11_known_X11_lastOf
theorem dX11_known_0 : decode cX11_known 0 = .ok (.aload_n 0, 1) := by decide +kernel
theorem dX11_known_1 : decode cX11_known 1 = .ok (.iload_n 1, 1) := by decide +kernel
theorem dX11_known_2 : decode cX11_known 2 = .ok (.invokevirtual 161, 3) := by decide +kernel
theorem dX11_known_5 : decode cX11_known 5 = .ok (.ifCond .eq 29, 3) := by decide +kernel
theorem dX11_known_8 : decode cX11_known 8 = .ok (.iload_n 2, 1) := by decide +kernel
theorem dX11_known_9 : decode cX11_known 9 = .ok (.iconst 0, 1) := by decide +kernel
theorem dX11_known_10 : decode cX11_known 10 = .ok (.iconst 2, 1) := by decide +kernel
theorem dX11_known_11 : decode cX11_known 11 = .ok (.invokestatic 133, 3) := by decide +kernel
theorem dX11_known_14 : decode cX11_known 14 = .ok (.ifCond .eq 20, 3) := by decide +kernel
theorem dX11_known_17 : decode cX11_known 17 = .ok (.iload_n 3, 1) := by decide +kernel
theorem dX11_known_18 : decode cX11_known 18 = .ok (.invokestatic 178, 3) := by decide +kernel
theorem dX11_known_21 : decode cX11_known 21 = .ok (.ifCond .eq 13, 3) := by decide +kernel
theorem dX11_known_24 : decode cX11_known 24 = .ok (.aload_n 0, 1) := by decide +kernel
theorem dX11_known_25 : decode cX11_known 25 = .ok (.iload_n 1, 1) := by decide +kernel
theorem dX11_known_26 : decode cX11_known 26 = .ok (.iload_n 2, 1) := by decide +kernel
theorem dX11_known_27 : decode cX11_known 27 = .ok (.iload_n 3, 1) := by decide +kernel
theorem dX11_known_28 : decode cX11_known 28 = .ok (.invokevirtual 157, 3) := by decide +kernel
theorem dX11_known_31 : decode cX11_known 31 = .ok (.goto 4, 3) := by decide +kernel
theorem dX11_known_34 : decode cX11_known 34 = .ok (.iconst (-1), 1) := by decide +kernel
theorem dX11_known_35 : decode cX11_known 35 = .ok (.ireturn, 1) := by decide +kernel
set_option maxRecDepth 20000 in
theorem ggX11_statute_X11_isDay : GoodIn wsX11_statute wsX11_isDay := goodIn_r _ [8, 9, 10, 7, 11] (by decide +kernel) (by decide +kernel)
set_option maxRecDepth 20000 in
theorem gX11_statute_X11_isDay : GoodIn wsX11_statute (va_wsS RX11 178 yX11_isDay wsX11_isDay) := goodIn_app (goodIn_of _ (by decide +kernel)) ggX11_statute_X11_isDay
set_option maxRecDepth 20000 in
theorem ggX11_statute_X11_in : GoodIn wsX11_statute wsX11_in := goodIn_r _ [11] (by decide +kernel) (by decide +kernel)
set_option maxRecDepth 20000 in
theorem gX11_statute_X11_in : GoodIn wsX11_statute (va_wsS RX11 133 yX11_in wsX11_in) := goodIn_app (goodIn_of _ (by decide +kernel)) ggX11_statute_X11_in
theorem dX11_statute_0 : decode cX11_statute 0 = .ok (.iload_n 1, 1) := by decide +kernel
theorem dX11_statute_1 : decode cX11_statute 1 = .ok (.invokestatic 178, 3) := by decide +kernel
theorem dX11_statute_4 : decode cX11_statute 4 = .ok (.ifCond .eq 12, 3) := by decide +kernel
theorem dX11_statute_7 : decode cX11_statute 7 = .ok (.iload_n 2, 1) := by decide +kernel
theorem dX11_statute_8 : decode cX11_statute 8 = .ok (.iconst 0, 1) := by decide +kernel
theorem dX11_statute_9 : decode cX11_statute 9 = .ok (.iconst 2, 1) := by decide +kernel
theorem dX11_statute_10 : decode cX11_statute 10 = .ok (.invokestatic 133, 3) := by decide +kernel
theorem dX11_statute_13 : decode cX11_statute 13 = .ok (.ifCond .ne 5, 3) := by decide +kernel
theorem dX11_statute_16 : decode cX11_statute 16 = .ok (.iconst (-1), 1) := by decide +kernel
theorem dX11_statute_17 : decode cX11_statute 17 = .ok (.ireturn, 1) := by decide +kernel
theorem dX11_statute_18 : decode cX11_statute 18 = .ok (.aload_n 0, 1) := by decide +kernel
theorem dX11_statute_19 : decode cX11_statute 19 = .ok (.getfield 181, 3) := by decide +kernel
theorem dX11_statute_22 : decode cX11_statute 22 = .ok (.bipush 12, 2) := by decide +kernel
theorem dX11_statute_24 : decode cX11_statute 24 = .ok (.if_icmp .ne 6, 3) := by decide +kernel
theorem dX11_statute_27 : decode cX11_statute 27 = .ok (.bipush (-2), 2) := by decide +kernel
theorem dX11_statute_29 : decode cX11_statute 29 = .ok (.ireturn, 1) := by decide +kernel
theorem dX11_statute_30 : decode cX11_statute 30 = .ok (.aload_n 0, 1) := by decide +kernel
theorem dX11_statute_31 : decode cX11_statute 31 = .ok (.getfield 55, 3) := by decide +kernel
theorem dX11_statute_34 : decode cX11_statute 34 = .ok (.aload_n 0, 1) := by decide +kernel
theorem dX11_statute_35 : decode cX11_statute 35 = .ok (.getfield 181, 3) := by decide +kernel
theorem dX11_statute_38 : decode cX11_statute 38 = .ok (.iload_n 1, 1) := by decide +kernel
theorem dX11_statute_39 : decode cX11_statute 39 = .ok (.iastore, 1) := by decide +kernel
theorem dX11_statute_40 : decode cX11_statute 40 = .ok (.aload_n 0, 1) := by decide +kernel
theorem dX11_statute_41 : decode cX11_statute 41 = .ok (.getfield 58, 3) := by decide +kernel
theorem dX11_statute_44 : decode cX11_statute 44 = .ok (.aload_n 0, 1) := by decide +kernel
theorem dX11_statute_45 : decode cX11_statute 45 = .ok (.getfield 181, 3) := by decide +kernel
theorem dX11_statute_48 : decode cX11_statute 48 = .ok (.iload_n 2, 1) := by decide +kernel
theorem dX11_statute_49 : decode cX11_statute 49 = .ok (.iastore, 1) := by decide +kernel
theorem dX11_statute_50 : decode cX11_statute 50 = .ok (.aload_n 0, 1) := by decide +kernel
theorem dX11_statute_51 : decode cX11_statute 51 = .ok (.getfield 61, 3) := by decide +kernel
theorem dX11_statute_54 : decode cX11_statute 54 = .ok (.aload_n 0, 1) := by decide +kernel
theorem dX11_statute_55 : decode cX11_statute 55 = .ok (.getfield 181, 3) := by decide +kernel
theorem dX11_statute_58 : decode cX11_statute 58 = .ok (.iload_n 3, 1) := by decide +kernel
theorem dX11_statute_59 : decode cX11_statute 59 = .ok (.bastore, 1) := by decide +kernel
theorem dX11_statute_60 : decode cX11_statute 60 = .ok (.aload_n 0, 1) := by decide +kernel
theorem dX11_statute_61 : decode cX11_statute 61 = .ok (.dup, 1) := by decide +kernel
theorem dX11_statute_62 : decode cX11_statute 62 = .ok (.getfield 181, 3) := by decide +kernel
theorem dX11_statute_65 : decode cX11_statute 65 = .ok (.iconst 1, 1) := by decide +kernel
theorem dX11_statute_66 : decode cX11_statute 66 = .ok (.iadd, 1) := by decide +kernel
theorem dX11_statute_67 : decode cX11_statute 67 = .ok (.putfield 181, 3) := by decide +kernel
theorem dX11_statute_70 : decode cX11_statute 70 = .ok (.aload_n 0, 1) := by decide +kernel
theorem dX11_statute_71 : decode cX11_statute 71 = .ok (.getfield 181, 3) := by decide +kernel
theorem dX11_statute_74 : decode cX11_statute 74 = .ok (.iconst 1, 1) := by decide +kernel
theorem dX11_statute_75 : decode cX11_statute 75 = .ok (.isub, 1) := by decide +kernel
theorem dX11_statute_76 : decode cX11_statute 76 = .ok (.ireturn, 1) := by decide +kernel
theorem dX11_inForce_0 : decode cX11_inForce 0 = .ok (.bipush (-9), 2) := by decide +kernel
theorem dX11_inForce_2 : decode cX11_inForce 2 = .ok (.istore_n 3, 1) := by decide +kernel
theorem dX11_inForce_3 : decode cX11_inForce 3 = .ok (.iconst 0, 1) := by decide +kernel
theorem dX11_inForce_4 : decode cX11_inForce 4 = .ok (.istore 4, 2) := by decide +kernel
theorem dX11_inForce_6 : decode cX11_inForce 6 = .ok (.iload 4, 2) := by decide +kernel
theorem dX11_inForce_8 : decode cX11_inForce 8 = .ok (.iload_n 1, 1) := by decide +kernel
theorem dX11_inForce_9 : decode cX11_inForce 9 = .ok (.if_icmp .ge 40, 3) := by decide +kernel
theorem dX11_inForce_12 : decode cX11_inForce 12 = .ok (.aload_n 0, 1) := by decide +kernel
theorem dX11_inForce_13 : decode cX11_inForce 13 = .ok (.iload 4, 2) := by decide +kernel
theorem dX11_inForce_15 : decode cX11_inForce 15 = .ok (.iaload, 1) := by decide +kernel
theorem dX11_inForce_16 : decode cX11_inForce 16 = .ok (.iload_n 2, 1) := by decide +kernel
theorem dX11_inForce_17 : decode cX11_inForce 17 = .ok (.if_icmp .gt 24, 3) := by decide +kernel
theorem dX11_inForce_20 : decode cX11_inForce 20 = .ok (.iload_n 3, 1) := by decide +kernel
theorem dX11_inForce_21 : decode cX11_inForce 21 = .ok (.bipush (-9), 2) := by decide +kernel
theorem dX11_inForce_23 : decode cX11_inForce 23 = .ok (.if_icmp .eq 13, 3) := by decide +kernel
theorem dX11_inForce_26 : decode cX11_inForce 26 = .ok (.aload_n 0, 1) := by decide +kernel
theorem dX11_inForce_27 : decode cX11_inForce 27 = .ok (.iload 4, 2) := by decide +kernel
theorem dX11_inForce_29 : decode cX11_inForce 29 = .ok (.iaload, 1) := by decide +kernel
theorem dX11_inForce_30 : decode cX11_inForce 30 = .ok (.aload_n 0, 1) := by decide +kernel
theorem dX11_inForce_31 : decode cX11_inForce 31 = .ok (.iload_n 3, 1) := by decide +kernel
theorem dX11_inForce_32 : decode cX11_inForce 32 = .ok (.iaload, 1) := by decide +kernel
theorem dX11_inForce_33 : decode cX11_inForce 33 = .ok (.if_icmp .lt 8, 3) := by decide +kernel
theorem dX11_inForce_36 : decode cX11_inForce 36 = .ok (.iload 4, 2) := by decide +kernel
theorem dX11_inForce_38 : decode cX11_inForce 38 = .ok (.goto 4, 3) := by decide +kernel
theorem dX11_inForce_41 : decode cX11_inForce 41 = .ok (.iload_n 3, 1) := by decide +kernel
theorem dX11_inForce_42 : decode cX11_inForce 42 = .ok (.istore_n 3, 1) := by decide +kernel
theorem dX11_inForce_43 : decode cX11_inForce 43 = .ok (.iinc 4 1, 3) := by decide +kernel
theorem dX11_inForce_46 : decode cX11_inForce 46 = .ok (.goto (-40), 3) := by decide +kernel
theorem dX11_inForce_49 : decode cX11_inForce 49 = .ok (.iload_n 3, 1) := by decide +kernel
theorem dX11_inForce_50 : decode cX11_inForce 50 = .ok (.ireturn, 1) := by decide +kernel
set_option maxRecDepth 20000 in
theorem ggX11_force_X11_isDay : GoodIn wsX11_force wsX11_isDay := goodIn_r _ [6, 7, 8, 5, 9] (by decide +kernel) (by decide +kernel)
set_option maxRecDepth 20000 in
theorem gX11_force_X11_isDay : GoodIn wsX11_force (va_wsS RX11 178 yX11_isDay wsX11_isDay) := goodIn_app (goodIn_of _ (by decide +kernel)) ggX11_force_X11_isDay
set_option maxRecDepth 20000 in
theorem ggX11_force_X11_inForce : GoodIn wsX11_force wsX11_inForce := goodIn_r _ [12] (by decide +kernel) (by decide +kernel)
set_option maxRecDepth 20000 in
theorem gX11_force_X11_inForce : GoodIn wsX11_force (va_wsS RX11 184 yX11_inForce wsX11_inForce) := goodIn_app (goodIn_of _ (by decide +kernel)) ggX11_force_X11_inForce
theorem dX11_force_0 : decode cX11_force 0 = .ok (.iload_n 1, 1) := by decide +kernel
theorem dX11_force_1 : decode cX11_force 1 = .ok (.invokestatic 178, 3) := by decide +kernel
theorem dX11_force_4 : decode cX11_force 4 = .ok (.ifCond .eq 18, 3) := by decide +kernel
theorem dX11_force_7 : decode cX11_force 7 = .ok (.aload_n 0, 1) := by decide +kernel
theorem dX11_force_8 : decode cX11_force 8 = .ok (.getfield 55, 3) := by decide +kernel
theorem dX11_force_11 : decode cX11_force 11 = .ok (.aload_n 0, 1) := by decide +kernel
theorem dX11_force_12 : decode cX11_force 12 = .ok (.getfield 181, 3) := by decide +kernel
theorem dX11_force_15 : decode cX11_force 15 = .ok (.iload_n 1, 1) := by decide +kernel
theorem dX11_force_16 : decode cX11_force 16 = .ok (.invokestatic 184, 3) := by decide +kernel
theorem dX11_force_19 : decode cX11_force 19 = .ok (.goto 4, 3) := by decide +kernel
theorem dX11_force_22 : decode cX11_force 22 = .ok (.iconst (-1), 1) := by decide +kernel
theorem dX11_force_23 : decode cX11_force 23 = .ok (.ireturn, 1) := by decide +kernel
set_option maxRecDepth 20000 in
theorem ggX11_whenOf_X11_lastOf : GoodIn wsX11_whenOf wsX11_lastOf := goodIn_r _ [12, 13, 14, 15, 16, 17, 18, 19, 20, 21, 22, 23, 24, 25, 26, 27, 28, 29, 30, 31, 32, 33, 34, 35, 36, 37, 38, 39, 40, 41, 42, 43, 44, 45, 46, 47, 48, 49, 50, 51, 52, 53, 54, 55, 56, 57, 58, 59, 60, 61, 62, 63, 64, 65, 66] (by decide +kernel) (by decide +kernel)
set_option maxRecDepth 20000 in
theorem gX11_whenOf_X11_lastOf : GoodIn wsX11_whenOf (wsV RX11 157 RX11 yX11_lastOf wsX11_lastOf) := goodIn_app (goodIn_of _ (by decide +kernel)) ggX11_whenOf_X11_lastOf
theorem dX11_whenOf_0 : decode cX11_whenOf 0 = .ok (.aload_n 0, 1) := by decide +kernel
theorem dX11_whenOf_1 : decode cX11_whenOf 1 = .ok (.getfield 61, 3) := by decide +kernel
theorem dX11_whenOf_4 : decode cX11_whenOf 4 = .ok (.iload_n 2, 1) := by decide +kernel
theorem dX11_whenOf_5 : decode cX11_whenOf 5 = .ok (.baload, 1) := by decide +kernel
theorem dX11_whenOf_6 : decode cX11_whenOf 6 = .ok (.ifCond .eq 41, 3) := by decide +kernel
theorem dX11_whenOf_9 : decode cX11_whenOf 9 = .ok (.aload_n 0, 1) := by decide +kernel
theorem dX11_whenOf_10 : decode cX11_whenOf 10 = .ok (.getfield 19, 3) := by decide +kernel
theorem dX11_whenOf_13 : decode cX11_whenOf 13 = .ok (.iload_n 1, 1) := by decide +kernel
theorem dX11_whenOf_14 : decode cX11_whenOf 14 = .ok (.iaload, 1) := by decide +kernel
theorem dX11_whenOf_15 : decode cX11_whenOf 15 = .ok (.iconst 1, 1) := by decide +kernel
theorem dX11_whenOf_16 : decode cX11_whenOf 16 = .ok (.if_icmp .ne 31, 3) := by decide +kernel
theorem dX11_whenOf_19 : decode cX11_whenOf 19 = .ok (.aload_n 0, 1) := by decide +kernel
theorem dX11_whenOf_20 : decode cX11_whenOf 20 = .ok (.getfield 40, 3) := by decide +kernel
theorem dX11_whenOf_23 : decode cX11_whenOf 23 = .ok (.iload_n 1, 1) := by decide +kernel
theorem dX11_whenOf_24 : decode cX11_whenOf 24 = .ok (.iaload, 1) := by decide +kernel
theorem dX11_whenOf_25 : decode cX11_whenOf 25 = .ok (.bipush (-9), 2) := by decide +kernel
theorem dX11_whenOf_27 : decode cX11_whenOf 27 = .ok (.if_icmp .eq 20, 3) := by decide +kernel
theorem dX11_whenOf_30 : decode cX11_whenOf 30 = .ok (.aload_n 0, 1) := by decide +kernel
theorem dX11_whenOf_31 : decode cX11_whenOf 31 = .ok (.getfield 40, 3) := by decide +kernel
theorem dX11_whenOf_34 : decode cX11_whenOf 34 = .ok (.iload_n 1, 1) := by decide +kernel
theorem dX11_whenOf_35 : decode cX11_whenOf 35 = .ok (.iaload, 1) := by decide +kernel
theorem dX11_whenOf_36 : decode cX11_whenOf 36 = .ok (.iload_n 3, 1) := by decide +kernel
theorem dX11_whenOf_37 : decode cX11_whenOf 37 = .ok (.if_icmp .gt 10, 3) := by decide +kernel
theorem dX11_whenOf_40 : decode cX11_whenOf 40 = .ok (.aload_n 0, 1) := by decide +kernel
theorem dX11_whenOf_41 : decode cX11_whenOf 41 = .ok (.getfield 28, 3) := by decide +kernel
theorem dX11_whenOf_44 : decode cX11_whenOf 44 = .ok (.iload_n 1, 1) := by decide +kernel
theorem dX11_whenOf_45 : decode cX11_whenOf 45 = .ok (.iaload, 1) := by decide +kernel
theorem dX11_whenOf_46 : decode cX11_whenOf 46 = .ok (.ireturn, 1) := by decide +kernel
theorem dX11_whenOf_47 : decode cX11_whenOf 47 = .ok (.aload_n 0, 1) := by decide +kernel
theorem dX11_whenOf_48 : decode cX11_whenOf 48 = .ok (.iload_n 1, 1) := by decide +kernel
theorem dX11_whenOf_49 : decode cX11_whenOf 49 = .ok (.aload_n 0, 1) := by decide +kernel
theorem dX11_whenOf_50 : decode cX11_whenOf 50 = .ok (.getfield 58, 3) := by decide +kernel
theorem dX11_whenOf_53 : decode cX11_whenOf 53 = .ok (.iload_n 2, 1) := by decide +kernel
theorem dX11_whenOf_54 : decode cX11_whenOf 54 = .ok (.iaload, 1) := by decide +kernel
theorem dX11_whenOf_55 : decode cX11_whenOf 55 = .ok (.iload_n 3, 1) := by decide +kernel
theorem dX11_whenOf_56 : decode cX11_whenOf 56 = .ok (.invokevirtual 157, 3) := by decide +kernel
theorem dX11_whenOf_59 : decode cX11_whenOf 59 = .ok (.istore 5, 2) := by decide +kernel
theorem dX11_whenOf_61 : decode cX11_whenOf 61 = .ok (.iload 5, 2) := by decide +kernel
theorem dX11_whenOf_63 : decode cX11_whenOf 63 = .ok (.bipush (-9), 2) := by decide +kernel
theorem dX11_whenOf_65 : decode cX11_whenOf 65 = .ok (.if_icmp .eq 6, 3) := by decide +kernel
theorem dX11_whenOf_68 : decode cX11_whenOf 68 = .ok (.iload 5, 2) := by decide +kernel
theorem dX11_whenOf_70 : decode cX11_whenOf 70 = .ok (.ireturn, 1) := by decide +kernel
theorem dX11_whenOf_71 : decode cX11_whenOf 71 = .ok (.aload_n 0, 1) := by decide +kernel
theorem dX11_whenOf_72 : decode cX11_whenOf 72 = .ok (.getfield 58, 3) := by decide +kernel
theorem dX11_whenOf_75 : decode cX11_whenOf 75 = .ok (.iload_n 2, 1) := by decide +kernel
theorem dX11_whenOf_76 : decode cX11_whenOf 76 = .ok (.iaload, 1) := by decide +kernel
theorem dX11_whenOf_77 : decode cX11_whenOf 77 = .ok (.ifCond .ne 46, 3) := by decide +kernel
theorem dX11_whenOf_80 : decode cX11_whenOf 80 = .ok (.aload_n 0, 1) := by decide +kernel
theorem dX11_whenOf_81 : decode cX11_whenOf 81 = .ok (.getfield 19, 3) := by decide +kernel
theorem dX11_whenOf_84 : decode cX11_whenOf 84 = .ok (.iload_n 1, 1) := by decide +kernel
theorem dX11_whenOf_85 : decode cX11_whenOf 85 = .ok (.iaload, 1) := by decide +kernel
theorem dX11_whenOf_86 : decode cX11_whenOf 86 = .ok (.iconst 2, 1) := by decide +kernel
theorem dX11_whenOf_87 : decode cX11_whenOf 87 = .ok (.if_icmp .ne 36, 3) := by decide +kernel
theorem dX11_whenOf_90 : decode cX11_whenOf 90 = .ok (.aload_n 0, 1) := by decide +kernel
theorem dX11_whenOf_91 : decode cX11_whenOf 91 = .ok (.getfield 28, 3) := by decide +kernel
theorem dX11_whenOf_94 : decode cX11_whenOf 94 = .ok (.iload_n 1, 1) := by decide +kernel
theorem dX11_whenOf_95 : decode cX11_whenOf 95 = .ok (.iaload, 1) := by decide +kernel
theorem dX11_whenOf_96 : decode cX11_whenOf 96 = .ok (.iload_n 3, 1) := by decide +kernel
theorem dX11_whenOf_97 : decode cX11_whenOf 97 = .ok (.if_icmp .gt 26, 3) := by decide +kernel
theorem dX11_whenOf_100 : decode cX11_whenOf 100 = .ok (.iload 4, 2) := by decide +kernel
theorem dX11_whenOf_102 : decode cX11_whenOf 102 = .ok (.ifCond .eq 12, 3) := by decide +kernel
theorem dX11_whenOf_105 : decode cX11_whenOf 105 = .ok (.aload_n 0, 1) := by decide +kernel
theorem dX11_whenOf_106 : decode cX11_whenOf 106 = .ok (.getfield 37, 3) := by decide +kernel
theorem dX11_whenOf_109 : decode cX11_whenOf 109 = .ok (.iload_n 1, 1) := by decide +kernel
theorem dX11_whenOf_110 : decode cX11_whenOf 110 = .ok (.iaload, 1) := by decide +kernel
theorem dX11_whenOf_111 : decode cX11_whenOf 111 = .ok (.goto 14, 3) := by decide +kernel
theorem dX11_whenOf_114 : decode cX11_whenOf 114 = .ok (.aload_n 0, 1) := by decide +kernel
theorem dX11_whenOf_115 : decode cX11_whenOf 115 = .ok (.getfield 34, 3) := by decide +kernel
theorem dX11_whenOf_118 : decode cX11_whenOf 118 = .ok (.iload_n 1, 1) := by decide +kernel
theorem dX11_whenOf_119 : decode cX11_whenOf 119 = .ok (.iaload, 1) := by decide +kernel
theorem dX11_whenOf_120 : decode cX11_whenOf 120 = .ok (.goto 5, 3) := by decide +kernel
theorem dX11_whenOf_123 : decode cX11_whenOf 123 = .ok (.bipush (-9), 2) := by decide +kernel
theorem dX11_whenOf_125 : decode cX11_whenOf 125 = .ok (.ireturn, 1) := by decide +kernel
set_option maxRecDepth 20000 in
theorem ggX11_when_X11_isPaper : GoodIn wsX11_when wsX11_isPaper := goodIn_r _ [6, 7, 8, 9, 5, 10, 34, 35, 36, 37, 38, 39, 40, 41, 42, 43, 44, 45, 46, 47, 48, 49, 50, 51, 52, 53, 54, 55, 56, 57, 58, 59, 60, 61, 62, 63, 64, 65, 66, 67, 68, 69, 70, 71, 72, 73, 74, 75, 76, 77, 78, 79, 80, 81, 82] (by decide +kernel) (by decide +kernel)
set_option maxRecDepth 20000 in
theorem gX11_when_X11_isPaper : GoodIn wsX11_when (wsV RX11 161 RX11 yX11_isPaper wsX11_isPaper) := goodIn_app (goodIn_of _ (by decide +kernel)) ggX11_when_X11_isPaper
set_option maxRecDepth 20000 in
theorem ggX11_when_X11_in : GoodIn wsX11_when wsX11_in := goodIn_r _ [10] (by decide +kernel) (by decide +kernel)
set_option maxRecDepth 20000 in
theorem gX11_when_X11_in : GoodIn wsX11_when (va_wsS RX11 133 yX11_in wsX11_in) := goodIn_app (goodIn_of _ (by decide +kernel)) ggX11_when_X11_in
set_option maxRecDepth 20000 in
theorem ggX11_when_X11_isDay : GoodIn wsX11_when wsX11_isDay := goodIn_r _ [13, 8, 9, 5, 10] (by decide +kernel) (by decide +kernel)
set_option maxRecDepth 20000 in
theorem gX11_when_X11_isDay : GoodIn wsX11_when (va_wsS RX11 178 yX11_isDay wsX11_isDay) := goodIn_app (goodIn_of _ (by decide +kernel)) ggX11_when_X11_isDay
set_option maxRecDepth 20000 in
theorem ggX11_when_X11_whenOf : GoodIn wsX11_when wsX11_whenOf := goodIn_r _ [17, 18, 19, 20, 21, 22, 23, 24, 25, 26, 27, 5, 28, 29, 30, 31, 32, 33, 34, 35, 36, 37, 38, 39, 40, 41, 42, 43, 44, 45, 46, 47, 48, 49, 50, 51, 52, 53, 54, 55, 56, 57, 58, 59, 60, 61, 62, 63, 64, 65, 66, 67, 68, 69, 70, 71, 72, 73, 74, 75, 76, 77, 78, 79, 80, 81, 82] (by decide +kernel) (by decide +kernel)
set_option maxRecDepth 20000 in
theorem gX11_when_X11_whenOf : GoodIn wsX11_when (wsV RX11 188 RX11 yX11_whenOf wsX11_whenOf) := goodIn_app (goodIn_of _ (by decide +kernel)) ggX11_when_X11_whenOf
