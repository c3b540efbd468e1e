theorem dX11_init_0 : decode cX11_init 0 = .ok (.aload_n 0, 1) := by decide +kernel
theorem dX11_init_1 : decode cX11_init 1 = .ok (.invokespecial 1, 3) := by decide +kernel
theorem dX11_init_4 : decode cX11_init 4 = .ok (.aload_n 0, 1) := by decide +kernel
theorem dX11_init_5 : decode cX11_init 5 = .ok (.bipush 40, 2) := by decide +kernel
theorem dX11_init_7 : decode cX11_init 7 = .ok (.newarray .int, 2) := by decide +kernel
theorem dX11_init_9 : decode cX11_init 9 = .ok (.putfield 9, 3) := by decide +kernel
theorem dX11_init_12 : decode cX11_init 12 = .ok (.aload_n 0, 1) := by decide +kernel
theorem dX11_init_13 : decode cX11_init 13 = .ok (.bipush 40, 2) := by decide +kernel
theorem dX11_init_15 : decode cX11_init 15 = .ok (.newarray .int, 2) := by decide +kernel
theorem dX11_init_17 : decode cX11_init 17 = .ok (.putfield 13, 3) := by decide +kernel
theorem dX11_init_20 : decode cX11_init 20 = .ok (.aload_n 0, 1) := by decide +kernel
theorem dX11_init_21 : decode cX11_init 21 = .ok (.bipush 40, 2) := by decide +kernel
theorem dX11_init_23 : decode cX11_init 23 = .ok (.newarray .int, 2) := by decide +kernel
theorem dX11_init_25 : decode cX11_init 25 = .ok (.putfield 16, 3) := by decide +kernel
theorem dX11_init_28 : decode cX11_init 28 = .ok (.aload_n 0, 1) := by decide +kernel
theorem dX11_init_29 : decode cX11_init 29 = .ok (.bipush 40, 2) := by decide +kernel
theorem dX11_init_31 : decode cX11_init 31 = .ok (.newarray .int, 2) := by decide +kernel
theorem dX11_init_33 : decode cX11_init 33 = .ok (.putfield 19, 3) := by decide +kernel
theorem dX11_init_36 : decode cX11_init 36 = .ok (.aload_n 0, 1) := by decide +kernel
theorem dX11_init_37 : decode cX11_init 37 = .ok (.sipush 300, 3) := by decide +kernel
theorem dX11_init_40 : decode cX11_init 40 = .ok (.newarray .int, 2) := by decide +kernel
theorem dX11_init_42 : decode cX11_init 42 = .ok (.putfield 22, 3) := by decide +kernel
theorem dX11_init_45 : decode cX11_init 45 = .ok (.aload_n 0, 1) := by decide +kernel
theorem dX11_init_46 : decode cX11_init 46 = .ok (.sipush 300, 3) := by decide +kernel
theorem dX11_init_49 : decode cX11_init 49 = .ok (.newarray .int, 2) := by decide +kernel
theorem dX11_init_51 : decode cX11_init 51 = .ok (.putfield 25, 3) := by decide +kernel
theorem dX11_init_54 : decode cX11_init 54 = .ok (.aload_n 0, 1) := by decide +kernel
theorem dX11_init_55 : decode cX11_init 55 = .ok (.sipush 300, 3) := by decide +kernel
theorem dX11_init_58 : decode cX11_init 58 = .ok (.newarray .int, 2) := by decide +kernel
theorem dX11_init_60 : decode cX11_init 60 = .ok (.putfield 28, 3) := by decide +kernel
theorem dX11_init_63 : decode cX11_init 63 = .ok (.aload_n 0, 1) := by decide +kernel
theorem dX11_init_64 : decode cX11_init 64 = .ok (.sipush 300, 3) := by decide +kernel
theorem dX11_init_67 : decode cX11_init 67 = .ok (.newarray .int, 2) := by decide +kernel
theorem dX11_init_69 : decode cX11_init 69 = .ok (.putfield 31, 3) := by decide +kernel
theorem dX11_init_72 : decode cX11_init 72 = .ok (.aload_n 0, 1) := by decide +kernel
theorem dX11_init_73 : decode cX11_init 73 = .ok (.bipush 100, 2) := by decide +kernel
theorem dX11_init_75 : decode cX11_init 75 = .ok (.newarray .int, 2) := by decide +kernel
theorem dX11_init_77 : decode cX11_init 77 = .ok (.putfield 34, 3) := by decide +kernel
theorem dX11_init_80 : decode cX11_init 80 = .ok (.aload_n 0, 1) := by decide +kernel
theorem dX11_init_81 : decode cX11_init 81 = .ok (.bipush 100, 2) := by decide +kernel
theorem dX11_init_83 : decode cX11_init 83 = .ok (.newarray .int, 2) := by decide +kernel
theorem dX11_init_85 : decode cX11_init 85 = .ok (.putfield 37, 3) := by decide +kernel
theorem dX11_init_88 : decode cX11_init 88 = .ok (.aload_n 0, 1) := by decide +kernel
theorem dX11_init_89 : decode cX11_init 89 = .ok (.bipush 100, 2) := by decide +kernel
theorem dX11_init_91 : decode cX11_init 91 = .ok (.newarray .int, 2) := by decide +kernel
theorem dX11_init_93 : decode cX11_init 93 = .ok (.putfield 40, 3) := by decide +kernel
theorem dX11_init_96 : decode cX11_init 96 = .ok (.aload_n 0, 1) := by decide +kernel
theorem dX11_init_97 : decode cX11_init 97 = .ok (.bipush 100, 2) := by decide +kernel
theorem dX11_init_99 : decode cX11_init 99 = .ok (.newarray .int, 2) := by decide +kernel
theorem dX11_init_101 : decode cX11_init 101 = .ok (.putfield 43, 3) := by decide +kernel
theorem dX11_init_104 : decode cX11_init 104 = .ok (.aload_n 0, 1) := by decide +kernel
theorem dX11_init_105 : decode cX11_init 105 = .ok (.sipush 200, 3) := by decide +kernel
theorem dX11_init_108 : decode cX11_init 108 = .ok (.newarray .int, 2) := by decide +kernel
theorem dX11_init_110 : decode cX11_init 110 = .ok (.putfield 46, 3) := by decide +kernel
theorem dX11_init_113 : decode cX11_init 113 = .ok (.aload_n 0, 1) := by decide +kernel
theorem dX11_init_114 : decode cX11_init 114 = .ok (.sipush 200, 3) := by decide +kernel
theorem dX11_init_117 : decode cX11_init 117 = .ok (.newarray .int, 2) := by decide +kernel
theorem dX11_init_119 : decode cX11_init 119 = .ok (.putfield 49, 3) := by decide +kernel
theorem dX11_init_122 : decode cX11_init 122 = .ok (.aload_n 0, 1) := by decide +kernel
theorem dX11_init_123 : decode cX11_init 123 = .ok (.sipush 200, 3) := by decide +kernel
theorem dX11_init_126 : decode cX11_init 126 = .ok (.newarray .int, 2) := by decide +kernel
theorem dX11_init_128 : decode cX11_init 128 = .ok (.putfield 52, 3) := by decide +kernel
theorem dX11_init_131 : decode cX11_init 131 = .ok (.aload_n 0, 1) := by decide +kernel
theorem dX11_init_132 : decode cX11_init 132 = .ok (.sipush 200, 3) := by decide +kernel
theorem dX11_init_135 : decode cX11_init 135 = .ok (.newarray .int, 2) := by decide +kernel
theorem dX11_init_137 : decode cX11_init 137 = .ok (.putfield 55, 3) := by decide +kernel
theorem dX11_init_140 : decode cX11_init 140 = .ok (.aload_n 0, 1) := by decide +kernel
theorem dX11_init_141 : decode cX11_init 141 = .ok (.sipush 200, 3) := by decide +kernel
theorem dX11_init_144 : decode cX11_init 144 = .ok (.newarray .int, 2) := by decide +kernel
theorem dX11_init_146 : decode cX11_init 146 = .ok (.putfield 58, 3) := by decide +kernel
theorem dX11_init_149 : decode cX11_init 149 = .ok (.aload_n 0, 1) := by decide +kernel
theorem dX11_init_150 : decode cX11_init 150 = .ok (.sipush 200, 3) := by decide +kernel
theorem dX11_init_153 : decode cX11_init 153 = .ok (.newarray .int, 2) := by decide +kernel
theorem dX11_init_155 : decode cX11_init 155 = .ok (.putfield 61, 3) := by decide +kernel
theorem dX11_init_158 : decode cX11_init 158 = .ok (.aload_n 0, 1) := by decide +kernel
theorem dX11_init_159 : decode cX11_init 159 = .ok (.sipush 200, 3) := by decide +kernel
theorem dX11_init_162 : decode cX11_init 162 = .ok (.newarray .int, 2) := by decide +kernel
theorem dX11_init_164 : decode cX11_init 164 = .ok (.putfield 64, 3) := by decide +kernel
theorem dX11_init_167 : decode cX11_init 167 = .ok (.aload_n 0, 1) := by decide +kernel
theorem dX11_init_168 : decode cX11_init 168 = .ok (.sipush 200, 3) := by decide +kernel
theorem dX11_init_171 : decode cX11_init 171 = .ok (.newarray .int, 2) := by decide +kernel
theorem dX11_init_173 : decode cX11_init 173 = .ok (.putfield 67, 3) := by decide +kernel
theorem dX11_init_176 : decode cX11_init 176 = .ok (.aload_n 0, 1) := by decide +kernel
theorem dX11_init_177 : decode cX11_init 177 = .ok (.sipush 200, 3) := by decide +kernel
theorem dX11_init_180 : decode cX11_init 180 = .ok (.newarray .int, 2) := by decide +kernel
theorem dX11_init_182 : decode cX11_init 182 = .ok (.putfield 70, 3) := by decide +kernel
theorem dX11_init_185 : decode cX11_init 185 = .ok (.aload_n 0, 1) := by decide +kernel
theorem dX11_init_186 : decode cX11_init 186 = .ok (.sipush 200, 3) := by decide +kernel
theorem dX11_init_189 : decode cX11_init 189 = .ok (.newarray .int, 2) := by decide +kernel
theorem dX11_init_191 : decode cX11_init 191 = .ok (.putfield 73, 3) := by decide +kernel
theorem dX11_init_194 : decode cX11_init 194 = .ok (.aload_n 0, 1) := by decide +kernel
theorem dX11_init_195 : decode cX11_init 195 = .ok (.sipush 200, 3) := by decide +kernel
theorem dX11_init_198 : decode cX11_init 198 = .ok (.newarray .int, 2) := by decide +kernel
theorem dX11_init_200 : decode cX11_init 200 = .ok (.putfield 76, 3) := by decide +kernel
theorem dX11_init_203 : decode cX11_init 203 = .ok (.aload_n 0, 1) := by decide +kernel
theorem dX11_init_204 : decode cX11_init 204 = .ok (.sipush 200, 3) := by decide +kernel
theorem dX11_init_207 : decode cX11_init 207 = .ok (.newarray .int, 2) := by decide +kernel
theorem dX11_init_209 : decode cX11_init 209 = .ok (.putfield 79, 3) := by decide +kernel
theorem dX11_init_212 : decode cX11_init 212 = .ok (.aload_n 0, 1) := by decide +kernel
theorem dX11_init_213 : decode cX11_init 213 = .ok (.sipush 200, 3) := by decide +kernel
theorem dX11_init_216 : decode cX11_init 216 = .ok (.newarray .int, 2) := by decide +kernel
theorem dX11_init_218 : decode cX11_init 218 = .ok (.putfield 82, 3) := by decide +kernel
theorem dX11_init_221 : decode cX11_init 221 = .ok (.aload_n 0, 1) := by decide +kernel
theorem dX11_init_222 : decode cX11_init 222 = .ok (.sipush 300, 3) := by decide +kernel
theorem dX11_init_225 : decode cX11_init 225 = .ok (.newarray .int, 2) := by decide +kernel
theorem dX11_init_227 : decode cX11_init 227 = .ok (.putfield 85, 3) := by decide +kernel
theorem dX11_init_230 : decode cX11_init 230 = .ok (.aload_n 0, 1) := by decide +kernel
theorem dX11_init_231 : decode cX11_init 231 = .ok (.sipush 300, 3) := by decide +kernel
theorem dX11_init_234 : decode cX11_init 234 = .ok (.newarray .int, 2) := by decide +kernel
theorem dX11_init_236 : decode cX11_init 236 = .ok (.putfield 88, 3) := by decide +kernel
theorem dX11_init_239 : decode cX11_init 239 = .ok (.aload_n 0, 1) := by decide +kernel
theorem dX11_init_240 : decode cX11_init 240 = .ok (.sipush 300, 3) := by decide +kernel
theorem dX11_init_243 : decode cX11_init 243 = .ok (.newarray .int, 2) := by decide +kernel
theorem dX11_init_245 : decode cX11_init 245 = .ok (.putfield 91, 3) := by decide +kernel
theorem dX11_init_248 : decode cX11_init 248 = .ok (.aload_n 0, 1) := by decide +kernel
theorem dX11_init_249 : decode cX11_init 249 = .ok (.sipush 300, 3) := by decide +kernel
theorem dX11_init_252 : decode cX11_init 252 = .ok (.newarray .int, 2) := by decide +kernel
theorem dX11_init_254 : decode cX11_init 254 = .ok (.putfield 94, 3) := by decide +kernel
theorem dX11_init_257 : decode cX11_init 257 = .ok (.aload_n 0, 1) := by decide +kernel
theorem dX11_init_258 : decode cX11_init 258 = .ok (.sipush 200, 3) := by decide +kernel
theorem dX11_init_261 : decode cX11_init 261 = .ok (.newarray .int, 2) := by decide +kernel
theorem dX11_init_263 : decode cX11_init 263 = .ok (.putfield 97, 3) := by decide +kernel
theorem dX11_init_266 : decode cX11_init 266 = .ok (.aload_n 0, 1) := by decide +kernel
theorem dX11_init_267 : decode cX11_init 267 = .ok (.sipush 200, 3) := by decide +kernel
theorem dX11_init_270 : decode cX11_init 270 = .ok (.newarray .int, 2) := by decide +kernel
theorem dX11_init_272 : decode cX11_init 272 = .ok (.putfield 100, 3) := by decide +kernel
theorem dX11_init_275 : decode cX11_init 275 = .ok (.aload_n 0, 1) := by decide +kernel
theorem dX11_init_276 : decode cX11_init 276 = .ok (.sipush 200, 3) := by decide +kernel
theorem dX11_init_279 : decode cX11_init 279 = .ok (.newarray .int, 2) := by decide +kernel
theorem dX11_init_281 : decode cX11_init 281 = .ok (.putfield 103, 3) := by decide +kernel
theorem dX11_init_284 : decode cX11_init 284 = .ok (.aload_n 0, 1) := by decide +kernel
theorem dX11_init_285 : decode cX11_init 285 = .ok (.sipush 200, 3) := by decide +kernel
theorem dX11_init_288 : decode cX11_init 288 = .ok (.newarray .int, 2) := by decide +kernel
theorem dX11_init_290 : decode cX11_init 290 = .ok (.putfield 106, 3) := by decide +kernel
theorem dX11_init_293 : decode cX11_init 293 = .ok (.aload_n 0, 1) := by decide +kernel
theorem dX11_init_294 : decode cX11_init 294 = .ok (.iconst 5, 1) := by decide +kernel
theorem dX11_init_295 : decode cX11_init 295 = .ok (.newarray .int, 2) := by decide +kernel
theorem dX11_init_297 : decode cX11_init 297 = .ok (.putfield 109, 3) := by decide +kernel
theorem dX11_init_300 : decode cX11_init 300 = .ok (.aload_n 0, 1) := by decide +kernel
theorem dX11_init_301 : decode cX11_init 301 = .ok (.sipush 500, 3) := by decide +kernel
theorem dX11_init_304 : decode cX11_init 304 = .ok (.newarray .int, 2) := by decide +kernel
theorem dX11_init_306 : decode cX11_init 306 = .ok (.putfield 112, 3) := by decide +kernel
theorem dX11_init_309 : decode cX11_init 309 = .ok (.aload_n 0, 1) := by decide +kernel
theorem dX11_init_310 : decode cX11_init 310 = .ok (.sipush 200, 3) := by decide +kernel
theorem dX11_init_313 : decode cX11_init 313 = .ok (.newarray .int, 2) := by decide +kernel
theorem dX11_init_315 : decode cX11_init 315 = .ok (.putfield 115, 3) := by decide +kernel
theorem dX11_init_318 : decode cX11_init 318 = .ok (.aload_n 0, 1) := by decide +kernel
theorem dX11_init_319 : decode cX11_init 319 = .ok (.sipush 200, 3) := by decide +kernel
theorem dX11_init_322 : decode cX11_init 322 = .ok (.newarray .int, 2) := by decide +kernel
theorem dX11_init_324 : decode cX11_init 324 = .ok (.putfield 118, 3) := by decide +kernel
theorem dX11_init_327 : decode cX11_init 327 = .ok (.aload_n 0, 1) := by decide +kernel
theorem dX11_init_328 : decode cX11_init 328 = .ok (.sipush 200, 3) := by decide +kernel
theorem dX11_init_331 : decode cX11_init 331 = .ok (.newarray .int, 2) := by decide +kernel
theorem dX11_init_333 : decode cX11_init 333 = .ok (.putfield 121, 3) := by decide +kernel
theorem dX11_init_336 : decode cX11_init 336 = .ok (.aload_n 0, 1) := by decide +kernel
theorem dX11_init_337 : decode cX11_init 337 = .ok (.iconst 5, 1) := by decide +kernel
theorem dX11_init_338 : decode cX11_init 338 = .ok (.newarray .int, 2) := by decide +kernel
theorem dX11_init_340 : decode cX11_init 340 = .ok (.putfield 124, 3) := by decide +kernel
theorem dX11_init_343 : decode cX11_init 343 = .ok (.aload_n 0, 1) := by decide +kernel
theorem dX11_init_344 : decode cX11_init 344 = .ok (.iconst 5, 1) := by decide +kernel
theorem dX11_init_345 : decode cX11_init 345 = .ok (.newarray .int, 2) := by decide +kernel
theorem dX11_init_347 : decode cX11_init 347 = .ok (.putfield 127, 3) := by decide +kernel
theorem dX11_init_350 : decode cX11_init 350 = .ok (.return_, 1) := by decide +kernel
theorem dX11_in_0 : decode cX11_in 0 = .ok (.iload_n 0, 1) := by decide +kernel
theorem dX11_in_1 : decode cX11_in 1 = .ok (.iload_n 1, 1) := by decide +kernel
theorem dX11_in_2 : decode cX11_in 2 = .ok (.if_icmp .lt 12, 3) := by decide +kernel
theorem dX11_in_5 : decode cX11_in 5 = .ok (.iload_n 0, 1) := by decide +kernel
theorem dX11_in_6 : decode cX11_in 6 = .ok (.iload_n 2, 1) := by decide +kernel
theorem dX11_in_7 : decode cX11_in 7 = .ok (.if_icmp .gt 7, 3) := by decide +kernel
theorem dX11_in_10 : decode cX11_in 10 = .ok (.iconst 1, 1) := by decide +kernel
theorem dX11_in_11 : decode cX11_in 11 = .ok (.goto 4, 3) := by decide +kernel
theorem dX11_in_14 : decode cX11_in 14 = .ok (.iconst 0, 1) := by decide +kernel
theorem dX11_in_15 : decode cX11_in 15 = .ok (.ireturn, 1) := by decide +kernel
theorem dX11_isField_0 : decode cX11_isField 0 = .ok (.iload_n 1, 1) := by decide +kernel
theorem dX11_isField_1 : decode cX11_isField 1 = .ok (.iconst 0, 1) := by decide +kernel
theorem dX11_isField_2 : decode cX11_isField 2 = .ok (.aload_n 0, 1) := by decide +kernel
theorem dX11_isField_3 : decode cX11_isField 3 = .ok (.getfield 130, 3) := by decide +kernel
theorem dX11_isField_6 : decode cX11_isField 6 = .ok (.iconst 1, 1) := by decide +kernel
theorem dX11_isField_7 : decode cX11_isField 7 = .ok (.isub, 1) := by decide +kernel
theorem dX11_isField_8 : decode cX11_isField 8 = .ok (.invokestatic 134, 3) := by decide +kernel
theorem dX11_isField_11 : decode cX11_isField 11 = .ok (.ireturn, 1) := by decide +kernel
theorem dX11_isLot_0 : decode cX11_isLot 0 = .ok (.iload_n 1, 1) := by decide +kernel
theorem dX11_isLot_1 : decode cX11_isLot 1 = .ok (.iconst 0, 1) := by decide +kernel
theorem dX11_isLot_2 : decode cX11_isLot 2 = .ok (.aload_n 0, 1) := by decide +kernel
theorem dX11_isLot_3 : decode cX11_isLot 3 = .ok (.getfield 138, 3) := by decide +kernel
theorem dX11_isLot_6 : decode cX11_isLot 6 = .ok (.iconst 1, 1) := by decide +kernel
theorem dX11_isLot_7 : decode cX11_isLot 7 = .ok (.isub, 1) := by decide +kernel
theorem dX11_isLot_8 : decode cX11_isLot 8 = .ok (.invokestatic 134, 3) := by decide +kernel
theorem dX11_isLot_11 : decode cX11_isLot 11 = .ok (.ireturn, 1) := by decide +kernel
theorem dX11_isYear_0 : decode cX11_isYear 0 = .ok (.iload_n 1, 1) := by decide +kernel
theorem dX11_isYear_1 : decode cX11_isYear 1 = .ok (.iconst 0, 1) := by decide +kernel
theorem dX11_isYear_2 : decode cX11_isYear 2 = .ok (.aload_n 0, 1) := by decide +kernel
theorem dX11_isYear_3 : decode cX11_isYear 3 = .ok (.getfield 141, 3) := by decide +kernel
theorem dX11_isYear_6 : decode cX11_isYear 6 = .ok (.invokestatic 134, 3) := by decide +kernel
theorem dX11_isYear_9 : decode cX11_isYear 9 = .ok (.ireturn, 1) := by decide +kernel
theorem dX11_field_0 : decode cX11_field 0 = .ok (.aload_n 0, 1) := by decide +kernel
theorem dX11_field_1 : decode cX11_field 1 = .ok (.getfield 130, 3) := by decide +kernel
theorem dX11_field_4 : decode cX11_field 4 = .ok (.bipush 40, 2) := by decide +kernel
theorem dX11_field_6 : decode cX11_field 6 = .ok (.if_icmp .eq 59, 3) := by decide +kernel
theorem dX11_field_9 : decode cX11_field 9 = .ok (.iload_n 1, 1) := by decide +kernel
theorem dX11_field_10 : decode cX11_field 10 = .ok (.iconst 0, 1) := by decide +kernel
theorem dX11_field_11 : decode cX11_field 11 = .ok (.sipush 1000, 3) := by decide +kernel
theorem dX11_field_14 : decode cX11_field 14 = .ok (.invokestatic 134, 3) := by decide +kernel
theorem dX11_field_17 : decode cX11_field 17 = .ok (.ifCond .eq 48, 3) := by decide +kernel
theorem dX11_field_20 : decode cX11_field 20 = .ok (.iload_n 2, 1) := by decide +kernel
theorem dX11_field_21 : decode cX11_field 21 = .ok (.iconst 0, 1) := by decide +kernel
theorem dX11_field_22 : decode cX11_field 22 = .ok (.sipush 1000, 3) := by decide +kernel
theorem dX11_field_25 : decode cX11_field 25 = .ok (.invokestatic 134, 3) := by decide +kernel
theorem dX11_field_28 : decode cX11_field 28 = .ok (.ifCond .eq 37, 3) := by decide +kernel
theorem dX11_field_31 : decode cX11_field 31 = .ok (.iload_n 3, 1) := by decide +kernel
theorem dX11_field_32 : decode cX11_field 32 = .ok (.iconst 0, 1) := by decide +kernel
theorem dX11_field_33 : decode cX11_field 33 = .ok (.sipush 1000, 3) := by decide +kernel
theorem dX11_field_36 : decode cX11_field 36 = .ok (.invokestatic 134, 3) := by decide +kernel
theorem dX11_field_39 : decode cX11_field 39 = .ok (.ifCond .eq 26, 3) := by decide +kernel
theorem dX11_field_42 : decode cX11_field 42 = .ok (.iload 4, 2) := by decide +kernel
theorem dX11_field_44 : decode cX11_field 44 = .ok (.iconst 0, 1) := by decide +kernel
theorem dX11_field_45 : decode cX11_field 45 = .ok (.sipush 1000, 3) := by decide +kernel
theorem dX11_field_48 : decode cX11_field 48 = .ok (.invokestatic 134, 3) := by decide +kernel
theorem dX11_field_51 : decode cX11_field 51 = .ok (.ifCond .eq 14, 3) := by decide +kernel
theorem dX11_field_54 : decode cX11_field 54 = .ok (.iload_n 1, 1) := by decide +kernel
theorem dX11_field_55 : decode cX11_field 55 = .ok (.iload_n 3, 1) := by decide +kernel
theorem dX11_field_56 : decode cX11_field 56 = .ok (.if_icmp .eq 9, 3) := by decide +kernel
theorem dX11_field_59 : decode cX11_field 59 = .ok (.iload_n 2, 1) := by decide +kernel
theorem dX11_field_60 : decode cX11_field 60 = .ok (.iload 4, 2) := by decide +kernel
theorem dX11_field_62 : decode cX11_field 62 = .ok (.if_icmp .ne 5, 3) := by decide +kernel
theorem dX11_field_65 : decode cX11_field 65 = .ok (.iconst (-1), 1) := by decide +kernel
theorem dX11_field_66 : decode cX11_field 66 = .ok (.ireturn, 1) := by decide +kernel
theorem dX11_field_67 : decode cX11_field 67 = .ok (.aload_n 0, 1) := by decide +kernel
theorem dX11_field_68 : decode cX11_field 68 = .ok (.getfield 9, 3) := by decide +kernel
theorem dX11_field_71 : decode cX11_field 71 = .ok (.aload_n 0, 1) := by decide +kernel
theorem dX11_field_72 : decode cX11_field 72 = .ok (.getfield 130, 3) := by decide +kernel
theorem dX11_field_75 : decode cX11_field 75 = .ok (.iload_n 1, 1) := by decide +kernel
theorem dX11_field_76 : decode cX11_field 76 = .ok (.iload_n 3, 1) := by decide +kernel
theorem dX11_field_77 : decode cX11_field 77 = .ok (.invokestatic 144, 3) := by decide +kernel
theorem dX11_field_80 : decode cX11_field 80 = .ok (.iastore, 1) := by decide +kernel
theorem dX11_field_81 : decode cX11_field 81 = .ok (.aload_n 0, 1) := by decide +kernel
theorem dX11_field_82 : decode cX11_field 82 = .ok (.getfield 16, 3) := by decide +kernel
theorem dX11_field_85 : decode cX11_field 85 = .ok (.aload_n 0, 1) := by decide +kernel
theorem dX11_field_86 : decode cX11_field 86 = .ok (.getfield 130, 3) := by decide +kernel
theorem dX11_field_89 : decode cX11_field 89 = .ok (.iload_n 1, 1) := by decide +kernel
theorem dX11_field_90 : decode cX11_field 90 = .ok (.iload_n 3, 1) := by decide +kernel
theorem dX11_field_91 : decode cX11_field 91 = .ok (.invokestatic 150, 3) := by decide +kernel
theorem dX11_field_94 : decode cX11_field 94 = .ok (.iastore, 1) := by decide +kernel
theorem dX11_field_95 : decode cX11_field 95 = .ok (.aload_n 0, 1) := by decide +kernel
theorem dX11_field_96 : decode cX11_field 96 = .ok (.getfield 13, 3) := by decide +kernel
theorem dX11_field_99 : decode cX11_field 99 = .ok (.aload_n 0, 1) := by decide +kernel
theorem dX11_field_100 : decode cX11_field 100 = .ok (.getfield 130, 3) := by decide +kernel
theorem dX11_field_103 : decode cX11_field 103 = .ok (.iload_n 2, 1) := by decide +kernel
theorem dX11_field_104 : decode cX11_field 104 = .ok (.iload 4, 2) := by decide +kernel
theorem dX11_field_106 : decode cX11_field 106 = .ok (.invokestatic 144, 3) := by decide +kernel
theorem dX11_field_109 : decode cX11_field 109 = .ok (.iastore, 1) := by decide +kernel
theorem dX11_field_110 : decode cX11_field 110 = .ok (.aload_n 0, 1) := by decide +kernel
theorem dX11_field_111 : decode cX11_field 111 = .ok (.getfield 19, 3) := by decide +kernel
theorem dX11_field_114 : decode cX11_field 114 = .ok (.aload_n 0, 1) := by decide +kernel
theorem dX11_field_115 : decode cX11_field 115 = .ok (.getfield 130, 3) := by decide +kernel
theorem dX11_field_118 : decode cX11_field 118 = .ok (.iload_n 2, 1) := by decide +kernel
theorem dX11_field_119 : decode cX11_field 119 = .ok (.iload 4, 2) := by decide +kernel
theorem dX11_field_121 : decode cX11_field 121 = .ok (.invokestatic 150, 3) := by decide +kernel
theorem dX11_field_124 : decode cX11_field 124 = .ok (.iastore, 1) := by decide +kernel
theorem dX11_field_125 : decode cX11_field 125 = .ok (.aload_n 0, 1) := by decide +kernel
theorem dX11_field_126 : decode cX11_field 126 = .ok (.dup, 1) := by decide +kernel
theorem dX11_field_127 : decode cX11_field 127 = .ok (.getfield 130, 3) := by decide +kernel
theorem dX11_field_130 : decode cX11_field 130 = .ok (.iconst 1, 1) := by decide +kernel
theorem dX11_field_131 : decode cX11_field 131 = .ok (.iadd, 1) := by decide +kernel
theorem dX11_field_132 : decode cX11_field 132 = .ok (.putfield 130, 3) := by decide +kernel
theorem dX11_field_135 : decode cX11_field 135 = .ok (.aload_n 0, 1) := by decide +kernel
theorem dX11_field_136 : decode cX11_field 136 = .ok (.getfield 130, 3) := by decide +kernel
theorem dX11_field_139 : decode cX11_field 139 = .ok (.iconst 1, 1) := by decide +kernel
theorem dX11_field_140 : decode cX11_field 140 = .ok (.isub, 1) := by decide +kernel
theorem dX11_field_141 : decode cX11_field 141 = .ok (.ireturn, 1) := by decide +kernel
theorem dX11_nearness_0 : decode cX11_nearness 0 = .ok (.iconst 0, 1) := by decide +kernel
theorem dX11_nearness_1 : decode cX11_nearness 1 = .ok (.aload_n 0, 1) := by decide +kernel
theorem dX11_nearness_2 : decode cX11_nearness 2 = .ok (.getfield 9, 3) := by decide +kernel
theorem dX11_nearness_5 : decode cX11_nearness 5 = .ok (.iload_n 1, 1) := by decide +kernel
theorem dX11_nearness_6 : decode cX11_nearness 6 = .ok (.iaload, 1) := by decide +kernel
theorem dX11_nearness_7 : decode cX11_nearness 7 = .ok (.aload_n 0, 1) := by decide +kernel
theorem dX11_nearness_8 : decode cX11_nearness 8 = .ok (.getfield 16, 3) := by decide +kernel
theorem dX11_nearness_11 : decode cX11_nearness 11 = .ok (.iload_n 2, 1) := by decide +kernel
theorem dX11_nearness_12 : decode cX11_nearness 12 = .ok (.iaload, 1) := by decide +kernel
theorem dX11_nearness_13 : decode cX11_nearness 13 = .ok (.isub, 1) := by decide +kernel
theorem dX11_nearness_14 : decode cX11_nearness 14 = .ok (.aload_n 0, 1) := by decide +kernel
theorem dX11_nearness_15 : decode cX11_nearness 15 = .ok (.getfield 9, 3) := by decide +kernel
theorem dX11_nearness_18 : decode cX11_nearness 18 = .ok (.iload_n 2, 1) := by decide +kernel
theorem dX11_nearness_19 : decode cX11_nearness 19 = .ok (.iaload, 1) := by decide +kernel
theorem dX11_nearness_20 : decode cX11_nearness 20 = .ok (.aload_n 0, 1) := by decide +kernel
theorem dX11_nearness_21 : decode cX11_nearness 21 = .ok (.getfield 16, 3) := by decide +kernel
theorem dX11_nearness_24 : decode cX11_nearness 24 = .ok (.iload_n 1, 1) := by decide +kernel
theorem dX11_nearness_25 : decode cX11_nearness 25 = .ok (.iaload, 1) := by decide +kernel
theorem dX11_nearness_26 : decode cX11_nearness 26 = .ok (.isub, 1) := by decide +kernel
theorem dX11_nearness_27 : decode cX11_nearness 27 = .ok (.invokestatic 150, 3) := by decide +kernel
theorem dX11_nearness_30 : decode cX11_nearness 30 = .ok (.invokestatic 150, 3) := by decide +kernel
theorem dX11_nearness_33 : decode cX11_nearness 33 = .ok (.istore_n 3, 1) := by decide +kernel
theorem dX11_nearness_34 : decode cX11_nearness 34 = .ok (.iconst 0, 1) := by decide +kernel
theorem dX11_nearness_35 : decode cX11_nearness 35 = .ok (.aload_n 0, 1) := by decide +kernel
theorem dX11_nearness_36 : decode cX11_nearness 36 = .ok (.getfield 13, 3) := by decide +kernel
theorem dX11_nearness_39 : decode cX11_nearness 39 = .ok (.iload_n 1, 1) := by decide +kernel
theorem dX11_nearness_40 : decode cX11_nearness 40 = .ok (.iaload, 1) := by decide +kernel
theorem dX11_nearness_41 : decode cX11_nearness 41 = .ok (.aload_n 0, 1) := by decide +kernel
theorem dX11_nearness_42 : decode cX11_nearness 42 = .ok (.getfield 19, 3) := by decide +kernel
theorem dX11_nearness_45 : decode cX11_nearness 45 = .ok (.iload_n 2, 1) := by decide +kernel
theorem dX11_nearness_46 : decode cX11_nearness 46 = .ok (.iaload, 1) := by decide +kernel
theorem dX11_nearness_47 : decode cX11_nearness 47 = .ok (.isub, 1) := by decide +kernel
theorem dX11_nearness_48 : decode cX11_nearness 48 = .ok (.aload_n 0, 1) := by decide +kernel
theorem dX11_nearness_49 : decode cX11_nearness 49 = .ok (.getfield 13, 3) := by decide +kernel
theorem dX11_nearness_52 : decode cX11_nearness 52 = .ok (.iload_n 2, 1) := by decide +kernel
theorem dX11_nearness_53 : decode cX11_nearness 53 = .ok (.iaload, 1) := by decide +kernel
theorem dX11_nearness_54 : decode cX11_nearness 54 = .ok (.aload_n 0, 1) := by decide +kernel
theorem dX11_nearness_55 : decode cX11_nearness 55 = .ok (.getfield 19, 3) := by decide +kernel
theorem dX11_nearness_58 : decode cX11_nearness 58 = .ok (.iload_n 1, 1) := by decide +kernel
theorem dX11_nearness_59 : decode cX11_nearness 59 = .ok (.iaload, 1) := by decide +kernel
theorem dX11_nearness_60 : decode cX11_nearness 60 = .ok (.isub, 1) := by decide +kernel
theorem dX11_nearness_61 : decode cX11_nearness 61 = .ok (.invokestatic 150, 3) := by decide +kernel
theorem dX11_nearness_64 : decode cX11_nearness 64 = .ok (.invokestatic 150, 3) := by decide +kernel
theorem dX11_nearness_67 : decode cX11_nearness 67 = .ok (.istore 4, 2) := by decide +kernel
theorem dX11_nearness_69 : decode cX11_nearness 69 = .ok (.iload_n 3, 1) := by decide +kernel
theorem dX11_nearness_70 : decode cX11_nearness 70 = .ok (.iload_n 3, 1) := by decide +kernel
theorem dX11_nearness_71 : decode cX11_nearness 71 = .ok (.imul, 1) := by decide +kernel
theorem dX11_nearness_72 : decode cX11_nearness 72 = .ok (.iload 4, 2) := by decide +kernel
theorem dX11_nearness_74 : decode cX11_nearness 74 = .ok (.iload 4, 2) := by decide +kernel
theorem dX11_nearness_76 : decode cX11_nearness 76 = .ok (.imul, 1) := by decide +kernel
theorem dX11_nearness_77 : decode cX11_nearness 77 = .ok (.iadd, 1) := by decide +kernel
theorem dX11_nearness_78 : decode cX11_nearness 78 = .ok (.ireturn, 1) := by decide +kernel
theorem dX11_near_0 : decode cX11_near 0 = .ok (.aload_n 0, 1) := by decide +kernel
theorem dX11_near_1 : decode cX11_near 1 = .ok (.iload_n 1, 1) := by decide +kernel
theorem dX11_near_2 : decode cX11_near 2 = .ok (.invokevirtual 153, 3) := by decide +kernel
theorem dX11_near_5 : decode cX11_near 5 = .ok (.ifCond .eq 20, 3) := by decide +kernel
theorem dX11_near_8 : decode cX11_near 8 = .ok (.aload_n 0, 1) := by decide +kernel
theorem dX11_near_9 : decode cX11_near 9 = .ok (.iload_n 2, 1) := by decide +kernel
theorem dX11_near_10 : decode cX11_near 10 = .ok (.invokevirtual 153, 3) := by decide +kernel
theorem dX11_near_13 : decode cX11_near 13 = .ok (.ifCond .eq 12, 3) := by decide +kernel
theorem dX11_near_16 : decode cX11_near 16 = .ok (.aload_n 0, 1) := by decide +kernel
theorem dX11_near_17 : decode cX11_near 17 = .ok (.iload_n 1, 1) := by decide +kernel
theorem dX11_near_18 : decode cX11_near 18 = .ok (.iload_n 2, 1) := by decide +kernel
theorem dX11_near_19 : decode cX11_near 19 = .ok (.invokevirtual 157, 3) := by decide +kernel
theorem dX11_near_22 : decode cX11_near 22 = .ok (.goto 4, 3) := by decide +kernel
theorem dX11_near_25 : decode cX11_near 25 = .ok (.iconst (-1), 1) := by decide +kernel
theorem dX11_near_26 : decode cX11_near 26 = .ok (.ireturn, 1) := by decide +kernel
theorem dX11_stand_0 : decode cX11_stand 0 = .ok (.aload_n 0, 1) := by decide +kernel
theorem dX11_stand_1 : decode cX11_stand 1 = .ok (.iload_n 1, 1) := by decide +kernel
theorem dX11_stand_2 : decode cX11_stand 2 = .ok (.invokevirtual 153, 3) := by decide +kernel
theorem dX11_stand_5 : decode cX11_stand 5 = .ok (.ifCond .eq 30, 3) := by decide +kernel
theorem dX11_stand_8 : decode cX11_stand 8 = .ok (.aload_n 0, 1) := by decide +kernel
theorem dX11_stand_9 : decode cX11_stand 9 = .ok (.iload_n 2, 1) := by decide +kernel
theorem dX11_stand_10 : decode cX11_stand 10 = .ok (.invokevirtual 160, 3) := by decide +kernel
theorem dX11_stand_13 : decode cX11_stand 13 = .ok (.ifCond .eq 22, 3) := by decide +kernel
theorem dX11_stand_16 : decode cX11_stand 16 = .ok (.iload_n 3, 1) := by decide +kernel
theorem dX11_stand_17 : decode cX11_stand 17 = .ok (.iconst 0, 1) := by decide +kernel
theorem dX11_stand_18 : decode cX11_stand 18 = .ok (.iconst 4, 1) := by decide +kernel
theorem dX11_stand_19 : decode cX11_stand 19 = .ok (.invokestatic 134, 3) := by decide +kernel
theorem dX11_stand_22 : decode cX11_stand 22 = .ok (.ifCond .eq 13, 3) := by decide +kernel
theorem dX11_stand_25 : decode cX11_stand 25 = .ok (.aload_n 0, 1) := by decide +kernel
theorem dX11_stand_26 : decode cX11_stand 26 = .ok (.getfield 163, 3) := by decide +kernel
theorem dX11_stand_29 : decode cX11_stand 29 = .ok (.sipush 300, 3) := by decide +kernel
theorem dX11_stand_32 : decode cX11_stand 32 = .ok (.if_icmp .ne 5, 3) := by decide +kernel
theorem dX11_stand_35 : decode cX11_stand 35 = .ok (.iconst 0, 1) := by decide +kernel
theorem dX11_stand_36 : decode cX11_stand 36 = .ok (.ireturn, 1) := by decide +kernel
theorem dX11_stand_37 : decode cX11_stand 37 = .ok (.aload_n 0, 1) := by decide +kernel
theorem dX11_stand_38 : decode cX11_stand 38 = .ok (.getfield 22, 3) := by decide +kernel
theorem dX11_stand_41 : decode cX11_stand 41 = .ok (.aload_n 0, 1) := by decide +kernel
theorem dX11_stand_42 : decode cX11_stand 42 = .ok (.getfield 163, 3) := by decide +kernel
theorem dX11_stand_45 : decode cX11_stand 45 = .ok (.iload_n 1, 1) := by decide +kernel
theorem dX11_stand_46 : decode cX11_stand 46 = .ok (.iastore, 1) := by decide +kernel
theorem dX11_stand_47 : decode cX11_stand 47 = .ok (.aload_n 0, 1) := by decide +kernel
theorem dX11_stand_48 : decode cX11_stand 48 = .ok (.getfield 25, 3) := by decide +kernel
theorem dX11_stand_51 : decode cX11_stand 51 = .ok (.aload_n 0, 1) := by decide +kernel
theorem dX11_stand_52 : decode cX11_stand 52 = .ok (.getfield 163, 3) := by decide +kernel
theorem dX11_stand_55 : decode cX11_stand 55 = .ok (.iload_n 2, 1) := by decide +kernel
theorem dX11_stand_56 : decode cX11_stand 56 = .ok (.iastore, 1) := by decide +kernel
theorem dX11_stand_57 : decode cX11_stand 57 = .ok (.aload_n 0, 1) := by decide +kernel
theorem dX11_stand_58 : decode cX11_stand 58 = .ok (.getfield 28, 3) := by decide +kernel
theorem dX11_stand_61 : decode cX11_stand 61 = .ok (.aload_n 0, 1) := by decide +kernel
theorem dX11_stand_62 : decode cX11_stand 62 = .ok (.getfield 163, 3) := by decide +kernel
theorem dX11_stand_65 : decode cX11_stand 65 = .ok (.iload_n 3, 1) := by decide +kernel
theorem dX11_stand_66 : decode cX11_stand 66 = .ok (.iastore, 1) := by decide +kernel
theorem dX11_stand_67 : decode cX11_stand 67 = .ok (.aload_n 0, 1) := by decide +kernel
theorem dX11_stand_68 : decode cX11_stand 68 = .ok (.getfield 31, 3) := by decide +kernel
theorem dX11_stand_71 : decode cX11_stand 71 = .ok (.aload_n 0, 1) := by decide +kernel
theorem dX11_stand_72 : decode cX11_stand 72 = .ok (.getfield 163, 3) := by decide +kernel
theorem dX11_stand_75 : decode cX11_stand 75 = .ok (.aload_n 0, 1) := by decide +kernel
theorem dX11_stand_76 : decode cX11_stand 76 = .ok (.getfield 141, 3) := by decide +kernel
theorem dX11_stand_79 : decode cX11_stand 79 = .ok (.iastore, 1) := by decide +kernel
theorem dX11_stand_80 : decode cX11_stand 80 = .ok (.aload_n 0, 1) := by decide +kernel
theorem dX11_stand_81 : decode cX11_stand 81 = .ok (.dup, 1) := by decide +kernel
theorem dX11_stand_82 : decode cX11_stand 82 = .ok (.getfield 163, 3) := by decide +kernel
theorem dX11_stand_85 : decode cX11_stand 85 = .ok (.iconst 1, 1) := by decide +kernel
theorem dX11_stand_86 : decode cX11_stand 86 = .ok (.iadd, 1) := by decide +kernel
theorem dX11_stand_87 : decode cX11_stand 87 = .ok (.putfield 163, 3) := by decide +kernel
theorem dX11_stand_90 : decode cX11_stand 90 = .ok (.iconst 1, 1) := by decide +kernel
theorem dX11_stand_91 : decode cX11_stand 91 = .ok (.ireturn, 1) := by decide +kernel
theorem dX11_lotIn_0 : decode cX11_lotIn 0 = .ok (.iconst 0, 1) := by decide +kernel
theorem dX11_lotIn_1 : decode cX11_lotIn 1 = .ok (.istore_n 3, 1) := by decide +kernel
theorem dX11_lotIn_2 : decode cX11_lotIn 2 = .ok (.iload_n 3, 1) := by decide +kernel
theorem dX11_lotIn_3 : decode cX11_lotIn 3 = .ok (.aload_n 0, 1) := by decide +kernel
theorem dX11_lotIn_4 : decode cX11_lotIn 4 = .ok (.getfield 138, 3) := by decide +kernel
theorem dX11_lotIn_7 : decode cX11_lotIn 7 = .ok (.if_icmp .ge 41, 3) := by decide +kernel
theorem dX11_lotIn_10 : decode cX11_lotIn 10 = .ok (.aload_n 0, 1) := by decide +kernel
theorem dX11_lotIn_11 : decode cX11_lotIn 11 = .ok (.getfield 46, 3) := by decide +kernel
theorem dX11_lotIn_14 : decode cX11_lotIn 14 = .ok (.iload_n 3, 1) := by decide +kernel
theorem dX11_lotIn_15 : decode cX11_lotIn 15 = .ok (.iaload, 1) := by decide +kernel
theorem dX11_lotIn_16 : decode cX11_lotIn 16 = .ok (.iconst 1, 1) := by decide +kernel
theorem dX11_lotIn_17 : decode cX11_lotIn 17 = .ok (.if_icmp .ne 25, 3) := by decide +kernel
theorem dX11_lotIn_20 : decode cX11_lotIn 20 = .ok (.aload_n 0, 1) := by decide +kernel
theorem dX11_lotIn_21 : decode cX11_lotIn 21 = .ok (.getfield 58, 3) := by decide +kernel
theorem dX11_lotIn_24 : decode cX11_lotIn 24 = .ok (.iload_n 3, 1) := by decide +kernel
theorem dX11_lotIn_25 : decode cX11_lotIn 25 = .ok (.iaload, 1) := by decide +kernel
theorem dX11_lotIn_26 : decode cX11_lotIn 26 = .ok (.iload_n 1, 1) := by decide +kernel
theorem dX11_lotIn_27 : decode cX11_lotIn 27 = .ok (.if_icmp .ne 15, 3) := by decide +kernel
theorem dX11_lotIn_30 : decode cX11_lotIn 30 = .ok (.aload_n 0, 1) := by decide +kernel
theorem dX11_lotIn_31 : decode cX11_lotIn 31 = .ok (.getfield 55, 3) := by decide +kernel
theorem dX11_lotIn_34 : decode cX11_lotIn 34 = .ok (.iload_n 3, 1) := by decide +kernel
theorem dX11_lotIn_35 : decode cX11_lotIn 35 = .ok (.iaload, 1) := by decide +kernel
theorem dX11_lotIn_36 : decode cX11_lotIn 36 = .ok (.iload_n 2, 1) := by decide +kernel
theorem dX11_lotIn_37 : decode cX11_lotIn 37 = .ok (.if_icmp .ne 5, 3) := by decide +kernel
theorem dX11_lotIn_40 : decode cX11_lotIn 40 = .ok (.iload_n 3, 1) := by decide +kernel
theorem dX11_lotIn_41 : decode cX11_lotIn 41 = .ok (.ireturn, 1) := by decide +kernel
theorem dX11_lotIn_42 : decode cX11_lotIn 42 = .ok (.iinc 3 1, 3) := by decide +kernel
theorem dX11_lotIn_45 : decode cX11_lotIn 45 = .ok (.goto (-43), 3) := by decide +kernel
theorem dX11_lotIn_48 : decode cX11_lotIn 48 = .ok (.iconst (-1), 1) := by decide +kernel
theorem dX11_lotIn_49 : decode cX11_lotIn 49 = .ok (.ireturn, 1) := by decide +kernel
theorem dX11_standing_0 : decode cX11_standing 0 = .ok (.iload_n 2, 1) := by decide +kernel
theorem dX11_standing_1 : decode cX11_standing 1 = .ok (.iload_n 3, 1) := by decide +kernel
theorem dX11_standing_2 : decode cX11_standing 2 = .ok (.if_icmp .gt 12, 3) := by decide +kernel
theorem dX11_standing_5 : decode cX11_standing 5 = .ok (.aload_n 0, 1) := by decide +kernel
theorem dX11_standing_6 : decode cX11_standing 6 = .ok (.iload_n 1, 1) := by decide +kernel
theorem dX11_standing_7 : decode cX11_standing 7 = .ok (.iload_n 2, 1) := by decide +kernel
theorem dX11_standing_8 : decode cX11_standing 8 = .ok (.invokevirtual 166, 3) := by decide +kernel
theorem dX11_standing_11 : decode cX11_standing 11 = .ok (.goto 4, 3) := by decide +kernel
theorem dX11_standing_14 : decode cX11_standing 14 = .ok (.iconst (-1), 1) := by decide +kernel
theorem dX11_standing_15 : decode cX11_standing 15 = .ok (.istore 4, 2) := by decide +kernel
theorem dX11_standing_17 : decode cX11_standing 17 = .ok (.iload 4, 2) := by decide +kernel
theorem dX11_standing_19 : decode cX11_standing 19 = .ok (.iconst (-1), 1) := by decide +kernel
theorem dX11_standing_20 : decode cX11_standing 20 = .ok (.if_icmp .eq 11, 3) := by decide +kernel
theorem dX11_standing_23 : decode cX11_standing 23 = .ok (.aload_n 0, 1) := by decide +kernel
theorem dX11_standing_24 : decode cX11_standing 24 = .ok (.getfield 49, 3) := by decide +kernel
theorem dX11_standing_27 : decode cX11_standing 27 = .ok (.iload 4, 2) := by decide +kernel
theorem dX11_standing_29 : decode cX11_standing 29 = .ok (.iaload, 1) := by decide +kernel
theorem dX11_standing_30 : decode cX11_standing 30 = .ok (.ireturn, 1) := by decide +kernel
theorem dX11_standing_31 : decode cX11_standing 31 = .ok (.iconst 0, 1) := by decide +kernel
theorem dX11_standing_32 : decode cX11_standing 32 = .ok (.istore 5, 2) := by decide +kernel
theorem dX11_standing_34 : decode cX11_standing 34 = .ok (.iconst 0, 1) := by decide +kernel
theorem dX11_standing_35 : decode cX11_standing 35 = .ok (.istore 6, 2) := by decide +kernel
theorem dX11_standing_37 : decode cX11_standing 37 = .ok (.iload 6, 2) := by decide +kernel
theorem dX11_standing_39 : decode cX11_standing 39 = .ok (.aload_n 0, 1) := by decide +kernel
theorem dX11_standing_40 : decode cX11_standing 40 = .ok (.getfield 163, 3) := by decide +kernel
theorem dX11_standing_43 : decode cX11_standing 43 = .ok (.if_icmp .ge 51, 3) := by decide +kernel
theorem dX11_standing_46 : decode cX11_standing 46 = .ok (.aload_n 0, 1) := by decide +kernel
theorem dX11_standing_47 : decode cX11_standing 47 = .ok (.getfield 22, 3) := by decide +kernel
theorem dX11_standing_50 : decode cX11_standing 50 = .ok (.iload 6, 2) := by decide +kernel
theorem dX11_standing_52 : decode cX11_standing 52 = .ok (.iaload, 1) := by decide +kernel
theorem dX11_standing_53 : decode cX11_standing 53 = .ok (.iload_n 1, 1) := by decide +kernel
theorem dX11_standing_54 : decode cX11_standing 54 = .ok (.if_icmp .ne 34, 3) := by decide +kernel
theorem dX11_standing_57 : decode cX11_standing 57 = .ok (.aload_n 0, 1) := by decide +kernel
theorem dX11_standing_58 : decode cX11_standing 58 = .ok (.getfield 25, 3) := by decide +kernel
theorem dX11_standing_61 : decode cX11_standing 61 = .ok (.iload 6, 2) := by decide +kernel
theorem dX11_standing_63 : decode cX11_standing 63 = .ok (.iaload, 1) := by decide +kernel
theorem dX11_standing_64 : decode cX11_standing 64 = .ok (.iload_n 2, 1) := by decide +kernel
theorem dX11_standing_65 : decode cX11_standing 65 = .ok (.if_icmp .ne 23, 3) := by decide +kernel
theorem dX11_standing_68 : decode cX11_standing 68 = .ok (.aload_n 0, 1) := by decide +kernel
theorem dX11_standing_69 : decode cX11_standing 69 = .ok (.getfield 31, 3) := by decide +kernel
theorem dX11_standing_72 : decode cX11_standing 72 = .ok (.iload 6, 2) := by decide +kernel
theorem dX11_standing_74 : decode cX11_standing 74 = .ok (.iaload, 1) := by decide +kernel
theorem dX11_standing_75 : decode cX11_standing 75 = .ok (.iload_n 3, 1) := by decide +kernel
theorem dX11_standing_76 : decode cX11_standing 76 = .ok (.if_icmp .gt 12, 3) := by decide +kernel
theorem dX11_standing_79 : decode cX11_standing 79 = .ok (.aload_n 0, 1) := by decide +kernel
theorem dX11_standing_80 : decode cX11_standing 80 = .ok (.getfield 28, 3) := by decide +kernel
theorem dX11_standing_83 : decode cX11_standing 83 = .ok (.iload 6, 2) := by decide +kernel
theorem dX11_standing_85 : decode cX11_standing 85 = .ok (.iaload, 1) := by decide +kernel
theorem dX11_standing_86 : decode cX11_standing 86 = .ok (.istore 5, 2) := by decide +kernel
theorem dX11_standing_88 : decode cX11_standing 88 = .ok (.iinc 6 1, 3) := by decide +kernel
theorem dX11_standing_91 : decode cX11_standing 91 = .ok (.goto (-54), 3) := by decide +kernel
theorem dX11_standing_94 : decode cX11_standing 94 = .ok (.iload 5, 2) := by decide +kernel
theorem dX11_standing_96 : decode cX11_standing 96 = .ok (.ireturn, 1) := by decide +kernel
theorem dX11_stands_0 : decode cX11_stands 0 = .ok (.aload_n 0, 1) := by decide +kernel
theorem dX11_stands_1 : decode cX11_stands 1 = .ok (.iload_n 1, 1) := by decide +kernel
theorem dX11_stands_2 : decode cX11_stands 2 = .ok (.invokevirtual 153, 3) := by decide +kernel
theorem dX11_stands_5 : decode cX11_stands 5 = .ok (.ifCond .eq 29, 3) := by decide +kernel
theorem dX11_stands_8 : decode cX11_stands 8 = .ok (.aload_n 0, 1) := by decide +kernel
theorem dX11_stands_9 : decode cX11_stands 9 = .ok (.iload_n 2, 1) := by decide +kernel
theorem dX11_stands_10 : decode cX11_stands 10 = .ok (.invokevirtual 160, 3) := by decide +kernel
theorem dX11_stands_13 : decode cX11_stands 13 = .ok (.ifCond .eq 21, 3) := by decide +kernel
theorem dX11_stands_16 : decode cX11_stands 16 = .ok (.aload_n 0, 1) := by decide +kernel
theorem dX11_stands_17 : decode cX11_stands 17 = .ok (.iload_n 3, 1) := by decide +kernel
theorem dX11_stands_18 : decode cX11_stands 18 = .ok (.invokevirtual 160, 3) := by decide +kernel
theorem dX11_stands_21 : decode cX11_stands 21 = .ok (.ifCond .eq 13, 3) := by decide +kernel
theorem dX11_stands_24 : decode cX11_stands 24 = .ok (.aload_n 0, 1) := by decide +kernel
theorem dX11_stands_25 : decode cX11_stands 25 = .ok (.iload_n 1, 1) := by decide +kernel
theorem dX11_stands_26 : decode cX11_stands 26 = .ok (.iload_n 2, 1) := by decide +kernel
theorem dX11_stands_27 : decode cX11_stands 27 = .ok (.iload_n 3, 1) := by decide +kernel
theorem dX11_stands_28 : decode cX11_stands 28 = .ok (.invokevirtual 169, 3) := by decide +kernel
theorem dX11_stands_31 : decode cX11_stands 31 = .ok (.goto 4, 3) := by decide +kernel
theorem dX11_stands_34 : decode cX11_stands 34 = .ok (.iconst (-1), 1) := by decide +kernel
theorem dX11_stands_35 : decode cX11_stands 35 = .ok (.ireturn, 1) := by decide +kernel
theorem dX11_isValue_0 : decode cX11_isValue 0 = .ok (.iload_n 0, 1) := by decide +kernel
theorem dX11_isValue_1 : decode cX11_isValue 1 = .ok (.tableswitch 76 0 4 #[35, 44, 52, 59, 68], 35) := by decide +kernel
theorem dX11_isValue_36 : decode cX11_isValue 36 = .ok (.iload_n 1, 1) := by decide +kernel
theorem dX11_isValue_37 : decode cX11_isValue 37 = .ok (.iconst 0, 1) := by decide +kernel
theorem dX11_isValue_38 : decode cX11_isValue 38 = .ok (.sipush 1000, 3) := by decide +kernel
theorem dX11_isValue_41 : decode cX11_isValue 41 = .ok (.invokestatic 134, 3) := by decide +kernel
theorem dX11_isValue_44 : decode cX11_isValue 44 = .ok (.ireturn, 1) := by decide +kernel
theorem dX11_isValue_45 : decode cX11_isValue 45 = .ok (.iload_n 1, 1) := by decide +kernel
theorem dX11_isValue_46 : decode cX11_isValue 46 = .ok (.iconst 0, 1) := by decide +kernel
theorem dX11_isValue_47 : decode cX11_isValue 47 = .ok (.bipush 10, 2) := by decide +kernel
theorem dX11_isValue_49 : decode cX11_isValue 49 = .ok (.invokestatic 134, 3) := by decide +kernel
theorem dX11_isValue_52 : decode cX11_isValue 52 = .ok (.ireturn, 1) := by decide +kernel
theorem dX11_isValue_53 : decode cX11_isValue 53 = .ok (.iload_n 1, 1) := by decide +kernel
theorem dX11_isValue_54 : decode cX11_isValue 54 = .ok (.iconst 0, 1) := by decide +kernel
theorem dX11_isValue_55 : decode cX11_isValue 55 = .ok (.iconst 5, 1) := by decide +kernel
theorem dX11_isValue_56 : decode cX11_isValue 56 = .ok (.invokestatic 134, 3) := by decide +kernel
theorem dX11_isValue_59 : decode cX11_isValue 59 = .ok (.ireturn, 1) := by decide +kernel
theorem dX11_isValue_60 : decode cX11_isValue 60 = .ok (.iload_n 1, 1) := by decide +kernel
theorem dX11_isValue_61 : decode cX11_isValue 61 = .ok (.iconst 0, 1) := by decide +kernel
theorem dX11_isValue_62 : decode cX11_isValue 62 = .ok (.sipush 1000, 3) := by decide +kernel
theorem dX11_isValue_65 : decode cX11_isValue 65 = .ok (.invokestatic 134, 3) := by decide +kernel
theorem dX11_isValue_68 : decode cX11_isValue 68 = .ok (.ireturn, 1) := by decide +kernel
theorem dX11_isValue_69 : decode cX11_isValue 69 = .ok (.iload_n 1, 1) := by decide +kernel
theorem dX11_isValue_70 : decode cX11_isValue 70 = .ok (.iconst 0, 1) := by decide +kernel
theorem dX11_isValue_71 : decode cX11_isValue 71 = .ok (.bipush 8, 2) := by decide +kernel
theorem dX11_isValue_73 : decode cX11_isValue 73 = .ok (.invokestatic 134, 3) := by decide +kernel
theorem dX11_isValue_76 : decode cX11_isValue 76 = .ok (.ireturn, 1) := by decide +kernel
theorem dX11_isValue_77 : decode cX11_isValue 77 = .ok (.iconst 0, 1) := by decide +kernel
theorem dX11_isValue_78 : decode cX11_isValue 78 = .ok (.ireturn, 1) := by decide +kernel
theorem dX11_statute_0 : decode cX11_statute 0 = .ok (.iload_n 1, 1) := by decide +kernel
theorem dX11_statute_1 : decode cX11_statute 1 = .ok (.iload_n 3, 1) := by decide +kernel
theorem dX11_statute_2 : decode cX11_statute 2 = .ok (.invokestatic 173, 3) := by decide +kernel
theorem dX11_statute_5 : decode cX11_statute 5 = .ok (.ifCond .eq 22, 3) := by decide +kernel
theorem dX11_statute_8 : decode cX11_statute 8 = .ok (.iload_n 2, 1) := by decide +kernel
theorem dX11_statute_9 : decode cX11_statute 9 = .ok (.iconst 0, 1) := by decide +kernel
theorem dX11_statute_10 : decode cX11_statute 10 = .ok (.bipush 60, 2) := by decide +kernel
theorem dX11_statute_12 : decode cX11_statute 12 = .ok (.invokestatic 134, 3) := by decide +kernel
theorem dX11_statute_15 : decode cX11_statute 15 = .ok (.ifCond .eq 12, 3) := by decide +kernel
theorem dX11_statute_18 : decode cX11_statute 18 = .ok (.aload_n 0, 1) := by decide +kernel
theorem dX11_statute_19 : decode cX11_statute 19 = .ok (.getfield 177, 3) := by decide +kernel
theorem dX11_statute_22 : decode cX11_statute 22 = .ok (.bipush 100, 2) := by decide +kernel
theorem dX11_statute_24 : decode cX11_statute 24 = .ok (.if_icmp .ne 5, 3) := by decide +kernel
theorem dX11_statute_27 : decode cX11_statute 27 = .ok (.iconst (-1), 1) := by decide +kernel
theorem dX11_statute_28 : decode cX11_statute 28 = .ok (.ireturn, 1) := by decide +kernel
theorem dX11_statute_29 : decode cX11_statute 29 = .ok (.aload_n 0, 1) := by decide +kernel
theorem dX11_statute_30 : decode cX11_statute 30 = .ok (.getfield 34, 3) := by decide +kernel
theorem dX11_statute_33 : decode cX11_statute 33 = .ok (.aload_n 0, 1) := by decide +kernel
theorem dX11_statute_34 : decode cX11_statute 34 = .ok (.getfield 177, 3) := by decide +kernel
theorem dX11_statute_37 : decode cX11_statute 37 = .ok (.iload_n 1, 1) := by decide +kernel
theorem dX11_statute_38 : decode cX11_statute 38 = .ok (.iastore, 1) := by decide +kernel
theorem dX11_statute_39 : decode cX11_statute 39 = .ok (.aload_n 0, 1) := by decide +kernel
theorem dX11_statute_40 : decode cX11_statute 40 = .ok (.getfield 37, 3) := by decide +kernel
theorem dX11_statute_43 : decode cX11_statute 43 = .ok (.aload_n 0, 1) := by decide +kernel
theorem dX11_statute_44 : decode cX11_statute 44 = .ok (.getfield 177, 3) := by decide +kernel
theorem dX11_statute_47 : decode cX11_statute 47 = .ok (.iload_n 2, 1) := by decide +kernel
theorem dX11_statute_48 : decode cX11_statute 48 = .ok (.iastore, 1) := by decide +kernel
theorem dX11_statute_49 : decode cX11_statute 49 = .ok (.aload_n 0, 1) := by decide +kernel
theorem dX11_statute_50 : decode cX11_statute 50 = .ok (.getfield 40, 3) := by decide +kernel
theorem dX11_statute_53 : decode cX11_statute 53 = .ok (.aload_n 0, 1) := by decide +kernel
theorem dX11_statute_54 : decode cX11_statute 54 = .ok (.getfield 177, 3) := by decide +kernel
theorem dX11_statute_57 : decode cX11_statute 57 = .ok (.iload_n 3, 1) := by decide +kernel
theorem dX11_statute_58 : decode cX11_statute 58 = .ok (.iastore, 1) := by decide +kernel
theorem dX11_statute_59 : decode cX11_statute 59 = .ok (.aload_n 0, 1) := by decide +kernel
theorem dX11_statute_60 : decode cX11_statute 60 = .ok (.getfield 43, 3) := by decide +kernel
theorem dX11_statute_63 : decode cX11_statute 63 = .ok (.aload_n 0, 1) := by decide +kernel
theorem dX11_statute_64 : decode cX11_statute 64 = .ok (.getfield 177, 3) := by decide +kernel
theorem dX11_statute_67 : decode cX11_statute 67 = .ok (.aload_n 0, 1) := by decide +kernel
theorem dX11_statute_68 : decode cX11_statute 68 = .ok (.getfield 141, 3) := by decide +kernel
theorem dX11_statute_71 : decode cX11_statute 71 = .ok (.iastore, 1) := by decide +kernel
theorem dX11_statute_72 : decode cX11_statute 72 = .ok (.aload_n 0, 1) := by decide +kernel
theorem dX11_statute_73 : decode cX11_statute 73 = .ok (.dup, 1) := by decide +kernel
theorem dX11_statute_74 : decode cX11_statute 74 = .ok (.getfield 177, 3) := by decide +kernel
theorem dX11_statute_77 : decode cX11_statute 77 = .ok (.iconst 1, 1) := by decide +kernel
theorem dX11_statute_78 : decode cX11_statute 78 = .ok (.iadd, 1) := by decide +kernel
theorem dX11_statute_79 : decode cX11_statute 79 = .ok (.putfield 177, 3) := by decide +kernel
theorem dX11_statute_82 : decode cX11_statute 82 = .ok (.aload_n 0, 1) := by decide +kernel
theorem dX11_statute_83 : decode cX11_statute 83 = .ok (.getfield 177, 3) := by decide +kernel
theorem dX11_statute_86 : decode cX11_statute 86 = .ok (.ireturn, 1) := by decide +kernel
theorem dX11_inForce_0 : decode cX11_inForce 0 = .ok (.iload_n 1, 1) := by decide +kernel
theorem dX11_inForce_1 : decode cX11_inForce 1 = .ok (.ifCond .ne 8, 3) := by decide +kernel
theorem dX11_inForce_4 : decode cX11_inForce 4 = .ok (.bipush 50, 2) := by decide +kernel
theorem dX11_inForce_6 : decode cX11_inForce 6 = .ok (.goto 33, 3) := by decide +kernel
theorem dX11_inForce_9 : decode cX11_inForce 9 = .ok (.iload_n 1, 1) := by decide +kernel
theorem dX11_inForce_10 : decode cX11_inForce 10 = .ok (.iconst 1, 1) := by decide +kernel
theorem dX11_inForce_11 : decode cX11_inForce 11 = .ok (.if_icmp .ne 7, 3) := by decide +kernel
theorem dX11_inForce_14 : decode cX11_inForce 14 = .ok (.iconst 2, 1) := by decide +kernel
theorem dX11_inForce_15 : decode cX11_inForce 15 = .ok (.goto 24, 3) := by decide +kernel
theorem dX11_inForce_18 : decode cX11_inForce 18 = .ok (.iload_n 1, 1) := by decide +kernel
theorem dX11_inForce_19 : decode cX11_inForce 19 = .ok (.iconst 2, 1) := by decide +kernel
theorem dX11_inForce_20 : decode cX11_inForce 20 = .ok (.if_icmp .ne 7, 3) := by decide +kernel
theorem dX11_inForce_23 : decode cX11_inForce 23 = .ok (.iconst 1, 1) := by decide +kernel
theorem dX11_inForce_24 : decode cX11_inForce 24 = .ok (.goto 15, 3) := by decide +kernel
theorem dX11_inForce_27 : decode cX11_inForce 27 = .ok (.iload_n 1, 1) := by decide +kernel
theorem dX11_inForce_28 : decode cX11_inForce 28 = .ok (.iconst 3, 1) := by decide +kernel
theorem dX11_inForce_29 : decode cX11_inForce 29 = .ok (.if_icmp .ne 8, 3) := by decide +kernel
theorem dX11_inForce_32 : decode cX11_inForce 32 = .ok (.bipush 10, 2) := by decide +kernel
theorem dX11_inForce_34 : decode cX11_inForce 34 = .ok (.goto 5, 3) := by decide +kernel
theorem dX11_inForce_37 : decode cX11_inForce 37 = .ok (.bipush 6, 2) := by decide +kernel
theorem dX11_inForce_39 : decode cX11_inForce 39 = .ok (.istore 4, 2) := by decide +kernel
theorem dX11_inForce_41 : decode cX11_inForce 41 = .ok (.iconst (-1), 1) := by decide +kernel
theorem dX11_inForce_42 : decode cX11_inForce 42 = .ok (.istore 5, 2) := by decide +kernel
theorem dX11_inForce_44 : decode cX11_inForce 44 = .ok (.iconst 0, 1) := by decide +kernel
theorem dX11_inForce_45 : decode cX11_inForce 45 = .ok (.istore 6, 2) := by decide +kernel
theorem dX11_inForce_47 : decode cX11_inForce 47 = .ok (.iload 6, 2) := by decide +kernel
theorem dX11_inForce_49 : decode cX11_inForce 49 = .ok (.aload_n 0, 1) := by decide +kernel
theorem dX11_inForce_50 : decode cX11_inForce 50 = .ok (.getfield 177, 3) := by decide +kernel
theorem dX11_inForce_53 : decode cX11_inForce 53 = .ok (.if_icmp .ge 72, 3) := by decide +kernel
theorem dX11_inForce_56 : decode cX11_inForce 56 = .ok (.aload_n 0, 1) := by decide +kernel
theorem dX11_inForce_57 : decode cX11_inForce 57 = .ok (.getfield 34, 3) := by decide +kernel
theorem dX11_inForce_60 : decode cX11_inForce 60 = .ok (.iload 6, 2) := by decide +kernel
theorem dX11_inForce_62 : decode cX11_inForce 62 = .ok (.iaload, 1) := by decide +kernel
theorem dX11_inForce_63 : decode cX11_inForce 63 = .ok (.iload_n 1, 1) := by decide +kernel
theorem dX11_inForce_64 : decode cX11_inForce 64 = .ok (.if_icmp .ne 55, 3) := by decide +kernel
theorem dX11_inForce_67 : decode cX11_inForce 67 = .ok (.aload_n 0, 1) := by decide +kernel
theorem dX11_inForce_68 : decode cX11_inForce 68 = .ok (.getfield 43, 3) := by decide +kernel
theorem dX11_inForce_71 : decode cX11_inForce 71 = .ok (.iload 6, 2) := by decide +kernel
theorem dX11_inForce_73 : decode cX11_inForce 73 = .ok (.iaload, 1) := by decide +kernel
theorem dX11_inForce_74 : decode cX11_inForce 74 = .ok (.iload_n 3, 1) := by decide +kernel
theorem dX11_inForce_75 : decode cX11_inForce 75 = .ok (.if_icmp .gt 44, 3) := by decide +kernel
theorem dX11_inForce_78 : decode cX11_inForce 78 = .ok (.aload_n 0, 1) := by decide +kernel
theorem dX11_inForce_79 : decode cX11_inForce 79 = .ok (.getfield 37, 3) := by decide +kernel
theorem dX11_inForce_82 : decode cX11_inForce 82 = .ok (.iload 6, 2) := by decide +kernel
theorem dX11_inForce_84 : decode cX11_inForce 84 = .ok (.iaload, 1) := by decide +kernel
theorem dX11_inForce_85 : decode cX11_inForce 85 = .ok (.iload_n 2, 1) := by decide +kernel
theorem dX11_inForce_86 : decode cX11_inForce 86 = .ok (.if_icmp .gt 33, 3) := by decide +kernel
theorem dX11_inForce_89 : decode cX11_inForce 89 = .ok (.aload_n 0, 1) := by decide +kernel
theorem dX11_inForce_90 : decode cX11_inForce 90 = .ok (.getfield 37, 3) := by decide +kernel
theorem dX11_inForce_93 : decode cX11_inForce 93 = .ok (.iload 6, 2) := by decide +kernel
theorem dX11_inForce_95 : decode cX11_inForce 95 = .ok (.iaload, 1) := by decide +kernel
theorem dX11_inForce_96 : decode cX11_inForce 96 = .ok (.iload 5, 2) := by decide +kernel
theorem dX11_inForce_98 : decode cX11_inForce 98 = .ok (.if_icmp .lt 21, 3) := by decide +kernel
theorem dX11_inForce_101 : decode cX11_inForce 101 = .ok (.aload_n 0, 1) := by decide +kernel
theorem dX11_inForce_102 : decode cX11_inForce 102 = .ok (.getfield 40, 3) := by decide +kernel
theorem dX11_inForce_105 : decode cX11_inForce 105 = .ok (.iload 6, 2) := by decide +kernel
theorem dX11_inForce_107 : decode cX11_inForce 107 = .ok (.iaload, 1) := by decide +kernel
theorem dX11_inForce_108 : decode cX11_inForce 108 = .ok (.istore 4, 2) := by decide +kernel
theorem dX11_inForce_110 : decode cX11_inForce 110 = .ok (.aload_n 0, 1) := by decide +kernel
theorem dX11_inForce_111 : decode cX11_inForce 111 = .ok (.getfield 37, 3) := by decide +kernel
theorem dX11_inForce_114 : decode cX11_inForce 114 = .ok (.iload 6, 2) := by decide +kernel
theorem dX11_inForce_116 : decode cX11_inForce 116 = .ok (.iaload, 1) := by decide +kernel
theorem dX11_inForce_117 : decode cX11_inForce 117 = .ok (.istore 5, 2) := by decide +kernel
theorem dX11_inForce_119 : decode cX11_inForce 119 = .ok (.iinc 6 1, 3) := by decide +kernel
theorem dX11_inForce_122 : decode cX11_inForce 122 = .ok (.goto (-75), 3) := by decide +kernel
theorem dX11_inForce_125 : decode cX11_inForce 125 = .ok (.iload 4, 2) := by decide +kernel
theorem dX11_inForce_127 : decode cX11_inForce 127 = .ok (.ireturn, 1) := by decide +kernel
theorem dX11_force_0 : decode cX11_force 0 = .ok (.iload_n 1, 1) := by decide +kernel
theorem dX11_force_1 : decode cX11_force 1 = .ok (.iconst 0, 1) := by decide +kernel
theorem dX11_force_2 : decode cX11_force 2 = .ok (.iconst 4, 1) := by decide +kernel
theorem dX11_force_3 : decode cX11_force 3 = .ok (.invokestatic 134, 3) := by decide +kernel
theorem dX11_force_6 : decode cX11_force 6 = .ok (.ifCond .eq 31, 3) := by decide +kernel
theorem dX11_force_9 : decode cX11_force 9 = .ok (.iload_n 2, 1) := by decide +kernel
theorem dX11_force_10 : decode cX11_force 10 = .ok (.iconst 0, 1) := by decide +kernel
theorem dX11_force_11 : decode cX11_force 11 = .ok (.bipush 60, 2) := by decide +kernel
theorem dX11_force_13 : decode cX11_force 13 = .ok (.invokestatic 134, 3) := by decide +kernel
theorem dX11_force_16 : decode cX11_force 16 = .ok (.ifCond .eq 21, 3) := by decide +kernel
theorem dX11_force_19 : decode cX11_force 19 = .ok (.aload_n 0, 1) := by decide +kernel
theorem dX11_force_20 : decode cX11_force 20 = .ok (.iload_n 3, 1) := by decide +kernel
theorem dX11_force_21 : decode cX11_force 21 = .ok (.invokevirtual 160, 3) := by decide +kernel
theorem dX11_force_24 : decode cX11_force 24 = .ok (.ifCond .eq 13, 3) := by decide +kernel
theorem dX11_force_27 : decode cX11_force 27 = .ok (.aload_n 0, 1) := by decide +kernel
theorem dX11_force_28 : decode cX11_force 28 = .ok (.iload_n 1, 1) := by decide +kernel
theorem dX11_force_29 : decode cX11_force 29 = .ok (.iload_n 2, 1) := by decide +kernel
theorem dX11_force_30 : decode cX11_force 30 = .ok (.iload_n 3, 1) := by decide +kernel
theorem dX11_force_31 : decode cX11_force 31 = .ok (.invokevirtual 180, 3) := by decide +kernel
theorem dX11_force_34 : decode cX11_force 34 = .ok (.goto 4, 3) := by decide +kernel
theorem dX11_force_37 : decode cX11_force 37 = .ok (.iconst (-1), 1) := by decide +kernel
theorem dX11_force_38 : decode cX11_force 38 = .ok (.ireturn, 1) := by decide +kernel
theorem dX11_lot_0 : decode cX11_lot 0 = .ok (.aload_n 0, 1) := by decide +kernel
theorem dX11_lot_1 : decode cX11_lot 1 = .ok (.getfield 138, 3) := by decide +kernel
theorem dX11_lot_4 : decode cX11_lot 4 = .ok (.istore_n 3, 1) := by decide +kernel
theorem dX11_lot_5 : decode cX11_lot 5 = .ok (.aload_n 0, 1) := by decide +kernel
theorem dX11_lot_6 : decode cX11_lot 6 = .ok (.dup, 1) := by decide +kernel
theorem dX11_lot_7 : decode cX11_lot 7 = .ok (.getfield 138, 3) := by decide +kernel
theorem dX11_lot_10 : decode cX11_lot 10 = .ok (.iconst 1, 1) := by decide +kernel
theorem dX11_lot_11 : decode cX11_lot 11 = .ok (.iadd, 1) := by decide +kernel
theorem dX11_lot_12 : decode cX11_lot 12 = .ok (.putfield 138, 3) := by decide +kernel
theorem dX11_lot_15 : decode cX11_lot 15 = .ok (.aload_n 0, 1) := by decide +kernel
theorem dX11_lot_16 : decode cX11_lot 16 = .ok (.getfield 46, 3) := by decide +kernel
theorem dX11_lot_19 : decode cX11_lot 19 = .ok (.iload_n 3, 1) := by decide +kernel
theorem dX11_lot_20 : decode cX11_lot 20 = .ok (.iload_n 1, 1) := by decide +kernel
theorem dX11_lot_21 : decode cX11_lot 21 = .ok (.iastore, 1) := by decide +kernel
theorem dX11_lot_22 : decode cX11_lot 22 = .ok (.aload_n 0, 1) := by decide +kernel
theorem dX11_lot_23 : decode cX11_lot 23 = .ok (.getfield 49, 3) := by decide +kernel
theorem dX11_lot_26 : decode cX11_lot 26 = .ok (.iload_n 3, 1) := by decide +kernel
theorem dX11_lot_27 : decode cX11_lot 27 = .ok (.iload_n 2, 1) := by decide +kernel
theorem dX11_lot_28 : decode cX11_lot 28 = .ok (.iastore, 1) := by decide +kernel
theorem dX11_lot_29 : decode cX11_lot 29 = .ok (.aload_n 0, 1) := by decide +kernel
theorem dX11_lot_30 : decode cX11_lot 30 = .ok (.getfield 52, 3) := by decide +kernel
theorem dX11_lot_33 : decode cX11_lot 33 = .ok (.iload_n 3, 1) := by decide +kernel
theorem dX11_lot_34 : decode cX11_lot 34 = .ok (.iconst 0, 1) := by decide +kernel
theorem dX11_lot_35 : decode cX11_lot 35 = .ok (.iastore, 1) := by decide +kernel
theorem dX11_lot_36 : decode cX11_lot 36 = .ok (.aload_n 0, 1) := by decide +kernel
theorem dX11_lot_37 : decode cX11_lot 37 = .ok (.getfield 55, 3) := by decide +kernel
theorem dX11_lot_40 : decode cX11_lot 40 = .ok (.iload_n 3, 1) := by decide +kernel
theorem dX11_lot_41 : decode cX11_lot 41 = .ok (.aload_n 0, 1) := by decide +kernel
theorem dX11_lot_42 : decode cX11_lot 42 = .ok (.getfield 141, 3) := by decide +kernel
theorem dX11_lot_45 : decode cX11_lot 45 = .ok (.iastore, 1) := by decide +kernel
theorem dX11_lot_46 : decode cX11_lot 46 = .ok (.aload_n 0, 1) := by decide +kernel
theorem dX11_lot_47 : decode cX11_lot 47 = .ok (.getfield 58, 3) := by decide +kernel
theorem dX11_lot_50 : decode cX11_lot 50 = .ok (.iload_n 3, 1) := by decide +kernel
theorem dX11_lot_51 : decode cX11_lot 51 = .ok (.iconst (-1), 1) := by decide +kernel
theorem dX11_lot_52 : decode cX11_lot 52 = .ok (.iastore, 1) := by decide +kernel
theorem dX11_lot_53 : decode cX11_lot 53 = .ok (.aload_n 0, 1) := by decide +kernel
theorem dX11_lot_54 : decode cX11_lot 54 = .ok (.getfield 61, 3) := by decide +kernel
theorem dX11_lot_57 : decode cX11_lot 57 = .ok (.iload_n 3, 1) := by decide +kernel
theorem dX11_lot_58 : decode cX11_lot 58 = .ok (.iconst (-1), 1) := by decide +kernel
theorem dX11_lot_59 : decode cX11_lot 59 = .ok (.iastore, 1) := by decide +kernel
theorem dX11_lot_60 : decode cX11_lot 60 = .ok (.aload_n 0, 1) := by decide +kernel
theorem dX11_lot_61 : decode cX11_lot 61 = .ok (.getfield 64, 3) := by decide +kernel
theorem dX11_lot_64 : decode cX11_lot 64 = .ok (.iload_n 3, 1) := by decide +kernel
theorem dX11_lot_65 : decode cX11_lot 65 = .ok (.iconst (-1), 1) := by decide +kernel
theorem dX11_lot_66 : decode cX11_lot 66 = .ok (.iastore, 1) := by decide +kernel
theorem dX11_lot_67 : decode cX11_lot 67 = .ok (.aload_n 0, 1) := by decide +kernel
theorem dX11_lot_68 : decode cX11_lot 68 = .ok (.getfield 67, 3) := by decide +kernel
theorem dX11_lot_71 : decode cX11_lot 71 = .ok (.iload_n 3, 1) := by decide +kernel
theorem dX11_lot_72 : decode cX11_lot 72 = .ok (.iconst (-1), 1) := by decide +kernel
theorem dX11_lot_73 : decode cX11_lot 73 = .ok (.iastore, 1) := by decide +kernel
theorem dX11_lot_74 : decode cX11_lot 74 = .ok (.aload_n 0, 1) := by decide +kernel
theorem dX11_lot_75 : decode cX11_lot 75 = .ok (.getfield 82, 3) := by decide +kernel
theorem dX11_lot_78 : decode cX11_lot 78 = .ok (.iload_n 3, 1) := by decide +kernel
theorem dX11_lot_79 : decode cX11_lot 79 = .ok (.iconst (-1), 1) := by decide +kernel
theorem dX11_lot_80 : decode cX11_lot 80 = .ok (.iastore, 1) := by decide +kernel
theorem dX11_lot_81 : decode cX11_lot 81 = .ok (.iload_n 3, 1) := by decide +kernel
theorem dX11_lot_82 : decode cX11_lot 82 = .ok (.ireturn, 1) := by decide +kernel
theorem dX11_tube_0 : decode cX11_tube 0 = .ok (.iload_n 1, 1) := by decide +kernel
theorem dX11_tube_1 : decode cX11_tube 1 = .ok (.iconst 1, 1) := by decide +kernel
theorem dX11_tube_2 : decode cX11_tube 2 = .ok (.iconst 4, 1) := by decide +kernel
theorem dX11_tube_3 : decode cX11_tube 3 = .ok (.invokestatic 134, 3) := by decide +kernel
theorem dX11_tube_6 : decode cX11_tube 6 = .ok (.ifCond .eq 13, 3) := by decide +kernel
theorem dX11_tube_9 : decode cX11_tube 9 = .ok (.aload_n 0, 1) := by decide +kernel
theorem dX11_tube_10 : decode cX11_tube 10 = .ok (.getfield 138, 3) := by decide +kernel
theorem dX11_tube_13 : decode cX11_tube 13 = .ok (.sipush 200, 3) := by decide +kernel
theorem dX11_tube_16 : decode cX11_tube 16 = .ok (.if_icmp .ne 5, 3) := by decide +kernel
theorem dX11_tube_19 : decode cX11_tube 19 = .ok (.iconst (-1), 1) := by decide +kernel
theorem dX11_tube_20 : decode cX11_tube 20 = .ok (.ireturn, 1) := by decide +kernel
theorem dX11_tube_21 : decode cX11_tube 21 = .ok (.aload_n 0, 1) := by decide +kernel
theorem dX11_tube_22 : decode cX11_tube 22 = .ok (.iconst 0, 1) := by decide +kernel
theorem dX11_tube_23 : decode cX11_tube 23 = .ok (.iload_n 1, 1) := by decide +kernel
theorem dX11_tube_24 : decode cX11_tube 24 = .ok (.invokevirtual 183, 3) := by decide +kernel
theorem dX11_tube_27 : decode cX11_tube 27 = .ok (.istore_n 2, 1) := by decide +kernel
theorem dX11_tube_28 : decode cX11_tube 28 = .ok (.aload_n 0, 1) := by decide +kernel
theorem dX11_tube_29 : decode cX11_tube 29 = .ok (.getfield 52, 3) := by decide +kernel
theorem dX11_tube_32 : decode cX11_tube 32 = .ok (.iload_n 2, 1) := by decide +kernel
theorem dX11_tube_33 : decode cX11_tube 33 = .ok (.bipush 100, 2) := by decide +kernel
theorem dX11_tube_35 : decode cX11_tube 35 = .ok (.iastore, 1) := by decide +kernel
theorem dX11_tube_36 : decode cX11_tube 36 = .ok (.aload_n 0, 1) := by decide +kernel
theorem dX11_tube_37 : decode cX11_tube 37 = .ok (.getfield 67, 3) := by decide +kernel
theorem dX11_tube_40 : decode cX11_tube 40 = .ok (.iload_n 2, 1) := by decide +kernel
theorem dX11_tube_41 : decode cX11_tube 41 = .ok (.bipush 100, 2) := by decide +kernel
theorem dX11_tube_43 : decode cX11_tube 43 = .ok (.iastore, 1) := by decide +kernel
theorem dX11_tube_44 : decode cX11_tube 44 = .ok (.iload_n 2, 1) := by decide +kernel
theorem dX11_tube_45 : decode cX11_tube 45 = .ok (.ireturn, 1) := by decide +kernel
theorem dX11_sow_0 : decode cX11_sow 0 = .ok (.aload_n 0, 1) := by decide +kernel
theorem dX11_sow_1 : decode cX11_sow 1 = .ok (.iload_n 1, 1) := by decide +kernel
theorem dX11_sow_2 : decode cX11_sow 2 = .ok (.invokevirtual 186, 3) := by decide +kernel
theorem dX11_sow_5 : decode cX11_sow 5 = .ok (.ifCond .eq 30, 3) := by decide +kernel
theorem dX11_sow_8 : decode cX11_sow 8 = .ok (.aload_n 0, 1) := by decide +kernel
theorem dX11_sow_9 : decode cX11_sow 9 = .ok (.iload_n 2, 1) := by decide +kernel
theorem dX11_sow_10 : decode cX11_sow 10 = .ok (.invokevirtual 153, 3) := by decide +kernel
theorem dX11_sow_13 : decode cX11_sow 13 = .ok (.ifCond .eq 22, 3) := by decide +kernel
theorem dX11_sow_16 : decode cX11_sow 16 = .ok (.iload_n 3, 1) := by decide +kernel
theorem dX11_sow_17 : decode cX11_sow 17 = .ok (.iconst 1, 1) := by decide +kernel
theorem dX11_sow_18 : decode cX11_sow 18 = .ok (.if_icmp .lt 17, 3) := by decide +kernel
theorem dX11_sow_21 : decode cX11_sow 21 = .ok (.aload_n 0, 1) := by decide +kernel
theorem dX11_sow_22 : decode cX11_sow 22 = .ok (.getfield 138, 3) := by decide +kernel
theorem dX11_sow_25 : decode cX11_sow 25 = .ok (.sipush 200, 3) := by decide +kernel
theorem dX11_sow_28 : decode cX11_sow 28 = .ok (.if_icmp .ge 7, 3) := by decide +kernel
theorem dX11_sow_31 : decode cX11_sow 31 = .ok (.iconst 1, 1) := by decide +kernel
theorem dX11_sow_32 : decode cX11_sow 32 = .ok (.goto 4, 3) := by decide +kernel
theorem dX11_sow_35 : decode cX11_sow 35 = .ok (.iconst 0, 1) := by decide +kernel
theorem dX11_sow_36 : decode cX11_sow 36 = .ok (.istore 4, 2) := by decide +kernel
theorem dX11_sow_38 : decode cX11_sow 38 = .ok (.iload 4, 2) := by decide +kernel
theorem dX11_sow_40 : decode cX11_sow 40 = .ok (.ifCond .eq 48, 3) := by decide +kernel
theorem dX11_sow_43 : decode cX11_sow 43 = .ok (.iload_n 3, 1) := by decide +kernel
theorem dX11_sow_44 : decode cX11_sow 44 = .ok (.aload_n 0, 1) := by decide +kernel
theorem dX11_sow_45 : decode cX11_sow 45 = .ok (.getfield 52, 3) := by decide +kernel
theorem dX11_sow_48 : decode cX11_sow 48 = .ok (.iload_n 1, 1) := by decide +kernel
theorem dX11_sow_49 : decode cX11_sow 49 = .ok (.iaload, 1) := by decide +kernel
theorem dX11_sow_50 : decode cX11_sow 50 = .ok (.if_icmp .gt 38, 3) := by decide +kernel
theorem dX11_sow_53 : decode cX11_sow 53 = .ok (.aload_n 0, 1) := by decide +kernel
theorem dX11_sow_54 : decode cX11_sow 54 = .ok (.getfield 46, 3) := by decide +kernel
theorem dX11_sow_57 : decode cX11_sow 57 = .ok (.iload_n 1, 1) := by decide +kernel
theorem dX11_sow_58 : decode cX11_sow 58 = .ok (.iaload, 1) := by decide +kernel
theorem dX11_sow_59 : decode cX11_sow 59 = .ok (.ifCond .eq 16, 3) := by decide +kernel
theorem dX11_sow_62 : decode cX11_sow 62 = .ok (.aload_n 0, 1) := by decide +kernel
theorem dX11_sow_63 : decode cX11_sow 63 = .ok (.getfield 55, 3) := by decide +kernel
theorem dX11_sow_66 : decode cX11_sow 66 = .ok (.iload_n 1, 1) := by decide +kernel
theorem dX11_sow_67 : decode cX11_sow 67 = .ok (.iaload, 1) := by decide +kernel
theorem dX11_sow_68 : decode cX11_sow 68 = .ok (.aload_n 0, 1) := by decide +kernel
theorem dX11_sow_69 : decode cX11_sow 69 = .ok (.getfield 141, 3) := by decide +kernel
theorem dX11_sow_72 : decode cX11_sow 72 = .ok (.if_icmp .eq 16, 3) := by decide +kernel
theorem dX11_sow_75 : decode cX11_sow 75 = .ok (.aload_n 0, 1) := by decide +kernel
theorem dX11_sow_76 : decode cX11_sow 76 = .ok (.iload_n 2, 1) := by decide +kernel
theorem dX11_sow_77 : decode cX11_sow 77 = .ok (.aload_n 0, 1) := by decide +kernel
theorem dX11_sow_78 : decode cX11_sow 78 = .ok (.getfield 141, 3) := by decide +kernel
theorem dX11_sow_81 : decode cX11_sow 81 = .ok (.invokevirtual 166, 3) := by decide +kernel
theorem dX11_sow_84 : decode cX11_sow 84 = .ok (.iconst (-1), 1) := by decide +kernel
theorem dX11_sow_85 : decode cX11_sow 85 = .ok (.if_icmp .eq 5, 3) := by decide +kernel
theorem dX11_sow_88 : decode cX11_sow 88 = .ok (.iconst (-1), 1) := by decide +kernel
theorem dX11_sow_89 : decode cX11_sow 89 = .ok (.ireturn, 1) := by decide +kernel
theorem dX11_sow_90 : decode cX11_sow 90 = .ok (.aload_n 0, 1) := by decide +kernel
theorem dX11_sow_91 : decode cX11_sow 91 = .ok (.iconst 1, 1) := by decide +kernel
theorem dX11_sow_92 : decode cX11_sow 92 = .ok (.aload_n 0, 1) := by decide +kernel
theorem dX11_sow_93 : decode cX11_sow 93 = .ok (.getfield 49, 3) := by decide +kernel
theorem dX11_sow_96 : decode cX11_sow 96 = .ok (.iload_n 1, 1) := by decide +kernel
theorem dX11_sow_97 : decode cX11_sow 97 = .ok (.iaload, 1) := by decide +kernel
theorem dX11_sow_98 : decode cX11_sow 98 = .ok (.invokevirtual 183, 3) := by decide +kernel
theorem dX11_sow_101 : decode cX11_sow 101 = .ok (.istore 5, 2) := by decide +kernel
theorem dX11_sow_103 : decode cX11_sow 103 = .ok (.aload_n 0, 1) := by decide +kernel
theorem dX11_sow_104 : decode cX11_sow 104 = .ok (.getfield 52, 3) := by decide +kernel
theorem dX11_sow_107 : decode cX11_sow 107 = .ok (.iload_n 1, 1) := by decide +kernel
theorem dX11_sow_108 : decode cX11_sow 108 = .ok (.dup2, 1) := by decide +kernel
theorem dX11_sow_109 : decode cX11_sow 109 = .ok (.iaload, 1) := by decide +kernel
theorem dX11_sow_110 : decode cX11_sow 110 = .ok (.iload_n 3, 1) := by decide +kernel
theorem dX11_sow_111 : decode cX11_sow 111 = .ok (.isub, 1) := by decide +kernel
theorem dX11_sow_112 : decode cX11_sow 112 = .ok (.iastore, 1) := by decide +kernel
theorem dX11_sow_113 : decode cX11_sow 113 = .ok (.aload_n 0, 1) := by decide +kernel
theorem dX11_sow_114 : decode cX11_sow 114 = .ok (.getfield 70, 3) := by decide +kernel
theorem dX11_sow_117 : decode cX11_sow 117 = .ok (.iload_n 1, 1) := by decide +kernel
theorem dX11_sow_118 : decode cX11_sow 118 = .ok (.dup2, 1) := by decide +kernel
theorem dX11_sow_119 : decode cX11_sow 119 = .ok (.iaload, 1) := by decide +kernel
theorem dX11_sow_120 : decode cX11_sow 120 = .ok (.iload_n 3, 1) := by decide +kernel
theorem dX11_sow_121 : decode cX11_sow 121 = .ok (.iadd, 1) := by decide +kernel
theorem dX11_sow_122 : decode cX11_sow 122 = .ok (.iastore, 1) := by decide +kernel
theorem dX11_sow_123 : decode cX11_sow 123 = .ok (.aload_n 0, 1) := by decide +kernel
theorem dX11_sow_124 : decode cX11_sow 124 = .ok (.getfield 61, 3) := by decide +kernel
theorem dX11_sow_127 : decode cX11_sow 127 = .ok (.iload 5, 2) := by decide +kernel
theorem dX11_sow_129 : decode cX11_sow 129 = .ok (.iload_n 1, 1) := by decide +kernel
theorem dX11_sow_130 : decode cX11_sow 130 = .ok (.iastore, 1) := by decide +kernel
theorem dX11_sow_131 : decode cX11_sow 131 = .ok (.aload_n 0, 1) := by decide +kernel
theorem dX11_sow_132 : decode cX11_sow 132 = .ok (.getfield 58, 3) := by decide +kernel
theorem dX11_sow_135 : decode cX11_sow 135 = .ok (.iload 5, 2) := by decide +kernel
theorem dX11_sow_137 : decode cX11_sow 137 = .ok (.iload_n 2, 1) := by decide +kernel
theorem dX11_sow_138 : decode cX11_sow 138 = .ok (.iastore, 1) := by decide +kernel
theorem dX11_sow_139 : decode cX11_sow 139 = .ok (.iload 5, 2) := by decide +kernel
theorem dX11_sow_141 : decode cX11_sow 141 = .ok (.ireturn, 1) := by decide +kernel
theorem dX11_harvest_0 : decode cX11_harvest 0 = .ok (.aload_n 0, 1) := by decide +kernel
theorem dX11_harvest_1 : decode cX11_harvest 1 = .ok (.iload_n 1, 1) := by decide +kernel
theorem dX11_harvest_2 : decode cX11_harvest 2 = .ok (.invokevirtual 186, 3) := by decide +kernel
theorem dX11_harvest_5 : decode cX11_harvest 5 = .ok (.ifCond .eq 33, 3) := by decide +kernel
theorem dX11_harvest_8 : decode cX11_harvest 8 = .ok (.aload_n 0, 1) := by decide +kernel
theorem dX11_harvest_9 : decode cX11_harvest 9 = .ok (.getfield 46, 3) := by decide +kernel
theorem dX11_harvest_12 : decode cX11_harvest 12 = .ok (.iload_n 1, 1) := by decide +kernel
theorem dX11_harvest_13 : decode cX11_harvest 13 = .ok (.iaload, 1) := by decide +kernel
theorem dX11_harvest_14 : decode cX11_harvest 14 = .ok (.iconst 1, 1) := by decide +kernel
theorem dX11_harvest_15 : decode cX11_harvest 15 = .ok (.if_icmp .ne 23, 3) := by decide +kernel
theorem dX11_harvest_18 : decode cX11_harvest 18 = .ok (.aload_n 0, 1) := by decide +kernel
theorem dX11_harvest_19 : decode cX11_harvest 19 = .ok (.getfield 67, 3) := by decide +kernel
theorem dX11_harvest_22 : decode cX11_harvest 22 = .ok (.iload_n 1, 1) := by decide +kernel
theorem dX11_harvest_23 : decode cX11_harvest 23 = .ok (.iaload, 1) := by decide +kernel
theorem dX11_harvest_24 : decode cX11_harvest 24 = .ok (.iconst (-1), 1) := by decide +kernel
theorem dX11_harvest_25 : decode cX11_harvest 25 = .ok (.if_icmp .ne 13, 3) := by decide +kernel
theorem dX11_harvest_28 : decode cX11_harvest 28 = .ok (.iload_n 2, 1) := by decide +kernel
theorem dX11_harvest_29 : decode cX11_harvest 29 = .ok (.iconst 1, 1) := by decide +kernel
theorem dX11_harvest_30 : decode cX11_harvest 30 = .ok (.ldc 189, 2) := by decide +kernel
theorem dX11_harvest_32 : decode cX11_harvest 32 = .ok (.invokestatic 134, 3) := by decide +kernel
theorem dX11_harvest_35 : decode cX11_harvest 35 = .ok (.ifCond .ne 5, 3) := by decide +kernel
theorem dX11_harvest_38 : decode cX11_harvest 38 = .ok (.iconst 0, 1) := by decide +kernel
theorem dX11_harvest_39 : decode cX11_harvest 39 = .ok (.ireturn, 1) := by decide +kernel
theorem dX11_harvest_40 : decode cX11_harvest 40 = .ok (.aload_n 0, 1) := by decide +kernel
theorem dX11_harvest_41 : decode cX11_harvest 41 = .ok (.getfield 52, 3) := by decide +kernel
theorem dX11_harvest_44 : decode cX11_harvest 44 = .ok (.iload_n 1, 1) := by decide +kernel
theorem dX11_harvest_45 : decode cX11_harvest 45 = .ok (.iload_n 2, 1) := by decide +kernel
theorem dX11_harvest_46 : decode cX11_harvest 46 = .ok (.iastore, 1) := by decide +kernel
theorem dX11_harvest_47 : decode cX11_harvest 47 = .ok (.aload_n 0, 1) := by decide +kernel
theorem dX11_harvest_48 : decode cX11_harvest 48 = .ok (.getfield 67, 3) := by decide +kernel
theorem dX11_harvest_51 : decode cX11_harvest 51 = .ok (.iload_n 1, 1) := by decide +kernel
theorem dX11_harvest_52 : decode cX11_harvest 52 = .ok (.iload_n 2, 1) := by decide +kernel
theorem dX11_harvest_53 : decode cX11_harvest 53 = .ok (.iastore, 1) := by decide +kernel
theorem dX11_harvest_54 : decode cX11_harvest 54 = .ok (.iconst 1, 1) := by decide +kernel
theorem dX11_harvest_55 : decode cX11_harvest 55 = .ok (.ireturn, 1) := by decide +kernel
theorem dX11_mix_0 : decode cX11_mix 0 = .ok (.aload_n 0, 1) := by decide +kernel
theorem dX11_mix_1 : decode cX11_mix 1 = .ok (.iload_n 1, 1) := by decide +kernel
theorem dX11_mix_2 : decode cX11_mix 2 = .ok (.invokevirtual 186, 3) := by decide +kernel
theorem dX11_mix_5 : decode cX11_mix 5 = .ok (.ifCond .eq 41, 3) := by decide +kernel
theorem dX11_mix_8 : decode cX11_mix 8 = .ok (.aload_n 0, 1) := by decide +kernel
theorem dX11_mix_9 : decode cX11_mix 9 = .ok (.iload_n 3, 1) := by decide +kernel
theorem dX11_mix_10 : decode cX11_mix 10 = .ok (.invokevirtual 186, 3) := by decide +kernel
theorem dX11_mix_13 : decode cX11_mix 13 = .ok (.ifCond .eq 33, 3) := by decide +kernel
theorem dX11_mix_16 : decode cX11_mix 16 = .ok (.iload_n 1, 1) := by decide +kernel
theorem dX11_mix_17 : decode cX11_mix 17 = .ok (.iload_n 3, 1) := by decide +kernel
theorem dX11_mix_18 : decode cX11_mix 18 = .ok (.if_icmp .eq 28, 3) := by decide +kernel
theorem dX11_mix_21 : decode cX11_mix 21 = .ok (.iload_n 2, 1) := by decide +kernel
theorem dX11_mix_22 : decode cX11_mix 22 = .ok (.iconst 1, 1) := by decide +kernel
theorem dX11_mix_23 : decode cX11_mix 23 = .ok (.if_icmp .lt 23, 3) := by decide +kernel
theorem dX11_mix_26 : decode cX11_mix 26 = .ok (.iload 4, 2) := by decide +kernel
theorem dX11_mix_28 : decode cX11_mix 28 = .ok (.iconst 1, 1) := by decide +kernel
theorem dX11_mix_29 : decode cX11_mix 29 = .ok (.if_icmp .lt 17, 3) := by decide +kernel
theorem dX11_mix_32 : decode cX11_mix 32 = .ok (.aload_n 0, 1) := by decide +kernel
theorem dX11_mix_33 : decode cX11_mix 33 = .ok (.getfield 138, 3) := by decide +kernel
theorem dX11_mix_36 : decode cX11_mix 36 = .ok (.sipush 200, 3) := by decide +kernel
theorem dX11_mix_39 : decode cX11_mix 39 = .ok (.if_icmp .ge 7, 3) := by decide +kernel
theorem dX11_mix_42 : decode cX11_mix 42 = .ok (.iconst 1, 1) := by decide +kernel
theorem dX11_mix_43 : decode cX11_mix 43 = .ok (.goto 4, 3) := by decide +kernel
theorem dX11_mix_46 : decode cX11_mix 46 = .ok (.iconst 0, 1) := by decide +kernel
theorem dX11_mix_47 : decode cX11_mix 47 = .ok (.istore 5, 2) := by decide +kernel
theorem dX11_mix_49 : decode cX11_mix 49 = .ok (.iload 5, 2) := by decide +kernel
theorem dX11_mix_51 : decode cX11_mix 51 = .ok (.ifCond .eq 39, 3) := by decide +kernel
theorem dX11_mix_54 : decode cX11_mix 54 = .ok (.aload_n 0, 1) := by decide +kernel
theorem dX11_mix_55 : decode cX11_mix 55 = .ok (.getfield 49, 3) := by decide +kernel
theorem dX11_mix_58 : decode cX11_mix 58 = .ok (.iload_n 1, 1) := by decide +kernel
theorem dX11_mix_59 : decode cX11_mix 59 = .ok (.iaload, 1) := by decide +kernel
theorem dX11_mix_60 : decode cX11_mix 60 = .ok (.aload_n 0, 1) := by decide +kernel
theorem dX11_mix_61 : decode cX11_mix 61 = .ok (.getfield 49, 3) := by decide +kernel
theorem dX11_mix_64 : decode cX11_mix 64 = .ok (.iload_n 3, 1) := by decide +kernel
theorem dX11_mix_65 : decode cX11_mix 65 = .ok (.iaload, 1) := by decide +kernel
theorem dX11_mix_66 : decode cX11_mix 66 = .ok (.if_icmp .ne 24, 3) := by decide +kernel
theorem dX11_mix_69 : decode cX11_mix 69 = .ok (.iload_n 2, 1) := by decide +kernel
theorem dX11_mix_70 : decode cX11_mix 70 = .ok (.aload_n 0, 1) := by decide +kernel
theorem dX11_mix_71 : decode cX11_mix 71 = .ok (.getfield 52, 3) := by decide +kernel
theorem dX11_mix_74 : decode cX11_mix 74 = .ok (.iload_n 1, 1) := by decide +kernel
theorem dX11_mix_75 : decode cX11_mix 75 = .ok (.iaload, 1) := by decide +kernel
theorem dX11_mix_76 : decode cX11_mix 76 = .ok (.if_icmp .gt 14, 3) := by decide +kernel
theorem dX11_mix_79 : decode cX11_mix 79 = .ok (.iload 4, 2) := by decide +kernel
theorem dX11_mix_81 : decode cX11_mix 81 = .ok (.aload_n 0, 1) := by decide +kernel
theorem dX11_mix_82 : decode cX11_mix 82 = .ok (.getfield 52, 3) := by decide +kernel
theorem dX11_mix_85 : decode cX11_mix 85 = .ok (.iload_n 3, 1) := by decide +kernel
theorem dX11_mix_86 : decode cX11_mix 86 = .ok (.iaload, 1) := by decide +kernel
theorem dX11_mix_87 : decode cX11_mix 87 = .ok (.if_icmp .le 5, 3) := by decide +kernel
theorem dX11_mix_90 : decode cX11_mix 90 = .ok (.iconst (-1), 1) := by decide +kernel
theorem dX11_mix_91 : decode cX11_mix 91 = .ok (.ireturn, 1) := by decide +kernel
theorem dX11_mix_92 : decode cX11_mix 92 = .ok (.aload_n 0, 1) := by decide +kernel
theorem dX11_mix_93 : decode cX11_mix 93 = .ok (.iconst 2, 1) := by decide +kernel
theorem dX11_mix_94 : decode cX11_mix 94 = .ok (.aload_n 0, 1) := by decide +kernel
theorem dX11_mix_95 : decode cX11_mix 95 = .ok (.getfield 49, 3) := by decide +kernel
theorem dX11_mix_98 : decode cX11_mix 98 = .ok (.iload_n 1, 1) := by decide +kernel
theorem dX11_mix_99 : decode cX11_mix 99 = .ok (.iaload, 1) := by decide +kernel
theorem dX11_mix_100 : decode cX11_mix 100 = .ok (.invokevirtual 183, 3) := by decide +kernel
theorem dX11_mix_103 : decode cX11_mix 103 = .ok (.istore 6, 2) := by decide +kernel
theorem dX11_mix_105 : decode cX11_mix 105 = .ok (.aload_n 0, 1) := by decide +kernel
theorem dX11_mix_106 : decode cX11_mix 106 = .ok (.getfield 52, 3) := by decide +kernel
theorem dX11_mix_109 : decode cX11_mix 109 = .ok (.iload_n 1, 1) := by decide +kernel
theorem dX11_mix_110 : decode cX11_mix 110 = .ok (.dup2, 1) := by decide +kernel
theorem dX11_mix_111 : decode cX11_mix 111 = .ok (.iaload, 1) := by decide +kernel
theorem dX11_mix_112 : decode cX11_mix 112 = .ok (.iload_n 2, 1) := by decide +kernel
theorem dX11_mix_113 : decode cX11_mix 113 = .ok (.isub, 1) := by decide +kernel
theorem dX11_mix_114 : decode cX11_mix 114 = .ok (.iastore, 1) := by decide +kernel
theorem dX11_mix_115 : decode cX11_mix 115 = .ok (.aload_n 0, 1) := by decide +kernel
theorem dX11_mix_116 : decode cX11_mix 116 = .ok (.getfield 52, 3) := by decide +kernel
theorem dX11_mix_119 : decode cX11_mix 119 = .ok (.iload_n 3, 1) := by decide +kernel
theorem dX11_mix_120 : decode cX11_mix 120 = .ok (.dup2, 1) := by decide +kernel
theorem dX11_mix_121 : decode cX11_mix 121 = .ok (.iaload, 1) := by decide +kernel
theorem dX11_mix_122 : decode cX11_mix 122 = .ok (.iload 4, 2) := by decide +kernel
theorem dX11_mix_124 : decode cX11_mix 124 = .ok (.isub, 1) := by decide +kernel
theorem dX11_mix_125 : decode cX11_mix 125 = .ok (.iastore, 1) := by decide +kernel
theorem dX11_mix_126 : decode cX11_mix 126 = .ok (.aload_n 0, 1) := by decide +kernel
theorem dX11_mix_127 : decode cX11_mix 127 = .ok (.getfield 73, 3) := by decide +kernel
theorem dX11_mix_130 : decode cX11_mix 130 = .ok (.iload_n 1, 1) := by decide +kernel
theorem dX11_mix_131 : decode cX11_mix 131 = .ok (.dup2, 1) := by decide +kernel
theorem dX11_mix_132 : decode cX11_mix 132 = .ok (.iaload, 1) := by decide +kernel
theorem dX11_mix_133 : decode cX11_mix 133 = .ok (.iload_n 2, 1) := by decide +kernel
theorem dX11_mix_134 : decode cX11_mix 134 = .ok (.iadd, 1) := by decide +kernel
theorem dX11_mix_135 : decode cX11_mix 135 = .ok (.iastore, 1) := by decide +kernel
theorem dX11_mix_136 : decode cX11_mix 136 = .ok (.aload_n 0, 1) := by decide +kernel
theorem dX11_mix_137 : decode cX11_mix 137 = .ok (.getfield 73, 3) := by decide +kernel
theorem dX11_mix_140 : decode cX11_mix 140 = .ok (.iload_n 3, 1) := by decide +kernel
theorem dX11_mix_141 : decode cX11_mix 141 = .ok (.dup2, 1) := by decide +kernel
theorem dX11_mix_142 : decode cX11_mix 142 = .ok (.iaload, 1) := by decide +kernel
theorem dX11_mix_143 : decode cX11_mix 143 = .ok (.iload 4, 2) := by decide +kernel
theorem dX11_mix_145 : decode cX11_mix 145 = .ok (.iadd, 1) := by decide +kernel
theorem dX11_mix_146 : decode cX11_mix 146 = .ok (.iastore, 1) := by decide +kernel
theorem dX11_mix_147 : decode cX11_mix 147 = .ok (.aload_n 0, 1) := by decide +kernel
theorem dX11_mix_148 : decode cX11_mix 148 = .ok (.getfield 52, 3) := by decide +kernel
theorem dX11_mix_151 : decode cX11_mix 151 = .ok (.iload 6, 2) := by decide +kernel
theorem dX11_mix_153 : decode cX11_mix 153 = .ok (.iload_n 2, 1) := by decide +kernel
theorem dX11_mix_154 : decode cX11_mix 154 = .ok (.iload 4, 2) := by decide +kernel
theorem dX11_mix_156 : decode cX11_mix 156 = .ok (.iadd, 1) := by decide +kernel
theorem dX11_mix_157 : decode cX11_mix 157 = .ok (.iastore, 1) := by decide +kernel
theorem dX11_mix_158 : decode cX11_mix 158 = .ok (.aload_n 0, 1) := by decide +kernel
theorem dX11_mix_159 : decode cX11_mix 159 = .ok (.getfield 67, 3) := by decide +kernel
theorem dX11_mix_162 : decode cX11_mix 162 = .ok (.iload 6, 2) := by decide +kernel
theorem dX11_mix_164 : decode cX11_mix 164 = .ok (.iload_n 2, 1) := by decide +kernel
theorem dX11_mix_165 : decode cX11_mix 165 = .ok (.iload 4, 2) := by decide +kernel
theorem dX11_mix_167 : decode cX11_mix 167 = .ok (.iadd, 1) := by decide +kernel
theorem dX11_mix_168 : decode cX11_mix 168 = .ok (.iastore, 1) := by decide +kernel
theorem dX11_mix_169 : decode cX11_mix 169 = .ok (.aload_n 0, 1) := by decide +kernel
theorem dX11_mix_170 : decode cX11_mix 170 = .ok (.getfield 61, 3) := by decide +kernel
theorem dX11_mix_173 : decode cX11_mix 173 = .ok (.iload 6, 2) := by decide +kernel
theorem dX11_mix_175 : decode cX11_mix 175 = .ok (.iload_n 1, 1) := by decide +kernel
theorem dX11_mix_176 : decode cX11_mix 176 = .ok (.iastore, 1) := by decide +kernel
theorem dX11_mix_177 : decode cX11_mix 177 = .ok (.aload_n 0, 1) := by decide +kernel
theorem dX11_mix_178 : decode cX11_mix 178 = .ok (.getfield 64, 3) := by decide +kernel
theorem dX11_mix_181 : decode cX11_mix 181 = .ok (.iload 6, 2) := by decide +kernel
theorem dX11_mix_183 : decode cX11_mix 183 = .ok (.iload_n 3, 1) := by decide +kernel
theorem dX11_mix_184 : decode cX11_mix 184 = .ok (.iastore, 1) := by decide +kernel
theorem dX11_mix_185 : decode cX11_mix 185 = .ok (.iload 6, 2) := by decide +kernel
theorem dX11_mix_187 : decode cX11_mix 187 = .ok (.ireturn, 1) := by decide +kernel
theorem dX11_bag_0 : decode cX11_bag 0 = .ok (.aload_n 0, 1) := by decide +kernel
theorem dX11_bag_1 : decode cX11_bag 1 = .ok (.iload_n 1, 1) := by decide +kernel
theorem dX11_bag_2 : decode cX11_bag 2 = .ok (.invokevirtual 186, 3) := by decide +kernel
theorem dX11_bag_5 : decode cX11_bag 5 = .ok (.ifCond .eq 42, 3) := by decide +kernel
theorem dX11_bag_8 : decode cX11_bag 8 = .ok (.iload_n 2, 1) := by decide +kernel
theorem dX11_bag_9 : decode cX11_bag 9 = .ok (.iconst 1, 1) := by decide +kernel
theorem dX11_bag_10 : decode cX11_bag 10 = .ok (.if_icmp .lt 37, 3) := by decide +kernel
theorem dX11_bag_13 : decode cX11_bag 13 = .ok (.iload_n 2, 1) := by decide +kernel
theorem dX11_bag_14 : decode cX11_bag 14 = .ok (.aload_n 0, 1) := by decide +kernel
theorem dX11_bag_15 : decode cX11_bag 15 = .ok (.getfield 52, 3) := by decide +kernel
theorem dX11_bag_18 : decode cX11_bag 18 = .ok (.iload_n 1, 1) := by decide +kernel
theorem dX11_bag_19 : decode cX11_bag 19 = .ok (.iaload, 1) := by decide +kernel
theorem dX11_bag_20 : decode cX11_bag 20 = .ok (.if_icmp .gt 27, 3) := by decide +kernel
theorem dX11_bag_23 : decode cX11_bag 23 = .ok (.aload_n 0, 1) := by decide +kernel
theorem dX11_bag_24 : decode cX11_bag 24 = .ok (.getfield 190, 3) := by decide +kernel
theorem dX11_bag_27 : decode cX11_bag 27 = .ok (.sipush 200, 3) := by decide +kernel
theorem dX11_bag_30 : decode cX11_bag 30 = .ok (.if_icmp .eq 17, 3) := by decide +kernel
theorem dX11_bag_33 : decode cX11_bag 33 = .ok (.aload_n 0, 1) := by decide +kernel
theorem dX11_bag_34 : decode cX11_bag 34 = .ok (.iload_n 1, 1) := by decide +kernel
theorem dX11_bag_35 : decode cX11_bag 35 = .ok (.aload_n 0, 1) := by decide +kernel
theorem dX11_bag_36 : decode cX11_bag 36 = .ok (.getfield 141, 3) := by decide +kernel
theorem dX11_bag_39 : decode cX11_bag 39 = .ok (.invokevirtual 193, 3) := by decide +kernel
theorem dX11_bag_42 : decode cX11_bag 42 = .ok (.bipush 9, 2) := by decide +kernel
theorem dX11_bag_44 : decode cX11_bag 44 = .ok (.if_icmp .ne 5, 3) := by decide +kernel
theorem dX11_bag_47 : decode cX11_bag 47 = .ok (.iconst (-1), 1) := by decide +kernel
theorem dX11_bag_48 : decode cX11_bag 48 = .ok (.ireturn, 1) := by decide +kernel
theorem dX11_bag_49 : decode cX11_bag 49 = .ok (.aload_n 0, 1) := by decide +kernel
theorem dX11_bag_50 : decode cX11_bag 50 = .ok (.getfield 52, 3) := by decide +kernel
theorem dX11_bag_53 : decode cX11_bag 53 = .ok (.iload_n 1, 1) := by decide +kernel
theorem dX11_bag_54 : decode cX11_bag 54 = .ok (.dup2, 1) := by decide +kernel
theorem dX11_bag_55 : decode cX11_bag 55 = .ok (.iaload, 1) := by decide +kernel
theorem dX11_bag_56 : decode cX11_bag 56 = .ok (.iload_n 2, 1) := by decide +kernel
theorem dX11_bag_57 : decode cX11_bag 57 = .ok (.isub, 1) := by decide +kernel
theorem dX11_bag_58 : decode cX11_bag 58 = .ok (.iastore, 1) := by decide +kernel
theorem dX11_bag_59 : decode cX11_bag 59 = .ok (.aload_n 0, 1) := by decide +kernel
theorem dX11_bag_60 : decode cX11_bag 60 = .ok (.getfield 76, 3) := by decide +kernel
theorem dX11_bag_63 : decode cX11_bag 63 = .ok (.iload_n 1, 1) := by decide +kernel
theorem dX11_bag_64 : decode cX11_bag 64 = .ok (.dup2, 1) := by decide +kernel
theorem dX11_bag_65 : decode cX11_bag 65 = .ok (.iaload, 1) := by decide +kernel
theorem dX11_bag_66 : decode cX11_bag 66 = .ok (.iload_n 2, 1) := by decide +kernel
theorem dX11_bag_67 : decode cX11_bag 67 = .ok (.iadd, 1) := by decide +kernel
theorem dX11_bag_68 : decode cX11_bag 68 = .ok (.iastore, 1) := by decide +kernel
theorem dX11_bag_69 : decode cX11_bag 69 = .ok (.aload_n 0, 1) := by decide +kernel
theorem dX11_bag_70 : decode cX11_bag 70 = .ok (.dup, 1) := by decide +kernel
theorem dX11_bag_71 : decode cX11_bag 71 = .ok (.getfield 196, 3) := by decide +kernel
theorem dX11_bag_74 : decode cX11_bag 74 = .ok (.iconst 1, 1) := by decide +kernel
theorem dX11_bag_75 : decode cX11_bag 75 = .ok (.iadd, 1) := by decide +kernel
theorem dX11_bag_76 : decode cX11_bag 76 = .ok (.putfield 196, 3) := by decide +kernel
theorem dX11_bag_79 : decode cX11_bag 79 = .ok (.aload_n 0, 1) := by decide +kernel
theorem dX11_bag_80 : decode cX11_bag 80 = .ok (.getfield 97, 3) := by decide +kernel
theorem dX11_bag_83 : decode cX11_bag 83 = .ok (.aload_n 0, 1) := by decide +kernel
theorem dX11_bag_84 : decode cX11_bag 84 = .ok (.getfield 190, 3) := by decide +kernel
theorem dX11_bag_87 : decode cX11_bag 87 = .ok (.iload_n 1, 1) := by decide +kernel
theorem dX11_bag_88 : decode cX11_bag 88 = .ok (.iastore, 1) := by decide +kernel
theorem dX11_bag_89 : decode cX11_bag 89 = .ok (.aload_n 0, 1) := by decide +kernel
theorem dX11_bag_90 : decode cX11_bag 90 = .ok (.getfield 100, 3) := by decide +kernel
theorem dX11_bag_93 : decode cX11_bag 93 = .ok (.aload_n 0, 1) := by decide +kernel
theorem dX11_bag_94 : decode cX11_bag 94 = .ok (.getfield 190, 3) := by decide +kernel
theorem dX11_bag_97 : decode cX11_bag 97 = .ok (.iload_n 2, 1) := by decide +kernel
theorem dX11_bag_98 : decode cX11_bag 98 = .ok (.iastore, 1) := by decide +kernel
theorem dX11_bag_99 : decode cX11_bag 99 = .ok (.aload_n 0, 1) := by decide +kernel
theorem dX11_bag_100 : decode cX11_bag 100 = .ok (.getfield 103, 3) := by decide +kernel
theorem dX11_bag_103 : decode cX11_bag 103 = .ok (.aload_n 0, 1) := by decide +kernel
theorem dX11_bag_104 : decode cX11_bag 104 = .ok (.getfield 190, 3) := by decide +kernel
theorem dX11_bag_107 : decode cX11_bag 107 = .ok (.aload_n 0, 1) := by decide +kernel
theorem dX11_bag_108 : decode cX11_bag 108 = .ok (.getfield 196, 3) := by decide +kernel
theorem dX11_bag_111 : decode cX11_bag 111 = .ok (.iastore, 1) := by decide +kernel
theorem dX11_bag_112 : decode cX11_bag 112 = .ok (.aload_n 0, 1) := by decide +kernel
theorem dX11_bag_113 : decode cX11_bag 113 = .ok (.getfield 106, 3) := by decide +kernel
theorem dX11_bag_116 : decode cX11_bag 116 = .ok (.aload_n 0, 1) := by decide +kernel
theorem dX11_bag_117 : decode cX11_bag 117 = .ok (.getfield 190, 3) := by decide +kernel
theorem dX11_bag_120 : decode cX11_bag 120 = .ok (.iconst (-1), 1) := by decide +kernel
theorem dX11_bag_121 : decode cX11_bag 121 = .ok (.iastore, 1) := by decide +kernel
theorem dX11_bag_122 : decode cX11_bag 122 = .ok (.aload_n 0, 1) := by decide +kernel
theorem dX11_bag_123 : decode cX11_bag 123 = .ok (.dup, 1) := by decide +kernel
theorem dX11_bag_124 : decode cX11_bag 124 = .ok (.getfield 190, 3) := by decide +kernel
theorem dX11_bag_127 : decode cX11_bag 127 = .ok (.iconst 1, 1) := by decide +kernel
theorem dX11_bag_128 : decode cX11_bag 128 = .ok (.iadd, 1) := by decide +kernel
theorem dX11_bag_129 : decode cX11_bag 129 = .ok (.putfield 190, 3) := by decide +kernel
theorem dX11_bag_132 : decode cX11_bag 132 = .ok (.aload_n 0, 1) := by decide +kernel
theorem dX11_bag_133 : decode cX11_bag 133 = .ok (.getfield 190, 3) := by decide +kernel
theorem dX11_bag_136 : decode cX11_bag 136 = .ok (.iconst 1, 1) := by decide +kernel
theorem dX11_bag_137 : decode cX11_bag 137 = .ok (.isub, 1) := by decide +kernel
theorem dX11_bag_138 : decode cX11_bag 138 = .ok (.ireturn, 1) := by decide +kernel
theorem dX11_isBag_0 : decode cX11_isBag 0 = .ok (.iload_n 1, 1) := by decide +kernel
theorem dX11_isBag_1 : decode cX11_isBag 1 = .ok (.iconst 0, 1) := by decide +kernel
theorem dX11_isBag_2 : decode cX11_isBag 2 = .ok (.aload_n 0, 1) := by decide +kernel
theorem dX11_isBag_3 : decode cX11_isBag 3 = .ok (.getfield 190, 3) := by decide +kernel
theorem dX11_isBag_6 : decode cX11_isBag 6 = .ok (.iconst 1, 1) := by decide +kernel
theorem dX11_isBag_7 : decode cX11_isBag 7 = .ok (.isub, 1) := by decide +kernel
theorem dX11_isBag_8 : decode cX11_isBag 8 = .ok (.invokestatic 134, 3) := by decide +kernel
theorem dX11_isBag_11 : decode cX11_isBag 11 = .ok (.ireturn, 1) := by decide +kernel
theorem dX11_open_0 : decode cX11_open 0 = .ok (.aload_n 0, 1) := by decide +kernel
theorem dX11_open_1 : decode cX11_open 1 = .ok (.iload_n 1, 1) := by decide +kernel
theorem dX11_open_2 : decode cX11_open 2 = .ok (.invokevirtual 199, 3) := by decide +kernel
theorem dX11_open_5 : decode cX11_open 5 = .ok (.ifCond .eq 12, 3) := by decide +kernel
theorem dX11_open_8 : decode cX11_open 8 = .ok (.aload_n 0, 1) := by decide +kernel
theorem dX11_open_9 : decode cX11_open 9 = .ok (.getfield 103, 3) := by decide +kernel
theorem dX11_open_12 : decode cX11_open 12 = .ok (.iload_n 1, 1) := by decide +kernel
theorem dX11_open_13 : decode cX11_open 13 = .ok (.iaload, 1) := by decide +kernel
theorem dX11_open_14 : decode cX11_open 14 = .ok (.ifCond .ne 5, 3) := by decide +kernel
theorem dX11_open_17 : decode cX11_open 17 = .ok (.iconst 0, 1) := by decide +kernel
theorem dX11_open_18 : decode cX11_open 18 = .ok (.ireturn, 1) := by decide +kernel
theorem dX11_open_19 : decode cX11_open 19 = .ok (.aload_n 0, 1) := by decide +kernel
theorem dX11_open_20 : decode cX11_open 20 = .ok (.getfield 103, 3) := by decide +kernel
theorem dX11_open_23 : decode cX11_open 23 = .ok (.iload_n 1, 1) := by decide +kernel
theorem dX11_open_24 : decode cX11_open 24 = .ok (.iconst 0, 1) := by decide +kernel
theorem dX11_open_25 : decode cX11_open 25 = .ok (.iastore, 1) := by decide +kernel
theorem dX11_open_26 : decode cX11_open 26 = .ok (.iconst 1, 1) := by decide +kernel
theorem dX11_open_27 : decode cX11_open 27 = .ok (.ireturn, 1) := by decide +kernel
theorem dX11_seal_0 : decode cX11_seal 0 = .ok (.aload_n 0, 1) := by decide +kernel
theorem dX11_seal_1 : decode cX11_seal 1 = .ok (.iload_n 1, 1) := by decide +kernel
theorem dX11_seal_2 : decode cX11_seal 2 = .ok (.invokevirtual 199, 3) := by decide +kernel
theorem dX11_seal_5 : decode cX11_seal 5 = .ok (.ifCond .eq 41, 3) := by decide +kernel
theorem dX11_seal_8 : decode cX11_seal 8 = .ok (.aload_n 0, 1) := by decide +kernel
theorem dX11_seal_9 : decode cX11_seal 9 = .ok (.getfield 103, 3) := by decide +kernel
theorem dX11_seal_12 : decode cX11_seal 12 = .ok (.iload_n 1, 1) := by decide +kernel
theorem dX11_seal_13 : decode cX11_seal 13 = .ok (.iaload, 1) := by decide +kernel
theorem dX11_seal_14 : decode cX11_seal 14 = .ok (.ifCond .ne 32, 3) := by decide +kernel
theorem dX11_seal_17 : decode cX11_seal 17 = .ok (.aload_n 0, 1) := by decide +kernel
theorem dX11_seal_18 : decode cX11_seal 18 = .ok (.getfield 106, 3) := by decide +kernel
theorem dX11_seal_21 : decode cX11_seal 21 = .ok (.iload_n 1, 1) := by decide +kernel
theorem dX11_seal_22 : decode cX11_seal 22 = .ok (.iaload, 1) := by decide +kernel
theorem dX11_seal_23 : decode cX11_seal 23 = .ok (.iconst (-1), 1) := by decide +kernel
theorem dX11_seal_24 : decode cX11_seal 24 = .ok (.if_icmp .ne 22, 3) := by decide +kernel
theorem dX11_seal_27 : decode cX11_seal 27 = .ok (.aload_n 0, 1) := by decide +kernel
theorem dX11_seal_28 : decode cX11_seal 28 = .ok (.aload_n 0, 1) := by decide +kernel
theorem dX11_seal_29 : decode cX11_seal 29 = .ok (.getfield 97, 3) := by decide +kernel
theorem dX11_seal_32 : decode cX11_seal 32 = .ok (.iload_n 1, 1) := by decide +kernel
theorem dX11_seal_33 : decode cX11_seal 33 = .ok (.iaload, 1) := by decide +kernel
theorem dX11_seal_34 : decode cX11_seal 34 = .ok (.aload_n 0, 1) := by decide +kernel
theorem dX11_seal_35 : decode cX11_seal 35 = .ok (.getfield 141, 3) := by decide +kernel
theorem dX11_seal_38 : decode cX11_seal 38 = .ok (.invokevirtual 193, 3) := by decide +kernel
theorem dX11_seal_41 : decode cX11_seal 41 = .ok (.bipush 9, 2) := by decide +kernel
theorem dX11_seal_43 : decode cX11_seal 43 = .ok (.if_icmp .ne 5, 3) := by decide +kernel
theorem dX11_seal_46 : decode cX11_seal 46 = .ok (.iconst (-1), 1) := by decide +kernel
theorem dX11_seal_47 : decode cX11_seal 47 = .ok (.ireturn, 1) := by decide +kernel
theorem dX11_seal_48 : decode cX11_seal 48 = .ok (.aload_n 0, 1) := by decide +kernel
theorem dX11_seal_49 : decode cX11_seal 49 = .ok (.dup, 1) := by decide +kernel
theorem dX11_seal_50 : decode cX11_seal 50 = .ok (.getfield 196, 3) := by decide +kernel
theorem dX11_seal_53 : decode cX11_seal 53 = .ok (.iconst 1, 1) := by decide +kernel
theorem dX11_seal_54 : decode cX11_seal 54 = .ok (.iadd, 1) := by decide +kernel
theorem dX11_seal_55 : decode cX11_seal 55 = .ok (.putfield 196, 3) := by decide +kernel
theorem dX11_seal_58 : decode cX11_seal 58 = .ok (.aload_n 0, 1) := by decide +kernel
theorem dX11_seal_59 : decode cX11_seal 59 = .ok (.getfield 103, 3) := by decide +kernel
theorem dX11_seal_62 : decode cX11_seal 62 = .ok (.iload_n 1, 1) := by decide +kernel
theorem dX11_seal_63 : decode cX11_seal 63 = .ok (.aload_n 0, 1) := by decide +kernel
theorem dX11_seal_64 : decode cX11_seal 64 = .ok (.getfield 196, 3) := by decide +kernel
theorem dX11_seal_67 : decode cX11_seal 67 = .ok (.iastore, 1) := by decide +kernel
theorem dX11_seal_68 : decode cX11_seal 68 = .ok (.aload_n 0, 1) := by decide +kernel
theorem dX11_seal_69 : decode cX11_seal 69 = .ok (.getfield 196, 3) := by decide +kernel
theorem dX11_seal_72 : decode cX11_seal 72 = .ok (.ireturn, 1) := by decide +kernel
theorem dX11_sell_0 : decode cX11_sell 0 = .ok (.aload_n 0, 1) := by decide +kernel
theorem dX11_sell_1 : decode cX11_sell 1 = .ok (.iload_n 1, 1) := by decide +kernel
theorem dX11_sell_2 : decode cX11_sell 2 = .ok (.invokevirtual 199, 3) := by decide +kernel
theorem dX11_sell_5 : decode cX11_sell 5 = .ok (.ifCond .eq 32, 3) := by decide +kernel
theorem dX11_sell_8 : decode cX11_sell 8 = .ok (.iload_n 2, 1) := by decide +kernel
theorem dX11_sell_9 : decode cX11_sell 9 = .ok (.iconst 0, 1) := by decide +kernel
theorem dX11_sell_10 : decode cX11_sell 10 = .ok (.bipush 19, 2) := by decide +kernel
theorem dX11_sell_12 : decode cX11_sell 12 = .ok (.invokestatic 134, 3) := by decide +kernel
theorem dX11_sell_15 : decode cX11_sell 15 = .ok (.ifCond .eq 22, 3) := by decide +kernel
theorem dX11_sell_18 : decode cX11_sell 18 = .ok (.aload_n 0, 1) := by decide +kernel
theorem dX11_sell_19 : decode cX11_sell 19 = .ok (.getfield 103, 3) := by decide +kernel
theorem dX11_sell_22 : decode cX11_sell 22 = .ok (.iload_n 1, 1) := by decide +kernel
theorem dX11_sell_23 : decode cX11_sell 23 = .ok (.iaload, 1) := by decide +kernel
theorem dX11_sell_24 : decode cX11_sell 24 = .ok (.ifCond .eq 13, 3) := by decide +kernel
theorem dX11_sell_27 : decode cX11_sell 27 = .ok (.aload_n 0, 1) := by decide +kernel
theorem dX11_sell_28 : decode cX11_sell 28 = .ok (.getfield 106, 3) := by decide +kernel
theorem dX11_sell_31 : decode cX11_sell 31 = .ok (.iload_n 1, 1) := by decide +kernel
theorem dX11_sell_32 : decode cX11_sell 32 = .ok (.iaload, 1) := by decide +kernel
theorem dX11_sell_33 : decode cX11_sell 33 = .ok (.iconst (-1), 1) := by decide +kernel
theorem dX11_sell_34 : decode cX11_sell 34 = .ok (.if_icmp .eq 5, 3) := by decide +kernel
theorem dX11_sell_37 : decode cX11_sell 37 = .ok (.iconst 0, 1) := by decide +kernel
theorem dX11_sell_38 : decode cX11_sell 38 = .ok (.ireturn, 1) := by decide +kernel
theorem dX11_sell_39 : decode cX11_sell 39 = .ok (.aload_n 0, 1) := by decide +kernel
theorem dX11_sell_40 : decode cX11_sell 40 = .ok (.getfield 106, 3) := by decide +kernel
theorem dX11_sell_43 : decode cX11_sell 43 = .ok (.iload_n 1, 1) := by decide +kernel
theorem dX11_sell_44 : decode cX11_sell 44 = .ok (.iload_n 2, 1) := by decide +kernel
theorem dX11_sell_45 : decode cX11_sell 45 = .ok (.iastore, 1) := by decide +kernel
theorem dX11_sell_46 : decode cX11_sell 46 = .ok (.iconst 1, 1) := by decide +kernel
theorem dX11_sell_47 : decode cX11_sell 47 = .ok (.ireturn, 1) := by decide +kernel
