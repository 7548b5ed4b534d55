theorem d_Scanner_letterCode_1 : decode b_Scanner_letterCode 1 = .ok (.bipush 97, 2) := by decide +kernel
theorem d_Scanner_letterCode_3 : decode b_Scanner_letterCode 3 = .ok (.isub, 1) := by decide +kernel
theorem d_Scanner_letterCode_4 : decode b_Scanner_letterCode 4 = .ok (.iconst 1, 1) := by decide +kernel
theorem d_Scanner_letterCode_5 : decode b_Scanner_letterCode 5 = .ok (.iadd, 1) := by decide +kernel
theorem d_Scanner_letterCode_6 : decode b_Scanner_letterCode 6 = .ok (.i2l, 1) := by decide +kernel
theorem d_Scanner_letterCode_7 : decode b_Scanner_letterCode 7 = .ok (.iconst 5, 1) := by decide +kernel
theorem d_Scanner_letterCode_8 : decode b_Scanner_letterCode 8 = .ok (.iload_n 1, 1) := by decide +kernel
theorem d_Scanner_letterCode_9 : decode b_Scanner_letterCode 9 = .ok (.imul, 1) := by decide +kernel
theorem d_Scanner_letterCode_10 : decode b_Scanner_letterCode 10 = .ok (.lshl, 1) := by decide +kernel
theorem d_Scanner_letterCode_11 : decode b_Scanner_letterCode 11 = .ok (.lreturn, 1) := by decide +kernel
theorem d_Speech_init_0 : decode b_Speech_init 0 = .ok (.aload_n 0, 1) := by decide +kernel
theorem d_Speech_init_1 : decode b_Speech_init 1 = .ok (.invokespecial 3, 3) := by decide +kernel
theorem d_Speech_init_4 : decode b_Speech_init 4 = .ok (.aload_n 0, 1) := by decide +kernel
theorem d_Speech_init_5 : decode b_Speech_init 5 = .ok (.bipush 8, 2) := by decide +kernel
theorem d_Speech_init_7 : decode b_Speech_init 7 = .ok (.newarray .int, 2) := by decide +kernel
theorem d_Speech_init_9 : decode b_Speech_init 9 = .ok (.putfield 9, 3) := by decide +kernel
theorem d_Speech_init_12 : decode b_Speech_init 12 = .ok (.aload_n 0, 1) := by decide +kernel
theorem d_Speech_init_13 : decode b_Speech_init 13 = .ok (.bipush 12, 2) := by decide +kernel
theorem d_Speech_init_15 : decode b_Speech_init 15 = .ok (.newarray .int, 2) := by decide +kernel
theorem d_Speech_init_17 : decode b_Speech_init 17 = .ok (.putfield 15, 3) := by decide +kernel
theorem d_Speech_init_20 : decode b_Speech_init 20 = .ok (.aload_n 0, 1) := by decide +kernel
theorem d_Speech_init_21 : decode b_Speech_init 21 = .ok (.bipush 12, 2) := by decide +kernel
theorem d_Speech_init_23 : decode b_Speech_init 23 = .ok (.newarray .int, 2) := by decide +kernel
theorem d_Speech_init_25 : decode b_Speech_init 25 = .ok (.putfield 18, 3) := by decide +kernel
theorem d_Speech_init_28 : decode b_Speech_init 28 = .ok (.aload_n 0, 1) := by decide +kernel
theorem d_Speech_init_29 : decode b_Speech_init 29 = .ok (.bipush 12, 2) := by decide +kernel
theorem d_Speech_init_31 : decode b_Speech_init 31 = .ok (.newarray .int, 2) := by decide +kernel
theorem d_Speech_init_33 : decode b_Speech_init 33 = .ok (.putfield 21, 3) := by decide +kernel
theorem d_Speech_init_36 : decode b_Speech_init 36 = .ok (.aload_n 0, 1) := by decide +kernel
theorem d_Speech_init_37 : decode b_Speech_init 37 = .ok (.aload_n 1, 1) := by decide +kernel
theorem d_Speech_init_38 : decode b_Speech_init 38 = .ok (.putfield 24, 3) := by decide +kernel
theorem d_Speech_init_41 : decode b_Speech_init 41 = .ok (.return_, 1) := by decide +kernel
theorem d_Words_init_0 : decode b_Words_init 0 = .ok (.aload_n 0, 1) := by decide +kernel
theorem d_Words_init_1 : decode b_Words_init 1 = .ok (.invokespecial 3, 3) := by decide +kernel
theorem d_Words_init_4 : decode b_Words_init 4 = .ok (.aload_n 0, 1) := by decide +kernel
theorem d_Words_init_5 : decode b_Words_init 5 = .ok (.bipush 24, 2) := by decide +kernel
theorem d_Words_init_7 : decode b_Words_init 7 = .ok (.newarray .long, 2) := by decide +kernel
theorem d_Words_init_9 : decode b_Words_init 9 = .ok (.putfield 9, 3) := by decide +kernel
theorem d_Words_init_12 : decode b_Words_init 12 = .ok (.aload_n 0, 1) := by decide +kernel
theorem d_Words_init_13 : decode b_Words_init 13 = .ok (.bipush 96, 2) := by decide +kernel
theorem d_Words_init_15 : decode b_Words_init 15 = .ok (.newarray .int, 2) := by decide +kernel
theorem d_Words_init_17 : decode b_Words_init 17 = .ok (.putfield 15, 3) := by decide +kernel
theorem d_Words_init_20 : decode b_Words_init 20 = .ok (.return_, 1) := by decide +kernel
theorem d_Mo_init_0 : decode b_Mo_init 0 = .ok (.aload_n 0, 1) := by decide +kernel
theorem d_Mo_init_1 : decode b_Mo_init 1 = .ok (.invokespecial 1, 3) := by decide +kernel
theorem d_Mo_init_4 : decode b_Mo_init 4 = .ok (.aload_n 0, 1) := by decide +kernel
theorem d_Mo_init_5 : decode b_Mo_init 5 = .ok (.sipush 1620, 3) := by decide +kernel
theorem d_Mo_init_8 : decode b_Mo_init 8 = .ok (.newarray .byte, 2) := by decide +kernel
theorem d_Mo_init_10 : decode b_Mo_init 10 = .ok (.putfield 7, 3) := by decide +kernel
theorem d_Mo_init_13 : decode b_Mo_init 13 = .ok (.aload_n 0, 1) := by decide +kernel
theorem d_Mo_init_14 : decode b_Mo_init 14 = .ok (.sipush 1600, 3) := by decide +kernel
theorem d_Mo_init_17 : decode b_Mo_init 17 = .ok (.newarray .byte, 2) := by decide +kernel
theorem d_Mo_init_19 : decode b_Mo_init 19 = .ok (.putfield 13, 3) := by decide +kernel
theorem d_Mo_init_22 : decode b_Mo_init 22 = .ok (.aload_n 0, 1) := by decide +kernel
theorem d_Mo_init_23 : decode b_Mo_init 23 = .ok (.iconst (-1), 1) := by decide +kernel
theorem d_Mo_init_24 : decode b_Mo_init 24 = .ok (.putfield 16, 3) := by decide +kernel
theorem d_Mo_init_27 : decode b_Mo_init 27 = .ok (.aload_n 0, 1) := by decide +kernel
theorem d_Mo_init_28 : decode b_Mo_init 28 = .ok (.iconst 2, 1) := by decide +kernel
theorem d_Mo_init_29 : decode b_Mo_init 29 = .ok (.newarray .int, 2) := by decide +kernel
theorem d_Mo_init_31 : decode b_Mo_init 31 = .ok (.putfield 20, 3) := by decide +kernel
theorem d_Mo_init_34 : decode b_Mo_init 34 = .ok (.aload_n 0, 1) := by decide +kernel
theorem d_Mo_init_35 : decode b_Mo_init 35 = .ok (.iconst 2, 1) := by decide +kernel
theorem d_Mo_init_36 : decode b_Mo_init 36 = .ok (.newarray .int, 2) := by decide +kernel
theorem d_Mo_init_38 : decode b_Mo_init 38 = .ok (.putfield 24, 3) := by decide +kernel
theorem d_Mo_init_41 : decode b_Mo_init 41 = .ok (.aload_n 0, 1) := by decide +kernel
theorem d_Mo_init_42 : decode b_Mo_init 42 = .ok (.iconst 2, 1) := by decide +kernel
theorem d_Mo_init_43 : decode b_Mo_init 43 = .ok (.newarray .int, 2) := by decide +kernel
theorem d_Mo_init_45 : decode b_Mo_init 45 = .ok (.putfield 27, 3) := by decide +kernel
theorem d_Mo_init_48 : decode b_Mo_init 48 = .ok (.aload_n 0, 1) := by decide +kernel
theorem d_Mo_init_49 : decode b_Mo_init 49 = .ok (.iconst 2, 1) := by decide +kernel
theorem d_Mo_init_50 : decode b_Mo_init 50 = .ok (.newarray .int, 2) := by decide +kernel
theorem d_Mo_init_52 : decode b_Mo_init 52 = .ok (.putfield 30, 3) := by decide +kernel
theorem d_Mo_init_55 : decode b_Mo_init 55 = .ok (.aload_n 0, 1) := by decide +kernel
theorem d_Mo_init_56 : decode b_Mo_init 56 = .ok (.iconst 2, 1) := by decide +kernel
theorem d_Mo_init_57 : decode b_Mo_init 57 = .ok (.newarray .int, 2) := by decide +kernel
theorem d_Mo_init_59 : decode b_Mo_init 59 = .ok (.putfield 33, 3) := by decide +kernel
theorem d_Mo_init_62 : decode b_Mo_init 62 = .ok (.aload_n 0, 1) := by decide +kernel
theorem d_Mo_init_63 : decode b_Mo_init 63 = .ok (.iconst 2, 1) := by decide +kernel
theorem d_Mo_init_64 : decode b_Mo_init 64 = .ok (.newarray .int, 2) := by decide +kernel
theorem d_Mo_init_66 : decode b_Mo_init 66 = .ok (.putfield 36, 3) := by decide +kernel
theorem d_Mo_init_69 : decode b_Mo_init 69 = .ok (.aload_n 0, 1) := by decide +kernel
theorem d_Mo_init_70 : decode b_Mo_init 70 = .ok (.iconst 2, 1) := by decide +kernel
theorem d_Mo_init_71 : decode b_Mo_init 71 = .ok (.newarray .int, 2) := by decide +kernel
theorem d_Mo_init_73 : decode b_Mo_init 73 = .ok (.putfield 39, 3) := by decide +kernel
theorem d_Mo_init_76 : decode b_Mo_init 76 = .ok (.aload_n 0, 1) := by decide +kernel
theorem d_Mo_init_77 : decode b_Mo_init 77 = .ok (.bipush 8, 2) := by decide +kernel
theorem d_Mo_init_79 : decode b_Mo_init 79 = .ok (.newarray .long, 2) := by decide +kernel
theorem d_Mo_init_81 : decode b_Mo_init 81 = .ok (.putfield 42, 3) := by decide +kernel
theorem d_Mo_init_84 : decode b_Mo_init 84 = .ok (.aload_n 0, 1) := by decide +kernel
theorem d_Mo_init_85 : decode b_Mo_init 85 = .ok (.bipush 16, 2) := by decide +kernel
theorem d_Mo_init_87 : decode b_Mo_init 87 = .ok (.newarray .long, 2) := by decide +kernel
theorem d_Mo_init_89 : decode b_Mo_init 89 = .ok (.putfield 46, 3) := by decide +kernel
theorem d_Mo_init_92 : decode b_Mo_init 92 = .ok (.aload_n 0, 1) := by decide +kernel
theorem d_Mo_init_93 : decode b_Mo_init 93 = .ok (.bipush 48, 2) := by decide +kernel
theorem d_Mo_init_95 : decode b_Mo_init 95 = .ok (.newarray .long, 2) := by decide +kernel
theorem d_Mo_init_97 : decode b_Mo_init 97 = .ok (.putfield 49, 3) := by decide +kernel
theorem d_Mo_init_100 : decode b_Mo_init 100 = .ok (.aload_n 0, 1) := by decide +kernel
theorem d_Mo_init_101 : decode b_Mo_init 101 = .ok (.bipush 24, 2) := by decide +kernel
theorem d_Mo_init_103 : decode b_Mo_init 103 = .ok (.newarray .long, 2) := by decide +kernel
theorem d_Mo_init_105 : decode b_Mo_init 105 = .ok (.putfield 52, 3) := by decide +kernel
theorem d_Mo_init_108 : decode b_Mo_init 108 = .ok (.aload_n 0, 1) := by decide +kernel
theorem d_Mo_init_109 : decode b_Mo_init 109 = .ok (.bipush 24, 2) := by decide +kernel
theorem d_Mo_init_111 : decode b_Mo_init 111 = .ok (.newarray .long, 2) := by decide +kernel
theorem d_Mo_init_113 : decode b_Mo_init 113 = .ok (.putfield 55, 3) := by decide +kernel
theorem d_Mo_init_116 : decode b_Mo_init 116 = .ok (.aload_n 0, 1) := by decide +kernel
theorem d_Mo_init_117 : decode b_Mo_init 117 = .ok (.bipush 8, 2) := by decide +kernel
theorem d_Mo_init_119 : decode b_Mo_init 119 = .ok (.newarray .int, 2) := by decide +kernel
theorem d_Mo_init_121 : decode b_Mo_init 121 = .ok (.putfield 58, 3) := by decide +kernel
theorem d_Mo_init_124 : decode b_Mo_init 124 = .ok (.aload_n 0, 1) := by decide +kernel
theorem d_Mo_init_125 : decode b_Mo_init 125 = .ok (.bipush 8, 2) := by decide +kernel
theorem d_Mo_init_127 : decode b_Mo_init 127 = .ok (.newarray .int, 2) := by decide +kernel
theorem d_Mo_init_129 : decode b_Mo_init 129 = .ok (.putfield 61, 3) := by decide +kernel
theorem d_Mo_init_132 : decode b_Mo_init 132 = .ok (.aload_n 0, 1) := by decide +kernel
theorem d_Mo_init_133 : decode b_Mo_init 133 = .ok (.bipush 8, 2) := by decide +kernel
theorem d_Mo_init_135 : decode b_Mo_init 135 = .ok (.newarray .int, 2) := by decide +kernel
theorem d_Mo_init_137 : decode b_Mo_init 137 = .ok (.putfield 64, 3) := by decide +kernel
theorem d_Mo_init_140 : decode b_Mo_init 140 = .ok (.aload_n 0, 1) := by decide +kernel
theorem d_Mo_init_141 : decode b_Mo_init 141 = .ok (.bipush 8, 2) := by decide +kernel
theorem d_Mo_init_143 : decode b_Mo_init 143 = .ok (.newarray .int, 2) := by decide +kernel
theorem d_Mo_init_145 : decode b_Mo_init 145 = .ok (.putfield 67, 3) := by decide +kernel
theorem d_Mo_init_148 : decode b_Mo_init 148 = .ok (.aload_n 0, 1) := by decide +kernel
theorem d_Mo_init_149 : decode b_Mo_init 149 = .ok (.bipush 8, 2) := by decide +kernel
theorem d_Mo_init_151 : decode b_Mo_init 151 = .ok (.newarray .int, 2) := by decide +kernel
theorem d_Mo_init_153 : decode b_Mo_init 153 = .ok (.putfield 70, 3) := by decide +kernel
theorem d_Mo_init_156 : decode b_Mo_init 156 = .ok (.aload_n 0, 1) := by decide +kernel
theorem d_Mo_init_157 : decode b_Mo_init 157 = .ok (.bipush 48, 2) := by decide +kernel
theorem d_Mo_init_159 : decode b_Mo_init 159 = .ok (.newarray .int, 2) := by decide +kernel
theorem d_Mo_init_161 : decode b_Mo_init 161 = .ok (.putfield 73, 3) := by decide +kernel
theorem d_Mo_init_164 : decode b_Mo_init 164 = .ok (.aload_n 0, 1) := by decide +kernel
theorem d_Mo_init_165 : decode b_Mo_init 165 = .ok (.bipush 48, 2) := by decide +kernel
theorem d_Mo_init_167 : decode b_Mo_init 167 = .ok (.newarray .int, 2) := by decide +kernel
theorem d_Mo_init_169 : decode b_Mo_init 169 = .ok (.putfield 76, 3) := by decide +kernel
theorem d_Mo_init_172 : decode b_Mo_init 172 = .ok (.aload_n 0, 1) := by decide +kernel
theorem d_Mo_init_173 : decode b_Mo_init 173 = .ok (.bipush 20, 2) := by decide +kernel
theorem d_Mo_init_175 : decode b_Mo_init 175 = .ok (.newarray .int, 2) := by decide +kernel
theorem d_Mo_init_177 : decode b_Mo_init 177 = .ok (.putfield 79, 3) := by decide +kernel
theorem d_Mo_init_180 : decode b_Mo_init 180 = .ok (.aload_n 0, 1) := by decide +kernel
theorem d_Mo_init_181 : decode b_Mo_init 181 = .ok (.bipush 20, 2) := by decide +kernel
theorem d_Mo_init_183 : decode b_Mo_init 183 = .ok (.newarray .int, 2) := by decide +kernel
theorem d_Mo_init_185 : decode b_Mo_init 185 = .ok (.putfield 82, 3) := by decide +kernel
theorem d_Mo_init_188 : decode b_Mo_init 188 = .ok (.aload_n 0, 1) := by decide +kernel
theorem d_Mo_init_189 : decode b_Mo_init 189 = .ok (.bipush 20, 2) := by decide +kernel
theorem d_Mo_init_191 : decode b_Mo_init 191 = .ok (.newarray .int, 2) := by decide +kernel
theorem d_Mo_init_193 : decode b_Mo_init 193 = .ok (.putfield 85, 3) := by decide +kernel
theorem d_Mo_init_196 : decode b_Mo_init 196 = .ok (.aload_n 0, 1) := by decide +kernel
theorem d_Mo_init_197 : decode b_Mo_init 197 = .ok (.bipush 24, 2) := by decide +kernel
theorem d_Mo_init_199 : decode b_Mo_init 199 = .ok (.newarray .int, 2) := by decide +kernel
theorem d_Mo_init_201 : decode b_Mo_init 201 = .ok (.putfield 88, 3) := by decide +kernel
theorem d_Mo_init_204 : decode b_Mo_init 204 = .ok (.aload_n 0, 1) := by decide +kernel
theorem d_Mo_init_205 : decode b_Mo_init 205 = .ok (.bipush 24, 2) := by decide +kernel
theorem d_Mo_init_207 : decode b_Mo_init 207 = .ok (.newarray .int, 2) := by decide +kernel
theorem d_Mo_init_209 : decode b_Mo_init 209 = .ok (.putfield 91, 3) := by decide +kernel
theorem d_Mo_init_212 : decode b_Mo_init 212 = .ok (.aload_n 0, 1) := by decide +kernel
theorem d_Mo_init_213 : decode b_Mo_init 213 = .ok (.bipush 24, 2) := by decide +kernel
theorem d_Mo_init_215 : decode b_Mo_init 215 = .ok (.newarray .int, 2) := by decide +kernel
theorem d_Mo_init_217 : decode b_Mo_init 217 = .ok (.putfield 94, 3) := by decide +kernel
theorem d_Mo_init_220 : decode b_Mo_init 220 = .ok (.aload_n 0, 1) := by decide +kernel
theorem d_Mo_init_221 : decode b_Mo_init 221 = .ok (.bipush 24, 2) := by decide +kernel
theorem d_Mo_init_223 : decode b_Mo_init 223 = .ok (.newarray .int, 2) := by decide +kernel
theorem d_Mo_init_225 : decode b_Mo_init 225 = .ok (.putfield 97, 3) := by decide +kernel
theorem d_Mo_init_228 : decode b_Mo_init 228 = .ok (.aload_n 0, 1) := by decide +kernel
theorem d_Mo_init_229 : decode b_Mo_init 229 = .ok (.bipush 40, 2) := by decide +kernel
theorem d_Mo_init_231 : decode b_Mo_init 231 = .ok (.newarray .int, 2) := by decide +kernel
theorem d_Mo_init_233 : decode b_Mo_init 233 = .ok (.putfield 100, 3) := by decide +kernel
theorem d_Mo_init_236 : decode b_Mo_init 236 = .ok (.aload_n 0, 1) := by decide +kernel
theorem d_Mo_init_237 : decode b_Mo_init 237 = .ok (.bipush 40, 2) := by decide +kernel
theorem d_Mo_init_239 : decode b_Mo_init 239 = .ok (.newarray .int, 2) := by decide +kernel
theorem d_Mo_init_241 : decode b_Mo_init 241 = .ok (.putfield 103, 3) := by decide +kernel
theorem d_Mo_init_244 : decode b_Mo_init 244 = .ok (.aload_n 0, 1) := by decide +kernel
theorem d_Mo_init_245 : decode b_Mo_init 245 = .ok (.bipush 60, 2) := by decide +kernel
theorem d_Mo_init_247 : decode b_Mo_init 247 = .ok (.newarray .int, 2) := by decide +kernel
theorem d_Mo_init_249 : decode b_Mo_init 249 = .ok (.putfield 106, 3) := by decide +kernel
theorem d_Mo_init_252 : decode b_Mo_init 252 = .ok (.aload_n 0, 1) := by decide +kernel
theorem d_Mo_init_253 : decode b_Mo_init 253 = .ok (.bipush 60, 2) := by decide +kernel
theorem d_Mo_init_255 : decode b_Mo_init 255 = .ok (.newarray .int, 2) := by decide +kernel
theorem d_Mo_init_257 : decode b_Mo_init 257 = .ok (.putfield 109, 3) := by decide +kernel
theorem d_Mo_init_260 : decode b_Mo_init 260 = .ok (.aload_n 0, 1) := by decide +kernel
theorem d_Mo_init_261 : decode b_Mo_init 261 = .ok (.bipush 60, 2) := by decide +kernel
theorem d_Mo_init_263 : decode b_Mo_init 263 = .ok (.newarray .int, 2) := by decide +kernel
theorem d_Mo_init_265 : decode b_Mo_init 265 = .ok (.putfield 112, 3) := by decide +kernel
theorem d_Mo_init_268 : decode b_Mo_init 268 = .ok (.aload_n 0, 1) := by decide +kernel
theorem d_Mo_init_269 : decode b_Mo_init 269 = .ok (.bipush 60, 2) := by decide +kernel
theorem d_Mo_init_271 : decode b_Mo_init 271 = .ok (.newarray .int, 2) := by decide +kernel
theorem d_Mo_init_273 : decode b_Mo_init 273 = .ok (.putfield 115, 3) := by decide +kernel
theorem d_Mo_init_276 : decode b_Mo_init 276 = .ok (.aload_n 0, 1) := by decide +kernel
theorem d_Mo_init_277 : decode b_Mo_init 277 = .ok (.bipush 12, 2) := by decide +kernel
theorem d_Mo_init_279 : decode b_Mo_init 279 = .ok (.newarray .int, 2) := by decide +kernel
theorem d_Mo_init_281 : decode b_Mo_init 281 = .ok (.putfield 118, 3) := by decide +kernel
theorem d_Mo_init_284 : decode b_Mo_init 284 = .ok (.aload_n 0, 1) := by decide +kernel
theorem d_Mo_init_285 : decode b_Mo_init 285 = .ok (.bipush 81, 2) := by decide +kernel
theorem d_Mo_init_287 : decode b_Mo_init 287 = .ok (.newarray .int, 2) := by decide +kernel
theorem d_Mo_init_289 : decode b_Mo_init 289 = .ok (.putfield 121, 3) := by decide +kernel
theorem d_Mo_init_292 : decode b_Mo_init 292 = .ok (.aload_n 0, 1) := by decide +kernel
theorem d_Mo_init_293 : decode b_Mo_init 293 = .ok (.sipush 144, 3) := by decide +kernel
theorem d_Mo_init_296 : decode b_Mo_init 296 = .ok (.newarray .int, 2) := by decide +kernel
theorem d_Mo_init_298 : decode b_Mo_init 298 = .ok (.putfield 124, 3) := by decide +kernel
theorem d_Mo_init_301 : decode b_Mo_init 301 = .ok (.aload_n 0, 1) := by decide +kernel
theorem d_Mo_init_302 : decode b_Mo_init 302 = .ok (.bipush 8, 2) := by decide +kernel
theorem d_Mo_init_304 : decode b_Mo_init 304 = .ok (.newarray .int, 2) := by decide +kernel
theorem d_Mo_init_306 : decode b_Mo_init 306 = .ok (.putfield 127, 3) := by decide +kernel
theorem d_Mo_init_309 : decode b_Mo_init 309 = .ok (.aload_n 0, 1) := by decide +kernel
theorem d_Mo_init_310 : decode b_Mo_init 310 = .ok (.bipush 12, 2) := by decide +kernel
theorem d_Mo_init_312 : decode b_Mo_init 312 = .ok (.newarray .int, 2) := by decide +kernel
theorem d_Mo_init_314 : decode b_Mo_init 314 = .ok (.putfield 130, 3) := by decide +kernel
theorem d_Mo_init_317 : decode b_Mo_init 317 = .ok (.aload_n 0, 1) := by decide +kernel
theorem d_Mo_init_318 : decode b_Mo_init 318 = .ok (.bipush 12, 2) := by decide +kernel
theorem d_Mo_init_320 : decode b_Mo_init 320 = .ok (.newarray .int, 2) := by decide +kernel
theorem d_Mo_init_322 : decode b_Mo_init 322 = .ok (.putfield 133, 3) := by decide +kernel
theorem d_Mo_init_325 : decode b_Mo_init 325 = .ok (.aload_n 0, 1) := by decide +kernel
theorem d_Mo_init_326 : decode b_Mo_init 326 = .ok (.bipush 12, 2) := by decide +kernel
theorem d_Mo_init_328 : decode b_Mo_init 328 = .ok (.newarray .int, 2) := by decide +kernel
theorem d_Mo_init_330 : decode b_Mo_init 330 = .ok (.putfield 136, 3) := by decide +kernel
theorem d_Mo_init_333 : decode b_Mo_init 333 = .ok (.aload_n 0, 1) := by decide +kernel
theorem d_Mo_init_334 : decode b_Mo_init 334 = .ok (.bipush 12, 2) := by decide +kernel
theorem d_Mo_init_336 : decode b_Mo_init 336 = .ok (.newarray .int, 2) := by decide +kernel
theorem d_Mo_init_338 : decode b_Mo_init 338 = .ok (.putfield 139, 3) := by decide +kernel
theorem d_Mo_init_341 : decode b_Mo_init 341 = .ok (.return_, 1) := by decide +kernel
theorem d_Str_charAt_0 : decode b_Str_charAt 0 = .ok (.aload_n 0, 1) := by decide +kernel
theorem d_Str_charAt_1 : decode b_Str_charAt 1 = .ok (.invokevirtual 492, 3) := by decide +kernel
theorem d_Str_charAt_4 : decode b_Str_charAt 4 = .ok (.ifCond .eq 12, 3) := by decide +kernel
theorem d_Str_charAt_7 : decode b_Str_charAt 7 = .ok (.aload_n 0, 1) := by decide +kernel
theorem d_Str_charAt_8 : decode b_Str_charAt 8 = .ok (.getfield 9, 3) := by decide +kernel
theorem d_Str_charAt_11 : decode b_Str_charAt 11 = .ok (.iload_n 1, 1) := by decide +kernel
theorem d_Str_charAt_12 : decode b_Str_charAt 12 = .ok (.invokestatic 495, 3) := by decide +kernel
theorem d_Str_charAt_15 : decode b_Str_charAt 15 = .ok (.ireturn, 1) := by decide +kernel
theorem d_Str_checkIndex_0 : decode b_Str_checkIndex 0 = .ok (.iload_n 0, 1) := by decide +kernel
theorem d_Str_checkIndex_1 : decode b_Str_checkIndex 1 = .ok (.iload_n 1, 1) := by decide +kernel
theorem d_Str_checkIndex_2 : decode b_Str_checkIndex 2 = .ok (.getstatic 1053, 3) := by decide +kernel
theorem d_Str_checkIndex_5 : decode b_Str_checkIndex 5 = .ok (.invokestatic 1059, 3) := by decide +kernel
theorem d_Str_checkIndex_8 : decode b_Str_checkIndex 8 = .ok (.pop, 1) := by decide +kernel
theorem d_Str_checkIndex_9 : decode b_Str_checkIndex 9 = .ok (.return_, 1) := by decide +kernel
theorem d_Str_coder_0 : decode b_Str_coder 0 = .ok (.getstatic 38, 3) := by decide +kernel
theorem d_Str_coder_3 : decode b_Str_coder 3 = .ok (.ifCond .eq 10, 3) := by decide +kernel
theorem d_Str_coder_6 : decode b_Str_coder 6 = .ok (.aload_n 0, 1) := by decide +kernel
theorem d_Str_coder_7 : decode b_Str_coder 7 = .ok (.getfield 15, 3) := by decide +kernel
theorem d_Str_coder_10 : decode b_Str_coder 10 = .ok (.goto 4, 3) := by decide +kernel
theorem d_Str_coder_14 : decode b_Str_coder 14 = .ok (.ireturn, 1) := by decide +kernel
theorem d_Str_isLatin1_0 : decode b_Str_isLatin1 0 = .ok (.getstatic 38, 3) := by decide +kernel
theorem d_Str_isLatin1_3 : decode b_Str_isLatin1 3 = .ok (.ifCond .eq 14, 3) := by decide +kernel
theorem d_Str_isLatin1_6 : decode b_Str_isLatin1 6 = .ok (.aload_n 0, 1) := by decide +kernel
theorem d_Str_isLatin1_7 : decode b_Str_isLatin1 7 = .ok (.getfield 15, 3) := by decide +kernel
theorem d_Str_isLatin1_10 : decode b_Str_isLatin1 10 = .ok (.ifCond .ne 7, 3) := by decide +kernel
theorem d_Str_isLatin1_13 : decode b_Str_isLatin1 13 = .ok (.iconst 1, 1) := by decide +kernel
theorem d_Str_isLatin1_14 : decode b_Str_isLatin1 14 = .ok (.goto 4, 3) := by decide +kernel
theorem d_Str_isLatin1_18 : decode b_Str_isLatin1 18 = .ok (.ireturn, 1) := by decide +kernel
theorem d_Str_length_0 : decode b_Str_length 0 = .ok (.aload_n 0, 1) := by decide +kernel
theorem d_Str_length_1 : decode b_Str_length 1 = .ok (.getfield 9, 3) := by decide +kernel
theorem d_Str_length_4 : decode b_Str_length 4 = .ok (.arraylength, 1) := by decide +kernel
theorem d_Str_length_5 : decode b_Str_length 5 = .ok (.aload_n 0, 1) := by decide +kernel
theorem d_Str_length_6 : decode b_Str_length 6 = .ok (.invokevirtual 335, 3) := by decide +kernel
theorem d_Str_length_9 : decode b_Str_length 9 = .ok (.ishr, 1) := by decide +kernel
theorem d_Str_length_10 : decode b_Str_length 10 = .ok (.ireturn, 1) := by decide +kernel
theorem d_Lat_charAt_0 : decode b_Lat_charAt 0 = .ok (.iload_n 1, 1) := by decide +kernel
theorem d_Lat_charAt_1 : decode b_Lat_charAt 1 = .ok (.aload_n 0, 1) := by decide +kernel
theorem d_Lat_charAt_2 : decode b_Lat_charAt 2 = .ok (.arraylength, 1) := by decide +kernel
theorem d_Lat_charAt_3 : decode b_Lat_charAt 3 = .ok (.invokestatic 9, 3) := by decide +kernel
theorem d_Lat_charAt_6 : decode b_Lat_charAt 6 = .ok (.aload_n 0, 1) := by decide +kernel
theorem d_Lat_charAt_7 : decode b_Lat_charAt 7 = .ok (.iload_n 1, 1) := by decide +kernel
theorem d_Lat_charAt_8 : decode b_Lat_charAt 8 = .ok (.baload, 1) := by decide +kernel
theorem d_Lat_charAt_9 : decode b_Lat_charAt 9 = .ok (.sipush 255, 3) := by decide +kernel
theorem d_Lat_charAt_12 : decode b_Lat_charAt 12 = .ok (.iand, 1) := by decide +kernel
theorem d_Lat_charAt_13 : decode b_Lat_charAt 13 = .ok (.i2c, 1) := by decide +kernel
theorem d_Lat_charAt_14 : decode b_Lat_charAt 14 = .ok (.ireturn, 1) := by decide +kernel
theorem d_Pre_checkIndex_0 : decode b_Pre_checkIndex 0 = .ok (.iload_n 0, 1) := by decide +kernel
theorem d_Pre_checkIndex_1 : decode b_Pre_checkIndex 1 = .ok (.ifCond .lt 8, 3) := by decide +kernel
theorem d_Pre_checkIndex_4 : decode b_Pre_checkIndex 4 = .ok (.iload_n 0, 1) := by decide +kernel
theorem d_Pre_checkIndex_5 : decode b_Pre_checkIndex 5 = .ok (.iload_n 1, 1) := by decide +kernel
theorem d_Pre_checkIndex_6 : decode b_Pre_checkIndex 6 = .ok (.if_icmp .lt 10, 3) := by decide +kernel
theorem d_Pre_checkIndex_16 : decode b_Pre_checkIndex 16 = .ok (.iload_n 0, 1) := by decide +kernel
theorem d_Pre_checkIndex_17 : decode b_Pre_checkIndex 17 = .ok (.ireturn, 1) := by decide +kernel
