theorem d_Mo_init_70 : decode b_Mo_init 70 = .ok (.iconst 2, 1) := by decide +kernel
theorem d_Mo_init_71 : decode b_Mo_init 71 = .ok (.newarray .int, 2) := by decide +kernel
theorem d_Mo_init_73 : decode b_Mo_init 73 = .ok (.putfield 39, 3) := by decide +kernel
theorem d_Mo_init_76 : decode b_Mo_init 76 = .ok (.aload_n 0, 1) := by decide +kernel
theorem d_Mo_init_77 : decode b_Mo_init 77 = .ok (.bipush 8, 2) := by decide +kernel
theorem d_Mo_init_79 : decode b_Mo_init 79 = .ok (.newarray .long, 2) := by decide +kernel
theorem d_Mo_init_81 : decode b_Mo_init 81 = .ok (.putfield 42, 3) := by decide +kernel
theorem d_Mo_init_84 : decode b_Mo_init 84 = .ok (.aload_n 0, 1) := by decide +kernel
theorem d_Mo_init_85 : decode b_Mo_init 85 = .ok (.bipush 16, 2) := by decide +kernel
theorem d_Mo_init_87 : decode b_Mo_init 87 = .ok (.newarray .long, 2) := by decide +kernel
theorem d_Mo_init_89 : decode b_Mo_init 89 = .ok (.putfield 46, 3) := by decide +kernel
theorem d_Mo_init_92 : decode b_Mo_init 92 = .ok (.aload_n 0, 1) := by decide +kernel
theorem d_Mo_init_93 : decode b_Mo_init 93 = .ok (.bipush 48, 2) := by decide +kernel
theorem d_Mo_init_95 : decode b_Mo_init 95 = .ok (.newarray .long, 2) := by decide +kernel
theorem d_Mo_init_97 : decode b_Mo_init 97 = .ok (.putfield 49, 3) := by decide +kernel
theorem d_Mo_init_100 : decode b_Mo_init 100 = .ok (.aload_n 0, 1) := by decide +kernel
theorem d_Mo_init_101 : decode b_Mo_init 101 = .ok (.bipush 24, 2) := by decide +kernel
theorem d_Mo_init_103 : decode b_Mo_init 103 = .ok (.newarray .long, 2) := by decide +kernel
theorem d_Mo_init_105 : decode b_Mo_init 105 = .ok (.putfield 52, 3) := by decide +kernel
theorem d_Mo_init_108 : decode b_Mo_init 108 = .ok (.aload_n 0, 1) := by decide +kernel
theorem d_Mo_init_109 : decode b_Mo_init 109 = .ok (.bipush 24, 2) := by decide +kernel
theorem d_Mo_init_111 : decode b_Mo_init 111 = .ok (.newarray .long, 2) := by decide +kernel
theorem d_Mo_init_113 : decode b_Mo_init 113 = .ok (.putfield 55, 3) := by decide +kernel
theorem d_Mo_init_116 : decode b_Mo_init 116 = .ok (.aload_n 0, 1) := by decide +kernel
theorem d_Mo_init_117 : decode b_Mo_init 117 = .ok (.bipush 8, 2) := by decide +kernel
theorem d_Mo_init_119 : decode b_Mo_init 119 = .ok (.newarray .int, 2) := by decide +kernel
theorem d_Mo_init_121 : decode b_Mo_init 121 = .ok (.putfield 58, 3) := by decide +kernel
theorem d_Mo_init_124 : decode b_Mo_init 124 = .ok (.aload_n 0, 1) := by decide +kernel
theorem d_Mo_init_125 : decode b_Mo_init 125 = .ok (.bipush 8, 2) := by decide +kernel
theorem d_Mo_init_127 : decode b_Mo_init 127 = .ok (.newarray .int, 2) := by decide +kernel
theorem d_Mo_init_129 : decode b_Mo_init 129 = .ok (.putfield 61, 3) := by decide +kernel
theorem d_Mo_init_132 : decode b_Mo_init 132 = .ok (.aload_n 0, 1) := by decide +kernel
theorem d_Mo_init_133 : decode b_Mo_init 133 = .ok (.bipush 8, 2) := by decide +kernel
theorem d_Mo_init_135 : decode b_Mo_init 135 = .ok (.newarray .int, 2) := by decide +kernel
theorem d_Mo_init_137 : decode b_Mo_init 137 = .ok (.putfield 64, 3) := by decide +kernel
theorem d_Mo_init_140 : decode b_Mo_init 140 = .ok (.aload_n 0, 1) := by decide +kernel
theorem d_Mo_init_141 : decode b_Mo_init 141 = .ok (.bipush 8, 2) := by decide +kernel
theorem d_Mo_init_143 : decode b_Mo_init 143 = .ok (.newarray .int, 2) := by decide +kernel
theorem d_Mo_init_145 : decode b_Mo_init 145 = .ok (.putfield 67, 3) := by decide +kernel
theorem d_Mo_init_148 : decode b_Mo_init 148 = .ok (.aload_n 0, 1) := by decide +kernel
theorem d_Mo_init_149 : decode b_Mo_init 149 = .ok (.bipush 8, 2) := by decide +kernel
theorem d_Mo_init_151 : decode b_Mo_init 151 = .ok (.newarray .int, 2) := by decide +kernel
theorem d_Mo_init_153 : decode b_Mo_init 153 = .ok (.putfield 70, 3) := by decide +kernel
theorem d_Mo_init_156 : decode b_Mo_init 156 = .ok (.aload_n 0, 1) := by decide +kernel
theorem d_Mo_init_157 : decode b_Mo_init 157 = .ok (.bipush 48, 2) := by decide +kernel
theorem d_Mo_init_159 : decode b_Mo_init 159 = .ok (.newarray .int, 2) := by decide +kernel
theorem d_Mo_init_161 : decode b_Mo_init 161 = .ok (.putfield 73, 3) := by decide +kernel
theorem d_Mo_init_164 : decode b_Mo_init 164 = .ok (.aload_n 0, 1) := by decide +kernel
theorem d_Mo_init_165 : decode b_Mo_init 165 = .ok (.bipush 48, 2) := by decide +kernel
theorem d_Mo_init_167 : decode b_Mo_init 167 = .ok (.newarray .int, 2) := by decide +kernel
theorem d_Mo_init_169 : decode b_Mo_init 169 = .ok (.putfield 76, 3) := by decide +kernel
theorem d_Mo_init_172 : decode b_Mo_init 172 = .ok (.aload_n 0, 1) := by decide +kernel
theorem d_Mo_init_173 : decode b_Mo_init 173 = .ok (.bipush 20, 2) := by decide +kernel
theorem d_Mo_init_175 : decode b_Mo_init 175 = .ok (.newarray .int, 2) := by decide +kernel
theorem d_Mo_init_177 : decode b_Mo_init 177 = .ok (.putfield 79, 3) := by decide +kernel
theorem d_Mo_init_180 : decode b_Mo_init 180 = .ok (.aload_n 0, 1) := by decide +kernel
theorem d_Mo_init_181 : decode b_Mo_init 181 = .ok (.bipush 20, 2) := by decide +kernel
theorem d_Mo_init_183 : decode b_Mo_init 183 = .ok (.newarray .int, 2) := by decide +kernel
theorem d_Mo_init_185 : decode b_Mo_init 185 = .ok (.putfield 82, 3) := by decide +kernel
theorem d_Mo_init_188 : decode b_Mo_init 188 = .ok (.aload_n 0, 1) := by decide +kernel
theorem d_Mo_init_189 : decode b_Mo_init 189 = .ok (.bipush 20, 2) := by decide +kernel
theorem d_Mo_init_191 : decode b_Mo_init 191 = .ok (.newarray .int, 2) := by decide +kernel
theorem d_Mo_init_193 : decode b_Mo_init 193 = .ok (.putfield 85, 3) := by decide +kernel
theorem d_Mo_init_196 : decode b_Mo_init 196 = .ok (.aload_n 0, 1) := by decide +kernel
theorem d_Mo_init_197 : decode b_Mo_init 197 = .ok (.bipush 24, 2) := by decide +kernel
theorem d_Mo_init_199 : decode b_Mo_init 199 = .ok (.newarray .int, 2) := by decide +kernel
theorem d_Mo_init_201 : decode b_Mo_init 201 = .ok (.putfield 88, 3) := by decide +kernel
theorem d_Mo_init_204 : decode b_Mo_init 204 = .ok (.aload_n 0, 1) := by decide +kernel
theorem d_Mo_init_205 : decode b_Mo_init 205 = .ok (.bipush 24, 2) := by decide +kernel
theorem d_Mo_init_207 : decode b_Mo_init 207 = .ok (.newarray .int, 2) := by decide +kernel
theorem d_Mo_init_209 : decode b_Mo_init 209 = .ok (.putfield 91, 3) := by decide +kernel
theorem d_Mo_init_212 : decode b_Mo_init 212 = .ok (.aload_n 0, 1) := by decide +kernel
theorem d_Mo_init_213 : decode b_Mo_init 213 = .ok (.bipush 24, 2) := by decide +kernel
theorem d_Mo_init_215 : decode b_Mo_init 215 = .ok (.newarray .int, 2) := by decide +kernel
theorem d_Mo_init_217 : decode b_Mo_init 217 = .ok (.putfield 94, 3) := by decide +kernel
theorem d_Mo_init_220 : decode b_Mo_init 220 = .ok (.aload_n 0, 1) := by decide +kernel
theorem d_Mo_init_221 : decode b_Mo_init 221 = .ok (.bipush 24, 2) := by decide +kernel
theorem d_Mo_init_223 : decode b_Mo_init 223 = .ok (.newarray .int, 2) := by decide +kernel
theorem d_Mo_init_225 : decode b_Mo_init 225 = .ok (.putfield 97, 3) := by decide +kernel
theorem d_Mo_init_228 : decode b_Mo_init 228 = .ok (.aload_n 0, 1) := by decide +kernel
theorem d_Mo_init_229 : decode b_Mo_init 229 = .ok (.bipush 40, 2) := by decide +kernel
theorem d_Mo_init_231 : decode b_Mo_init 231 = .ok (.newarray .int, 2) := by decide +kernel
theorem d_Mo_init_233 : decode b_Mo_init 233 = .ok (.putfield 100, 3) := by decide +kernel
theorem d_Mo_init_236 : decode b_Mo_init 236 = .ok (.aload_n 0, 1) := by decide +kernel
theorem d_Mo_init_237 : decode b_Mo_init 237 = .ok (.bipush 40, 2) := by decide +kernel
theorem d_Mo_init_239 : decode b_Mo_init 239 = .ok (.newarray .int, 2) := by decide +kernel
theorem d_Mo_init_241 : decode b_Mo_init 241 = .ok (.putfield 103, 3) := by decide +kernel
theorem d_Mo_init_244 : decode b_Mo_init 244 = .ok (.aload_n 0, 1) := by decide +kernel
theorem d_Mo_init_245 : decode b_Mo_init 245 = .ok (.bipush 60, 2) := by decide +kernel
theorem d_Mo_init_247 : decode b_Mo_init 247 = .ok (.newarray .int, 2) := by decide +kernel
theorem d_Mo_init_249 : decode b_Mo_init 249 = .ok (.putfield 106, 3) := by decide +kernel
theorem d_Mo_init_252 : decode b_Mo_init 252 = .ok (.aload_n 0, 1) := by decide +kernel
theorem d_Mo_init_253 : decode b_Mo_init 253 = .ok (.bipush 60, 2) := by decide +kernel
theorem d_Mo_init_255 : decode b_Mo_init 255 = .ok (.newarray .int, 2) := by decide +kernel
theorem d_Mo_init_257 : decode b_Mo_init 257 = .ok (.putfield 109, 3) := by decide +kernel
theorem d_Mo_init_260 : decode b_Mo_init 260 = .ok (.aload_n 0, 1) := by decide +kernel
theorem d_Mo_init_261 : decode b_Mo_init 261 = .ok (.bipush 60, 2) := by decide +kernel
theorem d_Mo_init_263 : decode b_Mo_init 263 = .ok (.newarray .int, 2) := by decide +kernel
theorem d_Mo_init_265 : decode b_Mo_init 265 = .ok (.putfield 112, 3) := by decide +kernel
theorem d_Mo_init_268 : decode b_Mo_init 268 = .ok (.aload_n 0, 1) := by decide +kernel
theorem d_Mo_init_269 : decode b_Mo_init 269 = .ok (.bipush 60, 2) := by decide +kernel
theorem d_Mo_init_271 : decode b_Mo_init 271 = .ok (.newarray .int, 2) := by decide +kernel
theorem d_Mo_init_273 : decode b_Mo_init 273 = .ok (.putfield 115, 3) := by decide +kernel
theorem d_Mo_init_276 : decode b_Mo_init 276 = .ok (.aload_n 0, 1) := by decide +kernel
theorem d_Mo_init_277 : decode b_Mo_init 277 = .ok (.bipush 12, 2) := by decide +kernel
theorem d_Mo_init_279 : decode b_Mo_init 279 = .ok (.newarray .int, 2) := by decide +kernel
theorem d_Mo_init_281 : decode b_Mo_init 281 = .ok (.putfield 118, 3) := by decide +kernel
theorem d_Mo_init_284 : decode b_Mo_init 284 = .ok (.aload_n 0, 1) := by decide +kernel
theorem d_Mo_init_285 : decode b_Mo_init 285 = .ok (.bipush 81, 2) := by decide +kernel
theorem d_Mo_init_287 : decode b_Mo_init 287 = .ok (.newarray .int, 2) := by decide +kernel
theorem d_Mo_init_289 : decode b_Mo_init 289 = .ok (.putfield 121, 3) := by decide +kernel
theorem d_Mo_init_292 : decode b_Mo_init 292 = .ok (.aload_n 0, 1) := by decide +kernel
theorem d_Mo_init_293 : decode b_Mo_init 293 = .ok (.sipush 144, 3) := by decide +kernel
theorem d_Mo_init_296 : decode b_Mo_init 296 = .ok (.newarray .int, 2) := by decide +kernel
theorem d_Mo_init_298 : decode b_Mo_init 298 = .ok (.putfield 124, 3) := by decide +kernel
theorem d_Mo_init_301 : decode b_Mo_init 301 = .ok (.aload_n 0, 1) := by decide +kernel
theorem d_Mo_init_302 : decode b_Mo_init 302 = .ok (.bipush 8, 2) := by decide +kernel
theorem d_Mo_init_304 : decode b_Mo_init 304 = .ok (.newarray .int, 2) := by decide +kernel
theorem d_Mo_init_306 : decode b_Mo_init 306 = .ok (.putfield 127, 3) := by decide +kernel
theorem d_Mo_init_309 : decode b_Mo_init 309 = .ok (.aload_n 0, 1) := by decide +kernel
theorem d_Mo_init_310 : decode b_Mo_init 310 = .ok (.bipush 12, 2) := by decide +kernel
theorem d_Mo_init_312 : decode b_Mo_init 312 = .ok (.newarray .int, 2) := by decide +kernel
theorem d_Mo_init_314 : decode b_Mo_init 314 = .ok (.putfield 130, 3) := by decide +kernel
theorem d_Mo_init_317 : decode b_Mo_init 317 = .ok (.aload_n 0, 1) := by decide +kernel
theorem d_Mo_init_318 : decode b_Mo_init 318 = .ok (.bipush 12, 2) := by decide +kernel
theorem d_Mo_init_320 : decode b_Mo_init 320 = .ok (.newarray .int, 2) := by decide +kernel
theorem d_Mo_init_322 : decode b_Mo_init 322 = .ok (.putfield 133, 3) := by decide +kernel
theorem d_Mo_init_325 : decode b_Mo_init 325 = .ok (.aload_n 0, 1) := by decide +kernel
theorem d_Mo_init_326 : decode b_Mo_init 326 = .ok (.bipush 12, 2) := by decide +kernel
theorem d_Mo_init_328 : decode b_Mo_init 328 = .ok (.newarray .int, 2) := by decide +kernel
theorem d_Mo_init_330 : decode b_Mo_init 330 = .ok (.putfield 136, 3) := by decide +kernel
theorem d_Mo_init_333 : decode b_Mo_init 333 = .ok (.aload_n 0, 1) := by decide +kernel
theorem d_Mo_init_334 : decode b_Mo_init 334 = .ok (.bipush 12, 2) := by decide +kernel
theorem d_Mo_init_336 : decode b_Mo_init 336 = .ok (.newarray .int, 2) := by decide +kernel
theorem d_Mo_init_338 : decode b_Mo_init 338 = .ok (.putfield 139, 3) := by decide +kernel
theorem d_Mo_init_341 : decode b_Mo_init 341 = .ok (.return_, 1) := by decide +kernel
theorem d_Mo_about_0 : decode b_Mo_about 0 = .ok (.iload_n 1, 1) := by decide +kernel
theorem d_Mo_about_1 : decode b_Mo_about 1 = .ok (.tableswitch 126 0 8 #[51, 61, 71, 81, 91, 101, 111, 116, 121], 51) := by decide +kernel
theorem d_Mo_about_52 : decode b_Mo_about 52 = .ok (.aload_n 0, 1) := by decide +kernel
theorem d_Mo_about_53 : decode b_Mo_about 53 = .ok (.getfield 20, 3) := by decide +kernel
theorem d_Mo_about_56 : decode b_Mo_about 56 = .ok (.aload_n 0, 1) := by decide +kernel
theorem d_Mo_about_57 : decode b_Mo_about 57 = .ok (.getfield 240, 3) := by decide +kernel
theorem d_Mo_about_60 : decode b_Mo_about 60 = .ok (.iaload, 1) := by decide +kernel
theorem d_Mo_about_61 : decode b_Mo_about 61 = .ok (.ireturn, 1) := by decide +kernel
theorem d_Mo_about_62 : decode b_Mo_about 62 = .ok (.aload_n 0, 1) := by decide +kernel
theorem d_Mo_about_63 : decode b_Mo_about 63 = .ok (.getfield 24, 3) := by decide +kernel
theorem d_Mo_about_66 : decode b_Mo_about 66 = .ok (.aload_n 0, 1) := by decide +kernel
theorem d_Mo_about_67 : decode b_Mo_about 67 = .ok (.getfield 240, 3) := by decide +kernel
theorem d_Mo_about_70 : decode b_Mo_about 70 = .ok (.iaload, 1) := by decide +kernel
theorem d_Mo_about_71 : decode b_Mo_about 71 = .ok (.ireturn, 1) := by decide +kernel
theorem d_Mo_about_72 : decode b_Mo_about 72 = .ok (.aload_n 0, 1) := by decide +kernel
theorem d_Mo_about_73 : decode b_Mo_about 73 = .ok (.getfield 27, 3) := by decide +kernel
theorem d_Mo_about_76 : decode b_Mo_about 76 = .ok (.aload_n 0, 1) := by decide +kernel
theorem d_Mo_about_77 : decode b_Mo_about 77 = .ok (.getfield 240, 3) := by decide +kernel
theorem d_Mo_about_80 : decode b_Mo_about 80 = .ok (.iaload, 1) := by decide +kernel
theorem d_Mo_about_81 : decode b_Mo_about 81 = .ok (.ireturn, 1) := by decide +kernel
theorem d_Mo_about_82 : decode b_Mo_about 82 = .ok (.aload_n 0, 1) := by decide +kernel
theorem d_Mo_about_83 : decode b_Mo_about 83 = .ok (.getfield 30, 3) := by decide +kernel
theorem d_Mo_about_86 : decode b_Mo_about 86 = .ok (.aload_n 0, 1) := by decide +kernel
theorem d_Mo_about_87 : decode b_Mo_about 87 = .ok (.getfield 240, 3) := by decide +kernel
theorem d_Mo_about_90 : decode b_Mo_about 90 = .ok (.iaload, 1) := by decide +kernel
theorem d_Mo_about_91 : decode b_Mo_about 91 = .ok (.ireturn, 1) := by decide +kernel
theorem d_Mo_about_92 : decode b_Mo_about 92 = .ok (.aload_n 0, 1) := by decide +kernel
theorem d_Mo_about_93 : decode b_Mo_about 93 = .ok (.getfield 33, 3) := by decide +kernel
theorem d_Mo_about_96 : decode b_Mo_about 96 = .ok (.aload_n 0, 1) := by decide +kernel
theorem d_Mo_about_97 : decode b_Mo_about 97 = .ok (.getfield 240, 3) := by decide +kernel
theorem d_Mo_about_100 : decode b_Mo_about 100 = .ok (.iaload, 1) := by decide +kernel
theorem d_Mo_about_101 : decode b_Mo_about 101 = .ok (.ireturn, 1) := by decide +kernel
theorem d_Mo_about_102 : decode b_Mo_about 102 = .ok (.aload_n 0, 1) := by decide +kernel
theorem d_Mo_about_103 : decode b_Mo_about 103 = .ok (.getfield 36, 3) := by decide +kernel
theorem d_Mo_about_106 : decode b_Mo_about 106 = .ok (.aload_n 0, 1) := by decide +kernel
theorem d_Mo_about_107 : decode b_Mo_about 107 = .ok (.getfield 240, 3) := by decide +kernel
theorem d_Mo_about_110 : decode b_Mo_about 110 = .ok (.iaload, 1) := by decide +kernel
theorem d_Mo_about_111 : decode b_Mo_about 111 = .ok (.ireturn, 1) := by decide +kernel
theorem d_Mo_about_112 : decode b_Mo_about 112 = .ok (.aload_n 0, 1) := by decide +kernel
theorem d_Mo_about_113 : decode b_Mo_about 113 = .ok (.getfield 249, 3) := by decide +kernel
theorem d_Mo_about_116 : decode b_Mo_about 116 = .ok (.ireturn, 1) := by decide +kernel
theorem d_Mo_about_117 : decode b_Mo_about 117 = .ok (.aload_n 0, 1) := by decide +kernel
theorem d_Mo_about_118 : decode b_Mo_about 118 = .ok (.getfield 318, 3) := by decide +kernel
theorem d_Mo_about_121 : decode b_Mo_about 121 = .ok (.ireturn, 1) := by decide +kernel
theorem d_Mo_about_122 : decode b_Mo_about 122 = .ok (.aload_n 0, 1) := by decide +kernel
theorem d_Mo_about_123 : decode b_Mo_about 123 = .ok (.getfield 237, 3) := by decide +kernel
theorem d_Mo_about_126 : decode b_Mo_about 126 = .ok (.ireturn, 1) := by decide +kernel
theorem d_Mo_about_127 : decode b_Mo_about 127 = .ok (.iconst (-1), 1) := by decide +kernel
theorem d_Mo_about_128 : decode b_Mo_about 128 = .ok (.ireturn, 1) := by decide +kernel
theorem d_Mo_alive_0 : decode b_Mo_alive 0 = .ok (.aload_n 0, 1) := by decide +kernel
theorem d_Mo_alive_1 : decode b_Mo_alive 1 = .ok (.iload_n 1, 1) := by decide +kernel
theorem d_Mo_alive_2 : decode b_Mo_alive 2 = .ok (.invokevirtual 309, 3) := by decide +kernel
theorem d_Mo_alive_5 : decode b_Mo_alive 5 = .ok (.ifCond .eq 10, 3) := by decide +kernel
theorem d_Mo_alive_15 : decode b_Mo_alive 15 = .ok (.iconst (-1), 1) := by decide +kernel
theorem d_Mo_alive_16 : decode b_Mo_alive 16 = .ok (.ireturn, 1) := by decide +kernel
theorem d_Mo_apart_0 : decode b_Mo_apart 0 = .ok (.aload_n 0, 1) := by decide +kernel
theorem d_Mo_apart_1 : decode b_Mo_apart 1 = .ok (.iload_n 1, 1) := by decide +kernel
theorem d_Mo_apart_2 : decode b_Mo_apart 2 = .ok (.invokevirtual 339, 3) := by decide +kernel
theorem d_Mo_apart_5 : decode b_Mo_apart 5 = .ok (.ifCond .eq 28, 3) := by decide +kernel
theorem d_Mo_apart_33 : decode b_Mo_apart 33 = .ok (.iconst (-1), 1) := by decide +kernel
theorem d_Mo_apart_34 : decode b_Mo_apart 34 = .ok (.ireturn, 1) := by decide +kernel
theorem d_Mo_changes_0 : decode b_Mo_changes 0 = .ok (.aload_n 0, 1) := by decide +kernel
theorem d_Mo_changes_1 : decode b_Mo_changes 1 = .ok (.iload_n 1, 1) := by decide +kernel
theorem d_Mo_changes_2 : decode b_Mo_changes 2 = .ok (.invokevirtual 402, 3) := by decide +kernel
theorem d_Mo_changes_5 : decode b_Mo_changes 5 = .ok (.ifCond .eq 20, 3) := by decide +kernel
theorem d_Mo_changes_25 : decode b_Mo_changes 25 = .ok (.iconst (-1), 1) := by decide +kernel
theorem d_Mo_changes_26 : decode b_Mo_changes 26 = .ok (.ireturn, 1) := by decide +kernel
theorem d_Mo_child_0 : decode b_Mo_child 0 = .ok (.aload_n 0, 1) := by decide +kernel
theorem d_Mo_child_1 : decode b_Mo_child 1 = .ok (.iload_n 1, 1) := by decide +kernel
theorem d_Mo_child_2 : decode b_Mo_child 2 = .ok (.invokevirtual 402, 3) := by decide +kernel
theorem d_Mo_child_5 : decode b_Mo_child 5 = .ok (.ifCond .eq 10, 3) := by decide +kernel
theorem d_Mo_child_15 : decode b_Mo_child 15 = .ok (.iconst (-1), 1) := by decide +kernel
theorem d_Mo_child_16 : decode b_Mo_child 16 = .ok (.ireturn, 1) := by decide +kernel
theorem d_Mo_cost_0 : decode b_Mo_cost 0 = .ok (.aload_n 0, 1) := by decide +kernel
theorem d_Mo_cost_1 : decode b_Mo_cost 1 = .ok (.iload_n 3, 1) := by decide +kernel
theorem d_Mo_cost_2 : decode b_Mo_cost 2 = .ok (.invokevirtual 388, 3) := by decide +kernel
theorem d_Mo_cost_5 : decode b_Mo_cost 5 = .ok (.ifCond .eq 16, 3) := by decide +kernel
theorem d_Mo_cost_21 : decode b_Mo_cost 21 = .ok (.iconst (-1), 1) := by decide +kernel
theorem d_Mo_cost_22 : decode b_Mo_cost 22 = .ok (.ireturn, 1) := by decide +kernel
theorem d_Mo_die_0 : decode b_Mo_die 0 = .ok (.aload_n 0, 1) := by decide +kernel
theorem d_Mo_die_1 : decode b_Mo_die 1 = .ok (.iload_n 1, 1) := by decide +kernel
theorem d_Mo_die_2 : decode b_Mo_die 2 = .ok (.invokevirtual 309, 3) := by decide +kernel
theorem d_Mo_die_5 : decode b_Mo_die 5 = .ok (.ifCond .eq 28, 3) := by decide +kernel
theorem d_Mo_die_33 : decode b_Mo_die 33 = .ok (.iconst (-1), 1) := by decide +kernel
theorem d_Mo_die_34 : decode b_Mo_die 34 = .ok (.ireturn, 1) := by decide +kernel
theorem d_Mo_end_0 : decode b_Mo_end 0 = .ok (.iload_n 1, 1) := by decide +kernel
theorem d_Mo_end_1 : decode b_Mo_end 1 = .ok (.ifCond .lt 11, 3) := by decide +kernel
theorem d_Mo_end_4 : decode b_Mo_end 4 = .ok (.iload_n 1, 1) := by decide +kernel
theorem d_Mo_end_5 : decode b_Mo_end 5 = .ok (.aload_n 0, 1) := by decide +kernel
theorem d_Mo_end_6 : decode b_Mo_end 6 = .ok (.getfield 237, 3) := by decide +kernel
theorem d_Mo_end_9 : decode b_Mo_end 9 = .ok (.if_icmp .le 5, 3) := by decide +kernel
theorem d_Mo_end_12 : decode b_Mo_end 12 = .ok (.iconst (-1), 1) := by decide +kernel
theorem d_Mo_end_13 : decode b_Mo_end 13 = .ok (.ireturn, 1) := by decide +kernel
theorem d_Mo_end_14 : decode b_Mo_end 14 = .ok (.aload_n 0, 1) := by decide +kernel
theorem d_Mo_end_15 : decode b_Mo_end 15 = .ok (.iload_n 1, 1) := by decide +kernel
theorem d_Mo_end_16 : decode b_Mo_end 16 = .ok (.putfield 237, 3) := by decide +kernel
theorem d_Mo_end_19 : decode b_Mo_end 19 = .ok (.iload_n 1, 1) := by decide +kernel
theorem d_Mo_end_20 : decode b_Mo_end 20 = .ok (.ireturn, 1) := by decide +kernel
theorem d_Mo_fault_0 : decode b_Mo_fault 0 = .ok (.iload_n 1, 1) := by decide +kernel
theorem d_Mo_fault_1 : decode b_Mo_fault 1 = .ok (.ifCond .ne 10, 3) := by decide +kernel
theorem d_Mo_fault_4 : decode b_Mo_fault 4 = .ok (.aload_n 0, 1) := by decide +kernel
theorem d_Mo_fault_5 : decode b_Mo_fault 5 = .ok (.getfield 145, 3) := by decide +kernel
theorem d_Mo_fault_8 : decode b_Mo_fault 8 = .ok (.goto 16, 3) := by decide +kernel
theorem d_Mo_fault_11 : decode b_Mo_fault 11 = .ok (.iload_n 1, 1) := by decide +kernel
theorem d_Mo_fault_12 : decode b_Mo_fault 12 = .ok (.iconst 1, 1) := by decide +kernel
theorem d_Mo_fault_13 : decode b_Mo_fault 13 = .ok (.if_icmp .ne 10, 3) := by decide +kernel
theorem d_Mo_fault_16 : decode b_Mo_fault 16 = .ok (.aload_n 0, 1) := by decide +kernel
theorem d_Mo_fault_17 : decode b_Mo_fault 17 = .ok (.getfield 16, 3) := by decide +kernel
theorem d_Mo_fault_20 : decode b_Mo_fault 20 = .ok (.goto 4, 3) := by decide +kernel
theorem d_Mo_fault_23 : decode b_Mo_fault 23 = .ok (.iconst (-1), 1) := by decide +kernel
theorem d_Mo_fault_24 : decode b_Mo_fault 24 = .ok (.ireturn, 1) := by decide +kernel
theorem d_Mo_feed_0 : decode b_Mo_feed 0 = .ok (.aload_n 0, 1) := by decide +kernel
theorem d_Mo_feed_1 : decode b_Mo_feed 1 = .ok (.getfield 237, 3) := by decide +kernel
theorem d_Mo_feed_4 : decode b_Mo_feed 4 = .ok (.bipush 20, 2) := by decide +kernel
theorem d_Mo_feed_6 : decode b_Mo_feed 6 = .ok (.iadd, 1) := by decide +kernel
theorem d_Mo_feed_7 : decode b_Mo_feed 7 = .ok (.sipush 1600, 3) := by decide +kernel
theorem d_Mo_feed_10 : decode b_Mo_feed 10 = .ok (.if_icmp .le 5, 3) := by decide +kernel
theorem d_Mo_feed_15 : decode b_Mo_feed 15 = .ok (.iconst 0, 1) := by decide +kernel
theorem d_Mo_feed_16 : decode b_Mo_feed 16 = .ok (.istore 6, 2) := by decide +kernel
theorem d_Mo_feed_18 : decode b_Mo_feed 18 = .ok (.iload 6, 2) := by decide +kernel
theorem d_Mo_feed_20 : decode b_Mo_feed 20 = .ok (.bipush 20, 2) := by decide +kernel
theorem d_Mo_feed_22 : decode b_Mo_feed 22 = .ok (.if_icmp .ge 83, 3) := by decide +kernel
theorem d_Mo_feed_25 : decode b_Mo_feed 25 = .ok (.iload 6, 2) := by decide +kernel
theorem d_Mo_feed_27 : decode b_Mo_feed 27 = .ok (.iconst 4, 1) := by decide +kernel
theorem d_Mo_feed_28 : decode b_Mo_feed 28 = .ok (.if_icmp .ge 7, 3) := by decide +kernel
theorem d_Mo_feed_31 : decode b_Mo_feed 31 = .ok (.iload_n 1, 1) := by decide +kernel
theorem d_Mo_feed_32 : decode b_Mo_feed 32 = .ok (.goto 39, 3) := by decide +kernel
theorem d_Mo_feed_35 : decode b_Mo_feed 35 = .ok (.iload 6, 2) := by decide +kernel
theorem d_Mo_feed_37 : decode b_Mo_feed 37 = .ok (.bipush 8, 2) := by decide +kernel
theorem d_Mo_feed_39 : decode b_Mo_feed 39 = .ok (.if_icmp .ge 7, 3) := by decide +kernel
theorem d_Mo_feed_42 : decode b_Mo_feed 42 = .ok (.iload_n 2, 1) := by decide +kernel
theorem d_Mo_feed_43 : decode b_Mo_feed 43 = .ok (.goto 28, 3) := by decide +kernel
theorem d_Mo_feed_46 : decode b_Mo_feed 46 = .ok (.iload 6, 2) := by decide +kernel
theorem d_Mo_feed_48 : decode b_Mo_feed 48 = .ok (.bipush 12, 2) := by decide +kernel
theorem d_Mo_feed_50 : decode b_Mo_feed 50 = .ok (.if_icmp .ge 7, 3) := by decide +kernel
theorem d_Mo_feed_53 : decode b_Mo_feed 53 = .ok (.iload_n 3, 1) := by decide +kernel
theorem d_Mo_feed_54 : decode b_Mo_feed 54 = .ok (.goto 17, 3) := by decide +kernel
theorem d_Mo_feed_57 : decode b_Mo_feed 57 = .ok (.iload 6, 2) := by decide +kernel
theorem d_Mo_feed_59 : decode b_Mo_feed 59 = .ok (.bipush 16, 2) := by decide +kernel
theorem d_Mo_feed_61 : decode b_Mo_feed 61 = .ok (.if_icmp .ge 8, 3) := by decide +kernel
theorem d_Mo_feed_64 : decode b_Mo_feed 64 = .ok (.iload 4, 2) := by decide +kernel
theorem d_Mo_feed_66 : decode b_Mo_feed 66 = .ok (.goto 5, 3) := by decide +kernel
theorem d_Mo_feed_69 : decode b_Mo_feed 69 = .ok (.iload 5, 2) := by decide +kernel
theorem d_Mo_feed_71 : decode b_Mo_feed 71 = .ok (.istore 7, 2) := by decide +kernel
theorem d_Mo_feed_73 : decode b_Mo_feed 73 = .ok (.aload_n 0, 1) := by decide +kernel
theorem d_Mo_feed_74 : decode b_Mo_feed 74 = .ok (.getfield 7, 3) := by decide +kernel
theorem d_Mo_feed_77 : decode b_Mo_feed 77 = .ok (.aload_n 0, 1) := by decide +kernel
theorem d_Mo_feed_78 : decode b_Mo_feed 78 = .ok (.getfield 237, 3) := by decide +kernel
theorem d_Mo_feed_81 : decode b_Mo_feed 81 = .ok (.iload 6, 2) := by decide +kernel
theorem d_Mo_feed_83 : decode b_Mo_feed 83 = .ok (.iadd, 1) := by decide +kernel
theorem d_Mo_feed_84 : decode b_Mo_feed 84 = .ok (.iload 7, 2) := by decide +kernel
theorem d_Mo_feed_86 : decode b_Mo_feed 86 = .ok (.bipush 24, 2) := by decide +kernel
theorem d_Mo_feed_88 : decode b_Mo_feed 88 = .ok (.bipush 8, 2) := by decide +kernel
theorem d_Mo_feed_90 : decode b_Mo_feed 90 = .ok (.iload 6, 2) := by decide +kernel
theorem d_Mo_feed_92 : decode b_Mo_feed 92 = .ok (.iconst 3, 1) := by decide +kernel
theorem d_Mo_feed_93 : decode b_Mo_feed 93 = .ok (.iand, 1) := by decide +kernel
theorem d_Mo_feed_94 : decode b_Mo_feed 94 = .ok (.imul, 1) := by decide +kernel
theorem d_Mo_feed_95 : decode b_Mo_feed 95 = .ok (.isub, 1) := by decide +kernel
theorem d_Mo_feed_96 : decode b_Mo_feed 96 = .ok (.ishr, 1) := by decide +kernel
theorem d_Mo_feed_97 : decode b_Mo_feed 97 = .ok (.i2b, 1) := by decide +kernel
theorem d_Mo_feed_98 : decode b_Mo_feed 98 = .ok (.bastore, 1) := by decide +kernel
theorem d_Mo_feed_99 : decode b_Mo_feed 99 = .ok (.iinc 6 1, 3) := by decide +kernel
theorem d_Mo_feed_102 : decode b_Mo_feed 102 = .ok (.goto (-84), 3) := by decide +kernel
theorem d_Mo_feed_105 : decode b_Mo_feed 105 = .ok (.aload_n 0, 1) := by decide +kernel
theorem d_Mo_feed_106 : decode b_Mo_feed 106 = .ok (.dup, 1) := by decide +kernel
theorem d_Mo_feed_107 : decode b_Mo_feed 107 = .ok (.getfield 237, 3) := by decide +kernel
theorem d_Mo_feed_110 : decode b_Mo_feed 110 = .ok (.bipush 20, 2) := by decide +kernel
theorem d_Mo_feed_112 : decode b_Mo_feed 112 = .ok (.iadd, 1) := by decide +kernel
theorem d_Mo_feed_113 : decode b_Mo_feed 113 = .ok (.putfield 237, 3) := by decide +kernel
theorem d_Mo_feed_116 : decode b_Mo_feed 116 = .ok (.aload_n 0, 1) := by decide +kernel
theorem d_Mo_feed_117 : decode b_Mo_feed 117 = .ok (.getfield 237, 3) := by decide +kernel
theorem d_Mo_feed_120 : decode b_Mo_feed 120 = .ok (.ireturn, 1) := by decide +kernel
theorem d_Mo_goOn_0 : decode b_Mo_goOn 0 = .ok (.aload_n 0, 1) := by decide +kernel
theorem d_Mo_goOn_1 : decode b_Mo_goOn 1 = .ok (.aload_n 0, 1) := by decide +kernel
theorem d_Mo_goOn_2 : decode b_Mo_goOn 2 = .ok (.getfield 192, 3) := by decide +kernel
theorem d_Mo_goOn_5 : decode b_Mo_goOn 5 = .ok (.putfield 195, 3) := by decide +kernel
theorem d_Mo_goOn_8 : decode b_Mo_goOn 8 = .ok (.aload_n 0, 1) := by decide +kernel
theorem d_Mo_goOn_9 : decode b_Mo_goOn 9 = .ok (.getfield 195, 3) := by decide +kernel
theorem d_Mo_goOn_12 : decode b_Mo_goOn 12 = .ok (.aload_n 0, 1) := by decide +kernel
theorem d_Mo_goOn_13 : decode b_Mo_goOn 13 = .ok (.getfield 142, 3) := by decide +kernel
theorem d_Mo_goOn_16 : decode b_Mo_goOn 16 = .ok (.if_icmp .ge 42, 3) := by decide +kernel
theorem d_Mo_goOn_58 : decode b_Mo_goOn 58 = .ok (.aload_n 0, 1) := by decide +kernel
theorem d_Mo_goOn_59 : decode b_Mo_goOn 59 = .ok (.aload_n 0, 1) := by decide +kernel
theorem d_Mo_goOn_60 : decode b_Mo_goOn 60 = .ok (.getfield 195, 3) := by decide +kernel
theorem d_Mo_goOn_63 : decode b_Mo_goOn 63 = .ok (.invokevirtual 198, 3) := by decide +kernel
theorem d_Mo_goOn_66 : decode b_Mo_goOn 66 = .ok (.istore_n 1, 1) := by decide +kernel
theorem d_Mo_goOn_67 : decode b_Mo_goOn 67 = .ok (.aload_n 0, 1) := by decide +kernel
theorem d_Mo_goOn_68 : decode b_Mo_goOn 68 = .ok (.aload_n 0, 1) := by decide +kernel
theorem d_Mo_goOn_69 : decode b_Mo_goOn 69 = .ok (.getfield 195, 3) := by decide +kernel
theorem d_Mo_goOn_72 : decode b_Mo_goOn 72 = .ok (.iconst 1, 1) := by decide +kernel
theorem d_Mo_goOn_73 : decode b_Mo_goOn 73 = .ok (.iadd, 1) := by decide +kernel
theorem d_Mo_goOn_74 : decode b_Mo_goOn 74 = .ok (.putfield 192, 3) := by decide +kernel
theorem d_Mo_goOn_77 : decode b_Mo_goOn 77 = .ok (.aload_n 0, 1) := by decide +kernel
theorem d_Mo_goOn_78 : decode b_Mo_goOn 78 = .ok (.getfield 195, 3) := by decide +kernel
theorem d_Mo_goOn_81 : decode b_Mo_goOn 81 = .ok (.aload_n 0, 1) := by decide +kernel
theorem d_Mo_goOn_82 : decode b_Mo_goOn 82 = .ok (.getfield 142, 3) := by decide +kernel
theorem d_Mo_goOn_85 : decode b_Mo_goOn 85 = .ok (.if_icmp .lt 27, 3) := by decide +kernel
theorem d_Mo_goOn_88 : decode b_Mo_goOn 88 = .ok (.aload_n 0, 1) := by decide +kernel
theorem d_Mo_goOn_89 : decode b_Mo_goOn 89 = .ok (.iconst 0, 1) := by decide +kernel
theorem d_Mo_goOn_90 : decode b_Mo_goOn 90 = .ok (.putfield 202, 3) := by decide +kernel
theorem d_Mo_goOn_93 : decode b_Mo_goOn 93 = .ok (.aload_n 0, 1) := by decide +kernel
theorem d_Mo_goOn_94 : decode b_Mo_goOn 94 = .ok (.aload_n 0, 1) := by decide +kernel
theorem d_Mo_goOn_95 : decode b_Mo_goOn 95 = .ok (.getfield 142, 3) := by decide +kernel
theorem d_Mo_goOn_98 : decode b_Mo_goOn 98 = .ok (.putfield 195, 3) := by decide +kernel
theorem d_Mo_goOn_101 : decode b_Mo_goOn 101 = .ok (.aload_n 0, 1) := by decide +kernel
theorem d_Mo_goOn_102 : decode b_Mo_goOn 102 = .ok (.aload_n 0, 1) := by decide +kernel
theorem d_Mo_goOn_103 : decode b_Mo_goOn 103 = .ok (.getfield 142, 3) := by decide +kernel
theorem d_Mo_goOn_106 : decode b_Mo_goOn 106 = .ok (.putfield 192, 3) := by decide +kernel
theorem d_Mo_goOn_109 : decode b_Mo_goOn 109 = .ok (.goto 267, 3) := by decide +kernel
theorem d_Mo_goOn_376 : decode b_Mo_goOn 376 = .ok (.return_, 1) := by decide +kernel
theorem d_Mo_grasp_0 : decode b_Mo_grasp 0 = .ok (.aload_n 0, 1) := by decide +kernel
theorem d_Mo_grasp_1 : decode b_Mo_grasp 1 = .ok (.iload_n 1, 1) := by decide +kernel
theorem d_Mo_grasp_2 : decode b_Mo_grasp 2 = .ok (.iload_n 2, 1) := by decide +kernel
theorem d_Mo_grasp_3 : decode b_Mo_grasp 3 = .ok (.iload_n 3, 1) := by decide +kernel
theorem d_Mo_grasp_4 : decode b_Mo_grasp 4 = .ok (.iload 4, 2) := by decide +kernel
theorem d_Mo_grasp_6 : decode b_Mo_grasp 6 = .ok (.invokevirtual 370, 3) := by decide +kernel
theorem d_Mo_grasp_9 : decode b_Mo_grasp 9 = .ok (.ifCond .eq 13, 3) := by decide +kernel
theorem d_Mo_grasp_22 : decode b_Mo_grasp 22 = .ok (.iconst (-1), 1) := by decide +kernel
theorem d_Mo_grasp_23 : decode b_Mo_grasp 23 = .ok (.ireturn, 1) := by decide +kernel
theorem d_Mo_hurt_0 : decode b_Mo_hurt 0 = .ok (.aload_n 0, 1) := by decide +kernel
theorem d_Mo_hurt_1 : decode b_Mo_hurt 1 = .ok (.iload_n 1, 1) := by decide +kernel
theorem d_Mo_hurt_2 : decode b_Mo_hurt 2 = .ok (.invokevirtual 402, 3) := by decide +kernel
theorem d_Mo_hurt_5 : decode b_Mo_hurt 5 = .ok (.ifCond .eq 18, 3) := by decide +kernel
theorem d_Mo_hurt_23 : decode b_Mo_hurt 23 = .ok (.sipush (-1000), 3) := by decide +kernel
theorem d_Mo_hurt_26 : decode b_Mo_hurt 26 = .ok (.ireturn, 1) := by decide +kernel
theorem d_Mo_instead_0 : decode b_Mo_instead 0 = .ok (.aload_n 0, 1) := by decide +kernel
theorem d_Mo_instead_1 : decode b_Mo_instead 1 = .ok (.iload_n 3, 1) := by decide +kernel
theorem d_Mo_instead_2 : decode b_Mo_instead 2 = .ok (.invokevirtual 388, 3) := by decide +kernel
theorem d_Mo_instead_5 : decode b_Mo_instead 5 = .ok (.ifCond .eq 28, 3) := by decide +kernel
theorem d_Mo_instead_33 : decode b_Mo_instead 33 = .ok (.iconst (-1), 1) := by decide +kernel
theorem d_Mo_instead_34 : decode b_Mo_instead 34 = .ok (.ireturn, 1) := by decide +kernel
theorem d_Mo_isGood_0 : decode b_Mo_isGood 0 = .ok (.aload_n 0, 1) := by decide +kernel
theorem d_Mo_isGood_1 : decode b_Mo_isGood 1 = .ok (.getfield 145, 3) := by decide +kernel
theorem d_Mo_isGood_4 : decode b_Mo_isGood 4 = .ok (.ifCond .ne 7, 3) := by decide +kernel
theorem d_Mo_isGood_7 : decode b_Mo_isGood 7 = .ok (.iconst 1, 1) := by decide +kernel
theorem d_Mo_isGood_8 : decode b_Mo_isGood 8 = .ok (.goto 4, 3) := by decide +kernel
theorem d_Mo_isGood_12 : decode b_Mo_isGood 12 = .ok (.ireturn, 1) := by decide +kernel
theorem d_Mo_isIn_0 : decode b_Mo_isIn 0 = .ok (.iload_n 0, 1) := by decide +kernel
theorem d_Mo_isIn_1 : decode b_Mo_isIn 1 = .ok (.iload_n 1, 1) := by decide +kernel
theorem d_Mo_isIn_2 : decode b_Mo_isIn 2 = .ok (.if_icmp .lt 12, 3) := by decide +kernel
theorem d_Mo_isIn_5 : decode b_Mo_isIn 5 = .ok (.iload_n 0, 1) := by decide +kernel
theorem d_Mo_isIn_6 : decode b_Mo_isIn 6 = .ok (.iload_n 2, 1) := by decide +kernel
theorem d_Mo_isIn_7 : decode b_Mo_isIn 7 = .ok (.if_icmp .gt 7, 3) := by decide +kernel
theorem d_Mo_isIn_10 : decode b_Mo_isIn 10 = .ok (.iconst 1, 1) := by decide +kernel
theorem d_Mo_isIn_11 : decode b_Mo_isIn 11 = .ok (.goto 4, 3) := by decide +kernel
theorem d_Mo_isIn_14 : decode b_Mo_isIn 14 = .ok (.iconst 0, 1) := by decide +kernel
theorem d_Mo_isIn_15 : decode b_Mo_isIn 15 = .ok (.ireturn, 1) := by decide +kernel
theorem d_Mo_isMeaning_0 : decode b_Mo_isMeaning 0 = .ok (.iload_n 1, 1) := by decide +kernel
theorem d_Mo_isMeaning_1 : decode b_Mo_isMeaning 1 = .ok (.iconst 0, 1) := by decide +kernel
theorem d_Mo_isMeaning_2 : decode b_Mo_isMeaning 2 = .ok (.aload_n 0, 1) := by decide +kernel
theorem d_Mo_isMeaning_3 : decode b_Mo_isMeaning 3 = .ok (.getfield 24, 3) := by decide +kernel
theorem d_Mo_isMeaning_6 : decode b_Mo_isMeaning 6 = .ok (.aload_n 0, 1) := by decide +kernel
theorem d_Mo_isMeaning_7 : decode b_Mo_isMeaning 7 = .ok (.getfield 240, 3) := by decide +kernel
theorem d_Mo_isMeaning_10 : decode b_Mo_isMeaning 10 = .ok (.iaload, 1) := by decide +kernel
theorem d_Mo_isMeaning_11 : decode b_Mo_isMeaning 11 = .ok (.iconst 1, 1) := by decide +kernel
theorem d_Mo_isMeaning_12 : decode b_Mo_isMeaning 12 = .ok (.isub, 1) := by decide +kernel
theorem d_Mo_isMeaning_13 : decode b_Mo_isMeaning 13 = .ok (.invokestatic 305, 3) := by decide +kernel
theorem d_Mo_isMeaning_16 : decode b_Mo_isMeaning 16 = .ok (.ireturn, 1) := by decide +kernel
theorem d_Mo_isPerson_0 : decode b_Mo_isPerson 0 = .ok (.iload_n 1, 1) := by decide +kernel
theorem d_Mo_isPerson_1 : decode b_Mo_isPerson 1 = .ok (.iconst 0, 1) := by decide +kernel
theorem d_Mo_isPerson_2 : decode b_Mo_isPerson 2 = .ok (.aload_n 0, 1) := by decide +kernel
theorem d_Mo_isPerson_3 : decode b_Mo_isPerson 3 = .ok (.getfield 33, 3) := by decide +kernel
theorem d_Mo_isPerson_6 : decode b_Mo_isPerson 6 = .ok (.aload_n 0, 1) := by decide +kernel
theorem d_Mo_isPerson_7 : decode b_Mo_isPerson 7 = .ok (.getfield 240, 3) := by decide +kernel
