theorem d_law_law_0 : decode code 0 = .ok (.new 7, 3) := by decide +kernel
theorem d_law_law_3 : decode code 3 = .ok (.dup, 1) := by decide +kernel
theorem d_law_law_4 : decode code 4 = .ok (.invokespecial 9, 3) := by decide +kernel
theorem d_law_law_7 : decode code 7 = .ok (.astore_n 1, 1) := by decide +kernel
theorem d_law_law_8 : decode code 8 = .ok (.new 10, 3) := by decide +kernel
theorem d_law_law_11 : decode code 11 = .ok (.dup, 1) := by decide +kernel
theorem d_law_law_12 : decode code 12 = .ok (.invokespecial 12, 3) := by decide +kernel
theorem d_law_law_15 : decode code 15 = .ok (.astore_n 2, 1) := by decide +kernel
theorem d_law_law_16 : decode code 16 = .ok (.iconst 0, 1) := by decide +kernel
theorem d_law_law_17 : decode code 17 = .ok (.istore_n 3, 1) := by decide +kernel
theorem d_law_law_18 : decode code 18 = .ok (.iload_n 3, 1) := by decide +kernel
theorem d_law_law_19 : decode code 19 = .ok (.aload_n 0, 1) := by decide +kernel
theorem d_law_law_20 : decode code 20 = .ok (.arraylength, 1) := by decide +kernel
theorem d_law_law_21 : decode code 21 = .ok (.bipush 7, 2) := by decide +kernel
theorem d_law_law_23 : decode code 23 = .ok (.isub, 1) := by decide +kernel
theorem d_law_law_24 : decode code 24 = .ok (.if_icmp .gt 1409, 3) := by decide +kernel
theorem d_law_law_27 : decode code 27 = .ok (.aload_n 0, 1) := by decide +kernel
theorem d_law_law_28 : decode code 28 = .ok (.iload_n 3, 1) := by decide +kernel
theorem d_law_law_29 : decode code 29 = .ok (.iaload, 1) := by decide +kernel
theorem d_law_law_30 : decode code 30 = .ok (.bipush 31, 2) := by decide +kernel
theorem d_law_law_32 : decode code 32 = .ok (.iand, 1) := by decide +kernel
theorem d_law_law_33 : decode code 33 = .ok (.tableswitch 1394 0 27 #[127, 190, 213, 226, 249, 282, 305, 328, 371, 404, 437, 500, 563, 626, 689, 742, 795, 848, 911, 964, 1027, 1102, 1135, 1188, 1231, 1295, 1338, 1371], 127) := by decide +kernel
theorem d_law_law_160 : decode code 160 = .ok (.aload_n 1, 1) := by decide +kernel
theorem d_law_law_161 : decode code 161 = .ok (.aload_n 0, 1) := by decide +kernel
theorem d_law_law_162 : decode code 162 = .ok (.iload_n 3, 1) := by decide +kernel
theorem d_law_law_163 : decode code 163 = .ok (.iconst 1, 1) := by decide +kernel
theorem d_law_law_164 : decode code 164 = .ok (.iadd, 1) := by decide +kernel
theorem d_law_law_165 : decode code 165 = .ok (.iaload, 1) := by decide +kernel
theorem d_law_law_166 : decode code 166 = .ok (.aload_n 0, 1) := by decide +kernel
theorem d_law_law_167 : decode code 167 = .ok (.iload_n 3, 1) := by decide +kernel
theorem d_law_law_168 : decode code 168 = .ok (.iconst 2, 1) := by decide +kernel
theorem d_law_law_169 : decode code 169 = .ok (.iadd, 1) := by decide +kernel
theorem d_law_law_170 : decode code 170 = .ok (.iaload, 1) := by decide +kernel
theorem d_law_law_171 : decode code 171 = .ok (.aload_n 0, 1) := by decide +kernel
theorem d_law_law_172 : decode code 172 = .ok (.iload_n 3, 1) := by decide +kernel
theorem d_law_law_173 : decode code 173 = .ok (.iconst 3, 1) := by decide +kernel
theorem d_law_law_174 : decode code 174 = .ok (.iadd, 1) := by decide +kernel
theorem d_law_law_175 : decode code 175 = .ok (.iaload, 1) := by decide +kernel
theorem d_law_law_176 : decode code 176 = .ok (.aload_n 0, 1) := by decide +kernel
theorem d_law_law_177 : decode code 177 = .ok (.iload_n 3, 1) := by decide +kernel
theorem d_law_law_178 : decode code 178 = .ok (.iconst 4, 1) := by decide +kernel
theorem d_law_law_179 : decode code 179 = .ok (.iadd, 1) := by decide +kernel
theorem d_law_law_180 : decode code 180 = .ok (.iaload, 1) := by decide +kernel
theorem d_law_law_181 : decode code 181 = .ok (.aload_n 0, 1) := by decide +kernel
theorem d_law_law_182 : decode code 182 = .ok (.iload_n 3, 1) := by decide +kernel
theorem d_law_law_183 : decode code 183 = .ok (.iconst 5, 1) := by decide +kernel
theorem d_law_law_184 : decode code 184 = .ok (.iadd, 1) := by decide +kernel
theorem d_law_law_185 : decode code 185 = .ok (.iaload, 1) := by decide +kernel
theorem d_law_law_186 : decode code 186 = .ok (.invokevirtual 13, 3) := by decide +kernel
theorem d_law_law_189 : decode code 189 = .ok (.aload_n 2, 1) := by decide +kernel
theorem d_law_law_190 : decode code 190 = .ok (.aload_n 0, 1) := by decide +kernel
theorem d_law_law_191 : decode code 191 = .ok (.iload_n 3, 1) := by decide +kernel
theorem d_law_law_192 : decode code 192 = .ok (.iconst 1, 1) := by decide +kernel
theorem d_law_law_193 : decode code 193 = .ok (.iadd, 1) := by decide +kernel
theorem d_law_law_194 : decode code 194 = .ok (.iaload, 1) := by decide +kernel
theorem d_law_law_195 : decode code 195 = .ok (.aload_n 0, 1) := by decide +kernel
theorem d_law_law_196 : decode code 196 = .ok (.iload_n 3, 1) := by decide +kernel
theorem d_law_law_197 : decode code 197 = .ok (.iconst 2, 1) := by decide +kernel
theorem d_law_law_198 : decode code 198 = .ok (.iadd, 1) := by decide +kernel
theorem d_law_law_199 : decode code 199 = .ok (.iaload, 1) := by decide +kernel
theorem d_law_law_200 : decode code 200 = .ok (.aload_n 0, 1) := by decide +kernel
theorem d_law_law_201 : decode code 201 = .ok (.iload_n 3, 1) := by decide +kernel
theorem d_law_law_202 : decode code 202 = .ok (.iconst 3, 1) := by decide +kernel
theorem d_law_law_203 : decode code 203 = .ok (.iadd, 1) := by decide +kernel
theorem d_law_law_204 : decode code 204 = .ok (.iaload, 1) := by decide +kernel
theorem d_law_law_205 : decode code 205 = .ok (.aload_n 0, 1) := by decide +kernel
theorem d_law_law_206 : decode code 206 = .ok (.iload_n 3, 1) := by decide +kernel
theorem d_law_law_207 : decode code 207 = .ok (.iconst 4, 1) := by decide +kernel
theorem d_law_law_208 : decode code 208 = .ok (.iadd, 1) := by decide +kernel
theorem d_law_law_209 : decode code 209 = .ok (.iaload, 1) := by decide +kernel
theorem d_law_law_210 : decode code 210 = .ok (.aload_n 0, 1) := by decide +kernel
theorem d_law_law_211 : decode code 211 = .ok (.iload_n 3, 1) := by decide +kernel
theorem d_law_law_212 : decode code 212 = .ok (.iconst 5, 1) := by decide +kernel
theorem d_law_law_213 : decode code 213 = .ok (.iadd, 1) := by decide +kernel
theorem d_law_law_214 : decode code 214 = .ok (.iaload, 1) := by decide +kernel
theorem d_law_law_215 : decode code 215 = .ok (.invokevirtual 17, 3) := by decide +kernel
theorem d_law_law_218 : decode code 218 = .ok (.if_icmp .eq 1209, 3) := by decide +kernel
theorem d_law_law_223 : decode code 223 = .ok (.aload_n 1, 1) := by decide +kernel
theorem d_law_law_224 : decode code 224 = .ok (.aload_n 0, 1) := by decide +kernel
theorem d_law_law_225 : decode code 225 = .ok (.iload_n 3, 1) := by decide +kernel
theorem d_law_law_226 : decode code 226 = .ok (.iconst 1, 1) := by decide +kernel
theorem d_law_law_227 : decode code 227 = .ok (.iadd, 1) := by decide +kernel
theorem d_law_law_228 : decode code 228 = .ok (.iaload, 1) := by decide +kernel
theorem d_law_law_229 : decode code 229 = .ok (.invokevirtual 18, 3) := by decide +kernel
theorem d_law_law_232 : decode code 232 = .ok (.aload_n 2, 1) := by decide +kernel
theorem d_law_law_233 : decode code 233 = .ok (.aload_n 0, 1) := by decide +kernel
theorem d_law_law_234 : decode code 234 = .ok (.iload_n 3, 1) := by decide +kernel
theorem d_law_law_235 : decode code 235 = .ok (.iconst 1, 1) := by decide +kernel
theorem d_law_law_236 : decode code 236 = .ok (.iadd, 1) := by decide +kernel
theorem d_law_law_237 : decode code 237 = .ok (.iaload, 1) := by decide +kernel
theorem d_law_law_238 : decode code 238 = .ok (.invokevirtual 22, 3) := by decide +kernel
theorem d_law_law_241 : decode code 241 = .ok (.if_icmp .eq 1186, 3) := by decide +kernel
theorem d_law_law_246 : decode code 246 = .ok (.aload_n 1, 1) := by decide +kernel
theorem d_law_law_247 : decode code 247 = .ok (.invokevirtual 23, 3) := by decide +kernel
theorem d_law_law_250 : decode code 250 = .ok (.aload_n 2, 1) := by decide +kernel
theorem d_law_law_251 : decode code 251 = .ok (.invokevirtual 27, 3) := by decide +kernel
theorem d_law_law_254 : decode code 254 = .ok (.if_icmp .eq 1173, 3) := by decide +kernel
theorem d_law_law_259 : decode code 259 = .ok (.aload_n 1, 1) := by decide +kernel
theorem d_law_law_260 : decode code 260 = .ok (.aload_n 0, 1) := by decide +kernel
theorem d_law_law_261 : decode code 261 = .ok (.iload_n 3, 1) := by decide +kernel
theorem d_law_law_262 : decode code 262 = .ok (.iconst 1, 1) := by decide +kernel
theorem d_law_law_263 : decode code 263 = .ok (.iadd, 1) := by decide +kernel
theorem d_law_law_264 : decode code 264 = .ok (.iaload, 1) := by decide +kernel
theorem d_law_law_265 : decode code 265 = .ok (.invokevirtual 28, 3) := by decide +kernel
theorem d_law_law_268 : decode code 268 = .ok (.aload_n 2, 1) := by decide +kernel
theorem d_law_law_269 : decode code 269 = .ok (.aload_n 0, 1) := by decide +kernel
theorem d_law_law_270 : decode code 270 = .ok (.iload_n 3, 1) := by decide +kernel
theorem d_law_law_271 : decode code 271 = .ok (.iconst 1, 1) := by decide +kernel
theorem d_law_law_272 : decode code 272 = .ok (.iadd, 1) := by decide +kernel
theorem d_law_law_273 : decode code 273 = .ok (.iaload, 1) := by decide +kernel
theorem d_law_law_274 : decode code 274 = .ok (.invokevirtual 31, 3) := by decide +kernel
theorem d_law_law_277 : decode code 277 = .ok (.if_icmp .eq 1150, 3) := by decide +kernel
theorem d_law_law_282 : decode code 282 = .ok (.aload_n 1, 1) := by decide +kernel
theorem d_law_law_283 : decode code 283 = .ok (.aload_n 0, 1) := by decide +kernel
theorem d_law_law_284 : decode code 284 = .ok (.iload_n 3, 1) := by decide +kernel
theorem d_law_law_285 : decode code 285 = .ok (.iconst 1, 1) := by decide +kernel
theorem d_law_law_286 : decode code 286 = .ok (.iadd, 1) := by decide +kernel
theorem d_law_law_287 : decode code 287 = .ok (.iaload, 1) := by decide +kernel
theorem d_law_law_288 : decode code 288 = .ok (.aload_n 0, 1) := by decide +kernel
theorem d_law_law_289 : decode code 289 = .ok (.iload_n 3, 1) := by decide +kernel
theorem d_law_law_290 : decode code 290 = .ok (.iconst 2, 1) := by decide +kernel
theorem d_law_law_291 : decode code 291 = .ok (.iadd, 1) := by decide +kernel
theorem d_law_law_292 : decode code 292 = .ok (.iaload, 1) := by decide +kernel
theorem d_law_law_293 : decode code 293 = .ok (.invokevirtual 32, 3) := by decide +kernel
theorem d_law_law_296 : decode code 296 = .ok (.aload_n 2, 1) := by decide +kernel
theorem d_law_law_297 : decode code 297 = .ok (.aload_n 0, 1) := by decide +kernel
theorem d_law_law_298 : decode code 298 = .ok (.iload_n 3, 1) := by decide +kernel
theorem d_law_law_299 : decode code 299 = .ok (.iconst 1, 1) := by decide +kernel
theorem d_law_law_300 : decode code 300 = .ok (.iadd, 1) := by decide +kernel
theorem d_law_law_301 : decode code 301 = .ok (.iaload, 1) := by decide +kernel
theorem d_law_law_302 : decode code 302 = .ok (.aload_n 0, 1) := by decide +kernel
theorem d_law_law_303 : decode code 303 = .ok (.iload_n 3, 1) := by decide +kernel
theorem d_law_law_304 : decode code 304 = .ok (.iconst 2, 1) := by decide +kernel
theorem d_law_law_305 : decode code 305 = .ok (.iadd, 1) := by decide +kernel
theorem d_law_law_306 : decode code 306 = .ok (.iaload, 1) := by decide +kernel
theorem d_law_law_307 : decode code 307 = .ok (.invokevirtual 36, 3) := by decide +kernel
theorem d_law_law_310 : decode code 310 = .ok (.if_icmp .eq 1117, 3) := by decide +kernel
theorem d_law_law_315 : decode code 315 = .ok (.aload_n 1, 1) := by decide +kernel
theorem d_law_law_316 : decode code 316 = .ok (.aload_n 0, 1) := by decide +kernel
theorem d_law_law_317 : decode code 317 = .ok (.iload_n 3, 1) := by decide +kernel
theorem d_law_law_318 : decode code 318 = .ok (.iconst 1, 1) := by decide +kernel
theorem d_law_law_319 : decode code 319 = .ok (.iadd, 1) := by decide +kernel
theorem d_law_law_320 : decode code 320 = .ok (.iaload, 1) := by decide +kernel
theorem d_law_law_321 : decode code 321 = .ok (.invokevirtual 37, 3) := by decide +kernel
theorem d_law_law_324 : decode code 324 = .ok (.aload_n 2, 1) := by decide +kernel
theorem d_law_law_325 : decode code 325 = .ok (.aload_n 0, 1) := by decide +kernel
theorem d_law_law_326 : decode code 326 = .ok (.iload_n 3, 1) := by decide +kernel
theorem d_law_law_327 : decode code 327 = .ok (.iconst 1, 1) := by decide +kernel
theorem d_law_law_328 : decode code 328 = .ok (.iadd, 1) := by decide +kernel
theorem d_law_law_329 : decode code 329 = .ok (.iaload, 1) := by decide +kernel
theorem d_law_law_330 : decode code 330 = .ok (.invokevirtual 41, 3) := by decide +kernel
theorem d_law_law_333 : decode code 333 = .ok (.if_icmp .eq 1094, 3) := by decide +kernel
theorem d_law_law_338 : decode code 338 = .ok (.aload_n 1, 1) := by decide +kernel
theorem d_law_law_339 : decode code 339 = .ok (.aload_n 0, 1) := by decide +kernel
theorem d_law_law_340 : decode code 340 = .ok (.iload_n 3, 1) := by decide +kernel
theorem d_law_law_341 : decode code 341 = .ok (.iconst 1, 1) := by decide +kernel
theorem d_law_law_342 : decode code 342 = .ok (.iadd, 1) := by decide +kernel
theorem d_law_law_343 : decode code 343 = .ok (.iaload, 1) := by decide +kernel
theorem d_law_law_344 : decode code 344 = .ok (.invokevirtual 42, 3) := by decide +kernel
theorem d_law_law_347 : decode code 347 = .ok (.aload_n 2, 1) := by decide +kernel
theorem d_law_law_348 : decode code 348 = .ok (.aload_n 0, 1) := by decide +kernel
theorem d_law_law_349 : decode code 349 = .ok (.iload_n 3, 1) := by decide +kernel
theorem d_law_law_350 : decode code 350 = .ok (.iconst 1, 1) := by decide +kernel
theorem d_law_law_351 : decode code 351 = .ok (.iadd, 1) := by decide +kernel
theorem d_law_law_352 : decode code 352 = .ok (.iaload, 1) := by decide +kernel
theorem d_law_law_353 : decode code 353 = .ok (.invokevirtual 45, 3) := by decide +kernel
theorem d_law_law_356 : decode code 356 = .ok (.if_icmp .eq 1071, 3) := by decide +kernel
theorem d_law_law_361 : decode code 361 = .ok (.aload_n 1, 1) := by decide +kernel
theorem d_law_law_362 : decode code 362 = .ok (.aload_n 0, 1) := by decide +kernel
theorem d_law_law_363 : decode code 363 = .ok (.iload_n 3, 1) := by decide +kernel
theorem d_law_law_364 : decode code 364 = .ok (.iconst 1, 1) := by decide +kernel
theorem d_law_law_365 : decode code 365 = .ok (.iadd, 1) := by decide +kernel
theorem d_law_law_366 : decode code 366 = .ok (.iaload, 1) := by decide +kernel
theorem d_law_law_367 : decode code 367 = .ok (.aload_n 0, 1) := by decide +kernel
theorem d_law_law_368 : decode code 368 = .ok (.iload_n 3, 1) := by decide +kernel
theorem d_law_law_369 : decode code 369 = .ok (.iconst 2, 1) := by decide +kernel
theorem d_law_law_370 : decode code 370 = .ok (.iadd, 1) := by decide +kernel
theorem d_law_law_371 : decode code 371 = .ok (.iaload, 1) := by decide +kernel
theorem d_law_law_372 : decode code 372 = .ok (.aload_n 0, 1) := by decide +kernel
theorem d_law_law_373 : decode code 373 = .ok (.iload_n 3, 1) := by decide +kernel
theorem d_law_law_374 : decode code 374 = .ok (.iconst 3, 1) := by decide +kernel
theorem d_law_law_375 : decode code 375 = .ok (.iadd, 1) := by decide +kernel
theorem d_law_law_376 : decode code 376 = .ok (.iaload, 1) := by decide +kernel
theorem d_law_law_377 : decode code 377 = .ok (.invokevirtual 46, 3) := by decide +kernel
theorem d_law_law_380 : decode code 380 = .ok (.aload_n 2, 1) := by decide +kernel
theorem d_law_law_381 : decode code 381 = .ok (.aload_n 0, 1) := by decide +kernel
theorem d_law_law_382 : decode code 382 = .ok (.iload_n 3, 1) := by decide +kernel
theorem d_law_law_383 : decode code 383 = .ok (.iconst 1, 1) := by decide +kernel
theorem d_law_law_384 : decode code 384 = .ok (.iadd, 1) := by decide +kernel
theorem d_law_law_385 : decode code 385 = .ok (.iaload, 1) := by decide +kernel
theorem d_law_law_386 : decode code 386 = .ok (.aload_n 0, 1) := by decide +kernel
theorem d_law_law_387 : decode code 387 = .ok (.iload_n 3, 1) := by decide +kernel
theorem d_law_law_388 : decode code 388 = .ok (.iconst 2, 1) := by decide +kernel
theorem d_law_law_389 : decode code 389 = .ok (.iadd, 1) := by decide +kernel
theorem d_law_law_390 : decode code 390 = .ok (.iaload, 1) := by decide +kernel
theorem d_law_law_391 : decode code 391 = .ok (.aload_n 0, 1) := by decide +kernel
theorem d_law_law_392 : decode code 392 = .ok (.iload_n 3, 1) := by decide +kernel
theorem d_law_law_393 : decode code 393 = .ok (.iconst 3, 1) := by decide +kernel
theorem d_law_law_394 : decode code 394 = .ok (.iadd, 1) := by decide +kernel
theorem d_law_law_395 : decode code 395 = .ok (.iaload, 1) := by decide +kernel
theorem d_law_law_396 : decode code 396 = .ok (.invokevirtual 50, 3) := by decide +kernel
theorem d_law_law_399 : decode code 399 = .ok (.if_icmp .eq 1028, 3) := by decide +kernel
theorem d_law_law_404 : decode code 404 = .ok (.aload_n 1, 1) := by decide +kernel
theorem d_law_law_405 : decode code 405 = .ok (.aload_n 0, 1) := by decide +kernel
theorem d_law_law_406 : decode code 406 = .ok (.iload_n 3, 1) := by decide +kernel
theorem d_law_law_407 : decode code 407 = .ok (.iconst 1, 1) := by decide +kernel
theorem d_law_law_408 : decode code 408 = .ok (.iadd, 1) := by decide +kernel
theorem d_law_law_409 : decode code 409 = .ok (.iaload, 1) := by decide +kernel
theorem d_law_law_410 : decode code 410 = .ok (.aload_n 0, 1) := by decide +kernel
theorem d_law_law_411 : decode code 411 = .ok (.iload_n 3, 1) := by decide +kernel
theorem d_law_law_412 : decode code 412 = .ok (.iconst 2, 1) := by decide +kernel
theorem d_law_law_413 : decode code 413 = .ok (.iadd, 1) := by decide +kernel
theorem d_law_law_414 : decode code 414 = .ok (.iaload, 1) := by decide +kernel
theorem d_law_law_415 : decode code 415 = .ok (.invokevirtual 51, 3) := by decide +kernel
theorem d_law_law_418 : decode code 418 = .ok (.aload_n 2, 1) := by decide +kernel
theorem d_law_law_419 : decode code 419 = .ok (.aload_n 0, 1) := by decide +kernel
theorem d_law_law_420 : decode code 420 = .ok (.iload_n 3, 1) := by decide +kernel
theorem d_law_law_421 : decode code 421 = .ok (.iconst 1, 1) := by decide +kernel
theorem d_law_law_422 : decode code 422 = .ok (.iadd, 1) := by decide +kernel
theorem d_law_law_423 : decode code 423 = .ok (.iaload, 1) := by decide +kernel
theorem d_law_law_424 : decode code 424 = .ok (.aload_n 0, 1) := by decide +kernel
theorem d_law_law_425 : decode code 425 = .ok (.iload_n 3, 1) := by decide +kernel
theorem d_law_law_426 : decode code 426 = .ok (.iconst 2, 1) := by decide +kernel
theorem d_law_law_427 : decode code 427 = .ok (.iadd, 1) := by decide +kernel
theorem d_law_law_428 : decode code 428 = .ok (.iaload, 1) := by decide +kernel
theorem d_law_law_429 : decode code 429 = .ok (.invokevirtual 54, 3) := by decide +kernel
theorem d_law_law_432 : decode code 432 = .ok (.if_icmp .eq 995, 3) := by decide +kernel
theorem d_law_law_437 : decode code 437 = .ok (.aload_n 1, 1) := by decide +kernel
theorem d_law_law_438 : decode code 438 = .ok (.aload_n 0, 1) := by decide +kernel
theorem d_law_law_439 : decode code 439 = .ok (.iload_n 3, 1) := by decide +kernel
theorem d_law_law_440 : decode code 440 = .ok (.iconst 1, 1) := by decide +kernel
theorem d_law_law_441 : decode code 441 = .ok (.iadd, 1) := by decide +kernel
theorem d_law_law_442 : decode code 442 = .ok (.iaload, 1) := by decide +kernel
theorem d_law_law_443 : decode code 443 = .ok (.aload_n 0, 1) := by decide +kernel
theorem d_law_law_444 : decode code 444 = .ok (.iload_n 3, 1) := by decide +kernel
theorem d_law_law_445 : decode code 445 = .ok (.iconst 2, 1) := by decide +kernel
theorem d_law_law_446 : decode code 446 = .ok (.iadd, 1) := by decide +kernel
theorem d_law_law_447 : decode code 447 = .ok (.iaload, 1) := by decide +kernel
theorem d_law_law_448 : decode code 448 = .ok (.invokevirtual 55, 3) := by decide +kernel
theorem d_law_law_451 : decode code 451 = .ok (.aload_n 2, 1) := by decide +kernel
theorem d_law_law_452 : decode code 452 = .ok (.aload_n 0, 1) := by decide +kernel
theorem d_law_law_453 : decode code 453 = .ok (.iload_n 3, 1) := by decide +kernel
theorem d_law_law_454 : decode code 454 = .ok (.iconst 1, 1) := by decide +kernel
theorem d_law_law_455 : decode code 455 = .ok (.iadd, 1) := by decide +kernel
theorem d_law_law_456 : decode code 456 = .ok (.iaload, 1) := by decide +kernel
theorem d_law_law_457 : decode code 457 = .ok (.aload_n 0, 1) := by decide +kernel
theorem d_law_law_458 : decode code 458 = .ok (.iload_n 3, 1) := by decide +kernel
theorem d_law_law_459 : decode code 459 = .ok (.iconst 2, 1) := by decide +kernel
theorem d_law_law_460 : decode code 460 = .ok (.iadd, 1) := by decide +kernel
theorem d_law_law_461 : decode code 461 = .ok (.iaload, 1) := by decide +kernel
theorem d_law_law_462 : decode code 462 = .ok (.invokevirtual 58, 3) := by decide +kernel
theorem d_law_law_465 : decode code 465 = .ok (.if_icmp .eq 962, 3) := by decide +kernel
theorem d_law_law_470 : decode code 470 = .ok (.aload_n 1, 1) := by decide +kernel
theorem d_law_law_471 : decode code 471 = .ok (.aload_n 0, 1) := by decide +kernel
theorem d_law_law_472 : decode code 472 = .ok (.iload_n 3, 1) := by decide +kernel
theorem d_law_law_473 : decode code 473 = .ok (.iconst 1, 1) := by decide +kernel
theorem d_law_law_474 : decode code 474 = .ok (.iadd, 1) := by decide +kernel
theorem d_law_law_475 : decode code 475 = .ok (.iaload, 1) := by decide +kernel
theorem d_law_law_476 : decode code 476 = .ok (.aload_n 0, 1) := by decide +kernel
theorem d_law_law_477 : decode code 477 = .ok (.iload_n 3, 1) := by decide +kernel
theorem d_law_law_478 : decode code 478 = .ok (.iconst 2, 1) := by decide +kernel
theorem d_law_law_479 : decode code 479 = .ok (.iadd, 1) := by decide +kernel
theorem d_law_law_480 : decode code 480 = .ok (.iaload, 1) := by decide +kernel
theorem d_law_law_481 : decode code 481 = .ok (.aload_n 0, 1) := by decide +kernel
theorem d_law_law_482 : decode code 482 = .ok (.iload_n 3, 1) := by decide +kernel
theorem d_law_law_483 : decode code 483 = .ok (.iconst 3, 1) := by decide +kernel
theorem d_law_law_484 : decode code 484 = .ok (.iadd, 1) := by decide +kernel
theorem d_law_law_485 : decode code 485 = .ok (.iaload, 1) := by decide +kernel
theorem d_law_law_486 : decode code 486 = .ok (.aload_n 0, 1) := by decide +kernel
theorem d_law_law_487 : decode code 487 = .ok (.iload_n 3, 1) := by decide +kernel
theorem d_law_law_488 : decode code 488 = .ok (.iconst 4, 1) := by decide +kernel
theorem d_law_law_489 : decode code 489 = .ok (.iadd, 1) := by decide +kernel
theorem d_law_law_490 : decode code 490 = .ok (.iaload, 1) := by decide +kernel
theorem d_law_law_491 : decode code 491 = .ok (.aload_n 0, 1) := by decide +kernel
theorem d_law_law_492 : decode code 492 = .ok (.iload_n 3, 1) := by decide +kernel
theorem d_law_law_493 : decode code 493 = .ok (.iconst 5, 1) := by decide +kernel
theorem d_law_law_494 : decode code 494 = .ok (.iadd, 1) := by decide +kernel
theorem d_law_law_495 : decode code 495 = .ok (.iaload, 1) := by decide +kernel
theorem d_law_law_496 : decode code 496 = .ok (.invokevirtual 59, 3) := by decide +kernel
theorem d_law_law_499 : decode code 499 = .ok (.aload_n 2, 1) := by decide +kernel
theorem d_law_law_500 : decode code 500 = .ok (.aload_n 0, 1) := by decide +kernel
theorem d_law_law_501 : decode code 501 = .ok (.iload_n 3, 1) := by decide +kernel
theorem d_law_law_502 : decode code 502 = .ok (.iconst 1, 1) := by decide +kernel
theorem d_law_law_503 : decode code 503 = .ok (.iadd, 1) := by decide +kernel
theorem d_law_law_504 : decode code 504 = .ok (.iaload, 1) := by decide +kernel
theorem d_law_law_505 : decode code 505 = .ok (.aload_n 0, 1) := by decide +kernel
theorem d_law_law_506 : decode code 506 = .ok (.iload_n 3, 1) := by decide +kernel
theorem d_law_law_507 : decode code 507 = .ok (.iconst 2, 1) := by decide +kernel
theorem d_law_law_508 : decode code 508 = .ok (.iadd, 1) := by decide +kernel
theorem d_law_law_509 : decode code 509 = .ok (.iaload, 1) := by decide +kernel
theorem d_law_law_510 : decode code 510 = .ok (.aload_n 0, 1) := by decide +kernel
theorem d_law_law_511 : decode code 511 = .ok (.iload_n 3, 1) := by decide +kernel
theorem d_law_law_512 : decode code 512 = .ok (.iconst 3, 1) := by decide +kernel
theorem d_law_law_513 : decode code 513 = .ok (.iadd, 1) := by decide +kernel
theorem d_law_law_514 : decode code 514 = .ok (.iaload, 1) := by decide +kernel
theorem d_law_law_515 : decode code 515 = .ok (.aload_n 0, 1) := by decide +kernel
theorem d_law_law_516 : decode code 516 = .ok (.iload_n 3, 1) := by decide +kernel
theorem d_law_law_517 : decode code 517 = .ok (.iconst 4, 1) := by decide +kernel
theorem d_law_law_518 : decode code 518 = .ok (.iadd, 1) := by decide +kernel
theorem d_law_law_519 : decode code 519 = .ok (.iaload, 1) := by decide +kernel
theorem d_law_law_520 : decode code 520 = .ok (.aload_n 0, 1) := by decide +kernel
theorem d_law_law_521 : decode code 521 = .ok (.iload_n 3, 1) := by decide +kernel
theorem d_law_law_522 : decode code 522 = .ok (.iconst 5, 1) := by decide +kernel
theorem d_law_law_523 : decode code 523 = .ok (.iadd, 1) := by decide +kernel
theorem d_law_law_524 : decode code 524 = .ok (.iaload, 1) := by decide +kernel
theorem d_law_law_525 : decode code 525 = .ok (.invokevirtual 62, 3) := by decide +kernel
theorem d_law_law_528 : decode code 528 = .ok (.if_icmp .eq 899, 3) := by decide +kernel
theorem d_law_law_533 : decode code 533 = .ok (.aload_n 1, 1) := by decide +kernel
theorem d_law_law_534 : decode code 534 = .ok (.aload_n 0, 1) := by decide +kernel
theorem d_law_law_535 : decode code 535 = .ok (.iload_n 3, 1) := by decide +kernel
theorem d_law_law_536 : decode code 536 = .ok (.iconst 1, 1) := by decide +kernel
theorem d_law_law_537 : decode code 537 = .ok (.iadd, 1) := by decide +kernel
theorem d_law_law_538 : decode code 538 = .ok (.iaload, 1) := by decide +kernel
theorem d_law_law_539 : decode code 539 = .ok (.aload_n 0, 1) := by decide +kernel
theorem d_law_law_540 : decode code 540 = .ok (.iload_n 3, 1) := by decide +kernel
theorem d_law_law_541 : decode code 541 = .ok (.iconst 2, 1) := by decide +kernel
theorem d_law_law_542 : decode code 542 = .ok (.iadd, 1) := by decide +kernel
theorem d_law_law_543 : decode code 543 = .ok (.iaload, 1) := by decide +kernel
theorem d_law_law_544 : decode code 544 = .ok (.aload_n 0, 1) := by decide +kernel
theorem d_law_law_545 : decode code 545 = .ok (.iload_n 3, 1) := by decide +kernel
theorem d_law_law_546 : decode code 546 = .ok (.iconst 3, 1) := by decide +kernel
theorem d_law_law_547 : decode code 547 = .ok (.iadd, 1) := by decide +kernel
theorem d_law_law_548 : decode code 548 = .ok (.iaload, 1) := by decide +kernel
theorem d_law_law_549 : decode code 549 = .ok (.aload_n 0, 1) := by decide +kernel
theorem d_law_law_550 : decode code 550 = .ok (.iload_n 3, 1) := by decide +kernel
theorem d_law_law_551 : decode code 551 = .ok (.iconst 4, 1) := by decide +kernel
theorem d_law_law_552 : decode code 552 = .ok (.iadd, 1) := by decide +kernel
theorem d_law_law_553 : decode code 553 = .ok (.iaload, 1) := by decide +kernel
theorem d_law_law_554 : decode code 554 = .ok (.aload_n 0, 1) := by decide +kernel
theorem d_law_law_555 : decode code 555 = .ok (.iload_n 3, 1) := by decide +kernel
theorem d_law_law_556 : decode code 556 = .ok (.iconst 5, 1) := by decide +kernel
theorem d_law_law_557 : decode code 557 = .ok (.iadd, 1) := by decide +kernel
theorem d_law_law_558 : decode code 558 = .ok (.iaload, 1) := by decide +kernel
theorem d_law_law_559 : decode code 559 = .ok (.invokevirtual 63, 3) := by decide +kernel
theorem d_law_law_562 : decode code 562 = .ok (.aload_n 2, 1) := by decide +kernel
theorem d_law_law_563 : decode code 563 = .ok (.aload_n 0, 1) := by decide +kernel
theorem d_law_law_564 : decode code 564 = .ok (.iload_n 3, 1) := by decide +kernel
theorem d_law_law_565 : decode code 565 = .ok (.iconst 1, 1) := by decide +kernel
theorem d_law_law_566 : decode code 566 = .ok (.iadd, 1) := by decide +kernel
theorem d_law_law_567 : decode code 567 = .ok (.iaload, 1) := by decide +kernel
theorem d_law_law_568 : decode code 568 = .ok (.aload_n 0, 1) := by decide +kernel
theorem d_law_law_569 : decode code 569 = .ok (.iload_n 3, 1) := by decide +kernel
theorem d_law_law_570 : decode code 570 = .ok (.iconst 2, 1) := by decide +kernel
theorem d_law_law_571 : decode code 571 = .ok (.iadd, 1) := by decide +kernel
theorem d_law_law_572 : decode code 572 = .ok (.iaload, 1) := by decide +kernel
theorem d_law_law_573 : decode code 573 = .ok (.aload_n 0, 1) := by decide +kernel
theorem d_law_law_574 : decode code 574 = .ok (.iload_n 3, 1) := by decide +kernel
theorem d_law_law_575 : decode code 575 = .ok (.iconst 3, 1) := by decide +kernel
theorem d_law_law_576 : decode code 576 = .ok (.iadd, 1) := by decide +kernel
theorem d_law_law_577 : decode code 577 = .ok (.iaload, 1) := by decide +kernel
theorem d_law_law_578 : decode code 578 = .ok (.aload_n 0, 1) := by decide +kernel
theorem d_law_law_579 : decode code 579 = .ok (.iload_n 3, 1) := by decide +kernel
theorem d_law_law_580 : decode code 580 = .ok (.iconst 4, 1) := by decide +kernel
theorem d_law_law_581 : decode code 581 = .ok (.iadd, 1) := by decide +kernel
theorem d_law_law_582 : decode code 582 = .ok (.iaload, 1) := by decide +kernel
theorem d_law_law_583 : decode code 583 = .ok (.aload_n 0, 1) := by decide +kernel
theorem d_law_law_584 : decode code 584 = .ok (.iload_n 3, 1) := by decide +kernel
theorem d_law_law_585 : decode code 585 = .ok (.iconst 5, 1) := by decide +kernel
theorem d_law_law_586 : decode code 586 = .ok (.iadd, 1) := by decide +kernel
theorem d_law_law_587 : decode code 587 = .ok (.iaload, 1) := by decide +kernel
theorem d_law_law_588 : decode code 588 = .ok (.invokevirtual 66, 3) := by decide +kernel
theorem d_law_law_591 : decode code 591 = .ok (.if_icmp .eq 836, 3) := by decide +kernel
theorem d_law_law_596 : decode code 596 = .ok (.aload_n 1, 1) := by decide +kernel
theorem d_law_law_597 : decode code 597 = .ok (.aload_n 0, 1) := by decide +kernel
theorem d_law_law_598 : decode code 598 = .ok (.iload_n 3, 1) := by decide +kernel
theorem d_law_law_599 : decode code 599 = .ok (.iconst 1, 1) := by decide +kernel
theorem d_law_law_600 : decode code 600 = .ok (.iadd, 1) := by decide +kernel
theorem d_law_law_601 : decode code 601 = .ok (.iaload, 1) := by decide +kernel
theorem d_law_law_602 : decode code 602 = .ok (.aload_n 0, 1) := by decide +kernel
theorem d_law_law_603 : decode code 603 = .ok (.iload_n 3, 1) := by decide +kernel
theorem d_law_law_604 : decode code 604 = .ok (.iconst 2, 1) := by decide +kernel
theorem d_law_law_605 : decode code 605 = .ok (.iadd, 1) := by decide +kernel
theorem d_law_law_606 : decode code 606 = .ok (.iaload, 1) := by decide +kernel
theorem d_law_law_607 : decode code 607 = .ok (.aload_n 0, 1) := by decide +kernel
theorem d_law_law_608 : decode code 608 = .ok (.iload_n 3, 1) := by decide +kernel
theorem d_law_law_609 : decode code 609 = .ok (.iconst 3, 1) := by decide +kernel
theorem d_law_law_610 : decode code 610 = .ok (.iadd, 1) := by decide +kernel
theorem d_law_law_611 : decode code 611 = .ok (.iaload, 1) := by decide +kernel
theorem d_law_law_612 : decode code 612 = .ok (.aload_n 0, 1) := by decide +kernel
theorem d_law_law_613 : decode code 613 = .ok (.iload_n 3, 1) := by decide +kernel
theorem d_law_law_614 : decode code 614 = .ok (.iconst 4, 1) := by decide +kernel
theorem d_law_law_615 : decode code 615 = .ok (.iadd, 1) := by decide +kernel
theorem d_law_law_616 : decode code 616 = .ok (.iaload, 1) := by decide +kernel
theorem d_law_law_617 : decode code 617 = .ok (.aload_n 0, 1) := by decide +kernel
theorem d_law_law_618 : decode code 618 = .ok (.iload_n 3, 1) := by decide +kernel
theorem d_law_law_619 : decode code 619 = .ok (.iconst 5, 1) := by decide +kernel
theorem d_law_law_620 : decode code 620 = .ok (.iadd, 1) := by decide +kernel
theorem d_law_law_621 : decode code 621 = .ok (.iaload, 1) := by decide +kernel
theorem d_law_law_622 : decode code 622 = .ok (.invokevirtual 67, 3) := by decide +kernel
theorem d_law_law_625 : decode code 625 = .ok (.aload_n 2, 1) := by decide +kernel
theorem d_law_law_626 : decode code 626 = .ok (.aload_n 0, 1) := by decide +kernel
theorem d_law_law_627 : decode code 627 = .ok (.iload_n 3, 1) := by decide +kernel
theorem d_law_law_628 : decode code 628 = .ok (.iconst 1, 1) := by decide +kernel
theorem d_law_law_629 : decode code 629 = .ok (.iadd, 1) := by decide +kernel
theorem d_law_law_630 : decode code 630 = .ok (.iaload, 1) := by decide +kernel
theorem d_law_law_631 : decode code 631 = .ok (.aload_n 0, 1) := by decide +kernel
theorem d_law_law_632 : decode code 632 = .ok (.iload_n 3, 1) := by decide +kernel
theorem d_law_law_633 : decode code 633 = .ok (.iconst 2, 1) := by decide +kernel
theorem d_law_law_634 : decode code 634 = .ok (.iadd, 1) := by decide +kernel
theorem d_law_law_635 : decode code 635 = .ok (.iaload, 1) := by decide +kernel
