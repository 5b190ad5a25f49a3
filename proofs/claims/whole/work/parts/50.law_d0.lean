theorem d_L_law_0 : decode code 0 = .ok (.new 8, 3) := by decide +kernel
theorem d_L_law_3 : decode code 3 = .ok (.dup, 1) := by decide +kernel
theorem d_L_law_4 : decode code 4 = .ok (.aload_n 0, 1) := by decide +kernel
theorem d_L_law_5 : decode code 5 = .ok (.iconst 0, 1) := by decide +kernel
theorem d_L_law_6 : decode code 6 = .ok (.invokestatic 83, 3) := by decide +kernel
theorem d_L_law_9 : decode code 9 = .ok (.invokespecial 89, 3) := by decide +kernel
theorem d_L_law_12 : decode code 12 = .ok (.astore_n 1, 1) := by decide +kernel
theorem d_L_law_13 : decode code 13 = .ok (.new 92, 3) := by decide +kernel
theorem d_L_law_16 : decode code 16 = .ok (.dup, 1) := by decide +kernel
theorem d_L_law_17 : decode code 17 = .ok (.aload_n 0, 1) := by decide +kernel
theorem d_L_law_18 : decode code 18 = .ok (.iconst 0, 1) := by decide +kernel
theorem d_L_law_19 : decode code 19 = .ok (.invokestatic 83, 3) := by decide +kernel
theorem d_L_law_22 : decode code 22 = .ok (.invokespecial 94, 3) := by decide +kernel
theorem d_L_law_25 : decode code 25 = .ok (.astore_n 2, 1) := by decide +kernel
theorem d_L_law_26 : decode code 26 = .ok (.iconst 1, 1) := by decide +kernel
theorem d_L_law_27 : decode code 27 = .ok (.newarray .long, 2) := by decide +kernel
theorem d_L_law_29 : decode code 29 = .ok (.astore_n 3, 1) := by decide +kernel
theorem d_L_law_30 : decode code 30 = .ok (.iconst 1, 1) := by decide +kernel
theorem d_L_law_31 : decode code 31 = .ok (.istore 4, 2) := by decide +kernel
theorem d_L_law_33 : decode code 33 = .ok (.iload 4, 2) := by decide +kernel
theorem d_L_law_35 : decode code 35 = .ok (.aload_n 0, 1) := by decide +kernel
theorem d_L_law_36 : decode code 36 = .ok (.arraylength, 1) := by decide +kernel
theorem d_L_law_37 : decode code 37 = .ok (.iconst 4, 1) := by decide +kernel
theorem d_L_law_38 : decode code 38 = .ok (.isub, 1) := by decide +kernel
theorem d_L_law_39 : decode code 39 = .ok (.if_icmp .gt 1388, 3) := by decide +kernel
theorem d_L_law_42 : decode code 42 = .ok (.aload_n 0, 1) := by decide +kernel
theorem d_L_law_43 : decode code 43 = .ok (.iload 4, 2) := by decide +kernel
theorem d_L_law_45 : decode code 45 = .ok (.iaload, 1) := by decide +kernel
theorem d_L_law_46 : decode code 46 = .ok (.bipush 31, 2) := by decide +kernel
theorem d_L_law_48 : decode code 48 = .ok (.iand, 1) := by decide +kernel
theorem d_L_law_49 : decode code 49 = .ok (.tableswitch 1372 0 20 #[99, 167, 223, 279, 335, 403, 471, 539, 595, 639, 719, 732, 799, 850, 894, 974, 1034, 1113, 1181, 1249, 1316], 99) := by decide +kernel
theorem d_L_law_148 : decode code 148 = .ok (.aload_n 1, 1) := by decide +kernel
theorem d_L_law_149 : decode code 149 = .ok (.aload_n 0, 1) := by decide +kernel
theorem d_L_law_150 : decode code 150 = .ok (.iload 4, 2) := by decide +kernel
theorem d_L_law_152 : decode code 152 = .ok (.iconst 1, 1) := by decide +kernel
theorem d_L_law_153 : decode code 153 = .ok (.iadd, 1) := by decide +kernel
theorem d_L_law_154 : decode code 154 = .ok (.iaload, 1) := by decide +kernel
theorem d_L_law_155 : decode code 155 = .ok (.aload_n 0, 1) := by decide +kernel
theorem d_L_law_156 : decode code 156 = .ok (.iload 4, 2) := by decide +kernel
theorem d_L_law_158 : decode code 158 = .ok (.iconst 2, 1) := by decide +kernel
theorem d_L_law_159 : decode code 159 = .ok (.iadd, 1) := by decide +kernel
theorem d_L_law_160 : decode code 160 = .ok (.iaload, 1) := by decide +kernel
theorem d_L_law_161 : decode code 161 = .ok (.aload_n 3, 1) := by decide +kernel
theorem d_L_law_162 : decode code 162 = .ok (.invokestatic 95, 3) := by decide +kernel
theorem d_L_law_165 : decode code 165 = .ok (.istore 5, 2) := by decide +kernel
theorem d_L_law_167 : decode code 167 = .ok (.aload_n 2, 1) := by decide +kernel
theorem d_L_law_168 : decode code 168 = .ok (.aload_n 0, 1) := by decide +kernel
theorem d_L_law_169 : decode code 169 = .ok (.iload 4, 2) := by decide +kernel
theorem d_L_law_171 : decode code 171 = .ok (.iconst 1, 1) := by decide +kernel
theorem d_L_law_172 : decode code 172 = .ok (.iadd, 1) := by decide +kernel
theorem d_L_law_173 : decode code 173 = .ok (.iaload, 1) := by decide +kernel
theorem d_L_law_174 : decode code 174 = .ok (.aload_n 0, 1) := by decide +kernel
theorem d_L_law_175 : decode code 175 = .ok (.iload 4, 2) := by decide +kernel
theorem d_L_law_177 : decode code 177 = .ok (.iconst 2, 1) := by decide +kernel
theorem d_L_law_178 : decode code 178 = .ok (.iadd, 1) := by decide +kernel
theorem d_L_law_179 : decode code 179 = .ok (.iaload, 1) := by decide +kernel
theorem d_L_law_180 : decode code 180 = .ok (.invokevirtual 98, 3) := by decide +kernel
theorem d_L_law_183 : decode code 183 = .ok (.istore 6, 2) := by decide +kernel
theorem d_L_law_185 : decode code 185 = .ok (.aload_n 2, 1) := by decide +kernel
theorem d_L_law_186 : decode code 186 = .ok (.invokevirtual 99, 3) := by decide +kernel
theorem d_L_law_189 : decode code 189 = .ok (.iload 5, 2) := by decide +kernel
theorem d_L_law_191 : decode code 191 = .ok (.if_icmp .eq 5, 3) := by decide +kernel
theorem d_L_law_194 : decode code 194 = .ok (.iconst 0, 1) := by decide +kernel
theorem d_L_law_195 : decode code 195 = .ok (.ireturn, 1) := by decide +kernel
theorem d_L_law_196 : decode code 196 = .ok (.iload 5, 2) := by decide +kernel
theorem d_L_law_198 : decode code 198 = .ok (.ifCond .ne 15, 3) := by decide +kernel
theorem d_L_law_201 : decode code 201 = .ok (.aload_n 3, 1) := by decide +kernel
theorem d_L_law_202 : decode code 202 = .ok (.iconst 0, 1) := by decide +kernel
theorem d_L_law_203 : decode code 203 = .ok (.laload, 1) := by decide +kernel
theorem d_L_law_204 : decode code 204 = .ok (.iload 6, 2) := by decide +kernel
theorem d_L_law_206 : decode code 206 = .ok (.i2l, 1) := by decide +kernel
theorem d_L_law_207 : decode code 207 = .ok (.lcmp, 1) := by decide +kernel
theorem d_L_law_208 : decode code 208 = .ok (.ifCond .eq 5, 3) := by decide +kernel
theorem d_L_law_211 : decode code 211 = .ok (.iconst 0, 1) := by decide +kernel
theorem d_L_law_212 : decode code 212 = .ok (.ireturn, 1) := by decide +kernel
theorem d_L_law_213 : decode code 213 = .ok (.goto 1208, 3) := by decide +kernel
theorem d_L_law_216 : decode code 216 = .ok (.aload_n 1, 1) := by decide +kernel
theorem d_L_law_217 : decode code 217 = .ok (.aload_n 0, 1) := by decide +kernel
theorem d_L_law_218 : decode code 218 = .ok (.iload 4, 2) := by decide +kernel
theorem d_L_law_220 : decode code 220 = .ok (.iconst 1, 1) := by decide +kernel
theorem d_L_law_221 : decode code 221 = .ok (.iadd, 1) := by decide +kernel
theorem d_L_law_222 : decode code 222 = .ok (.iaload, 1) := by decide +kernel
theorem d_L_law_223 : decode code 223 = .ok (.aload_n 3, 1) := by decide +kernel
theorem d_L_law_224 : decode code 224 = .ok (.invokestatic 102, 3) := by decide +kernel
theorem d_L_law_227 : decode code 227 = .ok (.istore 5, 2) := by decide +kernel
theorem d_L_law_229 : decode code 229 = .ok (.aload_n 2, 1) := by decide +kernel
theorem d_L_law_230 : decode code 230 = .ok (.aload_n 0, 1) := by decide +kernel
theorem d_L_law_231 : decode code 231 = .ok (.iload 4, 2) := by decide +kernel
theorem d_L_law_233 : decode code 233 = .ok (.iconst 1, 1) := by decide +kernel
theorem d_L_law_234 : decode code 234 = .ok (.iadd, 1) := by decide +kernel
theorem d_L_law_235 : decode code 235 = .ok (.iaload, 1) := by decide +kernel
theorem d_L_law_236 : decode code 236 = .ok (.invokevirtual 105, 3) := by decide +kernel
theorem d_L_law_239 : decode code 239 = .ok (.istore 6, 2) := by decide +kernel
theorem d_L_law_241 : decode code 241 = .ok (.aload_n 2, 1) := by decide +kernel
theorem d_L_law_242 : decode code 242 = .ok (.invokevirtual 99, 3) := by decide +kernel
theorem d_L_law_245 : decode code 245 = .ok (.iload 5, 2) := by decide +kernel
theorem d_L_law_247 : decode code 247 = .ok (.if_icmp .eq 5, 3) := by decide +kernel
theorem d_L_law_250 : decode code 250 = .ok (.iconst 0, 1) := by decide +kernel
theorem d_L_law_251 : decode code 251 = .ok (.ireturn, 1) := by decide +kernel
theorem d_L_law_252 : decode code 252 = .ok (.iload 5, 2) := by decide +kernel
theorem d_L_law_254 : decode code 254 = .ok (.ifCond .ne 15, 3) := by decide +kernel
theorem d_L_law_257 : decode code 257 = .ok (.aload_n 3, 1) := by decide +kernel
theorem d_L_law_258 : decode code 258 = .ok (.iconst 0, 1) := by decide +kernel
theorem d_L_law_259 : decode code 259 = .ok (.laload, 1) := by decide +kernel
theorem d_L_law_260 : decode code 260 = .ok (.iload 6, 2) := by decide +kernel
theorem d_L_law_262 : decode code 262 = .ok (.i2l, 1) := by decide +kernel
theorem d_L_law_263 : decode code 263 = .ok (.lcmp, 1) := by decide +kernel
theorem d_L_law_264 : decode code 264 = .ok (.ifCond .eq 5, 3) := by decide +kernel
theorem d_L_law_267 : decode code 267 = .ok (.iconst 0, 1) := by decide +kernel
theorem d_L_law_268 : decode code 268 = .ok (.ireturn, 1) := by decide +kernel
theorem d_L_law_269 : decode code 269 = .ok (.goto 1152, 3) := by decide +kernel
theorem d_L_law_272 : decode code 272 = .ok (.aload_n 1, 1) := by decide +kernel
theorem d_L_law_273 : decode code 273 = .ok (.aload_n 0, 1) := by decide +kernel
theorem d_L_law_274 : decode code 274 = .ok (.iload 4, 2) := by decide +kernel
theorem d_L_law_276 : decode code 276 = .ok (.iconst 1, 1) := by decide +kernel
theorem d_L_law_277 : decode code 277 = .ok (.iadd, 1) := by decide +kernel
theorem d_L_law_278 : decode code 278 = .ok (.iaload, 1) := by decide +kernel
theorem d_L_law_279 : decode code 279 = .ok (.aload_n 3, 1) := by decide +kernel
theorem d_L_law_280 : decode code 280 = .ok (.invokestatic 106, 3) := by decide +kernel
theorem d_L_law_283 : decode code 283 = .ok (.istore 5, 2) := by decide +kernel
theorem d_L_law_285 : decode code 285 = .ok (.aload_n 2, 1) := by decide +kernel
theorem d_L_law_286 : decode code 286 = .ok (.aload_n 0, 1) := by decide +kernel
theorem d_L_law_287 : decode code 287 = .ok (.iload 4, 2) := by decide +kernel
theorem d_L_law_289 : decode code 289 = .ok (.iconst 1, 1) := by decide +kernel
theorem d_L_law_290 : decode code 290 = .ok (.iadd, 1) := by decide +kernel
theorem d_L_law_291 : decode code 291 = .ok (.iaload, 1) := by decide +kernel
theorem d_L_law_292 : decode code 292 = .ok (.invokevirtual 108, 3) := by decide +kernel
theorem d_L_law_295 : decode code 295 = .ok (.istore 6, 2) := by decide +kernel
theorem d_L_law_297 : decode code 297 = .ok (.aload_n 2, 1) := by decide +kernel
theorem d_L_law_298 : decode code 298 = .ok (.invokevirtual 99, 3) := by decide +kernel
theorem d_L_law_301 : decode code 301 = .ok (.iload 5, 2) := by decide +kernel
theorem d_L_law_303 : decode code 303 = .ok (.if_icmp .eq 5, 3) := by decide +kernel
theorem d_L_law_306 : decode code 306 = .ok (.iconst 0, 1) := by decide +kernel
theorem d_L_law_307 : decode code 307 = .ok (.ireturn, 1) := by decide +kernel
theorem d_L_law_308 : decode code 308 = .ok (.iload 5, 2) := by decide +kernel
theorem d_L_law_310 : decode code 310 = .ok (.ifCond .ne 15, 3) := by decide +kernel
theorem d_L_law_313 : decode code 313 = .ok (.aload_n 3, 1) := by decide +kernel
theorem d_L_law_314 : decode code 314 = .ok (.iconst 0, 1) := by decide +kernel
theorem d_L_law_315 : decode code 315 = .ok (.laload, 1) := by decide +kernel
theorem d_L_law_316 : decode code 316 = .ok (.iload 6, 2) := by decide +kernel
theorem d_L_law_318 : decode code 318 = .ok (.i2l, 1) := by decide +kernel
theorem d_L_law_319 : decode code 319 = .ok (.lcmp, 1) := by decide +kernel
theorem d_L_law_320 : decode code 320 = .ok (.ifCond .eq 5, 3) := by decide +kernel
theorem d_L_law_323 : decode code 323 = .ok (.iconst 0, 1) := by decide +kernel
theorem d_L_law_324 : decode code 324 = .ok (.ireturn, 1) := by decide +kernel
theorem d_L_law_325 : decode code 325 = .ok (.goto 1096, 3) := by decide +kernel
theorem d_L_law_328 : decode code 328 = .ok (.aload_n 1, 1) := by decide +kernel
theorem d_L_law_329 : decode code 329 = .ok (.aload_n 0, 1) := by decide +kernel
theorem d_L_law_330 : decode code 330 = .ok (.iload 4, 2) := by decide +kernel
theorem d_L_law_332 : decode code 332 = .ok (.iconst 1, 1) := by decide +kernel
theorem d_L_law_333 : decode code 333 = .ok (.iadd, 1) := by decide +kernel
theorem d_L_law_334 : decode code 334 = .ok (.iaload, 1) := by decide +kernel
theorem d_L_law_335 : decode code 335 = .ok (.aload_n 3, 1) := by decide +kernel
theorem d_L_law_336 : decode code 336 = .ok (.invokestatic 109, 3) := by decide +kernel
theorem d_L_law_339 : decode code 339 = .ok (.istore 5, 2) := by decide +kernel
theorem d_L_law_341 : decode code 341 = .ok (.aload_n 2, 1) := by decide +kernel
theorem d_L_law_342 : decode code 342 = .ok (.aload_n 0, 1) := by decide +kernel
theorem d_L_law_343 : decode code 343 = .ok (.iload 4, 2) := by decide +kernel
theorem d_L_law_345 : decode code 345 = .ok (.iconst 1, 1) := by decide +kernel
theorem d_L_law_346 : decode code 346 = .ok (.iadd, 1) := by decide +kernel
theorem d_L_law_347 : decode code 347 = .ok (.iaload, 1) := by decide +kernel
theorem d_L_law_348 : decode code 348 = .ok (.invokevirtual 111, 3) := by decide +kernel
theorem d_L_law_351 : decode code 351 = .ok (.istore 6, 2) := by decide +kernel
theorem d_L_law_353 : decode code 353 = .ok (.aload_n 2, 1) := by decide +kernel
theorem d_L_law_354 : decode code 354 = .ok (.invokevirtual 99, 3) := by decide +kernel
theorem d_L_law_357 : decode code 357 = .ok (.iload 5, 2) := by decide +kernel
theorem d_L_law_359 : decode code 359 = .ok (.if_icmp .eq 5, 3) := by decide +kernel
theorem d_L_law_362 : decode code 362 = .ok (.iconst 0, 1) := by decide +kernel
theorem d_L_law_363 : decode code 363 = .ok (.ireturn, 1) := by decide +kernel
theorem d_L_law_364 : decode code 364 = .ok (.iload 5, 2) := by decide +kernel
theorem d_L_law_366 : decode code 366 = .ok (.ifCond .ne 15, 3) := by decide +kernel
theorem d_L_law_369 : decode code 369 = .ok (.aload_n 3, 1) := by decide +kernel
theorem d_L_law_370 : decode code 370 = .ok (.iconst 0, 1) := by decide +kernel
theorem d_L_law_371 : decode code 371 = .ok (.laload, 1) := by decide +kernel
theorem d_L_law_372 : decode code 372 = .ok (.iload 6, 2) := by decide +kernel
theorem d_L_law_374 : decode code 374 = .ok (.i2l, 1) := by decide +kernel
theorem d_L_law_375 : decode code 375 = .ok (.lcmp, 1) := by decide +kernel
theorem d_L_law_376 : decode code 376 = .ok (.ifCond .eq 5, 3) := by decide +kernel
theorem d_L_law_379 : decode code 379 = .ok (.iconst 0, 1) := by decide +kernel
theorem d_L_law_380 : decode code 380 = .ok (.ireturn, 1) := by decide +kernel
theorem d_L_law_381 : decode code 381 = .ok (.goto 1040, 3) := by decide +kernel
theorem d_L_law_384 : decode code 384 = .ok (.aload_n 1, 1) := by decide +kernel
theorem d_L_law_385 : decode code 385 = .ok (.aload_n 0, 1) := by decide +kernel
theorem d_L_law_386 : decode code 386 = .ok (.iload 4, 2) := by decide +kernel
theorem d_L_law_388 : decode code 388 = .ok (.iconst 1, 1) := by decide +kernel
theorem d_L_law_389 : decode code 389 = .ok (.iadd, 1) := by decide +kernel
theorem d_L_law_390 : decode code 390 = .ok (.iaload, 1) := by decide +kernel
theorem d_L_law_391 : decode code 391 = .ok (.aload_n 0, 1) := by decide +kernel
theorem d_L_law_392 : decode code 392 = .ok (.iload 4, 2) := by decide +kernel
theorem d_L_law_394 : decode code 394 = .ok (.iconst 2, 1) := by decide +kernel
theorem d_L_law_395 : decode code 395 = .ok (.iadd, 1) := by decide +kernel
theorem d_L_law_396 : decode code 396 = .ok (.iaload, 1) := by decide +kernel
theorem d_L_law_397 : decode code 397 = .ok (.aload_n 3, 1) := by decide +kernel
theorem d_L_law_398 : decode code 398 = .ok (.invokestatic 112, 3) := by decide +kernel
theorem d_L_law_401 : decode code 401 = .ok (.istore 5, 2) := by decide +kernel
theorem d_L_law_403 : decode code 403 = .ok (.aload_n 2, 1) := by decide +kernel
theorem d_L_law_404 : decode code 404 = .ok (.aload_n 0, 1) := by decide +kernel
theorem d_L_law_405 : decode code 405 = .ok (.iload 4, 2) := by decide +kernel
theorem d_L_law_407 : decode code 407 = .ok (.iconst 1, 1) := by decide +kernel
theorem d_L_law_408 : decode code 408 = .ok (.iadd, 1) := by decide +kernel
theorem d_L_law_409 : decode code 409 = .ok (.iaload, 1) := by decide +kernel
theorem d_L_law_410 : decode code 410 = .ok (.aload_n 0, 1) := by decide +kernel
theorem d_L_law_411 : decode code 411 = .ok (.iload 4, 2) := by decide +kernel
theorem d_L_law_413 : decode code 413 = .ok (.iconst 2, 1) := by decide +kernel
theorem d_L_law_414 : decode code 414 = .ok (.iadd, 1) := by decide +kernel
theorem d_L_law_415 : decode code 415 = .ok (.iaload, 1) := by decide +kernel
theorem d_L_law_416 : decode code 416 = .ok (.invokevirtual 114, 3) := by decide +kernel
theorem d_L_law_419 : decode code 419 = .ok (.istore 6, 2) := by decide +kernel
theorem d_L_law_421 : decode code 421 = .ok (.aload_n 2, 1) := by decide +kernel
theorem d_L_law_422 : decode code 422 = .ok (.invokevirtual 99, 3) := by decide +kernel
theorem d_L_law_425 : decode code 425 = .ok (.iload 5, 2) := by decide +kernel
theorem d_L_law_427 : decode code 427 = .ok (.if_icmp .eq 5, 3) := by decide +kernel
theorem d_L_law_430 : decode code 430 = .ok (.iconst 0, 1) := by decide +kernel
theorem d_L_law_431 : decode code 431 = .ok (.ireturn, 1) := by decide +kernel
theorem d_L_law_432 : decode code 432 = .ok (.iload 5, 2) := by decide +kernel
theorem d_L_law_434 : decode code 434 = .ok (.ifCond .ne 15, 3) := by decide +kernel
theorem d_L_law_437 : decode code 437 = .ok (.aload_n 3, 1) := by decide +kernel
theorem d_L_law_438 : decode code 438 = .ok (.iconst 0, 1) := by decide +kernel
theorem d_L_law_439 : decode code 439 = .ok (.laload, 1) := by decide +kernel
theorem d_L_law_440 : decode code 440 = .ok (.iload 6, 2) := by decide +kernel
theorem d_L_law_442 : decode code 442 = .ok (.i2l, 1) := by decide +kernel
theorem d_L_law_443 : decode code 443 = .ok (.lcmp, 1) := by decide +kernel
theorem d_L_law_444 : decode code 444 = .ok (.ifCond .eq 5, 3) := by decide +kernel
theorem d_L_law_447 : decode code 447 = .ok (.iconst 0, 1) := by decide +kernel
theorem d_L_law_448 : decode code 448 = .ok (.ireturn, 1) := by decide +kernel
theorem d_L_law_449 : decode code 449 = .ok (.goto 972, 3) := by decide +kernel
theorem d_L_law_452 : decode code 452 = .ok (.aload_n 1, 1) := by decide +kernel
theorem d_L_law_453 : decode code 453 = .ok (.aload_n 0, 1) := by decide +kernel
theorem d_L_law_454 : decode code 454 = .ok (.iload 4, 2) := by decide +kernel
theorem d_L_law_456 : decode code 456 = .ok (.iconst 1, 1) := by decide +kernel
theorem d_L_law_457 : decode code 457 = .ok (.iadd, 1) := by decide +kernel
theorem d_L_law_458 : decode code 458 = .ok (.iaload, 1) := by decide +kernel
theorem d_L_law_459 : decode code 459 = .ok (.aload_n 0, 1) := by decide +kernel
theorem d_L_law_460 : decode code 460 = .ok (.iload 4, 2) := by decide +kernel
theorem d_L_law_462 : decode code 462 = .ok (.iconst 2, 1) := by decide +kernel
theorem d_L_law_463 : decode code 463 = .ok (.iadd, 1) := by decide +kernel
theorem d_L_law_464 : decode code 464 = .ok (.iaload, 1) := by decide +kernel
theorem d_L_law_465 : decode code 465 = .ok (.aload_n 3, 1) := by decide +kernel
theorem d_L_law_466 : decode code 466 = .ok (.invokestatic 115, 3) := by decide +kernel
theorem d_L_law_469 : decode code 469 = .ok (.istore 5, 2) := by decide +kernel
theorem d_L_law_471 : decode code 471 = .ok (.aload_n 2, 1) := by decide +kernel
theorem d_L_law_472 : decode code 472 = .ok (.aload_n 0, 1) := by decide +kernel
theorem d_L_law_473 : decode code 473 = .ok (.iload 4, 2) := by decide +kernel
theorem d_L_law_475 : decode code 475 = .ok (.iconst 1, 1) := by decide +kernel
theorem d_L_law_476 : decode code 476 = .ok (.iadd, 1) := by decide +kernel
theorem d_L_law_477 : decode code 477 = .ok (.iaload, 1) := by decide +kernel
theorem d_L_law_478 : decode code 478 = .ok (.aload_n 0, 1) := by decide +kernel
theorem d_L_law_479 : decode code 479 = .ok (.iload 4, 2) := by decide +kernel
theorem d_L_law_481 : decode code 481 = .ok (.iconst 2, 1) := by decide +kernel
theorem d_L_law_482 : decode code 482 = .ok (.iadd, 1) := by decide +kernel
theorem d_L_law_483 : decode code 483 = .ok (.iaload, 1) := by decide +kernel
theorem d_L_law_484 : decode code 484 = .ok (.invokevirtual 117, 3) := by decide +kernel
theorem d_L_law_487 : decode code 487 = .ok (.istore 6, 2) := by decide +kernel
theorem d_L_law_489 : decode code 489 = .ok (.aload_n 2, 1) := by decide +kernel
theorem d_L_law_490 : decode code 490 = .ok (.invokevirtual 99, 3) := by decide +kernel
theorem d_L_law_493 : decode code 493 = .ok (.iload 5, 2) := by decide +kernel
theorem d_L_law_495 : decode code 495 = .ok (.if_icmp .eq 5, 3) := by decide +kernel
theorem d_L_law_498 : decode code 498 = .ok (.iconst 0, 1) := by decide +kernel
theorem d_L_law_499 : decode code 499 = .ok (.ireturn, 1) := by decide +kernel
theorem d_L_law_500 : decode code 500 = .ok (.iload 5, 2) := by decide +kernel
theorem d_L_law_502 : decode code 502 = .ok (.ifCond .ne 15, 3) := by decide +kernel
theorem d_L_law_505 : decode code 505 = .ok (.aload_n 3, 1) := by decide +kernel
theorem d_L_law_506 : decode code 506 = .ok (.iconst 0, 1) := by decide +kernel
theorem d_L_law_507 : decode code 507 = .ok (.laload, 1) := by decide +kernel
theorem d_L_law_508 : decode code 508 = .ok (.iload 6, 2) := by decide +kernel
theorem d_L_law_510 : decode code 510 = .ok (.i2l, 1) := by decide +kernel
theorem d_L_law_511 : decode code 511 = .ok (.lcmp, 1) := by decide +kernel
theorem d_L_law_512 : decode code 512 = .ok (.ifCond .eq 5, 3) := by decide +kernel
theorem d_L_law_515 : decode code 515 = .ok (.iconst 0, 1) := by decide +kernel
theorem d_L_law_516 : decode code 516 = .ok (.ireturn, 1) := by decide +kernel
theorem d_L_law_517 : decode code 517 = .ok (.goto 904, 3) := by decide +kernel
theorem d_L_law_520 : decode code 520 = .ok (.aload_n 1, 1) := by decide +kernel
theorem d_L_law_521 : decode code 521 = .ok (.aload_n 0, 1) := by decide +kernel
theorem d_L_law_522 : decode code 522 = .ok (.iload 4, 2) := by decide +kernel
theorem d_L_law_524 : decode code 524 = .ok (.iconst 1, 1) := by decide +kernel
theorem d_L_law_525 : decode code 525 = .ok (.iadd, 1) := by decide +kernel
theorem d_L_law_526 : decode code 526 = .ok (.iaload, 1) := by decide +kernel
theorem d_L_law_527 : decode code 527 = .ok (.aload_n 0, 1) := by decide +kernel
theorem d_L_law_528 : decode code 528 = .ok (.iload 4, 2) := by decide +kernel
theorem d_L_law_530 : decode code 530 = .ok (.iconst 2, 1) := by decide +kernel
theorem d_L_law_531 : decode code 531 = .ok (.iadd, 1) := by decide +kernel
theorem d_L_law_532 : decode code 532 = .ok (.iaload, 1) := by decide +kernel
theorem d_L_law_533 : decode code 533 = .ok (.aload_n 3, 1) := by decide +kernel
theorem d_L_law_534 : decode code 534 = .ok (.invokestatic 118, 3) := by decide +kernel
theorem d_L_law_537 : decode code 537 = .ok (.istore 5, 2) := by decide +kernel
theorem d_L_law_539 : decode code 539 = .ok (.aload_n 2, 1) := by decide +kernel
theorem d_L_law_540 : decode code 540 = .ok (.aload_n 0, 1) := by decide +kernel
theorem d_L_law_541 : decode code 541 = .ok (.iload 4, 2) := by decide +kernel
theorem d_L_law_543 : decode code 543 = .ok (.iconst 1, 1) := by decide +kernel
theorem d_L_law_544 : decode code 544 = .ok (.iadd, 1) := by decide +kernel
theorem d_L_law_545 : decode code 545 = .ok (.iaload, 1) := by decide +kernel
theorem d_L_law_546 : decode code 546 = .ok (.aload_n 0, 1) := by decide +kernel
theorem d_L_law_547 : decode code 547 = .ok (.iload 4, 2) := by decide +kernel
theorem d_L_law_549 : decode code 549 = .ok (.iconst 2, 1) := by decide +kernel
theorem d_L_law_550 : decode code 550 = .ok (.iadd, 1) := by decide +kernel
theorem d_L_law_551 : decode code 551 = .ok (.iaload, 1) := by decide +kernel
theorem d_L_law_552 : decode code 552 = .ok (.invokevirtual 120, 3) := by decide +kernel
theorem d_L_law_555 : decode code 555 = .ok (.istore 6, 2) := by decide +kernel
theorem d_L_law_557 : decode code 557 = .ok (.aload_n 2, 1) := by decide +kernel
theorem d_L_law_558 : decode code 558 = .ok (.invokevirtual 99, 3) := by decide +kernel
