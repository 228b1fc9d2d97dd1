theorem nd_D_byRegisters_0 : decode nc_D_byRegisters 0 = .ok (.aload_n 0, 1) := by decide +kernel
theorem nd_D_byRegisters_1 : decode nc_D_byRegisters 1 = .ok (.getfield 81, 3) := by decide +kernel
theorem nd_D_byRegisters_4 : decode nc_D_byRegisters 4 = .ok (.bipush 11, 2) := by decide +kernel
theorem nd_D_byRegisters_6 : decode nc_D_byRegisters 6 = .ok (.ishr, 1) := by decide +kernel
theorem nd_D_byRegisters_7 : decode nc_D_byRegisters 7 = .ok (.bipush 31, 2) := by decide +kernel
theorem nd_D_byRegisters_9 : decode nc_D_byRegisters 9 = .ok (.iand, 1) := by decide +kernel
theorem nd_D_byRegisters_10 : decode nc_D_byRegisters 10 = .ok (.istore_n 1, 1) := by decide +kernel
theorem nd_D_byRegisters_11 : decode nc_D_byRegisters 11 = .ok (.aload_n 0, 1) := by decide +kernel
theorem nd_D_byRegisters_12 : decode nc_D_byRegisters 12 = .ok (.getfield 87, 3) := by decide +kernel
theorem nd_D_byRegisters_15 : decode nc_D_byRegisters 15 = .ok (.tableswitch 443 8 43 #[157, 157, 443, 443, 443, 443, 443, 443, 189, 218, 189, 218, 443, 443, 443, 443, 246, 246, 267, 267, 443, 443, 443, 443, 288, 288, 305, 305, 322, 339, 356, 373, 443, 443, 392, 416], 157) := by decide +kernel
theorem nd_D_byRegisters_172 : decode nc_D_byRegisters 172 = .ok (.aload_n 0, 1) := by decide +kernel
theorem nd_D_byRegisters_173 : decode nc_D_byRegisters 173 = .ok (.aload_n 0, 1) := by decide +kernel
theorem nd_D_byRegisters_174 : decode nc_D_byRegisters 174 = .ok (.getfield 95, 3) := by decide +kernel
theorem nd_D_byRegisters_177 : decode nc_D_byRegisters 177 = .ok (.putfield 140, 3) := by decide +kernel
theorem nd_D_byRegisters_180 : decode nc_D_byRegisters 180 = .ok (.aload_n 0, 1) := by decide +kernel
theorem nd_D_byRegisters_181 : decode nc_D_byRegisters 181 = .ok (.getfield 87, 3) := by decide +kernel
theorem nd_D_byRegisters_184 : decode nc_D_byRegisters 184 = .ok (.bipush 9, 2) := by decide +kernel
theorem nd_D_byRegisters_186 : decode nc_D_byRegisters 186 = .ok (.if_icmp .ne 277, 3) := by decide +kernel
theorem nd_D_byRegisters_189 : decode nc_D_byRegisters 189 = .ok (.aload_n 0, 1) := by decide +kernel
theorem nd_D_byRegisters_190 : decode nc_D_byRegisters 190 = .ok (.iload_n 1, 1) := by decide +kernel
theorem nd_D_byRegisters_191 : decode nc_D_byRegisters 191 = .ok (.aload_n 0, 1) := by decide +kernel
theorem nd_D_byRegisters_192 : decode nc_D_byRegisters 192 = .ok (.getfield 26, 3) := by decide +kernel
theorem nd_D_byRegisters_195 : decode nc_D_byRegisters 195 = .ok (.bipush 8, 2) := by decide +kernel
theorem nd_D_byRegisters_197 : decode nc_D_byRegisters 197 = .ok (.iadd, 1) := by decide +kernel
theorem nd_D_byRegisters_198 : decode nc_D_byRegisters 198 = .ok (.invokevirtual 136, 3) := by decide +kernel
theorem nd_D_byRegisters_201 : decode nc_D_byRegisters 201 = .ok (.goto 262, 3) := by decide +kernel
theorem nd_D_byRegisters_204 : decode nc_D_byRegisters 204 = .ok (.aload_n 0, 1) := by decide +kernel
theorem nd_D_byRegisters_205 : decode nc_D_byRegisters 205 = .ok (.iload_n 1, 1) := by decide +kernel
theorem nd_D_byRegisters_206 : decode nc_D_byRegisters 206 = .ok (.aload_n 0, 1) := by decide +kernel
theorem nd_D_byRegisters_207 : decode nc_D_byRegisters 207 = .ok (.getfield 13, 3) := by decide +kernel
theorem nd_D_byRegisters_210 : decode nc_D_byRegisters 210 = .ok (.aload_n 0, 1) := by decide +kernel
theorem nd_D_byRegisters_211 : decode nc_D_byRegisters 211 = .ok (.getfield 87, 3) := by decide +kernel
theorem nd_D_byRegisters_214 : decode nc_D_byRegisters 214 = .ok (.bipush 16, 2) := by decide +kernel
theorem nd_D_byRegisters_216 : decode nc_D_byRegisters 216 = .ok (.if_icmp .ne 8, 3) := by decide +kernel
theorem nd_D_byRegisters_219 : decode nc_D_byRegisters 219 = .ok (.bipush 32, 2) := by decide +kernel
theorem nd_D_byRegisters_221 : decode nc_D_byRegisters 221 = .ok (.goto 5, 3) := by decide +kernel
theorem nd_D_byRegisters_224 : decode nc_D_byRegisters 224 = .ok (.bipush 33, 2) := by decide +kernel
theorem nd_D_byRegisters_226 : decode nc_D_byRegisters 226 = .ok (.iaload, 1) := by decide +kernel
theorem nd_D_byRegisters_227 : decode nc_D_byRegisters 227 = .ok (.invokevirtual 136, 3) := by decide +kernel
theorem nd_D_byRegisters_230 : decode nc_D_byRegisters 230 = .ok (.goto 233, 3) := by decide +kernel
theorem nd_D_byRegisters_233 : decode nc_D_byRegisters 233 = .ok (.aload_n 0, 1) := by decide +kernel
theorem nd_D_byRegisters_234 : decode nc_D_byRegisters 234 = .ok (.getfield 13, 3) := by decide +kernel
theorem nd_D_byRegisters_237 : decode nc_D_byRegisters 237 = .ok (.aload_n 0, 1) := by decide +kernel
theorem nd_D_byRegisters_238 : decode nc_D_byRegisters 238 = .ok (.getfield 87, 3) := by decide +kernel
theorem nd_D_byRegisters_241 : decode nc_D_byRegisters 241 = .ok (.bipush 17, 2) := by decide +kernel
theorem nd_D_byRegisters_243 : decode nc_D_byRegisters 243 = .ok (.if_icmp .ne 8, 3) := by decide +kernel
theorem nd_D_byRegisters_246 : decode nc_D_byRegisters 246 = .ok (.bipush 32, 2) := by decide +kernel
theorem nd_D_byRegisters_248 : decode nc_D_byRegisters 248 = .ok (.goto 5, 3) := by decide +kernel
theorem nd_D_byRegisters_251 : decode nc_D_byRegisters 251 = .ok (.bipush 33, 2) := by decide +kernel
theorem nd_D_byRegisters_253 : decode nc_D_byRegisters 253 = .ok (.aload_n 0, 1) := by decide +kernel
theorem nd_D_byRegisters_254 : decode nc_D_byRegisters 254 = .ok (.getfield 95, 3) := by decide +kernel
theorem nd_D_byRegisters_257 : decode nc_D_byRegisters 257 = .ok (.iastore, 1) := by decide +kernel
theorem nd_D_byRegisters_258 : decode nc_D_byRegisters 258 = .ok (.goto 205, 3) := by decide +kernel
theorem nd_D_byRegisters_261 : decode nc_D_byRegisters 261 = .ok (.aload_n 0, 1) := by decide +kernel
theorem nd_D_byRegisters_262 : decode nc_D_byRegisters 262 = .ok (.aload_n 0, 1) := by decide +kernel
theorem nd_D_byRegisters_263 : decode nc_D_byRegisters 263 = .ok (.getfield 87, 3) := by decide +kernel
theorem nd_D_byRegisters_266 : decode nc_D_byRegisters 266 = .ok (.bipush 24, 2) := by decide +kernel
theorem nd_D_byRegisters_268 : decode nc_D_byRegisters 268 = .ok (.if_icmp .ne 7, 3) := by decide +kernel
theorem nd_D_byRegisters_271 : decode nc_D_byRegisters 271 = .ok (.iconst 1, 1) := by decide +kernel
theorem nd_D_byRegisters_272 : decode nc_D_byRegisters 272 = .ok (.goto 4, 3) := by decide +kernel
theorem nd_D_byRegisters_275 : decode nc_D_byRegisters 275 = .ok (.iconst 0, 1) := by decide +kernel
theorem nd_D_byRegisters_276 : decode nc_D_byRegisters 276 = .ok (.invokevirtual 143, 3) := by decide +kernel
theorem nd_D_byRegisters_279 : decode nc_D_byRegisters 279 = .ok (.goto 184, 3) := by decide +kernel
theorem nd_D_byRegisters_282 : decode nc_D_byRegisters 282 = .ok (.aload_n 0, 1) := by decide +kernel
theorem nd_D_byRegisters_283 : decode nc_D_byRegisters 283 = .ok (.aload_n 0, 1) := by decide +kernel
theorem nd_D_byRegisters_284 : decode nc_D_byRegisters 284 = .ok (.getfield 87, 3) := by decide +kernel
theorem nd_D_byRegisters_287 : decode nc_D_byRegisters 287 = .ok (.bipush 26, 2) := by decide +kernel
theorem nd_D_byRegisters_289 : decode nc_D_byRegisters 289 = .ok (.if_icmp .ne 7, 3) := by decide +kernel
theorem nd_D_byRegisters_292 : decode nc_D_byRegisters 292 = .ok (.iconst 1, 1) := by decide +kernel
theorem nd_D_byRegisters_293 : decode nc_D_byRegisters 293 = .ok (.goto 4, 3) := by decide +kernel
theorem nd_D_byRegisters_296 : decode nc_D_byRegisters 296 = .ok (.iconst 0, 1) := by decide +kernel
theorem nd_D_byRegisters_297 : decode nc_D_byRegisters 297 = .ok (.invokevirtual 147, 3) := by decide +kernel
theorem nd_D_byRegisters_300 : decode nc_D_byRegisters 300 = .ok (.goto 163, 3) := by decide +kernel
theorem nd_D_byRegisters_303 : decode nc_D_byRegisters 303 = .ok (.aload_n 0, 1) := by decide +kernel
theorem nd_D_byRegisters_304 : decode nc_D_byRegisters 304 = .ok (.iload_n 1, 1) := by decide +kernel
theorem nd_D_byRegisters_305 : decode nc_D_byRegisters 305 = .ok (.aload_n 0, 1) := by decide +kernel
theorem nd_D_byRegisters_306 : decode nc_D_byRegisters 306 = .ok (.getfield 95, 3) := by decide +kernel
theorem nd_D_byRegisters_309 : decode nc_D_byRegisters 309 = .ok (.aload_n 0, 1) := by decide +kernel
theorem nd_D_byRegisters_310 : decode nc_D_byRegisters 310 = .ok (.getfield 118, 3) := by decide +kernel
theorem nd_D_byRegisters_313 : decode nc_D_byRegisters 313 = .ok (.iadd, 1) := by decide +kernel
theorem nd_D_byRegisters_314 : decode nc_D_byRegisters 314 = .ok (.invokevirtual 136, 3) := by decide +kernel
theorem nd_D_byRegisters_317 : decode nc_D_byRegisters 317 = .ok (.goto 146, 3) := by decide +kernel
theorem nd_D_byRegisters_320 : decode nc_D_byRegisters 320 = .ok (.aload_n 0, 1) := by decide +kernel
theorem nd_D_byRegisters_321 : decode nc_D_byRegisters 321 = .ok (.iload_n 1, 1) := by decide +kernel
theorem nd_D_byRegisters_322 : decode nc_D_byRegisters 322 = .ok (.aload_n 0, 1) := by decide +kernel
theorem nd_D_byRegisters_323 : decode nc_D_byRegisters 323 = .ok (.getfield 95, 3) := by decide +kernel
theorem nd_D_byRegisters_326 : decode nc_D_byRegisters 326 = .ok (.aload_n 0, 1) := by decide +kernel
theorem nd_D_byRegisters_327 : decode nc_D_byRegisters 327 = .ok (.getfield 118, 3) := by decide +kernel
theorem nd_D_byRegisters_330 : decode nc_D_byRegisters 330 = .ok (.isub, 1) := by decide +kernel
theorem nd_D_byRegisters_331 : decode nc_D_byRegisters 331 = .ok (.invokevirtual 136, 3) := by decide +kernel
theorem nd_D_byRegisters_334 : decode nc_D_byRegisters 334 = .ok (.goto 129, 3) := by decide +kernel
theorem nd_D_byRegisters_337 : decode nc_D_byRegisters 337 = .ok (.aload_n 0, 1) := by decide +kernel
theorem nd_D_byRegisters_338 : decode nc_D_byRegisters 338 = .ok (.iload_n 1, 1) := by decide +kernel
theorem nd_D_byRegisters_339 : decode nc_D_byRegisters 339 = .ok (.aload_n 0, 1) := by decide +kernel
theorem nd_D_byRegisters_340 : decode nc_D_byRegisters 340 = .ok (.getfield 95, 3) := by decide +kernel
theorem nd_D_byRegisters_343 : decode nc_D_byRegisters 343 = .ok (.aload_n 0, 1) := by decide +kernel
theorem nd_D_byRegisters_344 : decode nc_D_byRegisters 344 = .ok (.getfield 118, 3) := by decide +kernel
theorem nd_D_byRegisters_347 : decode nc_D_byRegisters 347 = .ok (.iand, 1) := by decide +kernel
theorem nd_D_byRegisters_348 : decode nc_D_byRegisters 348 = .ok (.invokevirtual 136, 3) := by decide +kernel
theorem nd_D_byRegisters_351 : decode nc_D_byRegisters 351 = .ok (.goto 112, 3) := by decide +kernel
theorem nd_D_byRegisters_354 : decode nc_D_byRegisters 354 = .ok (.aload_n 0, 1) := by decide +kernel
theorem nd_D_byRegisters_355 : decode nc_D_byRegisters 355 = .ok (.iload_n 1, 1) := by decide +kernel
theorem nd_D_byRegisters_356 : decode nc_D_byRegisters 356 = .ok (.aload_n 0, 1) := by decide +kernel
theorem nd_D_byRegisters_357 : decode nc_D_byRegisters 357 = .ok (.getfield 95, 3) := by decide +kernel
theorem nd_D_byRegisters_360 : decode nc_D_byRegisters 360 = .ok (.aload_n 0, 1) := by decide +kernel
theorem nd_D_byRegisters_361 : decode nc_D_byRegisters 361 = .ok (.getfield 118, 3) := by decide +kernel
theorem nd_D_byRegisters_364 : decode nc_D_byRegisters 364 = .ok (.ior, 1) := by decide +kernel
theorem nd_D_byRegisters_365 : decode nc_D_byRegisters 365 = .ok (.invokevirtual 136, 3) := by decide +kernel
theorem nd_D_byRegisters_368 : decode nc_D_byRegisters 368 = .ok (.goto 95, 3) := by decide +kernel
theorem nd_D_byRegisters_371 : decode nc_D_byRegisters 371 = .ok (.aload_n 0, 1) := by decide +kernel
theorem nd_D_byRegisters_372 : decode nc_D_byRegisters 372 = .ok (.iload_n 1, 1) := by decide +kernel
theorem nd_D_byRegisters_373 : decode nc_D_byRegisters 373 = .ok (.aload_n 0, 1) := by decide +kernel
theorem nd_D_byRegisters_374 : decode nc_D_byRegisters 374 = .ok (.getfield 95, 3) := by decide +kernel
theorem nd_D_byRegisters_377 : decode nc_D_byRegisters 377 = .ok (.aload_n 0, 1) := by decide +kernel
theorem nd_D_byRegisters_378 : decode nc_D_byRegisters 378 = .ok (.getfield 118, 3) := by decide +kernel
theorem nd_D_byRegisters_381 : decode nc_D_byRegisters 381 = .ok (.ixor, 1) := by decide +kernel
theorem nd_D_byRegisters_382 : decode nc_D_byRegisters 382 = .ok (.invokevirtual 136, 3) := by decide +kernel
theorem nd_D_byRegisters_385 : decode nc_D_byRegisters 385 = .ok (.goto 78, 3) := by decide +kernel
theorem nd_D_byRegisters_388 : decode nc_D_byRegisters 388 = .ok (.aload_n 0, 1) := by decide +kernel
theorem nd_D_byRegisters_389 : decode nc_D_byRegisters 389 = .ok (.iload_n 1, 1) := by decide +kernel
theorem nd_D_byRegisters_390 : decode nc_D_byRegisters 390 = .ok (.aload_n 0, 1) := by decide +kernel
theorem nd_D_byRegisters_391 : decode nc_D_byRegisters 391 = .ok (.getfield 95, 3) := by decide +kernel
theorem nd_D_byRegisters_394 : decode nc_D_byRegisters 394 = .ok (.aload_n 0, 1) := by decide +kernel
theorem nd_D_byRegisters_395 : decode nc_D_byRegisters 395 = .ok (.getfield 118, 3) := by decide +kernel
theorem nd_D_byRegisters_398 : decode nc_D_byRegisters 398 = .ok (.ior, 1) := by decide +kernel
theorem nd_D_byRegisters_399 : decode nc_D_byRegisters 399 = .ok (.iconst (-1), 1) := by decide +kernel
theorem nd_D_byRegisters_400 : decode nc_D_byRegisters 400 = .ok (.ixor, 1) := by decide +kernel
theorem nd_D_byRegisters_401 : decode nc_D_byRegisters 401 = .ok (.invokevirtual 136, 3) := by decide +kernel
theorem nd_D_byRegisters_404 : decode nc_D_byRegisters 404 = .ok (.goto 59, 3) := by decide +kernel
theorem nd_D_byRegisters_407 : decode nc_D_byRegisters 407 = .ok (.aload_n 0, 1) := by decide +kernel
theorem nd_D_byRegisters_408 : decode nc_D_byRegisters 408 = .ok (.iload_n 1, 1) := by decide +kernel
theorem nd_D_byRegisters_409 : decode nc_D_byRegisters 409 = .ok (.aload_n 0, 1) := by decide +kernel
theorem nd_D_byRegisters_410 : decode nc_D_byRegisters 410 = .ok (.getfield 95, 3) := by decide +kernel
theorem nd_D_byRegisters_413 : decode nc_D_byRegisters 413 = .ok (.aload_n 0, 1) := by decide +kernel
theorem nd_D_byRegisters_414 : decode nc_D_byRegisters 414 = .ok (.getfield 118, 3) := by decide +kernel
theorem nd_D_byRegisters_417 : decode nc_D_byRegisters 417 = .ok (.if_icmp .ge 7, 3) := by decide +kernel
theorem nd_D_byRegisters_420 : decode nc_D_byRegisters 420 = .ok (.iconst 1, 1) := by decide +kernel
theorem nd_D_byRegisters_421 : decode nc_D_byRegisters 421 = .ok (.goto 4, 3) := by decide +kernel
theorem nd_D_byRegisters_424 : decode nc_D_byRegisters 424 = .ok (.iconst 0, 1) := by decide +kernel
theorem nd_D_byRegisters_425 : decode nc_D_byRegisters 425 = .ok (.invokevirtual 136, 3) := by decide +kernel
theorem nd_D_byRegisters_428 : decode nc_D_byRegisters 428 = .ok (.goto 35, 3) := by decide +kernel
theorem nd_D_byRegisters_431 : decode nc_D_byRegisters 431 = .ok (.aload_n 0, 1) := by decide +kernel
theorem nd_D_byRegisters_432 : decode nc_D_byRegisters 432 = .ok (.iload_n 1, 1) := by decide +kernel
theorem nd_D_byRegisters_433 : decode nc_D_byRegisters 433 = .ok (.aload_n 0, 1) := by decide +kernel
theorem nd_D_byRegisters_434 : decode nc_D_byRegisters 434 = .ok (.getfield 95, 3) := by decide +kernel
theorem nd_D_byRegisters_437 : decode nc_D_byRegisters 437 = .ok (.aload_n 0, 1) := by decide +kernel
theorem nd_D_byRegisters_438 : decode nc_D_byRegisters 438 = .ok (.getfield 118, 3) := by decide +kernel
theorem nd_D_byRegisters_441 : decode nc_D_byRegisters 441 = .ok (.invokestatic 150, 3) := by decide +kernel
theorem nd_D_byRegisters_444 : decode nc_D_byRegisters 444 = .ok (.ifCond .eq 7, 3) := by decide +kernel
theorem nd_D_byRegisters_447 : decode nc_D_byRegisters 447 = .ok (.iconst 1, 1) := by decide +kernel
theorem nd_D_byRegisters_448 : decode nc_D_byRegisters 448 = .ok (.goto 4, 3) := by decide +kernel
theorem nd_D_byRegisters_451 : decode nc_D_byRegisters 451 = .ok (.iconst 0, 1) := by decide +kernel
theorem nd_D_byRegisters_452 : decode nc_D_byRegisters 452 = .ok (.invokevirtual 136, 3) := by decide +kernel
theorem nd_D_byRegisters_455 : decode nc_D_byRegisters 455 = .ok (.goto 8, 3) := by decide +kernel
theorem nd_D_byRegisters_458 : decode nc_D_byRegisters 458 = .ok (.aload_n 0, 1) := by decide +kernel
theorem nd_D_byRegisters_459 : decode nc_D_byRegisters 459 = .ok (.iload_n 1, 1) := by decide +kernel
theorem nd_D_byRegisters_460 : decode nc_D_byRegisters 460 = .ok (.invokevirtual 153, 3) := by decide +kernel
theorem nd_D_byRegisters_463 : decode nc_D_byRegisters 463 = .ok (.return_, 1) := by decide +kernel
theorem nd_D_branch_0 : decode nc_D_branch 0 = .ok (.aload_n 0, 1) := by decide +kernel
theorem nd_D_branch_1 : decode nc_D_branch 1 = .ok (.getfield 81, 3) := by decide +kernel
theorem nd_D_branch_4 : decode nc_D_branch 4 = .ok (.bipush 16, 2) := by decide +kernel
theorem nd_D_branch_6 : decode nc_D_branch 6 = .ok (.ishr, 1) := by decide +kernel
theorem nd_D_branch_7 : decode nc_D_branch 7 = .ok (.bipush 31, 2) := by decide +kernel
theorem nd_D_branch_9 : decode nc_D_branch 9 = .ok (.iand, 1) := by decide +kernel
theorem nd_D_branch_10 : decode nc_D_branch 10 = .ok (.istore_n 1, 1) := by decide +kernel
theorem nd_D_branch_11 : decode nc_D_branch 11 = .ok (.aload_n 0, 1) := by decide +kernel
theorem nd_D_branch_12 : decode nc_D_branch 12 = .ok (.getfield 84, 3) := by decide +kernel
theorem nd_D_branch_15 : decode nc_D_branch 15 = .ok (.iconst 4, 1) := by decide +kernel
theorem nd_D_branch_16 : decode nc_D_branch 16 = .ok (.if_icmp .ne 22, 3) := by decide +kernel
theorem nd_D_branch_19 : decode nc_D_branch 19 = .ok (.aload_n 0, 1) := by decide +kernel
theorem nd_D_branch_20 : decode nc_D_branch 20 = .ok (.getfield 95, 3) := by decide +kernel
theorem nd_D_branch_23 : decode nc_D_branch 23 = .ok (.aload_n 0, 1) := by decide +kernel
theorem nd_D_branch_24 : decode nc_D_branch 24 = .ok (.getfield 118, 3) := by decide +kernel
theorem nd_D_branch_27 : decode nc_D_branch 27 = .ok (.if_icmp .ne 7, 3) := by decide +kernel
theorem nd_D_branch_30 : decode nc_D_branch 30 = .ok (.iconst 1, 1) := by decide +kernel
theorem nd_D_branch_31 : decode nc_D_branch 31 = .ok (.goto 115, 3) := by decide +kernel
theorem nd_D_branch_34 : decode nc_D_branch 34 = .ok (.iconst 0, 1) := by decide +kernel
theorem nd_D_branch_35 : decode nc_D_branch 35 = .ok (.goto 111, 3) := by decide +kernel
theorem nd_D_branch_38 : decode nc_D_branch 38 = .ok (.aload_n 0, 1) := by decide +kernel
theorem nd_D_branch_39 : decode nc_D_branch 39 = .ok (.getfield 84, 3) := by decide +kernel
theorem nd_D_branch_42 : decode nc_D_branch 42 = .ok (.iconst 5, 1) := by decide +kernel
theorem nd_D_branch_43 : decode nc_D_branch 43 = .ok (.if_icmp .ne 22, 3) := by decide +kernel
theorem nd_D_branch_46 : decode nc_D_branch 46 = .ok (.aload_n 0, 1) := by decide +kernel
theorem nd_D_branch_47 : decode nc_D_branch 47 = .ok (.getfield 95, 3) := by decide +kernel
theorem nd_D_branch_50 : decode nc_D_branch 50 = .ok (.aload_n 0, 1) := by decide +kernel
theorem nd_D_branch_51 : decode nc_D_branch 51 = .ok (.getfield 118, 3) := by decide +kernel
theorem nd_D_branch_54 : decode nc_D_branch 54 = .ok (.if_icmp .eq 7, 3) := by decide +kernel
theorem nd_D_branch_57 : decode nc_D_branch 57 = .ok (.iconst 1, 1) := by decide +kernel
theorem nd_D_branch_58 : decode nc_D_branch 58 = .ok (.goto 88, 3) := by decide +kernel
theorem nd_D_branch_61 : decode nc_D_branch 61 = .ok (.iconst 0, 1) := by decide +kernel
theorem nd_D_branch_62 : decode nc_D_branch 62 = .ok (.goto 84, 3) := by decide +kernel
theorem nd_D_branch_65 : decode nc_D_branch 65 = .ok (.aload_n 0, 1) := by decide +kernel
theorem nd_D_branch_66 : decode nc_D_branch 66 = .ok (.getfield 84, 3) := by decide +kernel
theorem nd_D_branch_69 : decode nc_D_branch 69 = .ok (.bipush 6, 2) := by decide +kernel
theorem nd_D_branch_71 : decode nc_D_branch 71 = .ok (.if_icmp .ne 18, 3) := by decide +kernel
theorem nd_D_branch_74 : decode nc_D_branch 74 = .ok (.aload_n 0, 1) := by decide +kernel
theorem nd_D_branch_75 : decode nc_D_branch 75 = .ok (.getfield 95, 3) := by decide +kernel
theorem nd_D_branch_78 : decode nc_D_branch 78 = .ok (.ifCond .gt 7, 3) := by decide +kernel
theorem nd_D_branch_81 : decode nc_D_branch 81 = .ok (.iconst 1, 1) := by decide +kernel
theorem nd_D_branch_82 : decode nc_D_branch 82 = .ok (.goto 64, 3) := by decide +kernel
theorem nd_D_branch_85 : decode nc_D_branch 85 = .ok (.iconst 0, 1) := by decide +kernel
theorem nd_D_branch_86 : decode nc_D_branch 86 = .ok (.goto 60, 3) := by decide +kernel
theorem nd_D_branch_89 : decode nc_D_branch 89 = .ok (.aload_n 0, 1) := by decide +kernel
theorem nd_D_branch_90 : decode nc_D_branch 90 = .ok (.getfield 84, 3) := by decide +kernel
theorem nd_D_branch_93 : decode nc_D_branch 93 = .ok (.bipush 7, 2) := by decide +kernel
theorem nd_D_branch_95 : decode nc_D_branch 95 = .ok (.if_icmp .ne 18, 3) := by decide +kernel
theorem nd_D_branch_98 : decode nc_D_branch 98 = .ok (.aload_n 0, 1) := by decide +kernel
theorem nd_D_branch_99 : decode nc_D_branch 99 = .ok (.getfield 95, 3) := by decide +kernel
theorem nd_D_branch_102 : decode nc_D_branch 102 = .ok (.ifCond .le 7, 3) := by decide +kernel
theorem nd_D_branch_105 : decode nc_D_branch 105 = .ok (.iconst 1, 1) := by decide +kernel
theorem nd_D_branch_106 : decode nc_D_branch 106 = .ok (.goto 40, 3) := by decide +kernel
theorem nd_D_branch_109 : decode nc_D_branch 109 = .ok (.iconst 0, 1) := by decide +kernel
theorem nd_D_branch_110 : decode nc_D_branch 110 = .ok (.goto 36, 3) := by decide +kernel
theorem nd_D_branch_113 : decode nc_D_branch 113 = .ok (.iload_n 1, 1) := by decide +kernel
theorem nd_D_branch_114 : decode nc_D_branch 114 = .ok (.iconst 2, 1) := by decide +kernel
theorem nd_D_branch_115 : decode nc_D_branch 115 = .ok (.irem, 1) := by decide +kernel
theorem nd_D_branch_116 : decode nc_D_branch 116 = .ok (.ifCond .ne 18, 3) := by decide +kernel
theorem nd_D_branch_119 : decode nc_D_branch 119 = .ok (.aload_n 0, 1) := by decide +kernel
theorem nd_D_branch_120 : decode nc_D_branch 120 = .ok (.getfield 95, 3) := by decide +kernel
theorem nd_D_branch_123 : decode nc_D_branch 123 = .ok (.ifCond .ge 7, 3) := by decide +kernel
theorem nd_D_branch_126 : decode nc_D_branch 126 = .ok (.iconst 1, 1) := by decide +kernel
theorem nd_D_branch_127 : decode nc_D_branch 127 = .ok (.goto 19, 3) := by decide +kernel
theorem nd_D_branch_130 : decode nc_D_branch 130 = .ok (.iconst 0, 1) := by decide +kernel
theorem nd_D_branch_131 : decode nc_D_branch 131 = .ok (.goto 15, 3) := by decide +kernel
theorem nd_D_branch_134 : decode nc_D_branch 134 = .ok (.aload_n 0, 1) := by decide +kernel
theorem nd_D_branch_135 : decode nc_D_branch 135 = .ok (.getfield 95, 3) := by decide +kernel
theorem nd_D_branch_138 : decode nc_D_branch 138 = .ok (.ifCond .lt 7, 3) := by decide +kernel
theorem nd_D_branch_141 : decode nc_D_branch 141 = .ok (.iconst 1, 1) := by decide +kernel
theorem nd_D_branch_142 : decode nc_D_branch 142 = .ok (.goto 4, 3) := by decide +kernel
theorem nd_D_branch_145 : decode nc_D_branch 145 = .ok (.iconst 0, 1) := by decide +kernel
theorem nd_D_branch_146 : decode nc_D_branch 146 = .ok (.istore_n 2, 1) := by decide +kernel
theorem nd_D_branch_147 : decode nc_D_branch 147 = .ok (.aload_n 0, 1) := by decide +kernel
theorem nd_D_branch_148 : decode nc_D_branch 148 = .ok (.getfield 84, 3) := by decide +kernel
theorem nd_D_branch_151 : decode nc_D_branch 151 = .ok (.iconst 4, 1) := by decide +kernel
theorem nd_D_branch_152 : decode nc_D_branch 152 = .ok (.if_icmp .ge 37, 3) := by decide +kernel
theorem nd_D_branch_155 : decode nc_D_branch 155 = .ok (.aload_n 0, 1) := by decide +kernel
theorem nd_D_branch_156 : decode nc_D_branch 156 = .ok (.getfield 84, 3) := by decide +kernel
theorem nd_D_branch_159 : decode nc_D_branch 159 = .ok (.iconst 1, 1) := by decide +kernel
theorem nd_D_branch_160 : decode nc_D_branch 160 = .ok (.if_icmp .le 29, 3) := by decide +kernel
theorem nd_D_branch_163 : decode nc_D_branch 163 = .ok (.aload_n 0, 1) := by decide +kernel
theorem nd_D_branch_164 : decode nc_D_branch 164 = .ok (.aload_n 0, 1) := by decide +kernel
theorem nd_D_branch_165 : decode nc_D_branch 165 = .ok (.getfield 26, 3) := by decide +kernel
theorem nd_D_branch_168 : decode nc_D_branch 168 = .ok (.iconst 4, 1) := by decide +kernel
theorem nd_D_branch_169 : decode nc_D_branch 169 = .ok (.iadd, 1) := by decide +kernel
theorem nd_D_branch_170 : decode nc_D_branch 170 = .ok (.ldc 157, 2) := by decide +kernel
theorem nd_D_branch_172 : decode nc_D_branch 172 = .ok (.iand, 1) := by decide +kernel
theorem nd_D_branch_173 : decode nc_D_branch 173 = .ok (.aload_n 0, 1) := by decide +kernel
theorem nd_D_branch_174 : decode nc_D_branch 174 = .ok (.getfield 81, 3) := by decide +kernel
theorem nd_D_branch_177 : decode nc_D_branch 177 = .ok (.ldc 158, 2) := by decide +kernel
theorem nd_D_branch_179 : decode nc_D_branch 179 = .ok (.iand, 1) := by decide +kernel
theorem nd_D_branch_180 : decode nc_D_branch 180 = .ok (.iconst 2, 1) := by decide +kernel
theorem nd_D_branch_181 : decode nc_D_branch 181 = .ok (.ishl, 1) := by decide +kernel
theorem nd_D_branch_182 : decode nc_D_branch 182 = .ok (.ior, 1) := by decide +kernel
theorem nd_D_branch_183 : decode nc_D_branch 183 = .ok (.putfield 140, 3) := by decide +kernel
theorem nd_D_branch_186 : decode nc_D_branch 186 = .ok (.goto 24, 3) := by decide +kernel
theorem nd_D_branch_189 : decode nc_D_branch 189 = .ok (.iload_n 2, 1) := by decide +kernel
theorem nd_D_branch_190 : decode nc_D_branch 190 = .ok (.ifCond .eq 20, 3) := by decide +kernel
theorem nd_D_branch_193 : decode nc_D_branch 193 = .ok (.aload_n 0, 1) := by decide +kernel
theorem nd_D_branch_194 : decode nc_D_branch 194 = .ok (.aload_n 0, 1) := by decide +kernel
theorem nd_D_branch_195 : decode nc_D_branch 195 = .ok (.getfield 26, 3) := by decide +kernel
theorem nd_D_branch_198 : decode nc_D_branch 198 = .ok (.iconst 4, 1) := by decide +kernel
theorem nd_D_branch_199 : decode nc_D_branch 199 = .ok (.iadd, 1) := by decide +kernel
theorem nd_D_branch_200 : decode nc_D_branch 200 = .ok (.iconst 4, 1) := by decide +kernel
theorem nd_D_branch_201 : decode nc_D_branch 201 = .ok (.aload_n 0, 1) := by decide +kernel
theorem nd_D_branch_202 : decode nc_D_branch 202 = .ok (.invokevirtual 98, 3) := by decide +kernel
theorem nd_D_branch_205 : decode nc_D_branch 205 = .ok (.imul, 1) := by decide +kernel
theorem nd_D_branch_206 : decode nc_D_branch 206 = .ok (.iadd, 1) := by decide +kernel
theorem nd_D_branch_207 : decode nc_D_branch 207 = .ok (.putfield 140, 3) := by decide +kernel
theorem nd_D_branch_210 : decode nc_D_branch 210 = .ok (.aload_n 0, 1) := by decide +kernel
theorem nd_D_branch_211 : decode nc_D_branch 211 = .ok (.getfield 84, 3) := by decide +kernel
theorem nd_D_branch_214 : decode nc_D_branch 214 = .ok (.iconst 3, 1) := by decide +kernel
theorem nd_D_branch_215 : decode nc_D_branch 215 = .ok (.if_icmp .eq 17, 3) := by decide +kernel
theorem nd_D_branch_218 : decode nc_D_branch 218 = .ok (.aload_n 0, 1) := by decide +kernel
theorem nd_D_branch_219 : decode nc_D_branch 219 = .ok (.getfield 84, 3) := by decide +kernel
theorem nd_D_branch_222 : decode nc_D_branch 222 = .ok (.iconst 1, 1) := by decide +kernel
theorem nd_D_branch_223 : decode nc_D_branch 223 = .ok (.if_icmp .ne 22, 3) := by decide +kernel
theorem nd_D_branch_226 : decode nc_D_branch 226 = .ok (.iload_n 1, 1) := by decide +kernel
theorem nd_D_branch_227 : decode nc_D_branch 227 = .ok (.bipush 15, 2) := by decide +kernel
theorem nd_D_branch_229 : decode nc_D_branch 229 = .ok (.if_icmp .le 16, 3) := by decide +kernel
theorem nd_D_branch_232 : decode nc_D_branch 232 = .ok (.aload_n 0, 1) := by decide +kernel
theorem nd_D_branch_233 : decode nc_D_branch 233 = .ok (.bipush 31, 2) := by decide +kernel
theorem nd_D_branch_235 : decode nc_D_branch 235 = .ok (.aload_n 0, 1) := by decide +kernel
theorem nd_D_branch_236 : decode nc_D_branch 236 = .ok (.getfield 26, 3) := by decide +kernel
theorem nd_D_branch_239 : decode nc_D_branch 239 = .ok (.bipush 8, 2) := by decide +kernel
theorem nd_D_branch_241 : decode nc_D_branch 241 = .ok (.iadd, 1) := by decide +kernel
theorem nd_D_branch_242 : decode nc_D_branch 242 = .ok (.invokevirtual 136, 3) := by decide +kernel
theorem nd_D_branch_245 : decode nc_D_branch 245 = .ok (.return_, 1) := by decide +kernel
theorem nd_D_byNumber_0 : decode nc_D_byNumber 0 = .ok (.aload_n 0, 1) := by decide +kernel
theorem nd_D_byNumber_1 : decode nc_D_byNumber 1 = .ok (.getfield 81, 3) := by decide +kernel
theorem nd_D_byNumber_4 : decode nc_D_byNumber 4 = .ok (.bipush 16, 2) := by decide +kernel
theorem nd_D_byNumber_6 : decode nc_D_byNumber 6 = .ok (.ishr, 1) := by decide +kernel
theorem nd_D_byNumber_7 : decode nc_D_byNumber 7 = .ok (.bipush 31, 2) := by decide +kernel
theorem nd_D_byNumber_9 : decode nc_D_byNumber 9 = .ok (.iand, 1) := by decide +kernel
theorem nd_D_byNumber_10 : decode nc_D_byNumber 10 = .ok (.istore_n 1, 1) := by decide +kernel
theorem nd_D_byNumber_11 : decode nc_D_byNumber 11 = .ok (.aload_n 0, 1) := by decide +kernel
theorem nd_D_byNumber_12 : decode nc_D_byNumber 12 = .ok (.getfield 81, 3) := by decide +kernel
theorem nd_D_byNumber_15 : decode nc_D_byNumber 15 = .ok (.ldc 159, 2) := by decide +kernel
theorem nd_D_byNumber_17 : decode nc_D_byNumber 17 = .ok (.iand, 1) := by decide +kernel
theorem nd_D_byNumber_18 : decode nc_D_byNumber 18 = .ok (.istore_n 2, 1) := by decide +kernel
theorem nd_D_byNumber_19 : decode nc_D_byNumber 19 = .ok (.aload_n 0, 1) := by decide +kernel
theorem nd_D_byNumber_20 : decode nc_D_byNumber 20 = .ok (.getfield 84, 3) := by decide +kernel
theorem nd_D_byNumber_23 : decode nc_D_byNumber 23 = .ok (.tableswitch 151 8 14 #[41, 41, 58, 82, 109, 123, 137], 41) := by decide +kernel
theorem nd_D_byNumber_64 : decode nc_D_byNumber 64 = .ok (.aload_n 0, 1) := by decide +kernel
theorem nd_D_byNumber_65 : decode nc_D_byNumber 65 = .ok (.iload_n 1, 1) := by decide +kernel
theorem nd_D_byNumber_66 : decode nc_D_byNumber 66 = .ok (.aload_n 0, 1) := by decide +kernel
theorem nd_D_byNumber_67 : decode nc_D_byNumber 67 = .ok (.getfield 95, 3) := by decide +kernel
theorem nd_D_byNumber_70 : decode nc_D_byNumber 70 = .ok (.aload_n 0, 1) := by decide +kernel
theorem nd_D_byNumber_71 : decode nc_D_byNumber 71 = .ok (.invokevirtual 98, 3) := by decide +kernel
theorem nd_D_byNumber_74 : decode nc_D_byNumber 74 = .ok (.iadd, 1) := by decide +kernel
theorem nd_D_byNumber_75 : decode nc_D_byNumber 75 = .ok (.invokevirtual 136, 3) := by decide +kernel
theorem nd_D_byNumber_78 : decode nc_D_byNumber 78 = .ok (.goto 105, 3) := by decide +kernel
theorem nd_D_byNumber_81 : decode nc_D_byNumber 81 = .ok (.aload_n 0, 1) := by decide +kernel
theorem nd_D_byNumber_82 : decode nc_D_byNumber 82 = .ok (.iload_n 1, 1) := by decide +kernel
theorem nd_D_byNumber_83 : decode nc_D_byNumber 83 = .ok (.aload_n 0, 1) := by decide +kernel
theorem nd_D_byNumber_84 : decode nc_D_byNumber 84 = .ok (.getfield 95, 3) := by decide +kernel
theorem nd_D_byNumber_87 : decode nc_D_byNumber 87 = .ok (.aload_n 0, 1) := by decide +kernel
theorem nd_D_byNumber_88 : decode nc_D_byNumber 88 = .ok (.invokevirtual 98, 3) := by decide +kernel
theorem nd_D_byNumber_91 : decode nc_D_byNumber 91 = .ok (.if_icmp .ge 7, 3) := by decide +kernel
theorem nd_D_byNumber_94 : decode nc_D_byNumber 94 = .ok (.iconst 1, 1) := by decide +kernel
theorem nd_D_byNumber_95 : decode nc_D_byNumber 95 = .ok (.goto 4, 3) := by decide +kernel
theorem nd_D_byNumber_98 : decode nc_D_byNumber 98 = .ok (.iconst 0, 1) := by decide +kernel
theorem nd_D_byNumber_99 : decode nc_D_byNumber 99 = .ok (.invokevirtual 136, 3) := by decide +kernel
theorem nd_D_byNumber_102 : decode nc_D_byNumber 102 = .ok (.goto 81, 3) := by decide +kernel
theorem nd_D_byNumber_105 : decode nc_D_byNumber 105 = .ok (.aload_n 0, 1) := by decide +kernel
theorem nd_D_byNumber_106 : decode nc_D_byNumber 106 = .ok (.iload_n 1, 1) := by decide +kernel
theorem nd_D_byNumber_107 : decode nc_D_byNumber 107 = .ok (.aload_n 0, 1) := by decide +kernel
theorem nd_D_byNumber_108 : decode nc_D_byNumber 108 = .ok (.getfield 95, 3) := by decide +kernel
theorem nd_D_byNumber_111 : decode nc_D_byNumber 111 = .ok (.aload_n 0, 1) := by decide +kernel
theorem nd_D_byNumber_112 : decode nc_D_byNumber 112 = .ok (.invokevirtual 98, 3) := by decide +kernel
theorem nd_D_byNumber_115 : decode nc_D_byNumber 115 = .ok (.invokestatic 150, 3) := by decide +kernel
theorem nd_D_byNumber_118 : decode nc_D_byNumber 118 = .ok (.ifCond .eq 7, 3) := by decide +kernel
theorem nd_D_byNumber_121 : decode nc_D_byNumber 121 = .ok (.iconst 1, 1) := by decide +kernel
theorem nd_D_byNumber_122 : decode nc_D_byNumber 122 = .ok (.goto 4, 3) := by decide +kernel
theorem nd_D_byNumber_125 : decode nc_D_byNumber 125 = .ok (.iconst 0, 1) := by decide +kernel
theorem nd_D_byNumber_126 : decode nc_D_byNumber 126 = .ok (.invokevirtual 136, 3) := by decide +kernel
theorem nd_D_byNumber_129 : decode nc_D_byNumber 129 = .ok (.goto 54, 3) := by decide +kernel
theorem nd_D_byNumber_132 : decode nc_D_byNumber 132 = .ok (.aload_n 0, 1) := by decide +kernel
theorem nd_D_byNumber_133 : decode nc_D_byNumber 133 = .ok (.iload_n 1, 1) := by decide +kernel
theorem nd_D_byNumber_134 : decode nc_D_byNumber 134 = .ok (.aload_n 0, 1) := by decide +kernel
theorem nd_D_byNumber_135 : decode nc_D_byNumber 135 = .ok (.getfield 95, 3) := by decide +kernel
theorem nd_D_byNumber_138 : decode nc_D_byNumber 138 = .ok (.iload_n 2, 1) := by decide +kernel
theorem nd_D_byNumber_139 : decode nc_D_byNumber 139 = .ok (.iand, 1) := by decide +kernel
theorem nd_D_byNumber_140 : decode nc_D_byNumber 140 = .ok (.invokevirtual 136, 3) := by decide +kernel
theorem nd_D_byNumber_143 : decode nc_D_byNumber 143 = .ok (.goto 40, 3) := by decide +kernel
theorem nd_D_byNumber_146 : decode nc_D_byNumber 146 = .ok (.aload_n 0, 1) := by decide +kernel
theorem nd_D_byNumber_147 : decode nc_D_byNumber 147 = .ok (.iload_n 1, 1) := by decide +kernel
theorem nd_D_byNumber_148 : decode nc_D_byNumber 148 = .ok (.aload_n 0, 1) := by decide +kernel
theorem nd_D_byNumber_149 : decode nc_D_byNumber 149 = .ok (.getfield 95, 3) := by decide +kernel
theorem nd_D_byNumber_152 : decode nc_D_byNumber 152 = .ok (.iload_n 2, 1) := by decide +kernel
theorem nd_D_byNumber_153 : decode nc_D_byNumber 153 = .ok (.ior, 1) := by decide +kernel
theorem nd_D_byNumber_154 : decode nc_D_byNumber 154 = .ok (.invokevirtual 136, 3) := by decide +kernel
theorem nd_D_byNumber_157 : decode nc_D_byNumber 157 = .ok (.goto 26, 3) := by decide +kernel
theorem nd_D_byNumber_160 : decode nc_D_byNumber 160 = .ok (.aload_n 0, 1) := by decide +kernel
theorem nd_D_byNumber_161 : decode nc_D_byNumber 161 = .ok (.iload_n 1, 1) := by decide +kernel
theorem nd_D_byNumber_162 : decode nc_D_byNumber 162 = .ok (.aload_n 0, 1) := by decide +kernel
theorem nd_D_byNumber_163 : decode nc_D_byNumber 163 = .ok (.getfield 95, 3) := by decide +kernel
theorem nd_D_byNumber_166 : decode nc_D_byNumber 166 = .ok (.iload_n 2, 1) := by decide +kernel
theorem nd_D_byNumber_167 : decode nc_D_byNumber 167 = .ok (.ixor, 1) := by decide +kernel
theorem nd_D_byNumber_168 : decode nc_D_byNumber 168 = .ok (.invokevirtual 136, 3) := by decide +kernel
theorem nd_D_byNumber_171 : decode nc_D_byNumber 171 = .ok (.goto 12, 3) := by decide +kernel
theorem nd_D_byNumber_174 : decode nc_D_byNumber 174 = .ok (.aload_n 0, 1) := by decide +kernel
theorem nd_D_byNumber_175 : decode nc_D_byNumber 175 = .ok (.iload_n 1, 1) := by decide +kernel
theorem nd_D_byNumber_176 : decode nc_D_byNumber 176 = .ok (.iload_n 2, 1) := by decide +kernel
theorem nd_D_byNumber_177 : decode nc_D_byNumber 177 = .ok (.bipush 16, 2) := by decide +kernel
theorem nd_D_byNumber_179 : decode nc_D_byNumber 179 = .ok (.ishl, 1) := by decide +kernel
theorem nd_D_byNumber_180 : decode nc_D_byNumber 180 = .ok (.invokevirtual 136, 3) := by decide +kernel
theorem nd_D_byNumber_183 : decode nc_D_byNumber 183 = .ok (.return_, 1) := by decide +kernel
theorem nd_D_control_0 : decode nc_D_control 0 = .ok (.aload_n 0, 1) := by decide +kernel
theorem nd_D_control_1 : decode nc_D_control 1 = .ok (.getfield 81, 3) := by decide +kernel
theorem nd_D_control_4 : decode nc_D_control 4 = .ok (.bipush 21, 2) := by decide +kernel
theorem nd_D_control_6 : decode nc_D_control 6 = .ok (.ishr, 1) := by decide +kernel
theorem nd_D_control_7 : decode nc_D_control 7 = .ok (.bipush 31, 2) := by decide +kernel
theorem nd_D_control_9 : decode nc_D_control 9 = .ok (.iand, 1) := by decide +kernel
theorem nd_D_control_10 : decode nc_D_control 10 = .ok (.istore_n 1, 1) := by decide +kernel
theorem nd_D_control_11 : decode nc_D_control 11 = .ok (.aload_n 0, 1) := by decide +kernel
theorem nd_D_control_12 : decode nc_D_control 12 = .ok (.getfield 81, 3) := by decide +kernel
theorem nd_D_control_15 : decode nc_D_control 15 = .ok (.bipush 11, 2) := by decide +kernel
theorem nd_D_control_17 : decode nc_D_control 17 = .ok (.ishr, 1) := by decide +kernel
theorem nd_D_control_18 : decode nc_D_control 18 = .ok (.bipush 31, 2) := by decide +kernel
theorem nd_D_control_20 : decode nc_D_control 20 = .ok (.iand, 1) := by decide +kernel
theorem nd_D_control_21 : decode nc_D_control 21 = .ok (.istore_n 2, 1) := by decide +kernel
theorem nd_D_control_22 : decode nc_D_control 22 = .ok (.iload_n 1, 1) := by decide +kernel
theorem nd_D_control_23 : decode nc_D_control 23 = .ok (.ifCond .ne 77, 3) := by decide +kernel
theorem nd_D_control_26 : decode nc_D_control 26 = .ok (.aload_n 0, 1) := by decide +kernel
theorem nd_D_control_27 : decode nc_D_control 27 = .ok (.aload_n 0, 1) := by decide +kernel
theorem nd_D_control_28 : decode nc_D_control 28 = .ok (.getfield 81, 3) := by decide +kernel
theorem nd_D_control_31 : decode nc_D_control 31 = .ok (.bipush 16, 2) := by decide +kernel
theorem nd_D_control_33 : decode nc_D_control 33 = .ok (.ishr, 1) := by decide +kernel
theorem nd_D_control_34 : decode nc_D_control 34 = .ok (.bipush 31, 2) := by decide +kernel
theorem nd_D_control_36 : decode nc_D_control 36 = .ok (.iand, 1) := by decide +kernel
theorem nd_D_control_37 : decode nc_D_control 37 = .ok (.putfield 160, 3) := by decide +kernel
theorem nd_D_control_40 : decode nc_D_control 40 = .ok (.aload_n 0, 1) := by decide +kernel
theorem nd_D_control_41 : decode nc_D_control 41 = .ok (.iload_n 2, 1) := by decide +kernel
theorem nd_D_control_42 : decode nc_D_control 42 = .ok (.bipush 12, 2) := by decide +kernel
theorem nd_D_control_44 : decode nc_D_control 44 = .ok (.if_icmp .ne 10, 3) := by decide +kernel
theorem nd_D_control_47 : decode nc_D_control 47 = .ok (.aload_n 0, 1) := by decide +kernel
theorem nd_D_control_48 : decode nc_D_control 48 = .ok (.getfield 29, 3) := by decide +kernel
theorem nd_D_control_51 : decode nc_D_control 51 = .ok (.goto 43, 3) := by decide +kernel
theorem nd_D_control_54 : decode nc_D_control 54 = .ok (.iload_n 2, 1) := by decide +kernel
theorem nd_D_control_55 : decode nc_D_control 55 = .ok (.bipush 13, 2) := by decide +kernel
theorem nd_D_control_57 : decode nc_D_control 57 = .ok (.if_icmp .ne 10, 3) := by decide +kernel
theorem nd_D_control_60 : decode nc_D_control 60 = .ok (.aload_n 0, 1) := by decide +kernel
theorem nd_D_control_61 : decode nc_D_control 61 = .ok (.invokevirtual 163, 3) := by decide +kernel
theorem nd_D_control_64 : decode nc_D_control 64 = .ok (.goto 30, 3) := by decide +kernel
theorem nd_D_control_67 : decode nc_D_control 67 = .ok (.iload_n 2, 1) := by decide +kernel
theorem nd_D_control_68 : decode nc_D_control 68 = .ok (.bipush 14, 2) := by decide +kernel
theorem nd_D_control_70 : decode nc_D_control 70 = .ok (.if_icmp .ne 10, 3) := by decide +kernel
theorem nd_D_control_73 : decode nc_D_control 73 = .ok (.aload_n 0, 1) := by decide +kernel
theorem nd_D_control_74 : decode nc_D_control 74 = .ok (.getfield 45, 3) := by decide +kernel
theorem nd_D_control_77 : decode nc_D_control 77 = .ok (.goto 17, 3) := by decide +kernel
theorem nd_D_control_80 : decode nc_D_control 80 = .ok (.iload_n 2, 1) := by decide +kernel
theorem nd_D_control_81 : decode nc_D_control 81 = .ok (.bipush 8, 2) := by decide +kernel
theorem nd_D_control_83 : decode nc_D_control 83 = .ok (.if_icmp .ne 10, 3) := by decide +kernel
theorem nd_D_control_86 : decode nc_D_control 86 = .ok (.aload_n 0, 1) := by decide +kernel
theorem nd_D_control_87 : decode nc_D_control 87 = .ok (.getfield 48, 3) := by decide +kernel
theorem nd_D_control_90 : decode nc_D_control 90 = .ok (.goto 4, 3) := by decide +kernel
theorem nd_D_control_93 : decode nc_D_control 93 = .ok (.iconst 0, 1) := by decide +kernel
theorem nd_D_control_94 : decode nc_D_control 94 = .ok (.putfield 166, 3) := by decide +kernel
theorem nd_D_control_97 : decode nc_D_control 97 = .ok (.goto 89, 3) := by decide +kernel
theorem nd_D_control_100 : decode nc_D_control 100 = .ok (.iload_n 1, 1) := by decide +kernel
theorem nd_D_control_101 : decode nc_D_control 101 = .ok (.bipush 16, 2) := by decide +kernel
theorem nd_D_control_103 : decode nc_D_control 103 = .ok (.if_icmp .ne 27, 3) := by decide +kernel
theorem nd_D_control_106 : decode nc_D_control 106 = .ok (.aload_n 0, 1) := by decide +kernel
theorem nd_D_control_107 : decode nc_D_control 107 = .ok (.aload_n 0, 1) := by decide +kernel
theorem nd_D_control_108 : decode nc_D_control 108 = .ok (.getfield 29, 3) := by decide +kernel
theorem nd_D_control_111 : decode nc_D_control 111 = .ok (.bipush (-16), 2) := by decide +kernel
theorem nd_D_control_113 : decode nc_D_control 113 = .ok (.iand, 1) := by decide +kernel
theorem nd_D_control_114 : decode nc_D_control 114 = .ok (.aload_n 0, 1) := by decide +kernel
theorem nd_D_control_115 : decode nc_D_control 115 = .ok (.getfield 29, 3) := by decide +kernel
theorem nd_D_control_118 : decode nc_D_control 118 = .ok (.iconst 2, 1) := by decide +kernel
theorem nd_D_control_119 : decode nc_D_control 119 = .ok (.ishr, 1) := by decide +kernel
theorem nd_D_control_120 : decode nc_D_control 120 = .ok (.bipush 15, 2) := by decide +kernel
theorem nd_D_control_122 : decode nc_D_control 122 = .ok (.iand, 1) := by decide +kernel
theorem nd_D_control_123 : decode nc_D_control 123 = .ok (.ior, 1) := by decide +kernel
theorem nd_D_control_124 : decode nc_D_control 124 = .ok (.putfield 29, 3) := by decide +kernel
theorem nd_D_control_127 : decode nc_D_control 127 = .ok (.goto 59, 3) := by decide +kernel
theorem nd_D_control_130 : decode nc_D_control 130 = .ok (.iload_n 2, 1) := by decide +kernel
theorem nd_D_control_131 : decode nc_D_control 131 = .ok (.bipush 12, 2) := by decide +kernel
theorem nd_D_control_133 : decode nc_D_control 133 = .ok (.if_icmp .ne 17, 3) := by decide +kernel
theorem nd_D_control_136 : decode nc_D_control 136 = .ok (.aload_n 0, 1) := by decide +kernel
theorem nd_D_control_137 : decode nc_D_control 137 = .ok (.aload_n 0, 1) := by decide +kernel
theorem nd_D_control_138 : decode nc_D_control 138 = .ok (.getfield 118, 3) := by decide +kernel
theorem nd_D_control_141 : decode nc_D_control 141 = .ok (.ldc 79, 2) := by decide +kernel
theorem nd_D_control_143 : decode nc_D_control 143 = .ok (.iand, 1) := by decide +kernel
theorem nd_D_control_144 : decode nc_D_control 144 = .ok (.putfield 29, 3) := by decide +kernel
theorem nd_D_control_147 : decode nc_D_control 147 = .ok (.goto 39, 3) := by decide +kernel
theorem nd_D_control_150 : decode nc_D_control 150 = .ok (.iload_n 2, 1) := by decide +kernel
theorem nd_D_control_151 : decode nc_D_control 151 = .ok (.bipush 13, 2) := by decide +kernel
theorem nd_D_control_153 : decode nc_D_control 153 = .ok (.if_icmp .ne 19, 3) := by decide +kernel
theorem nd_D_control_156 : decode nc_D_control 156 = .ok (.aload_n 0, 1) := by decide +kernel
