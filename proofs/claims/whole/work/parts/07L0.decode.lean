theorem de_L_law_0 : decode code 0 = .ok (.new 7, 3) := by decide +kernel
theorem de_L_law_3 : decode code 3 = .ok (.dup, 1) := by decide +kernel
theorem de_L_law_4 : decode code 4 = .ok (.invokespecial 9, 3) := by decide +kernel
theorem de_L_law_7 : decode code 7 = .ok (.astore_n 1, 1) := by decide +kernel
theorem de_L_law_8 : decode code 8 = .ok (.new 10, 3) := by decide +kernel
theorem de_L_law_11 : decode code 11 = .ok (.dup, 1) := by decide +kernel
theorem de_L_law_12 : decode code 12 = .ok (.invokespecial 12, 3) := by decide +kernel
theorem de_L_law_15 : decode code 15 = .ok (.astore_n 2, 1) := by decide +kernel
theorem de_L_law_16 : decode code 16 = .ok (.iconst 0, 1) := by decide +kernel
theorem de_L_law_17 : decode code 17 = .ok (.istore_n 3, 1) := by decide +kernel
theorem de_L_law_18 : decode code 18 = .ok (.iload_n 3, 1) := by decide +kernel
theorem de_L_law_19 : decode code 19 = .ok (.aload_n 0, 1) := by decide +kernel
theorem de_L_law_20 : decode code 20 = .ok (.arraylength, 1) := by decide +kernel
theorem de_L_law_21 : decode code 21 = .ok (.bipush (6), 2) := by decide +kernel
theorem de_L_law_23 : decode code 23 = .ok (.isub, 1) := by decide +kernel
theorem de_L_law_24 : decode code 24 = .ok (.if_icmp .gt (1501), 3) := by decide +kernel
theorem de_L_law_27 : decode code 27 = .ok (.aload_n 0, 1) := by decide +kernel
theorem de_L_law_28 : decode code 28 = .ok (.iload_n 3, 1) := by decide +kernel
theorem de_L_law_29 : decode code 29 = .ok (.iaload, 1) := by decide +kernel
theorem de_L_law_30 : decode code 30 = .ok (.bipush (63), 2) := by decide +kernel
theorem de_L_law_32 : decode code 32 = .ok (.iand, 1) := by decide +kernel
theorem de_L_law_33 : decode code 33 = .ok (.tableswitch (1486) 0 41 #[183, 226, 299, 362, 396, 429, 452, 485, 554, 587, 610, 623, 656, 679, 712, 735, 758, 791, 814, 847, 900, 933, 976, 1009, 1022, 1035, 1058, 1091, 1114, 1127, 1160, 1193, 1216, 1239, 1272, 1305, 1338, 1371, 1414, 1437, 1450, 1463], 183) := by decide +kernel
theorem de_L_law_216 : decode code 216 = .ok (.aload_n 1, 1) := by decide +kernel
theorem de_L_law_217 : decode code 217 = .ok (.aload_n 0, 1) := by decide +kernel
theorem de_L_law_218 : decode code 218 = .ok (.iload_n 3, 1) := by decide +kernel
theorem de_L_law_219 : decode code 219 = .ok (.iconst 1, 1) := by decide +kernel
theorem de_L_law_220 : decode code 220 = .ok (.iadd, 1) := by decide +kernel
theorem de_L_law_221 : decode code 221 = .ok (.iaload, 1) := by decide +kernel
theorem de_L_law_222 : decode code 222 = .ok (.aload_n 0, 1) := by decide +kernel
theorem de_L_law_223 : decode code 223 = .ok (.iload_n 3, 1) := by decide +kernel
theorem de_L_law_224 : decode code 224 = .ok (.iconst 2, 1) := by decide +kernel
theorem de_L_law_225 : decode code 225 = .ok (.iadd, 1) := by decide +kernel
theorem de_L_law_226 : decode code 226 = .ok (.iaload, 1) := by decide +kernel
theorem de_L_law_227 : decode code 227 = .ok (.aload_n 0, 1) := by decide +kernel
theorem de_L_law_228 : decode code 228 = .ok (.iload_n 3, 1) := by decide +kernel
theorem de_L_law_229 : decode code 229 = .ok (.iconst 3, 1) := by decide +kernel
theorem de_L_law_230 : decode code 230 = .ok (.iadd, 1) := by decide +kernel
theorem de_L_law_231 : decode code 231 = .ok (.iaload, 1) := by decide +kernel
theorem de_L_law_232 : decode code 232 = .ok (.invokevirtual 13, 3) := by decide +kernel
theorem de_L_law_235 : decode code 235 = .ok (.aload_n 2, 1) := by decide +kernel
theorem de_L_law_236 : decode code 236 = .ok (.aload_n 0, 1) := by decide +kernel
theorem de_L_law_237 : decode code 237 = .ok (.iload_n 3, 1) := by decide +kernel
theorem de_L_law_238 : decode code 238 = .ok (.iconst 1, 1) := by decide +kernel
theorem de_L_law_239 : decode code 239 = .ok (.iadd, 1) := by decide +kernel
theorem de_L_law_240 : decode code 240 = .ok (.iaload, 1) := by decide +kernel
theorem de_L_law_241 : decode code 241 = .ok (.aload_n 0, 1) := by decide +kernel
theorem de_L_law_242 : decode code 242 = .ok (.iload_n 3, 1) := by decide +kernel
theorem de_L_law_243 : decode code 243 = .ok (.iconst 2, 1) := by decide +kernel
theorem de_L_law_244 : decode code 244 = .ok (.iadd, 1) := by decide +kernel
theorem de_L_law_245 : decode code 245 = .ok (.iaload, 1) := by decide +kernel
theorem de_L_law_246 : decode code 246 = .ok (.aload_n 0, 1) := by decide +kernel
theorem de_L_law_247 : decode code 247 = .ok (.iload_n 3, 1) := by decide +kernel
theorem de_L_law_248 : decode code 248 = .ok (.iconst 3, 1) := by decide +kernel
theorem de_L_law_249 : decode code 249 = .ok (.iadd, 1) := by decide +kernel
theorem de_L_law_250 : decode code 250 = .ok (.iaload, 1) := by decide +kernel
theorem de_L_law_251 : decode code 251 = .ok (.invokevirtual 17, 3) := by decide +kernel
theorem de_L_law_254 : decode code 254 = .ok (.if_icmp .eq (1265), 3) := by decide +kernel
theorem de_L_law_257 : decode code 257 = .ok (.iconst 0, 1) := by decide +kernel
theorem de_L_law_258 : decode code 258 = .ok (.ireturn, 1) := by decide +kernel
theorem de_L_law_259 : decode code 259 = .ok (.aload_n 1, 1) := by decide +kernel
theorem de_L_law_260 : decode code 260 = .ok (.aload_n 0, 1) := by decide +kernel
theorem de_L_law_261 : decode code 261 = .ok (.iload_n 3, 1) := by decide +kernel
theorem de_L_law_262 : decode code 262 = .ok (.iconst 1, 1) := by decide +kernel
theorem de_L_law_263 : decode code 263 = .ok (.iadd, 1) := by decide +kernel
theorem de_L_law_264 : decode code 264 = .ok (.iaload, 1) := by decide +kernel
theorem de_L_law_265 : decode code 265 = .ok (.aload_n 0, 1) := by decide +kernel
theorem de_L_law_266 : decode code 266 = .ok (.iload_n 3, 1) := by decide +kernel
theorem de_L_law_267 : decode code 267 = .ok (.iconst 2, 1) := by decide +kernel
theorem de_L_law_268 : decode code 268 = .ok (.iadd, 1) := by decide +kernel
theorem de_L_law_269 : decode code 269 = .ok (.iaload, 1) := by decide +kernel
theorem de_L_law_270 : decode code 270 = .ok (.aload_n 0, 1) := by decide +kernel
theorem de_L_law_271 : decode code 271 = .ok (.iload_n 3, 1) := by decide +kernel
theorem de_L_law_272 : decode code 272 = .ok (.iconst 3, 1) := by decide +kernel
theorem de_L_law_273 : decode code 273 = .ok (.iadd, 1) := by decide +kernel
theorem de_L_law_274 : decode code 274 = .ok (.iaload, 1) := by decide +kernel
theorem de_L_law_275 : decode code 275 = .ok (.i2l, 1) := by decide +kernel
theorem de_L_law_276 : decode code 276 = .ok (.bipush (32), 2) := by decide +kernel
theorem de_L_law_278 : decode code 278 = .ok (.lshl, 1) := by decide +kernel
theorem de_L_law_279 : decode code 279 = .ok (.aload_n 0, 1) := by decide +kernel
theorem de_L_law_280 : decode code 280 = .ok (.iload_n 3, 1) := by decide +kernel
theorem de_L_law_281 : decode code 281 = .ok (.iconst 4, 1) := by decide +kernel
theorem de_L_law_282 : decode code 282 = .ok (.iadd, 1) := by decide +kernel
theorem de_L_law_283 : decode code 283 = .ok (.iaload, 1) := by decide +kernel
theorem de_L_law_284 : decode code 284 = .ok (.i2l, 1) := by decide +kernel
theorem de_L_law_285 : decode code 285 = .ok (.ldc2_w 18, 3) := by decide +kernel
theorem de_L_law_288 : decode code 288 = .ok (.land, 1) := by decide +kernel
theorem de_L_law_289 : decode code 289 = .ok (.lor, 1) := by decide +kernel
theorem de_L_law_290 : decode code 290 = .ok (.invokevirtual 20, 3) := by decide +kernel
theorem de_L_law_293 : decode code 293 = .ok (.aload_n 2, 1) := by decide +kernel
theorem de_L_law_294 : decode code 294 = .ok (.aload_n 0, 1) := by decide +kernel
theorem de_L_law_295 : decode code 295 = .ok (.iload_n 3, 1) := by decide +kernel
theorem de_L_law_296 : decode code 296 = .ok (.iconst 1, 1) := by decide +kernel
theorem de_L_law_297 : decode code 297 = .ok (.iadd, 1) := by decide +kernel
theorem de_L_law_298 : decode code 298 = .ok (.iaload, 1) := by decide +kernel
theorem de_L_law_299 : decode code 299 = .ok (.aload_n 0, 1) := by decide +kernel
theorem de_L_law_300 : decode code 300 = .ok (.iload_n 3, 1) := by decide +kernel
theorem de_L_law_301 : decode code 301 = .ok (.iconst 2, 1) := by decide +kernel
theorem de_L_law_302 : decode code 302 = .ok (.iadd, 1) := by decide +kernel
theorem de_L_law_303 : decode code 303 = .ok (.iaload, 1) := by decide +kernel
theorem de_L_law_304 : decode code 304 = .ok (.aload_n 0, 1) := by decide +kernel
theorem de_L_law_305 : decode code 305 = .ok (.iload_n 3, 1) := by decide +kernel
theorem de_L_law_306 : decode code 306 = .ok (.iconst 3, 1) := by decide +kernel
theorem de_L_law_307 : decode code 307 = .ok (.iadd, 1) := by decide +kernel
theorem de_L_law_308 : decode code 308 = .ok (.iaload, 1) := by decide +kernel
theorem de_L_law_309 : decode code 309 = .ok (.i2l, 1) := by decide +kernel
theorem de_L_law_310 : decode code 310 = .ok (.bipush (32), 2) := by decide +kernel
theorem de_L_law_312 : decode code 312 = .ok (.lshl, 1) := by decide +kernel
theorem de_L_law_313 : decode code 313 = .ok (.aload_n 0, 1) := by decide +kernel
theorem de_L_law_314 : decode code 314 = .ok (.iload_n 3, 1) := by decide +kernel
theorem de_L_law_315 : decode code 315 = .ok (.iconst 4, 1) := by decide +kernel
theorem de_L_law_316 : decode code 316 = .ok (.iadd, 1) := by decide +kernel
theorem de_L_law_317 : decode code 317 = .ok (.iaload, 1) := by decide +kernel
theorem de_L_law_318 : decode code 318 = .ok (.i2l, 1) := by decide +kernel
theorem de_L_law_319 : decode code 319 = .ok (.ldc2_w 18, 3) := by decide +kernel
theorem de_L_law_322 : decode code 322 = .ok (.land, 1) := by decide +kernel
theorem de_L_law_323 : decode code 323 = .ok (.lor, 1) := by decide +kernel
theorem de_L_law_324 : decode code 324 = .ok (.invokevirtual 24, 3) := by decide +kernel
theorem de_L_law_327 : decode code 327 = .ok (.if_icmp .eq (1192), 3) := by decide +kernel
theorem de_L_law_330 : decode code 330 = .ok (.iconst 0, 1) := by decide +kernel
theorem de_L_law_331 : decode code 331 = .ok (.ireturn, 1) := by decide +kernel
theorem de_L_law_332 : decode code 332 = .ok (.aload_n 1, 1) := by decide +kernel
theorem de_L_law_333 : decode code 333 = .ok (.aload_n 0, 1) := by decide +kernel
theorem de_L_law_334 : decode code 334 = .ok (.iload_n 3, 1) := by decide +kernel
theorem de_L_law_335 : decode code 335 = .ok (.iconst 1, 1) := by decide +kernel
theorem de_L_law_336 : decode code 336 = .ok (.iadd, 1) := by decide +kernel
theorem de_L_law_337 : decode code 337 = .ok (.iaload, 1) := by decide +kernel
theorem de_L_law_338 : decode code 338 = .ok (.aload_n 0, 1) := by decide +kernel
theorem de_L_law_339 : decode code 339 = .ok (.iload_n 3, 1) := by decide +kernel
theorem de_L_law_340 : decode code 340 = .ok (.iconst 2, 1) := by decide +kernel
theorem de_L_law_341 : decode code 341 = .ok (.iadd, 1) := by decide +kernel
theorem de_L_law_342 : decode code 342 = .ok (.iaload, 1) := by decide +kernel
theorem de_L_law_343 : decode code 343 = .ok (.aload_n 0, 1) := by decide +kernel
theorem de_L_law_344 : decode code 344 = .ok (.iload_n 3, 1) := by decide +kernel
theorem de_L_law_345 : decode code 345 = .ok (.iconst 3, 1) := by decide +kernel
theorem de_L_law_346 : decode code 346 = .ok (.iadd, 1) := by decide +kernel
theorem de_L_law_347 : decode code 347 = .ok (.iaload, 1) := by decide +kernel
theorem de_L_law_348 : decode code 348 = .ok (.aload_n 0, 1) := by decide +kernel
theorem de_L_law_349 : decode code 349 = .ok (.iload_n 3, 1) := by decide +kernel
theorem de_L_law_350 : decode code 350 = .ok (.iconst 4, 1) := by decide +kernel
theorem de_L_law_351 : decode code 351 = .ok (.iadd, 1) := by decide +kernel
theorem de_L_law_352 : decode code 352 = .ok (.iaload, 1) := by decide +kernel
theorem de_L_law_353 : decode code 353 = .ok (.aload_n 0, 1) := by decide +kernel
theorem de_L_law_354 : decode code 354 = .ok (.iload_n 3, 1) := by decide +kernel
theorem de_L_law_355 : decode code 355 = .ok (.iconst 5, 1) := by decide +kernel
theorem de_L_law_356 : decode code 356 = .ok (.iadd, 1) := by decide +kernel
theorem de_L_law_357 : decode code 357 = .ok (.iaload, 1) := by decide +kernel
theorem de_L_law_358 : decode code 358 = .ok (.invokevirtual 25, 3) := by decide +kernel
theorem de_L_law_361 : decode code 361 = .ok (.aload_n 2, 1) := by decide +kernel
theorem de_L_law_362 : decode code 362 = .ok (.aload_n 0, 1) := by decide +kernel
theorem de_L_law_363 : decode code 363 = .ok (.iload_n 3, 1) := by decide +kernel
theorem de_L_law_364 : decode code 364 = .ok (.iconst 1, 1) := by decide +kernel
theorem de_L_law_365 : decode code 365 = .ok (.iadd, 1) := by decide +kernel
theorem de_L_law_366 : decode code 366 = .ok (.iaload, 1) := by decide +kernel
theorem de_L_law_367 : decode code 367 = .ok (.aload_n 0, 1) := by decide +kernel
theorem de_L_law_368 : decode code 368 = .ok (.iload_n 3, 1) := by decide +kernel
theorem de_L_law_369 : decode code 369 = .ok (.iconst 2, 1) := by decide +kernel
theorem de_L_law_370 : decode code 370 = .ok (.iadd, 1) := by decide +kernel
theorem de_L_law_371 : decode code 371 = .ok (.iaload, 1) := by decide +kernel
theorem de_L_law_372 : decode code 372 = .ok (.aload_n 0, 1) := by decide +kernel
theorem de_L_law_373 : decode code 373 = .ok (.iload_n 3, 1) := by decide +kernel
theorem de_L_law_374 : decode code 374 = .ok (.iconst 3, 1) := by decide +kernel
theorem de_L_law_375 : decode code 375 = .ok (.iadd, 1) := by decide +kernel
theorem de_L_law_376 : decode code 376 = .ok (.iaload, 1) := by decide +kernel
theorem de_L_law_377 : decode code 377 = .ok (.aload_n 0, 1) := by decide +kernel
theorem de_L_law_378 : decode code 378 = .ok (.iload_n 3, 1) := by decide +kernel
theorem de_L_law_379 : decode code 379 = .ok (.iconst 4, 1) := by decide +kernel
theorem de_L_law_380 : decode code 380 = .ok (.iadd, 1) := by decide +kernel
theorem de_L_law_381 : decode code 381 = .ok (.iaload, 1) := by decide +kernel
theorem de_L_law_382 : decode code 382 = .ok (.aload_n 0, 1) := by decide +kernel
theorem de_L_law_383 : decode code 383 = .ok (.iload_n 3, 1) := by decide +kernel
theorem de_L_law_384 : decode code 384 = .ok (.iconst 5, 1) := by decide +kernel
theorem de_L_law_385 : decode code 385 = .ok (.iadd, 1) := by decide +kernel
theorem de_L_law_386 : decode code 386 = .ok (.iaload, 1) := by decide +kernel
theorem de_L_law_387 : decode code 387 = .ok (.invokevirtual 29, 3) := by decide +kernel
theorem de_L_law_390 : decode code 390 = .ok (.if_icmp .eq (1129), 3) := by decide +kernel
theorem de_L_law_393 : decode code 393 = .ok (.iconst 0, 1) := by decide +kernel
theorem de_L_law_394 : decode code 394 = .ok (.ireturn, 1) := by decide +kernel
theorem de_L_law_395 : decode code 395 = .ok (.aload_n 1, 1) := by decide +kernel
theorem de_L_law_396 : decode code 396 = .ok (.aload_n 0, 1) := by decide +kernel
theorem de_L_law_397 : decode code 397 = .ok (.iload_n 3, 1) := by decide +kernel
theorem de_L_law_398 : decode code 398 = .ok (.iconst 1, 1) := by decide +kernel
theorem de_L_law_399 : decode code 399 = .ok (.iadd, 1) := by decide +kernel
theorem de_L_law_400 : decode code 400 = .ok (.iaload, 1) := by decide +kernel
theorem de_L_law_401 : decode code 401 = .ok (.aload_n 0, 1) := by decide +kernel
theorem de_L_law_402 : decode code 402 = .ok (.iload_n 3, 1) := by decide +kernel
theorem de_L_law_403 : decode code 403 = .ok (.iconst 2, 1) := by decide +kernel
theorem de_L_law_404 : decode code 404 = .ok (.iadd, 1) := by decide +kernel
theorem de_L_law_405 : decode code 405 = .ok (.iaload, 1) := by decide +kernel
theorem de_L_law_406 : decode code 406 = .ok (.invokevirtual 30, 3) := by decide +kernel
theorem de_L_law_409 : decode code 409 = .ok (.aload_n 2, 1) := by decide +kernel
theorem de_L_law_410 : decode code 410 = .ok (.aload_n 0, 1) := by decide +kernel
theorem de_L_law_411 : decode code 411 = .ok (.iload_n 3, 1) := by decide +kernel
theorem de_L_law_412 : decode code 412 = .ok (.iconst 1, 1) := by decide +kernel
theorem de_L_law_413 : decode code 413 = .ok (.iadd, 1) := by decide +kernel
theorem de_L_law_414 : decode code 414 = .ok (.iaload, 1) := by decide +kernel
theorem de_L_law_415 : decode code 415 = .ok (.aload_n 0, 1) := by decide +kernel
theorem de_L_law_416 : decode code 416 = .ok (.iload_n 3, 1) := by decide +kernel
theorem de_L_law_417 : decode code 417 = .ok (.iconst 2, 1) := by decide +kernel
theorem de_L_law_418 : decode code 418 = .ok (.iadd, 1) := by decide +kernel
theorem de_L_law_419 : decode code 419 = .ok (.iaload, 1) := by decide +kernel
theorem de_L_law_420 : decode code 420 = .ok (.invokevirtual 34, 3) := by decide +kernel
theorem de_L_law_423 : decode code 423 = .ok (.lcmp, 1) := by decide +kernel
theorem de_L_law_424 : decode code 424 = .ok (.ifCond .eq (1095), 3) := by decide +kernel
theorem de_L_law_427 : decode code 427 = .ok (.iconst 0, 1) := by decide +kernel
theorem de_L_law_428 : decode code 428 = .ok (.ireturn, 1) := by decide +kernel
theorem de_L_law_429 : decode code 429 = .ok (.aload_n 1, 1) := by decide +kernel
theorem de_L_law_430 : decode code 430 = .ok (.aload_n 0, 1) := by decide +kernel
theorem de_L_law_431 : decode code 431 = .ok (.iload_n 3, 1) := by decide +kernel
theorem de_L_law_432 : decode code 432 = .ok (.iconst 1, 1) := by decide +kernel
theorem de_L_law_433 : decode code 433 = .ok (.iadd, 1) := by decide +kernel
theorem de_L_law_434 : decode code 434 = .ok (.iaload, 1) := by decide +kernel
theorem de_L_law_435 : decode code 435 = .ok (.aload_n 0, 1) := by decide +kernel
theorem de_L_law_436 : decode code 436 = .ok (.iload_n 3, 1) := by decide +kernel
theorem de_L_law_437 : decode code 437 = .ok (.iconst 2, 1) := by decide +kernel
theorem de_L_law_438 : decode code 438 = .ok (.iadd, 1) := by decide +kernel
theorem de_L_law_439 : decode code 439 = .ok (.iaload, 1) := by decide +kernel
theorem de_L_law_440 : decode code 440 = .ok (.invokevirtual 35, 3) := by decide +kernel
theorem de_L_law_443 : decode code 443 = .ok (.aload_n 2, 1) := by decide +kernel
theorem de_L_law_444 : decode code 444 = .ok (.aload_n 0, 1) := by decide +kernel
theorem de_L_law_445 : decode code 445 = .ok (.iload_n 3, 1) := by decide +kernel
theorem de_L_law_446 : decode code 446 = .ok (.iconst 1, 1) := by decide +kernel
theorem de_L_law_447 : decode code 447 = .ok (.iadd, 1) := by decide +kernel
theorem de_L_law_448 : decode code 448 = .ok (.iaload, 1) := by decide +kernel
theorem de_L_law_449 : decode code 449 = .ok (.aload_n 0, 1) := by decide +kernel
theorem de_L_law_450 : decode code 450 = .ok (.iload_n 3, 1) := by decide +kernel
theorem de_L_law_451 : decode code 451 = .ok (.iconst 2, 1) := by decide +kernel
theorem de_L_law_452 : decode code 452 = .ok (.iadd, 1) := by decide +kernel
theorem de_L_law_453 : decode code 453 = .ok (.iaload, 1) := by decide +kernel
theorem de_L_law_454 : decode code 454 = .ok (.invokevirtual 39, 3) := by decide +kernel
theorem de_L_law_457 : decode code 457 = .ok (.if_icmp .eq (1062), 3) := by decide +kernel
theorem de_L_law_460 : decode code 460 = .ok (.iconst 0, 1) := by decide +kernel
theorem de_L_law_461 : decode code 461 = .ok (.ireturn, 1) := by decide +kernel
theorem de_L_law_462 : decode code 462 = .ok (.aload_n 1, 1) := by decide +kernel
theorem de_L_law_463 : decode code 463 = .ok (.aload_n 0, 1) := by decide +kernel
theorem de_L_law_464 : decode code 464 = .ok (.iload_n 3, 1) := by decide +kernel
theorem de_L_law_465 : decode code 465 = .ok (.iconst 1, 1) := by decide +kernel
theorem de_L_law_466 : decode code 466 = .ok (.iadd, 1) := by decide +kernel
theorem de_L_law_467 : decode code 467 = .ok (.iaload, 1) := by decide +kernel
theorem de_L_law_468 : decode code 468 = .ok (.invokevirtual 40, 3) := by decide +kernel
theorem de_L_law_471 : decode code 471 = .ok (.aload_n 2, 1) := by decide +kernel
theorem de_L_law_472 : decode code 472 = .ok (.aload_n 0, 1) := by decide +kernel
theorem de_L_law_473 : decode code 473 = .ok (.iload_n 3, 1) := by decide +kernel
theorem de_L_law_474 : decode code 474 = .ok (.iconst 1, 1) := by decide +kernel
theorem de_L_law_475 : decode code 475 = .ok (.iadd, 1) := by decide +kernel
theorem de_L_law_476 : decode code 476 = .ok (.iaload, 1) := by decide +kernel
theorem de_L_law_477 : decode code 477 = .ok (.invokevirtual 44, 3) := by decide +kernel
theorem de_L_law_480 : decode code 480 = .ok (.if_icmp .eq (1039), 3) := by decide +kernel
theorem de_L_law_483 : decode code 483 = .ok (.iconst 0, 1) := by decide +kernel
theorem de_L_law_484 : decode code 484 = .ok (.ireturn, 1) := by decide +kernel
theorem de_L_law_485 : decode code 485 = .ok (.aload_n 1, 1) := by decide +kernel
theorem de_L_law_486 : decode code 486 = .ok (.aload_n 0, 1) := by decide +kernel
theorem de_L_law_487 : decode code 487 = .ok (.iload_n 3, 1) := by decide +kernel
theorem de_L_law_488 : decode code 488 = .ok (.iconst 1, 1) := by decide +kernel
theorem de_L_law_489 : decode code 489 = .ok (.iadd, 1) := by decide +kernel
theorem de_L_law_490 : decode code 490 = .ok (.iaload, 1) := by decide +kernel
theorem de_L_law_491 : decode code 491 = .ok (.aload_n 0, 1) := by decide +kernel
theorem de_L_law_492 : decode code 492 = .ok (.iload_n 3, 1) := by decide +kernel
theorem de_L_law_493 : decode code 493 = .ok (.iconst 2, 1) := by decide +kernel
theorem de_L_law_494 : decode code 494 = .ok (.iadd, 1) := by decide +kernel
theorem de_L_law_495 : decode code 495 = .ok (.iaload, 1) := by decide +kernel
theorem de_L_law_496 : decode code 496 = .ok (.invokevirtual 45, 3) := by decide +kernel
theorem de_L_law_499 : decode code 499 = .ok (.aload_n 2, 1) := by decide +kernel
theorem de_L_law_500 : decode code 500 = .ok (.aload_n 0, 1) := by decide +kernel
theorem de_L_law_501 : decode code 501 = .ok (.iload_n 3, 1) := by decide +kernel
theorem de_L_law_502 : decode code 502 = .ok (.iconst 1, 1) := by decide +kernel
theorem de_L_law_503 : decode code 503 = .ok (.iadd, 1) := by decide +kernel
theorem de_L_law_504 : decode code 504 = .ok (.iaload, 1) := by decide +kernel
theorem de_L_law_505 : decode code 505 = .ok (.aload_n 0, 1) := by decide +kernel
theorem de_L_law_506 : decode code 506 = .ok (.iload_n 3, 1) := by decide +kernel
theorem de_L_law_507 : decode code 507 = .ok (.iconst 2, 1) := by decide +kernel
theorem de_L_law_508 : decode code 508 = .ok (.iadd, 1) := by decide +kernel
theorem de_L_law_509 : decode code 509 = .ok (.iaload, 1) := by decide +kernel
theorem de_L_law_510 : decode code 510 = .ok (.invokevirtual 48, 3) := by decide +kernel
theorem de_L_law_513 : decode code 513 = .ok (.if_icmp .eq (1006), 3) := by decide +kernel
theorem de_L_law_516 : decode code 516 = .ok (.iconst 0, 1) := by decide +kernel
theorem de_L_law_517 : decode code 517 = .ok (.ireturn, 1) := by decide +kernel
theorem de_L_law_518 : decode code 518 = .ok (.aload_n 1, 1) := by decide +kernel
theorem de_L_law_519 : decode code 519 = .ok (.aload_n 0, 1) := by decide +kernel
theorem de_L_law_520 : decode code 520 = .ok (.iload_n 3, 1) := by decide +kernel
theorem de_L_law_521 : decode code 521 = .ok (.iconst 1, 1) := by decide +kernel
theorem de_L_law_522 : decode code 522 = .ok (.iadd, 1) := by decide +kernel
theorem de_L_law_523 : decode code 523 = .ok (.iaload, 1) := by decide +kernel
theorem de_L_law_524 : decode code 524 = .ok (.aload_n 0, 1) := by decide +kernel
theorem de_L_law_525 : decode code 525 = .ok (.iload_n 3, 1) := by decide +kernel
theorem de_L_law_526 : decode code 526 = .ok (.iconst 2, 1) := by decide +kernel
theorem de_L_law_527 : decode code 527 = .ok (.iadd, 1) := by decide +kernel
theorem de_L_law_528 : decode code 528 = .ok (.iaload, 1) := by decide +kernel
theorem de_L_law_529 : decode code 529 = .ok (.aload_n 0, 1) := by decide +kernel
theorem de_L_law_530 : decode code 530 = .ok (.iload_n 3, 1) := by decide +kernel
theorem de_L_law_531 : decode code 531 = .ok (.iconst 3, 1) := by decide +kernel
theorem de_L_law_532 : decode code 532 = .ok (.iadd, 1) := by decide +kernel
theorem de_L_law_533 : decode code 533 = .ok (.iaload, 1) := by decide +kernel
theorem de_L_law_534 : decode code 534 = .ok (.aload_n 0, 1) := by decide +kernel
theorem de_L_law_535 : decode code 535 = .ok (.iload_n 3, 1) := by decide +kernel
theorem de_L_law_536 : decode code 536 = .ok (.iconst 4, 1) := by decide +kernel
theorem de_L_law_537 : decode code 537 = .ok (.iadd, 1) := by decide +kernel
theorem de_L_law_538 : decode code 538 = .ok (.iaload, 1) := by decide +kernel
theorem de_L_law_539 : decode code 539 = .ok (.ifCond .eq (7), 3) := by decide +kernel
theorem de_L_law_542 : decode code 542 = .ok (.iconst 1, 1) := by decide +kernel
theorem de_L_law_543 : decode code 543 = .ok (.goto (4), 3) := by decide +kernel
theorem de_L_law_546 : decode code 546 = .ok (.iconst 0, 1) := by decide +kernel
theorem de_L_law_547 : decode code 547 = .ok (.invokevirtual 49, 3) := by decide +kernel
theorem de_L_law_550 : decode code 550 = .ok (.aload_n 2, 1) := by decide +kernel
theorem de_L_law_551 : decode code 551 = .ok (.aload_n 0, 1) := by decide +kernel
theorem de_L_law_552 : decode code 552 = .ok (.iload_n 3, 1) := by decide +kernel
theorem de_L_law_553 : decode code 553 = .ok (.iconst 1, 1) := by decide +kernel
theorem de_L_law_554 : decode code 554 = .ok (.iadd, 1) := by decide +kernel
theorem de_L_law_555 : decode code 555 = .ok (.iaload, 1) := by decide +kernel
theorem de_L_law_556 : decode code 556 = .ok (.aload_n 0, 1) := by decide +kernel
theorem de_L_law_557 : decode code 557 = .ok (.iload_n 3, 1) := by decide +kernel
theorem de_L_law_558 : decode code 558 = .ok (.iconst 2, 1) := by decide +kernel
theorem de_L_law_559 : decode code 559 = .ok (.iadd, 1) := by decide +kernel
theorem de_L_law_560 : decode code 560 = .ok (.iaload, 1) := by decide +kernel
theorem de_L_law_561 : decode code 561 = .ok (.aload_n 0, 1) := by decide +kernel
theorem de_L_law_562 : decode code 562 = .ok (.iload_n 3, 1) := by decide +kernel
theorem de_L_law_563 : decode code 563 = .ok (.iconst 3, 1) := by decide +kernel
theorem de_L_law_564 : decode code 564 = .ok (.iadd, 1) := by decide +kernel
theorem de_L_law_565 : decode code 565 = .ok (.iaload, 1) := by decide +kernel
theorem de_L_law_566 : decode code 566 = .ok (.aload_n 0, 1) := by decide +kernel
theorem de_L_law_567 : decode code 567 = .ok (.iload_n 3, 1) := by decide +kernel
theorem de_L_law_568 : decode code 568 = .ok (.iconst 4, 1) := by decide +kernel
theorem de_L_law_569 : decode code 569 = .ok (.iadd, 1) := by decide +kernel
theorem de_L_law_570 : decode code 570 = .ok (.iaload, 1) := by decide +kernel
theorem de_L_law_571 : decode code 571 = .ok (.ifCond .eq (7), 3) := by decide +kernel
theorem de_L_law_574 : decode code 574 = .ok (.iconst 1, 1) := by decide +kernel
theorem de_L_law_575 : decode code 575 = .ok (.goto (4), 3) := by decide +kernel
theorem de_L_law_578 : decode code 578 = .ok (.iconst 0, 1) := by decide +kernel
theorem de_L_law_579 : decode code 579 = .ok (.invokevirtual 53, 3) := by decide +kernel
theorem de_L_law_582 : decode code 582 = .ok (.if_icmp .eq (937), 3) := by decide +kernel
theorem de_L_law_585 : decode code 585 = .ok (.iconst 0, 1) := by decide +kernel
theorem de_L_law_586 : decode code 586 = .ok (.ireturn, 1) := by decide +kernel
theorem de_L_law_587 : decode code 587 = .ok (.aload_n 1, 1) := by decide +kernel
theorem de_L_law_588 : decode code 588 = .ok (.aload_n 0, 1) := by decide +kernel
theorem de_L_law_589 : decode code 589 = .ok (.iload_n 3, 1) := by decide +kernel
theorem de_L_law_590 : decode code 590 = .ok (.iconst 1, 1) := by decide +kernel
theorem de_L_law_591 : decode code 591 = .ok (.iadd, 1) := by decide +kernel
theorem de_L_law_592 : decode code 592 = .ok (.iaload, 1) := by decide +kernel
theorem de_L_law_593 : decode code 593 = .ok (.aload_n 0, 1) := by decide +kernel
theorem de_L_law_594 : decode code 594 = .ok (.iload_n 3, 1) := by decide +kernel
theorem de_L_law_595 : decode code 595 = .ok (.iconst 2, 1) := by decide +kernel
theorem de_L_law_596 : decode code 596 = .ok (.iadd, 1) := by decide +kernel
theorem de_L_law_597 : decode code 597 = .ok (.iaload, 1) := by decide +kernel
theorem de_L_law_598 : decode code 598 = .ok (.invokevirtual 54, 3) := by decide +kernel
theorem de_L_law_601 : decode code 601 = .ok (.aload_n 2, 1) := by decide +kernel
theorem de_L_law_602 : decode code 602 = .ok (.aload_n 0, 1) := by decide +kernel
theorem de_L_law_603 : decode code 603 = .ok (.iload_n 3, 1) := by decide +kernel
theorem de_L_law_604 : decode code 604 = .ok (.iconst 1, 1) := by decide +kernel
theorem de_L_law_605 : decode code 605 = .ok (.iadd, 1) := by decide +kernel
theorem de_L_law_606 : decode code 606 = .ok (.iaload, 1) := by decide +kernel
theorem de_L_law_607 : decode code 607 = .ok (.aload_n 0, 1) := by decide +kernel
theorem de_L_law_608 : decode code 608 = .ok (.iload_n 3, 1) := by decide +kernel
theorem de_L_law_609 : decode code 609 = .ok (.iconst 2, 1) := by decide +kernel
theorem de_L_law_610 : decode code 610 = .ok (.iadd, 1) := by decide +kernel
theorem de_L_law_611 : decode code 611 = .ok (.iaload, 1) := by decide +kernel
theorem de_L_law_612 : decode code 612 = .ok (.invokevirtual 57, 3) := by decide +kernel
theorem de_L_law_615 : decode code 615 = .ok (.if_icmp .eq (904), 3) := by decide +kernel
theorem de_L_law_618 : decode code 618 = .ok (.iconst 0, 1) := by decide +kernel
theorem de_L_law_619 : decode code 619 = .ok (.ireturn, 1) := by decide +kernel
theorem de_L_law_620 : decode code 620 = .ok (.aload_n 1, 1) := by decide +kernel
theorem de_L_law_621 : decode code 621 = .ok (.aload_n 0, 1) := by decide +kernel
theorem de_L_law_622 : decode code 622 = .ok (.iload_n 3, 1) := by decide +kernel
theorem de_L_law_623 : decode code 623 = .ok (.iconst 1, 1) := by decide +kernel
theorem de_L_law_624 : decode code 624 = .ok (.iadd, 1) := by decide +kernel
theorem de_L_law_625 : decode code 625 = .ok (.iaload, 1) := by decide +kernel
theorem de_L_law_626 : decode code 626 = .ok (.invokevirtual 58, 3) := by decide +kernel
theorem de_L_law_629 : decode code 629 = .ok (.aload_n 2, 1) := by decide +kernel
theorem de_L_law_630 : decode code 630 = .ok (.aload_n 0, 1) := by decide +kernel
theorem de_L_law_631 : decode code 631 = .ok (.iload_n 3, 1) := by decide +kernel
theorem de_L_law_632 : decode code 632 = .ok (.iconst 1, 1) := by decide +kernel
theorem de_L_law_633 : decode code 633 = .ok (.iadd, 1) := by decide +kernel
theorem de_L_law_634 : decode code 634 = .ok (.iaload, 1) := by decide +kernel
theorem de_L_law_635 : decode code 635 = .ok (.invokevirtual 61, 3) := by decide +kernel
theorem de_L_law_638 : decode code 638 = .ok (.if_icmp .eq (881), 3) := by decide +kernel
theorem de_L_law_641 : decode code 641 = .ok (.iconst 0, 1) := by decide +kernel
theorem de_L_law_642 : decode code 642 = .ok (.ireturn, 1) := by decide +kernel
theorem de_L_law_643 : decode code 643 = .ok (.aload_n 1, 1) := by decide +kernel
theorem de_L_law_644 : decode code 644 = .ok (.invokevirtual 62, 3) := by decide +kernel
theorem de_L_law_647 : decode code 647 = .ok (.aload_n 2, 1) := by decide +kernel
theorem de_L_law_648 : decode code 648 = .ok (.invokevirtual 66, 3) := by decide +kernel
theorem de_L_law_651 : decode code 651 = .ok (.if_icmp .eq (868), 3) := by decide +kernel
theorem de_L_law_654 : decode code 654 = .ok (.iconst 0, 1) := by decide +kernel
theorem de_L_law_655 : decode code 655 = .ok (.ireturn, 1) := by decide +kernel
theorem de_L_law_656 : decode code 656 = .ok (.aload_n 1, 1) := by decide +kernel
theorem de_L_law_657 : decode code 657 = .ok (.aload_n 0, 1) := by decide +kernel
theorem de_L_law_658 : decode code 658 = .ok (.iload_n 3, 1) := by decide +kernel
theorem de_L_law_659 : decode code 659 = .ok (.iconst 1, 1) := by decide +kernel
theorem de_L_law_660 : decode code 660 = .ok (.iadd, 1) := by decide +kernel
theorem de_L_law_661 : decode code 661 = .ok (.iaload, 1) := by decide +kernel
theorem de_L_law_662 : decode code 662 = .ok (.aload_n 0, 1) := by decide +kernel
theorem de_L_law_663 : decode code 663 = .ok (.iload_n 3, 1) := by decide +kernel
theorem de_L_law_664 : decode code 664 = .ok (.iconst 2, 1) := by decide +kernel
theorem de_L_law_665 : decode code 665 = .ok (.iadd, 1) := by decide +kernel
theorem de_L_law_666 : decode code 666 = .ok (.iaload, 1) := by decide +kernel
theorem de_L_law_667 : decode code 667 = .ok (.invokevirtual 67, 3) := by decide +kernel
theorem de_L_law_670 : decode code 670 = .ok (.aload_n 2, 1) := by decide +kernel
theorem de_L_law_671 : decode code 671 = .ok (.aload_n 0, 1) := by decide +kernel
theorem de_L_law_672 : decode code 672 = .ok (.iload_n 3, 1) := by decide +kernel
theorem de_L_law_673 : decode code 673 = .ok (.iconst 1, 1) := by decide +kernel
theorem de_L_law_674 : decode code 674 = .ok (.iadd, 1) := by decide +kernel
theorem de_L_law_675 : decode code 675 = .ok (.iaload, 1) := by decide +kernel
theorem de_L_law_676 : decode code 676 = .ok (.aload_n 0, 1) := by decide +kernel
theorem de_L_law_677 : decode code 677 = .ok (.iload_n 3, 1) := by decide +kernel
theorem de_L_law_678 : decode code 678 = .ok (.iconst 2, 1) := by decide +kernel
theorem de_L_law_679 : decode code 679 = .ok (.iadd, 1) := by decide +kernel
theorem de_L_law_680 : decode code 680 = .ok (.iaload, 1) := by decide +kernel
theorem de_L_law_681 : decode code 681 = .ok (.invokevirtual 70, 3) := by decide +kernel
theorem de_L_law_684 : decode code 684 = .ok (.if_icmp .eq (835), 3) := by decide +kernel
theorem de_L_law_687 : decode code 687 = .ok (.iconst 0, 1) := by decide +kernel
theorem de_L_law_688 : decode code 688 = .ok (.ireturn, 1) := by decide +kernel
theorem de_L_law_689 : decode code 689 = .ok (.aload_n 1, 1) := by decide +kernel
theorem de_L_law_690 : decode code 690 = .ok (.aload_n 0, 1) := by decide +kernel
theorem de_L_law_691 : decode code 691 = .ok (.iload_n 3, 1) := by decide +kernel
theorem de_L_law_692 : decode code 692 = .ok (.iconst 1, 1) := by decide +kernel
theorem de_L_law_693 : decode code 693 = .ok (.iadd, 1) := by decide +kernel
theorem de_L_law_694 : decode code 694 = .ok (.iaload, 1) := by decide +kernel
theorem de_L_law_695 : decode code 695 = .ok (.invokevirtual 71, 3) := by decide +kernel
theorem de_L_law_698 : decode code 698 = .ok (.aload_n 2, 1) := by decide +kernel
theorem de_L_law_699 : decode code 699 = .ok (.aload_n 0, 1) := by decide +kernel
theorem de_L_law_700 : decode code 700 = .ok (.iload_n 3, 1) := by decide +kernel
theorem de_L_law_701 : decode code 701 = .ok (.iconst 1, 1) := by decide +kernel
theorem de_L_law_702 : decode code 702 = .ok (.iadd, 1) := by decide +kernel
theorem de_L_law_703 : decode code 703 = .ok (.iaload, 1) := by decide +kernel
theorem de_L_law_704 : decode code 704 = .ok (.invokevirtual 74, 3) := by decide +kernel
theorem de_L_law_707 : decode code 707 = .ok (.if_icmp .eq (812), 3) := by decide +kernel
theorem de_L_law_710 : decode code 710 = .ok (.iconst 0, 1) := by decide +kernel
theorem de_L_law_711 : decode code 711 = .ok (.ireturn, 1) := by decide +kernel
theorem de_L_law_712 : decode code 712 = .ok (.aload_n 1, 1) := by decide +kernel
theorem de_L_law_713 : decode code 713 = .ok (.aload_n 0, 1) := by decide +kernel
theorem de_L_law_714 : decode code 714 = .ok (.iload_n 3, 1) := by decide +kernel
theorem de_L_law_715 : decode code 715 = .ok (.iconst 1, 1) := by decide +kernel
theorem de_L_law_716 : decode code 716 = .ok (.iadd, 1) := by decide +kernel
theorem de_L_law_717 : decode code 717 = .ok (.iaload, 1) := by decide +kernel
theorem de_L_law_718 : decode code 718 = .ok (.aload_n 0, 1) := by decide +kernel
theorem de_L_law_719 : decode code 719 = .ok (.iload_n 3, 1) := by decide +kernel
theorem de_L_law_720 : decode code 720 = .ok (.iconst 2, 1) := by decide +kernel
theorem de_L_law_721 : decode code 721 = .ok (.iadd, 1) := by decide +kernel
theorem de_L_law_722 : decode code 722 = .ok (.iaload, 1) := by decide +kernel
theorem de_L_law_723 : decode code 723 = .ok (.invokevirtual 75, 3) := by decide +kernel
theorem de_L_law_726 : decode code 726 = .ok (.aload_n 2, 1) := by decide +kernel
theorem de_L_law_727 : decode code 727 = .ok (.aload_n 0, 1) := by decide +kernel
theorem de_L_law_728 : decode code 728 = .ok (.iload_n 3, 1) := by decide +kernel
theorem de_L_law_729 : decode code 729 = .ok (.iconst 1, 1) := by decide +kernel
theorem de_L_law_730 : decode code 730 = .ok (.iadd, 1) := by decide +kernel
theorem de_L_law_731 : decode code 731 = .ok (.iaload, 1) := by decide +kernel
theorem de_L_law_732 : decode code 732 = .ok (.aload_n 0, 1) := by decide +kernel
theorem de_L_law_733 : decode code 733 = .ok (.iload_n 3, 1) := by decide +kernel
theorem de_L_law_734 : decode code 734 = .ok (.iconst 2, 1) := by decide +kernel
theorem de_L_law_735 : decode code 735 = .ok (.iadd, 1) := by decide +kernel
theorem de_L_law_736 : decode code 736 = .ok (.iaload, 1) := by decide +kernel
theorem de_L_law_737 : decode code 737 = .ok (.invokevirtual 78, 3) := by decide +kernel
theorem de_L_law_740 : decode code 740 = .ok (.if_icmp .eq (779), 3) := by decide +kernel
theorem de_L_law_743 : decode code 743 = .ok (.iconst 0, 1) := by decide +kernel
theorem de_L_law_744 : decode code 744 = .ok (.ireturn, 1) := by decide +kernel
theorem de_L_law_745 : decode code 745 = .ok (.aload_n 1, 1) := by decide +kernel
theorem de_L_law_746 : decode code 746 = .ok (.aload_n 0, 1) := by decide +kernel
theorem de_L_law_747 : decode code 747 = .ok (.iload_n 3, 1) := by decide +kernel
theorem de_L_law_748 : decode code 748 = .ok (.iconst 1, 1) := by decide +kernel
theorem de_L_law_749 : decode code 749 = .ok (.iadd, 1) := by decide +kernel
theorem de_L_law_750 : decode code 750 = .ok (.iaload, 1) := by decide +kernel
theorem de_L_law_751 : decode code 751 = .ok (.invokevirtual 79, 3) := by decide +kernel
theorem de_L_law_754 : decode code 754 = .ok (.aload_n 2, 1) := by decide +kernel
theorem de_L_law_755 : decode code 755 = .ok (.aload_n 0, 1) := by decide +kernel
theorem de_L_law_756 : decode code 756 = .ok (.iload_n 3, 1) := by decide +kernel
theorem de_L_law_757 : decode code 757 = .ok (.iconst 1, 1) := by decide +kernel
theorem de_L_law_758 : decode code 758 = .ok (.iadd, 1) := by decide +kernel
theorem de_L_law_759 : decode code 759 = .ok (.iaload, 1) := by decide +kernel
theorem de_L_law_760 : decode code 760 = .ok (.invokevirtual 82, 3) := by decide +kernel
theorem de_L_law_763 : decode code 763 = .ok (.if_icmp .eq (756), 3) := by decide +kernel
theorem de_L_law_766 : decode code 766 = .ok (.iconst 0, 1) := by decide +kernel
theorem de_L_law_767 : decode code 767 = .ok (.ireturn, 1) := by decide +kernel
theorem de_L_law_768 : decode code 768 = .ok (.aload_n 1, 1) := by decide +kernel
theorem de_L_law_769 : decode code 769 = .ok (.aload_n 0, 1) := by decide +kernel
theorem de_L_law_770 : decode code 770 = .ok (.iload_n 3, 1) := by decide +kernel
theorem de_L_law_771 : decode code 771 = .ok (.iconst 1, 1) := by decide +kernel
theorem de_L_law_772 : decode code 772 = .ok (.iadd, 1) := by decide +kernel
theorem de_L_law_773 : decode code 773 = .ok (.iaload, 1) := by decide +kernel
theorem de_L_law_774 : decode code 774 = .ok (.invokevirtual 83, 3) := by decide +kernel
theorem de_L_law_777 : decode code 777 = .ok (.aload_n 2, 1) := by decide +kernel
theorem de_L_law_778 : decode code 778 = .ok (.aload_n 0, 1) := by decide +kernel
theorem de_L_law_779 : decode code 779 = .ok (.iload_n 3, 1) := by decide +kernel
theorem de_L_law_780 : decode code 780 = .ok (.iconst 1, 1) := by decide +kernel
theorem de_L_law_781 : decode code 781 = .ok (.iadd, 1) := by decide +kernel
theorem de_L_law_782 : decode code 782 = .ok (.iaload, 1) := by decide +kernel
theorem de_L_law_783 : decode code 783 = .ok (.invokevirtual 86, 3) := by decide +kernel
theorem de_L_law_786 : decode code 786 = .ok (.if_icmp .eq (733), 3) := by decide +kernel
theorem de_L_law_789 : decode code 789 = .ok (.iconst 0, 1) := by decide +kernel
theorem de_L_law_790 : decode code 790 = .ok (.ireturn, 1) := by decide +kernel
theorem de_L_law_791 : decode code 791 = .ok (.aload_n 1, 1) := by decide +kernel
theorem de_L_law_792 : decode code 792 = .ok (.aload_n 0, 1) := by decide +kernel
theorem de_L_law_793 : decode code 793 = .ok (.iload_n 3, 1) := by decide +kernel
theorem de_L_law_794 : decode code 794 = .ok (.iconst 1, 1) := by decide +kernel
theorem de_L_law_795 : decode code 795 = .ok (.iadd, 1) := by decide +kernel
theorem de_L_law_796 : decode code 796 = .ok (.iaload, 1) := by decide +kernel
theorem de_L_law_797 : decode code 797 = .ok (.aload_n 0, 1) := by decide +kernel
theorem de_L_law_798 : decode code 798 = .ok (.iload_n 3, 1) := by decide +kernel
theorem de_L_law_799 : decode code 799 = .ok (.iconst 2, 1) := by decide +kernel
theorem de_L_law_800 : decode code 800 = .ok (.iadd, 1) := by decide +kernel
theorem de_L_law_801 : decode code 801 = .ok (.iaload, 1) := by decide +kernel
theorem de_L_law_802 : decode code 802 = .ok (.invokevirtual 87, 3) := by decide +kernel
theorem de_L_law_805 : decode code 805 = .ok (.aload_n 2, 1) := by decide +kernel
theorem de_L_law_806 : decode code 806 = .ok (.aload_n 0, 1) := by decide +kernel
theorem de_L_law_807 : decode code 807 = .ok (.iload_n 3, 1) := by decide +kernel
theorem de_L_law_808 : decode code 808 = .ok (.iconst 1, 1) := by decide +kernel
theorem de_L_law_809 : decode code 809 = .ok (.iadd, 1) := by decide +kernel
theorem de_L_law_810 : decode code 810 = .ok (.iaload, 1) := by decide +kernel
theorem de_L_law_811 : decode code 811 = .ok (.aload_n 0, 1) := by decide +kernel
theorem de_L_law_812 : decode code 812 = .ok (.iload_n 3, 1) := by decide +kernel
theorem de_L_law_813 : decode code 813 = .ok (.iconst 2, 1) := by decide +kernel
theorem de_L_law_814 : decode code 814 = .ok (.iadd, 1) := by decide +kernel
theorem de_L_law_815 : decode code 815 = .ok (.iaload, 1) := by decide +kernel
theorem de_L_law_816 : decode code 816 = .ok (.invokevirtual 90, 3) := by decide +kernel
theorem de_L_law_819 : decode code 819 = .ok (.if_icmp .eq (700), 3) := by decide +kernel
theorem de_L_law_822 : decode code 822 = .ok (.iconst 0, 1) := by decide +kernel
theorem de_L_law_823 : decode code 823 = .ok (.ireturn, 1) := by decide +kernel
theorem de_L_law_824 : decode code 824 = .ok (.aload_n 1, 1) := by decide +kernel
theorem de_L_law_825 : decode code 825 = .ok (.aload_n 0, 1) := by decide +kernel
theorem de_L_law_826 : decode code 826 = .ok (.iload_n 3, 1) := by decide +kernel
theorem de_L_law_827 : decode code 827 = .ok (.iconst 1, 1) := by decide +kernel
theorem de_L_law_828 : decode code 828 = .ok (.iadd, 1) := by decide +kernel
theorem de_L_law_829 : decode code 829 = .ok (.iaload, 1) := by decide +kernel
theorem de_L_law_830 : decode code 830 = .ok (.invokevirtual 91, 3) := by decide +kernel
theorem de_L_law_833 : decode code 833 = .ok (.aload_n 2, 1) := by decide +kernel
theorem de_L_law_834 : decode code 834 = .ok (.aload_n 0, 1) := by decide +kernel
theorem de_L_law_835 : decode code 835 = .ok (.iload_n 3, 1) := by decide +kernel
theorem de_L_law_836 : decode code 836 = .ok (.iconst 1, 1) := by decide +kernel
theorem de_L_law_837 : decode code 837 = .ok (.iadd, 1) := by decide +kernel
theorem de_L_law_838 : decode code 838 = .ok (.iaload, 1) := by decide +kernel
theorem de_L_law_839 : decode code 839 = .ok (.invokevirtual 94, 3) := by decide +kernel
theorem de_L_law_842 : decode code 842 = .ok (.if_icmp .eq (677), 3) := by decide +kernel
theorem de_L_law_845 : decode code 845 = .ok (.iconst 0, 1) := by decide +kernel
theorem de_L_law_846 : decode code 846 = .ok (.ireturn, 1) := by decide +kernel
theorem de_L_law_847 : decode code 847 = .ok (.aload_n 1, 1) := by decide +kernel
theorem de_L_law_848 : decode code 848 = .ok (.aload_n 0, 1) := by decide +kernel
theorem de_L_law_849 : decode code 849 = .ok (.iload_n 3, 1) := by decide +kernel
theorem de_L_law_850 : decode code 850 = .ok (.iconst 1, 1) := by decide +kernel
theorem de_L_law_851 : decode code 851 = .ok (.iadd, 1) := by decide +kernel
theorem de_L_law_852 : decode code 852 = .ok (.iaload, 1) := by decide +kernel
theorem de_L_law_853 : decode code 853 = .ok (.aload_n 0, 1) := by decide +kernel
theorem de_L_law_854 : decode code 854 = .ok (.iload_n 3, 1) := by decide +kernel
theorem de_L_law_855 : decode code 855 = .ok (.iconst 2, 1) := by decide +kernel
theorem de_L_law_856 : decode code 856 = .ok (.iadd, 1) := by decide +kernel
theorem de_L_law_857 : decode code 857 = .ok (.iaload, 1) := by decide +kernel
theorem de_L_law_858 : decode code 858 = .ok (.invokevirtual 95, 3) := by decide +kernel
theorem de_L_law_861 : decode code 861 = .ok (.aload_n 2, 1) := by decide +kernel
theorem de_L_law_862 : decode code 862 = .ok (.aload_n 0, 1) := by decide +kernel
theorem de_L_law_863 : decode code 863 = .ok (.iload_n 3, 1) := by decide +kernel
theorem de_L_law_864 : decode code 864 = .ok (.iconst 1, 1) := by decide +kernel
theorem de_L_law_865 : decode code 865 = .ok (.iadd, 1) := by decide +kernel
theorem de_L_law_866 : decode code 866 = .ok (.iaload, 1) := by decide +kernel
theorem de_L_law_867 : decode code 867 = .ok (.aload_n 0, 1) := by decide +kernel
theorem de_L_law_868 : decode code 868 = .ok (.iload_n 3, 1) := by decide +kernel
theorem de_L_law_869 : decode code 869 = .ok (.iconst 2, 1) := by decide +kernel
theorem de_L_law_870 : decode code 870 = .ok (.iadd, 1) := by decide +kernel
theorem de_L_law_871 : decode code 871 = .ok (.iaload, 1) := by decide +kernel
theorem de_L_law_872 : decode code 872 = .ok (.invokevirtual 98, 3) := by decide +kernel
theorem de_L_law_875 : decode code 875 = .ok (.if_icmp .eq (644), 3) := by decide +kernel
theorem de_L_law_878 : decode code 878 = .ok (.iconst 0, 1) := by decide +kernel
theorem de_L_law_879 : decode code 879 = .ok (.ireturn, 1) := by decide +kernel
theorem de_L_law_880 : decode code 880 = .ok (.aload_n 1, 1) := by decide +kernel
theorem de_L_law_881 : decode code 881 = .ok (.aload_n 0, 1) := by decide +kernel
theorem de_L_law_882 : decode code 882 = .ok (.iload_n 3, 1) := by decide +kernel
theorem de_L_law_883 : decode code 883 = .ok (.iconst 1, 1) := by decide +kernel
theorem de_L_law_884 : decode code 884 = .ok (.iadd, 1) := by decide +kernel
theorem de_L_law_885 : decode code 885 = .ok (.iaload, 1) := by decide +kernel
theorem de_L_law_886 : decode code 886 = .ok (.aload_n 0, 1) := by decide +kernel
theorem de_L_law_887 : decode code 887 = .ok (.iload_n 3, 1) := by decide +kernel
theorem de_L_law_888 : decode code 888 = .ok (.iconst 2, 1) := by decide +kernel
theorem de_L_law_889 : decode code 889 = .ok (.iadd, 1) := by decide +kernel
theorem de_L_law_890 : decode code 890 = .ok (.iaload, 1) := by decide +kernel
theorem de_L_law_891 : decode code 891 = .ok (.aload_n 0, 1) := by decide +kernel
theorem de_L_law_892 : decode code 892 = .ok (.iload_n 3, 1) := by decide +kernel
theorem de_L_law_893 : decode code 893 = .ok (.iconst 3, 1) := by decide +kernel
theorem de_L_law_894 : decode code 894 = .ok (.iadd, 1) := by decide +kernel
theorem de_L_law_895 : decode code 895 = .ok (.iaload, 1) := by decide +kernel
theorem de_L_law_896 : decode code 896 = .ok (.aload_n 0, 1) := by decide +kernel
theorem de_L_law_897 : decode code 897 = .ok (.iload_n 3, 1) := by decide +kernel
theorem de_L_law_898 : decode code 898 = .ok (.iconst 4, 1) := by decide +kernel
theorem de_L_law_899 : decode code 899 = .ok (.iadd, 1) := by decide +kernel
theorem de_L_law_900 : decode code 900 = .ok (.iaload, 1) := by decide +kernel
theorem de_L_law_901 : decode code 901 = .ok (.invokevirtual 99, 3) := by decide +kernel
theorem de_L_law_904 : decode code 904 = .ok (.aload_n 2, 1) := by decide +kernel
theorem de_L_law_905 : decode code 905 = .ok (.aload_n 0, 1) := by decide +kernel
theorem de_L_law_906 : decode code 906 = .ok (.iload_n 3, 1) := by decide +kernel
theorem de_L_law_907 : decode code 907 = .ok (.iconst 1, 1) := by decide +kernel
theorem de_L_law_908 : decode code 908 = .ok (.iadd, 1) := by decide +kernel
theorem de_L_law_909 : decode code 909 = .ok (.iaload, 1) := by decide +kernel
theorem de_L_law_910 : decode code 910 = .ok (.aload_n 0, 1) := by decide +kernel
theorem de_L_law_911 : decode code 911 = .ok (.iload_n 3, 1) := by decide +kernel
theorem de_L_law_912 : decode code 912 = .ok (.iconst 2, 1) := by decide +kernel
theorem de_L_law_913 : decode code 913 = .ok (.iadd, 1) := by decide +kernel
theorem de_L_law_914 : decode code 914 = .ok (.iaload, 1) := by decide +kernel
theorem de_L_law_915 : decode code 915 = .ok (.aload_n 0, 1) := by decide +kernel
theorem de_L_law_916 : decode code 916 = .ok (.iload_n 3, 1) := by decide +kernel
theorem de_L_law_917 : decode code 917 = .ok (.iconst 3, 1) := by decide +kernel
theorem de_L_law_918 : decode code 918 = .ok (.iadd, 1) := by decide +kernel
theorem de_L_law_919 : decode code 919 = .ok (.iaload, 1) := by decide +kernel
theorem de_L_law_920 : decode code 920 = .ok (.aload_n 0, 1) := by decide +kernel
theorem de_L_law_921 : decode code 921 = .ok (.iload_n 3, 1) := by decide +kernel
theorem de_L_law_922 : decode code 922 = .ok (.iconst 4, 1) := by decide +kernel
theorem de_L_law_923 : decode code 923 = .ok (.iadd, 1) := by decide +kernel
theorem de_L_law_924 : decode code 924 = .ok (.iaload, 1) := by decide +kernel
theorem de_L_law_925 : decode code 925 = .ok (.invokevirtual 103, 3) := by decide +kernel
theorem de_L_law_928 : decode code 928 = .ok (.if_icmp .eq (591), 3) := by decide +kernel
theorem de_L_law_931 : decode code 931 = .ok (.iconst 0, 1) := by decide +kernel
theorem de_L_law_932 : decode code 932 = .ok (.ireturn, 1) := by decide +kernel
theorem de_L_law_933 : decode code 933 = .ok (.aload_n 1, 1) := by decide +kernel
theorem de_L_law_934 : decode code 934 = .ok (.aload_n 0, 1) := by decide +kernel
theorem de_L_law_935 : decode code 935 = .ok (.iload_n 3, 1) := by decide +kernel
theorem de_L_law_936 : decode code 936 = .ok (.iconst 1, 1) := by decide +kernel
theorem de_L_law_937 : decode code 937 = .ok (.iadd, 1) := by decide +kernel
theorem de_L_law_938 : decode code 938 = .ok (.iaload, 1) := by decide +kernel
theorem de_L_law_939 : decode code 939 = .ok (.aload_n 0, 1) := by decide +kernel
theorem de_L_law_940 : decode code 940 = .ok (.iload_n 3, 1) := by decide +kernel
theorem de_L_law_941 : decode code 941 = .ok (.iconst 2, 1) := by decide +kernel
theorem de_L_law_942 : decode code 942 = .ok (.iadd, 1) := by decide +kernel
theorem de_L_law_943 : decode code 943 = .ok (.iaload, 1) := by decide +kernel
theorem de_L_law_944 : decode code 944 = .ok (.invokevirtual 104, 3) := by decide +kernel
theorem de_L_law_947 : decode code 947 = .ok (.aload_n 2, 1) := by decide +kernel
theorem de_L_law_948 : decode code 948 = .ok (.aload_n 0, 1) := by decide +kernel
theorem de_L_law_949 : decode code 949 = .ok (.iload_n 3, 1) := by decide +kernel
theorem de_L_law_950 : decode code 950 = .ok (.iconst 1, 1) := by decide +kernel
theorem de_L_law_951 : decode code 951 = .ok (.iadd, 1) := by decide +kernel
theorem de_L_law_952 : decode code 952 = .ok (.iaload, 1) := by decide +kernel
theorem de_L_law_953 : decode code 953 = .ok (.aload_n 0, 1) := by decide +kernel
theorem de_L_law_954 : decode code 954 = .ok (.iload_n 3, 1) := by decide +kernel
theorem de_L_law_955 : decode code 955 = .ok (.iconst 2, 1) := by decide +kernel
theorem de_L_law_956 : decode code 956 = .ok (.iadd, 1) := by decide +kernel
theorem de_L_law_957 : decode code 957 = .ok (.iaload, 1) := by decide +kernel
theorem de_L_law_958 : decode code 958 = .ok (.invokevirtual 107, 3) := by decide +kernel
theorem de_L_law_961 : decode code 961 = .ok (.if_icmp .eq (558), 3) := by decide +kernel
theorem de_L_law_964 : decode code 964 = .ok (.iconst 0, 1) := by decide +kernel
theorem de_L_law_965 : decode code 965 = .ok (.ireturn, 1) := by decide +kernel
theorem de_L_law_966 : decode code 966 = .ok (.aload_n 1, 1) := by decide +kernel
theorem de_L_law_967 : decode code 967 = .ok (.aload_n 0, 1) := by decide +kernel
theorem de_L_law_968 : decode code 968 = .ok (.iload_n 3, 1) := by decide +kernel
theorem de_L_law_969 : decode code 969 = .ok (.iconst 1, 1) := by decide +kernel
theorem de_L_law_970 : decode code 970 = .ok (.iadd, 1) := by decide +kernel
theorem de_L_law_971 : decode code 971 = .ok (.iaload, 1) := by decide +kernel
theorem de_L_law_972 : decode code 972 = .ok (.aload_n 0, 1) := by decide +kernel
theorem de_L_law_973 : decode code 973 = .ok (.iload_n 3, 1) := by decide +kernel
theorem de_L_law_974 : decode code 974 = .ok (.iconst 2, 1) := by decide +kernel
theorem de_L_law_975 : decode code 975 = .ok (.iadd, 1) := by decide +kernel
theorem de_L_law_976 : decode code 976 = .ok (.iaload, 1) := by decide +kernel
theorem de_L_law_977 : decode code 977 = .ok (.aload_n 0, 1) := by decide +kernel
theorem de_L_law_978 : decode code 978 = .ok (.iload_n 3, 1) := by decide +kernel
theorem de_L_law_979 : decode code 979 = .ok (.iconst 3, 1) := by decide +kernel
theorem de_L_law_980 : decode code 980 = .ok (.iadd, 1) := by decide +kernel
theorem de_L_law_981 : decode code 981 = .ok (.iaload, 1) := by decide +kernel
theorem de_L_law_982 : decode code 982 = .ok (.invokevirtual 108, 3) := by decide +kernel
theorem de_L_law_985 : decode code 985 = .ok (.aload_n 2, 1) := by decide +kernel
theorem de_L_law_986 : decode code 986 = .ok (.aload_n 0, 1) := by decide +kernel
theorem de_L_law_987 : decode code 987 = .ok (.iload_n 3, 1) := by decide +kernel
theorem de_L_law_988 : decode code 988 = .ok (.iconst 1, 1) := by decide +kernel
theorem de_L_law_989 : decode code 989 = .ok (.iadd, 1) := by decide +kernel
theorem de_L_law_990 : decode code 990 = .ok (.iaload, 1) := by decide +kernel
theorem de_L_law_991 : decode code 991 = .ok (.aload_n 0, 1) := by decide +kernel
theorem de_L_law_992 : decode code 992 = .ok (.iload_n 3, 1) := by decide +kernel
theorem de_L_law_993 : decode code 993 = .ok (.iconst 2, 1) := by decide +kernel
theorem de_L_law_994 : decode code 994 = .ok (.iadd, 1) := by decide +kernel
theorem de_L_law_995 : decode code 995 = .ok (.iaload, 1) := by decide +kernel
theorem de_L_law_996 : decode code 996 = .ok (.aload_n 0, 1) := by decide +kernel
theorem de_L_law_997 : decode code 997 = .ok (.iload_n 3, 1) := by decide +kernel
theorem de_L_law_998 : decode code 998 = .ok (.iconst 3, 1) := by decide +kernel
theorem de_L_law_999 : decode code 999 = .ok (.iadd, 1) := by decide +kernel
theorem de_L_law_1000 : decode code 1000 = .ok (.iaload, 1) := by decide +kernel
theorem de_L_law_1001 : decode code 1001 = .ok (.invokevirtual 111, 3) := by decide +kernel
theorem de_L_law_1004 : decode code 1004 = .ok (.if_icmp .eq (515), 3) := by decide +kernel
theorem de_L_law_1007 : decode code 1007 = .ok (.iconst 0, 1) := by decide +kernel
theorem de_L_law_1008 : decode code 1008 = .ok (.ireturn, 1) := by decide +kernel
theorem de_L_law_1009 : decode code 1009 = .ok (.aload_n 1, 1) := by decide +kernel
theorem de_L_law_1010 : decode code 1010 = .ok (.aload_n 0, 1) := by decide +kernel
theorem de_L_law_1011 : decode code 1011 = .ok (.iload_n 3, 1) := by decide +kernel
theorem de_L_law_1012 : decode code 1012 = .ok (.iconst 1, 1) := by decide +kernel
theorem de_L_law_1013 : decode code 1013 = .ok (.iadd, 1) := by decide +kernel
theorem de_L_law_1014 : decode code 1014 = .ok (.iaload, 1) := by decide +kernel
theorem de_L_law_1015 : decode code 1015 = .ok (.aload_n 0, 1) := by decide +kernel
theorem de_L_law_1016 : decode code 1016 = .ok (.iload_n 3, 1) := by decide +kernel
theorem de_L_law_1017 : decode code 1017 = .ok (.iconst 2, 1) := by decide +kernel
theorem de_L_law_1018 : decode code 1018 = .ok (.iadd, 1) := by decide +kernel
theorem de_L_law_1019 : decode code 1019 = .ok (.iaload, 1) := by decide +kernel
theorem de_L_law_1020 : decode code 1020 = .ok (.invokevirtual 112, 3) := by decide +kernel
theorem de_L_law_1023 : decode code 1023 = .ok (.aload_n 2, 1) := by decide +kernel
theorem de_L_law_1024 : decode code 1024 = .ok (.aload_n 0, 1) := by decide +kernel
theorem de_L_law_1025 : decode code 1025 = .ok (.iload_n 3, 1) := by decide +kernel
theorem de_L_law_1026 : decode code 1026 = .ok (.iconst 1, 1) := by decide +kernel
theorem de_L_law_1027 : decode code 1027 = .ok (.iadd, 1) := by decide +kernel
theorem de_L_law_1028 : decode code 1028 = .ok (.iaload, 1) := by decide +kernel
theorem de_L_law_1029 : decode code 1029 = .ok (.aload_n 0, 1) := by decide +kernel
theorem de_L_law_1030 : decode code 1030 = .ok (.iload_n 3, 1) := by decide +kernel
theorem de_L_law_1031 : decode code 1031 = .ok (.iconst 2, 1) := by decide +kernel
theorem de_L_law_1032 : decode code 1032 = .ok (.iadd, 1) := by decide +kernel
theorem de_L_law_1033 : decode code 1033 = .ok (.iaload, 1) := by decide +kernel
theorem de_L_law_1034 : decode code 1034 = .ok (.invokevirtual 115, 3) := by decide +kernel
theorem de_L_law_1037 : decode code 1037 = .ok (.if_icmp .eq (482), 3) := by decide +kernel
theorem de_L_law_1040 : decode code 1040 = .ok (.iconst 0, 1) := by decide +kernel
theorem de_L_law_1041 : decode code 1041 = .ok (.ireturn, 1) := by decide +kernel
theorem de_L_law_1042 : decode code 1042 = .ok (.aload_n 1, 1) := by decide +kernel
theorem de_L_law_1043 : decode code 1043 = .ok (.invokevirtual 116, 3) := by decide +kernel
theorem de_L_law_1046 : decode code 1046 = .ok (.aload_n 2, 1) := by decide +kernel
theorem de_L_law_1047 : decode code 1047 = .ok (.invokevirtual 119, 3) := by decide +kernel
theorem de_L_law_1050 : decode code 1050 = .ok (.if_icmp .eq (469), 3) := by decide +kernel
theorem de_L_law_1053 : decode code 1053 = .ok (.iconst 0, 1) := by decide +kernel
theorem de_L_law_1054 : decode code 1054 = .ok (.ireturn, 1) := by decide +kernel
theorem de_L_law_1055 : decode code 1055 = .ok (.aload_n 1, 1) := by decide +kernel
theorem de_L_law_1056 : decode code 1056 = .ok (.invokevirtual 120, 3) := by decide +kernel
theorem de_L_law_1059 : decode code 1059 = .ok (.aload_n 2, 1) := by decide +kernel
theorem de_L_law_1060 : decode code 1060 = .ok (.invokevirtual 123, 3) := by decide +kernel
theorem de_L_law_1063 : decode code 1063 = .ok (.if_icmp .eq (456), 3) := by decide +kernel
theorem de_L_law_1066 : decode code 1066 = .ok (.iconst 0, 1) := by decide +kernel
theorem de_L_law_1067 : decode code 1067 = .ok (.ireturn, 1) := by decide +kernel
theorem de_L_law_1068 : decode code 1068 = .ok (.aload_n 1, 1) := by decide +kernel
theorem de_L_law_1069 : decode code 1069 = .ok (.aload_n 0, 1) := by decide +kernel
theorem de_L_law_1070 : decode code 1070 = .ok (.iload_n 3, 1) := by decide +kernel
theorem de_L_law_1071 : decode code 1071 = .ok (.iconst 1, 1) := by decide +kernel
theorem de_L_law_1072 : decode code 1072 = .ok (.iadd, 1) := by decide +kernel
theorem de_L_law_1073 : decode code 1073 = .ok (.iaload, 1) := by decide +kernel
theorem de_L_law_1074 : decode code 1074 = .ok (.invokevirtual 124, 3) := by decide +kernel
theorem de_L_law_1077 : decode code 1077 = .ok (.aload_n 2, 1) := by decide +kernel
theorem de_L_law_1078 : decode code 1078 = .ok (.aload_n 0, 1) := by decide +kernel
theorem de_L_law_1079 : decode code 1079 = .ok (.iload_n 3, 1) := by decide +kernel
theorem de_L_law_1080 : decode code 1080 = .ok (.iconst 1, 1) := by decide +kernel
theorem de_L_law_1081 : decode code 1081 = .ok (.iadd, 1) := by decide +kernel
theorem de_L_law_1082 : decode code 1082 = .ok (.iaload, 1) := by decide +kernel
theorem de_L_law_1083 : decode code 1083 = .ok (.invokevirtual 127, 3) := by decide +kernel
theorem de_L_law_1086 : decode code 1086 = .ok (.if_icmp .eq (433), 3) := by decide +kernel
theorem de_L_law_1089 : decode code 1089 = .ok (.iconst 0, 1) := by decide +kernel
theorem de_L_law_1090 : decode code 1090 = .ok (.ireturn, 1) := by decide +kernel
theorem de_L_law_1091 : decode code 1091 = .ok (.aload_n 1, 1) := by decide +kernel
theorem de_L_law_1092 : decode code 1092 = .ok (.aload_n 0, 1) := by decide +kernel
theorem de_L_law_1093 : decode code 1093 = .ok (.iload_n 3, 1) := by decide +kernel
theorem de_L_law_1094 : decode code 1094 = .ok (.iconst 1, 1) := by decide +kernel
theorem de_L_law_1095 : decode code 1095 = .ok (.iadd, 1) := by decide +kernel
theorem de_L_law_1096 : decode code 1096 = .ok (.iaload, 1) := by decide +kernel
theorem de_L_law_1097 : decode code 1097 = .ok (.aload_n 0, 1) := by decide +kernel
theorem de_L_law_1098 : decode code 1098 = .ok (.iload_n 3, 1) := by decide +kernel
theorem de_L_law_1099 : decode code 1099 = .ok (.iconst 2, 1) := by decide +kernel
theorem de_L_law_1100 : decode code 1100 = .ok (.iadd, 1) := by decide +kernel
theorem de_L_law_1101 : decode code 1101 = .ok (.iaload, 1) := by decide +kernel
theorem de_L_law_1102 : decode code 1102 = .ok (.invokevirtual 128, 3) := by decide +kernel
theorem de_L_law_1105 : decode code 1105 = .ok (.aload_n 2, 1) := by decide +kernel
theorem de_L_law_1106 : decode code 1106 = .ok (.aload_n 0, 1) := by decide +kernel
theorem de_L_law_1107 : decode code 1107 = .ok (.iload_n 3, 1) := by decide +kernel
theorem de_L_law_1108 : decode code 1108 = .ok (.iconst 1, 1) := by decide +kernel
theorem de_L_law_1109 : decode code 1109 = .ok (.iadd, 1) := by decide +kernel
theorem de_L_law_1110 : decode code 1110 = .ok (.iaload, 1) := by decide +kernel
theorem de_L_law_1111 : decode code 1111 = .ok (.aload_n 0, 1) := by decide +kernel
theorem de_L_law_1112 : decode code 1112 = .ok (.iload_n 3, 1) := by decide +kernel
theorem de_L_law_1113 : decode code 1113 = .ok (.iconst 2, 1) := by decide +kernel
theorem de_L_law_1114 : decode code 1114 = .ok (.iadd, 1) := by decide +kernel
theorem de_L_law_1115 : decode code 1115 = .ok (.iaload, 1) := by decide +kernel
theorem de_L_law_1116 : decode code 1116 = .ok (.invokevirtual 131, 3) := by decide +kernel
theorem de_L_law_1119 : decode code 1119 = .ok (.if_icmp .eq (400), 3) := by decide +kernel
theorem de_L_law_1122 : decode code 1122 = .ok (.iconst 0, 1) := by decide +kernel
theorem de_L_law_1123 : decode code 1123 = .ok (.ireturn, 1) := by decide +kernel
theorem de_L_law_1124 : decode code 1124 = .ok (.aload_n 1, 1) := by decide +kernel
theorem de_L_law_1125 : decode code 1125 = .ok (.aload_n 0, 1) := by decide +kernel
theorem de_L_law_1126 : decode code 1126 = .ok (.iload_n 3, 1) := by decide +kernel
theorem de_L_law_1127 : decode code 1127 = .ok (.iconst 1, 1) := by decide +kernel
theorem de_L_law_1128 : decode code 1128 = .ok (.iadd, 1) := by decide +kernel
theorem de_L_law_1129 : decode code 1129 = .ok (.iaload, 1) := by decide +kernel
theorem de_L_law_1130 : decode code 1130 = .ok (.invokevirtual 132, 3) := by decide +kernel
theorem de_L_law_1133 : decode code 1133 = .ok (.aload_n 2, 1) := by decide +kernel
theorem de_L_law_1134 : decode code 1134 = .ok (.aload_n 0, 1) := by decide +kernel
theorem de_L_law_1135 : decode code 1135 = .ok (.iload_n 3, 1) := by decide +kernel
theorem de_L_law_1136 : decode code 1136 = .ok (.iconst 1, 1) := by decide +kernel
theorem de_L_law_1137 : decode code 1137 = .ok (.iadd, 1) := by decide +kernel
theorem de_L_law_1138 : decode code 1138 = .ok (.iaload, 1) := by decide +kernel
theorem de_L_law_1139 : decode code 1139 = .ok (.invokevirtual 135, 3) := by decide +kernel
theorem de_L_law_1142 : decode code 1142 = .ok (.if_icmp .eq (377), 3) := by decide +kernel
theorem de_L_law_1145 : decode code 1145 = .ok (.iconst 0, 1) := by decide +kernel
theorem de_L_law_1146 : decode code 1146 = .ok (.ireturn, 1) := by decide +kernel
theorem de_L_law_1147 : decode code 1147 = .ok (.aload_n 1, 1) := by decide +kernel
theorem de_L_law_1148 : decode code 1148 = .ok (.invokevirtual 136, 3) := by decide +kernel
theorem de_L_law_1151 : decode code 1151 = .ok (.aload_n 2, 1) := by decide +kernel
theorem de_L_law_1152 : decode code 1152 = .ok (.invokevirtual 139, 3) := by decide +kernel
theorem de_L_law_1155 : decode code 1155 = .ok (.if_icmp .eq (364), 3) := by decide +kernel
theorem de_L_law_1158 : decode code 1158 = .ok (.iconst 0, 1) := by decide +kernel
theorem de_L_law_1159 : decode code 1159 = .ok (.ireturn, 1) := by decide +kernel
theorem de_L_law_1160 : decode code 1160 = .ok (.aload_n 1, 1) := by decide +kernel
theorem de_L_law_1161 : decode code 1161 = .ok (.aload_n 0, 1) := by decide +kernel
theorem de_L_law_1162 : decode code 1162 = .ok (.iload_n 3, 1) := by decide +kernel
theorem de_L_law_1163 : decode code 1163 = .ok (.iconst 1, 1) := by decide +kernel
theorem de_L_law_1164 : decode code 1164 = .ok (.iadd, 1) := by decide +kernel
theorem de_L_law_1165 : decode code 1165 = .ok (.iaload, 1) := by decide +kernel
theorem de_L_law_1166 : decode code 1166 = .ok (.aload_n 0, 1) := by decide +kernel
theorem de_L_law_1167 : decode code 1167 = .ok (.iload_n 3, 1) := by decide +kernel
theorem de_L_law_1168 : decode code 1168 = .ok (.iconst 2, 1) := by decide +kernel
theorem de_L_law_1169 : decode code 1169 = .ok (.iadd, 1) := by decide +kernel
theorem de_L_law_1170 : decode code 1170 = .ok (.iaload, 1) := by decide +kernel
theorem de_L_law_1171 : decode code 1171 = .ok (.invokevirtual 140, 3) := by decide +kernel
theorem de_L_law_1174 : decode code 1174 = .ok (.aload_n 2, 1) := by decide +kernel
theorem de_L_law_1175 : decode code 1175 = .ok (.aload_n 0, 1) := by decide +kernel
theorem de_L_law_1176 : decode code 1176 = .ok (.iload_n 3, 1) := by decide +kernel
theorem de_L_law_1177 : decode code 1177 = .ok (.iconst 1, 1) := by decide +kernel
theorem de_L_law_1178 : decode code 1178 = .ok (.iadd, 1) := by decide +kernel
theorem de_L_law_1179 : decode code 1179 = .ok (.iaload, 1) := by decide +kernel
theorem de_L_law_1180 : decode code 1180 = .ok (.aload_n 0, 1) := by decide +kernel
theorem de_L_law_1181 : decode code 1181 = .ok (.iload_n 3, 1) := by decide +kernel
theorem de_L_law_1182 : decode code 1182 = .ok (.iconst 2, 1) := by decide +kernel
theorem de_L_law_1183 : decode code 1183 = .ok (.iadd, 1) := by decide +kernel
theorem de_L_law_1184 : decode code 1184 = .ok (.iaload, 1) := by decide +kernel
theorem de_L_law_1185 : decode code 1185 = .ok (.invokevirtual 143, 3) := by decide +kernel
theorem de_L_law_1188 : decode code 1188 = .ok (.if_icmp .eq (331), 3) := by decide +kernel
theorem de_L_law_1191 : decode code 1191 = .ok (.iconst 0, 1) := by decide +kernel
theorem de_L_law_1192 : decode code 1192 = .ok (.ireturn, 1) := by decide +kernel
theorem de_L_law_1193 : decode code 1193 = .ok (.aload_n 1, 1) := by decide +kernel
theorem de_L_law_1194 : decode code 1194 = .ok (.aload_n 0, 1) := by decide +kernel
theorem de_L_law_1195 : decode code 1195 = .ok (.iload_n 3, 1) := by decide +kernel
theorem de_L_law_1196 : decode code 1196 = .ok (.iconst 1, 1) := by decide +kernel
theorem de_L_law_1197 : decode code 1197 = .ok (.iadd, 1) := by decide +kernel
theorem de_L_law_1198 : decode code 1198 = .ok (.iaload, 1) := by decide +kernel
theorem de_L_law_1199 : decode code 1199 = .ok (.aload_n 0, 1) := by decide +kernel
theorem de_L_law_1200 : decode code 1200 = .ok (.iload_n 3, 1) := by decide +kernel
theorem de_L_law_1201 : decode code 1201 = .ok (.iconst 2, 1) := by decide +kernel
theorem de_L_law_1202 : decode code 1202 = .ok (.iadd, 1) := by decide +kernel
theorem de_L_law_1203 : decode code 1203 = .ok (.iaload, 1) := by decide +kernel
theorem de_L_law_1204 : decode code 1204 = .ok (.invokevirtual 144, 3) := by decide +kernel
theorem de_L_law_1207 : decode code 1207 = .ok (.aload_n 2, 1) := by decide +kernel
theorem de_L_law_1208 : decode code 1208 = .ok (.aload_n 0, 1) := by decide +kernel
theorem de_L_law_1209 : decode code 1209 = .ok (.iload_n 3, 1) := by decide +kernel
theorem de_L_law_1210 : decode code 1210 = .ok (.iconst 1, 1) := by decide +kernel
theorem de_L_law_1211 : decode code 1211 = .ok (.iadd, 1) := by decide +kernel
theorem de_L_law_1212 : decode code 1212 = .ok (.iaload, 1) := by decide +kernel
theorem de_L_law_1213 : decode code 1213 = .ok (.aload_n 0, 1) := by decide +kernel
theorem de_L_law_1214 : decode code 1214 = .ok (.iload_n 3, 1) := by decide +kernel
theorem de_L_law_1215 : decode code 1215 = .ok (.iconst 2, 1) := by decide +kernel
theorem de_L_law_1216 : decode code 1216 = .ok (.iadd, 1) := by decide +kernel
theorem de_L_law_1217 : decode code 1217 = .ok (.iaload, 1) := by decide +kernel
theorem de_L_law_1218 : decode code 1218 = .ok (.invokevirtual 147, 3) := by decide +kernel
theorem de_L_law_1221 : decode code 1221 = .ok (.if_icmp .eq (298), 3) := by decide +kernel
theorem de_L_law_1224 : decode code 1224 = .ok (.iconst 0, 1) := by decide +kernel
theorem de_L_law_1225 : decode code 1225 = .ok (.ireturn, 1) := by decide +kernel
theorem de_L_law_1226 : decode code 1226 = .ok (.aload_n 1, 1) := by decide +kernel
theorem de_L_law_1227 : decode code 1227 = .ok (.aload_n 0, 1) := by decide +kernel
theorem de_L_law_1228 : decode code 1228 = .ok (.iload_n 3, 1) := by decide +kernel
theorem de_L_law_1229 : decode code 1229 = .ok (.iconst 1, 1) := by decide +kernel
theorem de_L_law_1230 : decode code 1230 = .ok (.iadd, 1) := by decide +kernel
theorem de_L_law_1231 : decode code 1231 = .ok (.iaload, 1) := by decide +kernel
theorem de_L_law_1232 : decode code 1232 = .ok (.invokevirtual 148, 3) := by decide +kernel
theorem de_L_law_1235 : decode code 1235 = .ok (.aload_n 2, 1) := by decide +kernel
theorem de_L_law_1236 : decode code 1236 = .ok (.aload_n 0, 1) := by decide +kernel
theorem de_L_law_1237 : decode code 1237 = .ok (.iload_n 3, 1) := by decide +kernel
theorem de_L_law_1238 : decode code 1238 = .ok (.iconst 1, 1) := by decide +kernel
theorem de_L_law_1239 : decode code 1239 = .ok (.iadd, 1) := by decide +kernel
theorem de_L_law_1240 : decode code 1240 = .ok (.iaload, 1) := by decide +kernel
theorem de_L_law_1241 : decode code 1241 = .ok (.invokevirtual 151, 3) := by decide +kernel
theorem de_L_law_1244 : decode code 1244 = .ok (.if_icmp .eq (275), 3) := by decide +kernel
theorem de_L_law_1247 : decode code 1247 = .ok (.iconst 0, 1) := by decide +kernel
theorem de_L_law_1248 : decode code 1248 = .ok (.ireturn, 1) := by decide +kernel
theorem de_L_law_1249 : decode code 1249 = .ok (.aload_n 1, 1) := by decide +kernel
theorem de_L_law_1250 : decode code 1250 = .ok (.aload_n 0, 1) := by decide +kernel
theorem de_L_law_1251 : decode code 1251 = .ok (.iload_n 3, 1) := by decide +kernel
theorem de_L_law_1252 : decode code 1252 = .ok (.iconst 1, 1) := by decide +kernel
theorem de_L_law_1253 : decode code 1253 = .ok (.iadd, 1) := by decide +kernel
theorem de_L_law_1254 : decode code 1254 = .ok (.iaload, 1) := by decide +kernel
theorem de_L_law_1255 : decode code 1255 = .ok (.invokevirtual 152, 3) := by decide +kernel
theorem de_L_law_1258 : decode code 1258 = .ok (.aload_n 2, 1) := by decide +kernel
theorem de_L_law_1259 : decode code 1259 = .ok (.aload_n 0, 1) := by decide +kernel
theorem de_L_law_1260 : decode code 1260 = .ok (.iload_n 3, 1) := by decide +kernel
theorem de_L_law_1261 : decode code 1261 = .ok (.iconst 1, 1) := by decide +kernel
theorem de_L_law_1262 : decode code 1262 = .ok (.iadd, 1) := by decide +kernel
theorem de_L_law_1263 : decode code 1263 = .ok (.iaload, 1) := by decide +kernel
theorem de_L_law_1264 : decode code 1264 = .ok (.invokevirtual 155, 3) := by decide +kernel
theorem de_L_law_1267 : decode code 1267 = .ok (.if_icmp .eq (252), 3) := by decide +kernel
theorem de_L_law_1270 : decode code 1270 = .ok (.iconst 0, 1) := by decide +kernel
theorem de_L_law_1271 : decode code 1271 = .ok (.ireturn, 1) := by decide +kernel
theorem de_L_law_1272 : decode code 1272 = .ok (.aload_n 1, 1) := by decide +kernel
theorem de_L_law_1273 : decode code 1273 = .ok (.aload_n 0, 1) := by decide +kernel
theorem de_L_law_1274 : decode code 1274 = .ok (.iload_n 3, 1) := by decide +kernel
theorem de_L_law_1275 : decode code 1275 = .ok (.iconst 1, 1) := by decide +kernel
theorem de_L_law_1276 : decode code 1276 = .ok (.iadd, 1) := by decide +kernel
theorem de_L_law_1277 : decode code 1277 = .ok (.iaload, 1) := by decide +kernel
theorem de_L_law_1278 : decode code 1278 = .ok (.aload_n 0, 1) := by decide +kernel
theorem de_L_law_1279 : decode code 1279 = .ok (.iload_n 3, 1) := by decide +kernel
theorem de_L_law_1280 : decode code 1280 = .ok (.iconst 2, 1) := by decide +kernel
theorem de_L_law_1281 : decode code 1281 = .ok (.iadd, 1) := by decide +kernel
theorem de_L_law_1282 : decode code 1282 = .ok (.iaload, 1) := by decide +kernel
theorem de_L_law_1283 : decode code 1283 = .ok (.invokevirtual 156, 3) := by decide +kernel
theorem de_L_law_1286 : decode code 1286 = .ok (.aload_n 2, 1) := by decide +kernel
theorem de_L_law_1287 : decode code 1287 = .ok (.aload_n 0, 1) := by decide +kernel
theorem de_L_law_1288 : decode code 1288 = .ok (.iload_n 3, 1) := by decide +kernel
theorem de_L_law_1289 : decode code 1289 = .ok (.iconst 1, 1) := by decide +kernel
theorem de_L_law_1290 : decode code 1290 = .ok (.iadd, 1) := by decide +kernel
theorem de_L_law_1291 : decode code 1291 = .ok (.iaload, 1) := by decide +kernel
theorem de_L_law_1292 : decode code 1292 = .ok (.aload_n 0, 1) := by decide +kernel
theorem de_L_law_1293 : decode code 1293 = .ok (.iload_n 3, 1) := by decide +kernel
theorem de_L_law_1294 : decode code 1294 = .ok (.iconst 2, 1) := by decide +kernel
theorem de_L_law_1295 : decode code 1295 = .ok (.iadd, 1) := by decide +kernel
theorem de_L_law_1296 : decode code 1296 = .ok (.iaload, 1) := by decide +kernel
theorem de_L_law_1297 : decode code 1297 = .ok (.invokevirtual 159, 3) := by decide +kernel
theorem de_L_law_1300 : decode code 1300 = .ok (.if_icmp .eq (219), 3) := by decide +kernel
theorem de_L_law_1303 : decode code 1303 = .ok (.iconst 0, 1) := by decide +kernel
theorem de_L_law_1304 : decode code 1304 = .ok (.ireturn, 1) := by decide +kernel
theorem de_L_law_1305 : decode code 1305 = .ok (.aload_n 1, 1) := by decide +kernel
theorem de_L_law_1306 : decode code 1306 = .ok (.aload_n 0, 1) := by decide +kernel
theorem de_L_law_1307 : decode code 1307 = .ok (.iload_n 3, 1) := by decide +kernel
theorem de_L_law_1308 : decode code 1308 = .ok (.iconst 1, 1) := by decide +kernel
theorem de_L_law_1309 : decode code 1309 = .ok (.iadd, 1) := by decide +kernel
theorem de_L_law_1310 : decode code 1310 = .ok (.iaload, 1) := by decide +kernel
theorem de_L_law_1311 : decode code 1311 = .ok (.aload_n 0, 1) := by decide +kernel
theorem de_L_law_1312 : decode code 1312 = .ok (.iload_n 3, 1) := by decide +kernel
theorem de_L_law_1313 : decode code 1313 = .ok (.iconst 2, 1) := by decide +kernel
theorem de_L_law_1314 : decode code 1314 = .ok (.iadd, 1) := by decide +kernel
theorem de_L_law_1315 : decode code 1315 = .ok (.iaload, 1) := by decide +kernel
theorem de_L_law_1316 : decode code 1316 = .ok (.invokevirtual 160, 3) := by decide +kernel
theorem de_L_law_1319 : decode code 1319 = .ok (.aload_n 2, 1) := by decide +kernel
theorem de_L_law_1320 : decode code 1320 = .ok (.aload_n 0, 1) := by decide +kernel
theorem de_L_law_1321 : decode code 1321 = .ok (.iload_n 3, 1) := by decide +kernel
theorem de_L_law_1322 : decode code 1322 = .ok (.iconst 1, 1) := by decide +kernel
theorem de_L_law_1323 : decode code 1323 = .ok (.iadd, 1) := by decide +kernel
theorem de_L_law_1324 : decode code 1324 = .ok (.iaload, 1) := by decide +kernel
theorem de_L_law_1325 : decode code 1325 = .ok (.aload_n 0, 1) := by decide +kernel
theorem de_L_law_1326 : decode code 1326 = .ok (.iload_n 3, 1) := by decide +kernel
theorem de_L_law_1327 : decode code 1327 = .ok (.iconst 2, 1) := by decide +kernel
theorem de_L_law_1328 : decode code 1328 = .ok (.iadd, 1) := by decide +kernel
theorem de_L_law_1329 : decode code 1329 = .ok (.iaload, 1) := by decide +kernel
theorem de_L_law_1330 : decode code 1330 = .ok (.invokevirtual 163, 3) := by decide +kernel
theorem de_L_law_1333 : decode code 1333 = .ok (.if_icmp .eq (186), 3) := by decide +kernel
theorem de_L_law_1336 : decode code 1336 = .ok (.iconst 0, 1) := by decide +kernel
theorem de_L_law_1337 : decode code 1337 = .ok (.ireturn, 1) := by decide +kernel
theorem de_L_law_1338 : decode code 1338 = .ok (.aload_n 1, 1) := by decide +kernel
theorem de_L_law_1339 : decode code 1339 = .ok (.aload_n 0, 1) := by decide +kernel
theorem de_L_law_1340 : decode code 1340 = .ok (.iload_n 3, 1) := by decide +kernel
theorem de_L_law_1341 : decode code 1341 = .ok (.iconst 1, 1) := by decide +kernel
theorem de_L_law_1342 : decode code 1342 = .ok (.iadd, 1) := by decide +kernel
theorem de_L_law_1343 : decode code 1343 = .ok (.iaload, 1) := by decide +kernel
theorem de_L_law_1344 : decode code 1344 = .ok (.aload_n 0, 1) := by decide +kernel
theorem de_L_law_1345 : decode code 1345 = .ok (.iload_n 3, 1) := by decide +kernel
theorem de_L_law_1346 : decode code 1346 = .ok (.iconst 2, 1) := by decide +kernel
theorem de_L_law_1347 : decode code 1347 = .ok (.iadd, 1) := by decide +kernel
theorem de_L_law_1348 : decode code 1348 = .ok (.iaload, 1) := by decide +kernel
theorem de_L_law_1349 : decode code 1349 = .ok (.invokevirtual 164, 3) := by decide +kernel
theorem de_L_law_1352 : decode code 1352 = .ok (.aload_n 2, 1) := by decide +kernel
theorem de_L_law_1353 : decode code 1353 = .ok (.aload_n 0, 1) := by decide +kernel
theorem de_L_law_1354 : decode code 1354 = .ok (.iload_n 3, 1) := by decide +kernel
theorem de_L_law_1355 : decode code 1355 = .ok (.iconst 1, 1) := by decide +kernel
theorem de_L_law_1356 : decode code 1356 = .ok (.iadd, 1) := by decide +kernel
theorem de_L_law_1357 : decode code 1357 = .ok (.iaload, 1) := by decide +kernel
theorem de_L_law_1358 : decode code 1358 = .ok (.aload_n 0, 1) := by decide +kernel
theorem de_L_law_1359 : decode code 1359 = .ok (.iload_n 3, 1) := by decide +kernel
theorem de_L_law_1360 : decode code 1360 = .ok (.iconst 2, 1) := by decide +kernel
theorem de_L_law_1361 : decode code 1361 = .ok (.iadd, 1) := by decide +kernel
theorem de_L_law_1362 : decode code 1362 = .ok (.iaload, 1) := by decide +kernel
theorem de_L_law_1363 : decode code 1363 = .ok (.invokevirtual 167, 3) := by decide +kernel
theorem de_L_law_1366 : decode code 1366 = .ok (.if_icmp .eq (153), 3) := by decide +kernel
theorem de_L_law_1369 : decode code 1369 = .ok (.iconst 0, 1) := by decide +kernel
theorem de_L_law_1370 : decode code 1370 = .ok (.ireturn, 1) := by decide +kernel
theorem de_L_law_1371 : decode code 1371 = .ok (.aload_n 1, 1) := by decide +kernel
theorem de_L_law_1372 : decode code 1372 = .ok (.aload_n 0, 1) := by decide +kernel
theorem de_L_law_1373 : decode code 1373 = .ok (.iload_n 3, 1) := by decide +kernel
theorem de_L_law_1374 : decode code 1374 = .ok (.iconst 1, 1) := by decide +kernel
theorem de_L_law_1375 : decode code 1375 = .ok (.iadd, 1) := by decide +kernel
theorem de_L_law_1376 : decode code 1376 = .ok (.iaload, 1) := by decide +kernel
theorem de_L_law_1377 : decode code 1377 = .ok (.aload_n 0, 1) := by decide +kernel
theorem de_L_law_1378 : decode code 1378 = .ok (.iload_n 3, 1) := by decide +kernel
theorem de_L_law_1379 : decode code 1379 = .ok (.iconst 2, 1) := by decide +kernel
theorem de_L_law_1380 : decode code 1380 = .ok (.iadd, 1) := by decide +kernel
theorem de_L_law_1381 : decode code 1381 = .ok (.iaload, 1) := by decide +kernel
theorem de_L_law_1382 : decode code 1382 = .ok (.invokevirtual 168, 3) := by decide +kernel
theorem de_L_law_1385 : decode code 1385 = .ok (.aload_n 2, 1) := by decide +kernel
theorem de_L_law_1386 : decode code 1386 = .ok (.aload_n 0, 1) := by decide +kernel
theorem de_L_law_1387 : decode code 1387 = .ok (.iload_n 3, 1) := by decide +kernel
theorem de_L_law_1388 : decode code 1388 = .ok (.iconst 1, 1) := by decide +kernel
theorem de_L_law_1389 : decode code 1389 = .ok (.iadd, 1) := by decide +kernel
theorem de_L_law_1390 : decode code 1390 = .ok (.iaload, 1) := by decide +kernel
theorem de_L_law_1391 : decode code 1391 = .ok (.aload_n 0, 1) := by decide +kernel
theorem de_L_law_1392 : decode code 1392 = .ok (.iload_n 3, 1) := by decide +kernel
theorem de_L_law_1393 : decode code 1393 = .ok (.iconst 2, 1) := by decide +kernel
theorem de_L_law_1394 : decode code 1394 = .ok (.iadd, 1) := by decide +kernel
theorem de_L_law_1395 : decode code 1395 = .ok (.iaload, 1) := by decide +kernel
theorem de_L_law_1396 : decode code 1396 = .ok (.invokevirtual 171, 3) := by decide +kernel
theorem de_L_law_1399 : decode code 1399 = .ok (.if_icmp .eq (120), 3) := by decide +kernel
theorem de_L_law_1402 : decode code 1402 = .ok (.iconst 0, 1) := by decide +kernel
theorem de_L_law_1403 : decode code 1403 = .ok (.ireturn, 1) := by decide +kernel
theorem de_L_law_1404 : decode code 1404 = .ok (.aload_n 1, 1) := by decide +kernel
theorem de_L_law_1405 : decode code 1405 = .ok (.aload_n 0, 1) := by decide +kernel
theorem de_L_law_1406 : decode code 1406 = .ok (.iload_n 3, 1) := by decide +kernel
theorem de_L_law_1407 : decode code 1407 = .ok (.iconst 1, 1) := by decide +kernel
theorem de_L_law_1408 : decode code 1408 = .ok (.iadd, 1) := by decide +kernel
theorem de_L_law_1409 : decode code 1409 = .ok (.iaload, 1) := by decide +kernel
theorem de_L_law_1410 : decode code 1410 = .ok (.aload_n 0, 1) := by decide +kernel
theorem de_L_law_1411 : decode code 1411 = .ok (.iload_n 3, 1) := by decide +kernel
theorem de_L_law_1412 : decode code 1412 = .ok (.iconst 2, 1) := by decide +kernel
theorem de_L_law_1413 : decode code 1413 = .ok (.iadd, 1) := by decide +kernel
theorem de_L_law_1414 : decode code 1414 = .ok (.iaload, 1) := by decide +kernel
theorem de_L_law_1415 : decode code 1415 = .ok (.aload_n 0, 1) := by decide +kernel
theorem de_L_law_1416 : decode code 1416 = .ok (.iload_n 3, 1) := by decide +kernel
theorem de_L_law_1417 : decode code 1417 = .ok (.iconst 3, 1) := by decide +kernel
theorem de_L_law_1418 : decode code 1418 = .ok (.iadd, 1) := by decide +kernel
theorem de_L_law_1419 : decode code 1419 = .ok (.iaload, 1) := by decide +kernel
theorem de_L_law_1420 : decode code 1420 = .ok (.invokevirtual 172, 3) := by decide +kernel
theorem de_L_law_1423 : decode code 1423 = .ok (.aload_n 2, 1) := by decide +kernel
theorem de_L_law_1424 : decode code 1424 = .ok (.aload_n 0, 1) := by decide +kernel
theorem de_L_law_1425 : decode code 1425 = .ok (.iload_n 3, 1) := by decide +kernel
theorem de_L_law_1426 : decode code 1426 = .ok (.iconst 1, 1) := by decide +kernel
theorem de_L_law_1427 : decode code 1427 = .ok (.iadd, 1) := by decide +kernel
theorem de_L_law_1428 : decode code 1428 = .ok (.iaload, 1) := by decide +kernel
theorem de_L_law_1429 : decode code 1429 = .ok (.aload_n 0, 1) := by decide +kernel
theorem de_L_law_1430 : decode code 1430 = .ok (.iload_n 3, 1) := by decide +kernel
theorem de_L_law_1431 : decode code 1431 = .ok (.iconst 2, 1) := by decide +kernel
theorem de_L_law_1432 : decode code 1432 = .ok (.iadd, 1) := by decide +kernel
theorem de_L_law_1433 : decode code 1433 = .ok (.iaload, 1) := by decide +kernel
theorem de_L_law_1434 : decode code 1434 = .ok (.aload_n 0, 1) := by decide +kernel
theorem de_L_law_1435 : decode code 1435 = .ok (.iload_n 3, 1) := by decide +kernel
theorem de_L_law_1436 : decode code 1436 = .ok (.iconst 3, 1) := by decide +kernel
theorem de_L_law_1437 : decode code 1437 = .ok (.iadd, 1) := by decide +kernel
theorem de_L_law_1438 : decode code 1438 = .ok (.iaload, 1) := by decide +kernel
theorem de_L_law_1439 : decode code 1439 = .ok (.invokevirtual 175, 3) := by decide +kernel
theorem de_L_law_1442 : decode code 1442 = .ok (.if_icmp .eq (77), 3) := by decide +kernel
theorem de_L_law_1445 : decode code 1445 = .ok (.iconst 0, 1) := by decide +kernel
theorem de_L_law_1446 : decode code 1446 = .ok (.ireturn, 1) := by decide +kernel
theorem de_L_law_1447 : decode code 1447 = .ok (.aload_n 1, 1) := by decide +kernel
theorem de_L_law_1448 : decode code 1448 = .ok (.aload_n 0, 1) := by decide +kernel
theorem de_L_law_1449 : decode code 1449 = .ok (.iload_n 3, 1) := by decide +kernel
theorem de_L_law_1450 : decode code 1450 = .ok (.iconst 1, 1) := by decide +kernel
theorem de_L_law_1451 : decode code 1451 = .ok (.iadd, 1) := by decide +kernel
theorem de_L_law_1452 : decode code 1452 = .ok (.iaload, 1) := by decide +kernel
theorem de_L_law_1453 : decode code 1453 = .ok (.invokevirtual 176, 3) := by decide +kernel
theorem de_L_law_1456 : decode code 1456 = .ok (.aload_n 2, 1) := by decide +kernel
theorem de_L_law_1457 : decode code 1457 = .ok (.aload_n 0, 1) := by decide +kernel
theorem de_L_law_1458 : decode code 1458 = .ok (.iload_n 3, 1) := by decide +kernel
theorem de_L_law_1459 : decode code 1459 = .ok (.iconst 1, 1) := by decide +kernel
theorem de_L_law_1460 : decode code 1460 = .ok (.iadd, 1) := by decide +kernel
theorem de_L_law_1461 : decode code 1461 = .ok (.iaload, 1) := by decide +kernel
theorem de_L_law_1462 : decode code 1462 = .ok (.invokevirtual 179, 3) := by decide +kernel
theorem de_L_law_1465 : decode code 1465 = .ok (.if_icmp .eq (54), 3) := by decide +kernel
theorem de_L_law_1468 : decode code 1468 = .ok (.iconst 0, 1) := by decide +kernel
theorem de_L_law_1469 : decode code 1469 = .ok (.ireturn, 1) := by decide +kernel
theorem de_L_law_1470 : decode code 1470 = .ok (.aload_n 1, 1) := by decide +kernel
theorem de_L_law_1471 : decode code 1471 = .ok (.invokevirtual 180, 3) := by decide +kernel
theorem de_L_law_1474 : decode code 1474 = .ok (.aload_n 2, 1) := by decide +kernel
theorem de_L_law_1475 : decode code 1475 = .ok (.invokevirtual 183, 3) := by decide +kernel
theorem de_L_law_1478 : decode code 1478 = .ok (.if_icmp .eq (41), 3) := by decide +kernel
theorem de_L_law_1481 : decode code 1481 = .ok (.iconst 0, 1) := by decide +kernel
theorem de_L_law_1482 : decode code 1482 = .ok (.ireturn, 1) := by decide +kernel
theorem de_L_law_1483 : decode code 1483 = .ok (.aload_n 1, 1) := by decide +kernel
theorem de_L_law_1484 : decode code 1484 = .ok (.invokevirtual 184, 3) := by decide +kernel
theorem de_L_law_1487 : decode code 1487 = .ok (.aload_n 2, 1) := by decide +kernel
theorem de_L_law_1488 : decode code 1488 = .ok (.invokevirtual 187, 3) := by decide +kernel
theorem de_L_law_1491 : decode code 1491 = .ok (.if_icmp .eq (28), 3) := by decide +kernel
theorem de_L_law_1494 : decode code 1494 = .ok (.iconst 0, 1) := by decide +kernel
theorem de_L_law_1495 : decode code 1495 = .ok (.ireturn, 1) := by decide +kernel
theorem de_L_law_1496 : decode code 1496 = .ok (.aload_n 1, 1) := by decide +kernel
theorem de_L_law_1497 : decode code 1497 = .ok (.aload_n 0, 1) := by decide +kernel
theorem de_L_law_1498 : decode code 1498 = .ok (.iload_n 3, 1) := by decide +kernel
theorem de_L_law_1499 : decode code 1499 = .ok (.iconst 1, 1) := by decide +kernel
theorem de_L_law_1500 : decode code 1500 = .ok (.iadd, 1) := by decide +kernel
theorem de_L_law_1501 : decode code 1501 = .ok (.iaload, 1) := by decide +kernel
theorem de_L_law_1502 : decode code 1502 = .ok (.invokevirtual 188, 3) := by decide +kernel
theorem de_L_law_1505 : decode code 1505 = .ok (.aload_n 2, 1) := by decide +kernel
theorem de_L_law_1506 : decode code 1506 = .ok (.aload_n 0, 1) := by decide +kernel
theorem de_L_law_1507 : decode code 1507 = .ok (.iload_n 3, 1) := by decide +kernel
theorem de_L_law_1508 : decode code 1508 = .ok (.iconst 1, 1) := by decide +kernel
theorem de_L_law_1509 : decode code 1509 = .ok (.iadd, 1) := by decide +kernel
theorem de_L_law_1510 : decode code 1510 = .ok (.iaload, 1) := by decide +kernel
theorem de_L_law_1511 : decode code 1511 = .ok (.invokevirtual 191, 3) := by decide +kernel
theorem de_L_law_1514 : decode code 1514 = .ok (.if_icmp .eq (5), 3) := by decide +kernel
theorem de_L_law_1517 : decode code 1517 = .ok (.iconst 0, 1) := by decide +kernel
theorem de_L_law_1518 : decode code 1518 = .ok (.ireturn, 1) := by decide +kernel
theorem de_L_law_1519 : decode code 1519 = .ok (.iinc 3 (6), 3) := by decide +kernel
theorem de_L_law_1522 : decode code 1522 = .ok (.goto (-1504), 3) := by decide +kernel
theorem de_L_law_1525 : decode code 1525 = .ok (.iconst 1, 1) := by decide +kernel
theorem de_L_law_1526 : decode code 1526 = .ok (.ireturn, 1) := by decide +kernel
