abbrev cL_law : ByteArray := code
theorem dL_law_0 : decode cL_law 0 = .ok (.new 7, 3) := by decide +kernel
theorem dL_law_3 : decode cL_law 3 = .ok (.dup, 1) := by decide +kernel
theorem dL_law_4 : decode cL_law 4 = .ok (.invokespecial 9, 3) := by decide +kernel
theorem dL_law_7 : decode cL_law 7 = .ok (.astore_n 1, 1) := by decide +kernel
theorem dL_law_8 : decode cL_law 8 = .ok (.new 10, 3) := by decide +kernel
theorem dL_law_11 : decode cL_law 11 = .ok (.dup, 1) := by decide +kernel
theorem dL_law_12 : decode cL_law 12 = .ok (.invokespecial 12, 3) := by decide +kernel
theorem dL_law_15 : decode cL_law 15 = .ok (.astore_n 2, 1) := by decide +kernel
theorem dL_law_16 : decode cL_law 16 = .ok (.iconst 0, 1) := by decide +kernel
theorem dL_law_17 : decode cL_law 17 = .ok (.istore_n 3, 1) := by decide +kernel
theorem dL_law_18 : decode cL_law 18 = .ok (.iload_n 3, 1) := by decide +kernel
theorem dL_law_19 : decode cL_law 19 = .ok (.aload_n 0, 1) := by decide +kernel
theorem dL_law_20 : decode cL_law 20 = .ok (.arraylength, 1) := by decide +kernel
theorem dL_law_21 : decode cL_law 21 = .ok (.bipush 7, 2) := by decide +kernel
theorem dL_law_23 : decode cL_law 23 = .ok (.isub, 1) := by decide +kernel
theorem dL_law_24 : decode cL_law 24 = .ok (.if_icmp .gt 1633, 3) := by decide +kernel
theorem dL_law_27 : decode cL_law 27 = .ok (.aload_n 0, 1) := by decide +kernel
theorem dL_law_28 : decode cL_law 28 = .ok (.iload_n 3, 1) := by decide +kernel
theorem dL_law_29 : decode cL_law 29 = .ok (.iaload, 1) := by decide +kernel
theorem dL_law_30 : decode cL_law 30 = .ok (.bipush 63, 2) := by decide +kernel
theorem dL_law_32 : decode cL_law 32 = .ok (.iand, 1) := by decide +kernel
theorem dL_law_33 : decode cL_law 33 = .ok (.tableswitch 1618 0 43 #[191, 224, 277, 320, 353, 366, 419, 452, 475, 538, 561, 574, 587, 600, 613, 636, 689, 742, 775, 818, 851, 894, 917, 970, 993, 1016, 1030, 1064, 1087, 1100, 1144, 1167, 1210, 1285, 1308, 1331, 1374, 1427, 1480, 1513, 1536, 1559, 1582, 1605], 191) := by decide +kernel
theorem dL_law_224 : decode cL_law 224 = .ok (.aload_n 1, 1) := by decide +kernel
theorem dL_law_225 : decode cL_law 225 = .ok (.aload_n 0, 1) := by decide +kernel
theorem dL_law_226 : decode cL_law 226 = .ok (.iload_n 3, 1) := by decide +kernel
theorem dL_law_227 : decode cL_law 227 = .ok (.iconst 1, 1) := by decide +kernel
theorem dL_law_228 : decode cL_law 228 = .ok (.iadd, 1) := by decide +kernel
theorem dL_law_229 : decode cL_law 229 = .ok (.iaload, 1) := by decide +kernel
theorem dL_law_230 : decode cL_law 230 = .ok (.aload_n 0, 1) := by decide +kernel
theorem dL_law_231 : decode cL_law 231 = .ok (.iload_n 3, 1) := by decide +kernel
theorem dL_law_232 : decode cL_law 232 = .ok (.iconst 2, 1) := by decide +kernel
theorem dL_law_233 : decode cL_law 233 = .ok (.iadd, 1) := by decide +kernel
theorem dL_law_234 : decode cL_law 234 = .ok (.iaload, 1) := by decide +kernel
theorem dL_law_235 : decode cL_law 235 = .ok (.invokevirtual 13, 3) := by decide +kernel
theorem dL_law_238 : decode cL_law 238 = .ok (.aload_n 2, 1) := by decide +kernel
theorem dL_law_239 : decode cL_law 239 = .ok (.aload_n 0, 1) := by decide +kernel
theorem dL_law_240 : decode cL_law 240 = .ok (.iload_n 3, 1) := by decide +kernel
theorem dL_law_241 : decode cL_law 241 = .ok (.iconst 1, 1) := by decide +kernel
theorem dL_law_242 : decode cL_law 242 = .ok (.iadd, 1) := by decide +kernel
theorem dL_law_243 : decode cL_law 243 = .ok (.iaload, 1) := by decide +kernel
theorem dL_law_244 : decode cL_law 244 = .ok (.aload_n 0, 1) := by decide +kernel
theorem dL_law_245 : decode cL_law 245 = .ok (.iload_n 3, 1) := by decide +kernel
theorem dL_law_246 : decode cL_law 246 = .ok (.iconst 2, 1) := by decide +kernel
theorem dL_law_247 : decode cL_law 247 = .ok (.iadd, 1) := by decide +kernel
theorem dL_law_248 : decode cL_law 248 = .ok (.iaload, 1) := by decide +kernel
theorem dL_law_249 : decode cL_law 249 = .ok (.invokevirtual 17, 3) := by decide +kernel
theorem dL_law_252 : decode cL_law 252 = .ok (.if_icmp .eq 1399, 3) := by decide +kernel
theorem dL_law_255 : decode cL_law 255 = .ok (.iconst 0, 1) := by decide +kernel
theorem dL_law_256 : decode cL_law 256 = .ok (.ireturn, 1) := by decide +kernel
theorem dL_law_257 : decode cL_law 257 = .ok (.aload_n 1, 1) := by decide +kernel
theorem dL_law_258 : decode cL_law 258 = .ok (.aload_n 0, 1) := by decide +kernel
theorem dL_law_259 : decode cL_law 259 = .ok (.iload_n 3, 1) := by decide +kernel
theorem dL_law_260 : decode cL_law 260 = .ok (.iconst 1, 1) := by decide +kernel
theorem dL_law_261 : decode cL_law 261 = .ok (.iadd, 1) := by decide +kernel
theorem dL_law_262 : decode cL_law 262 = .ok (.iaload, 1) := by decide +kernel
theorem dL_law_263 : decode cL_law 263 = .ok (.aload_n 0, 1) := by decide +kernel
theorem dL_law_264 : decode cL_law 264 = .ok (.iload_n 3, 1) := by decide +kernel
theorem dL_law_265 : decode cL_law 265 = .ok (.iconst 2, 1) := by decide +kernel
theorem dL_law_266 : decode cL_law 266 = .ok (.iadd, 1) := by decide +kernel
theorem dL_law_267 : decode cL_law 267 = .ok (.iaload, 1) := by decide +kernel
theorem dL_law_268 : decode cL_law 268 = .ok (.aload_n 0, 1) := by decide +kernel
theorem dL_law_269 : decode cL_law 269 = .ok (.iload_n 3, 1) := by decide +kernel
theorem dL_law_270 : decode cL_law 270 = .ok (.iconst 3, 1) := by decide +kernel
theorem dL_law_271 : decode cL_law 271 = .ok (.iadd, 1) := by decide +kernel
theorem dL_law_272 : decode cL_law 272 = .ok (.iaload, 1) := by decide +kernel
theorem dL_law_273 : decode cL_law 273 = .ok (.aload_n 0, 1) := by decide +kernel
theorem dL_law_274 : decode cL_law 274 = .ok (.iload_n 3, 1) := by decide +kernel
theorem dL_law_275 : decode cL_law 275 = .ok (.iconst 4, 1) := by decide +kernel
theorem dL_law_276 : decode cL_law 276 = .ok (.iadd, 1) := by decide +kernel
theorem dL_law_277 : decode cL_law 277 = .ok (.iaload, 1) := by decide +kernel
theorem dL_law_278 : decode cL_law 278 = .ok (.invokevirtual 18, 3) := by decide +kernel
theorem dL_law_281 : decode cL_law 281 = .ok (.aload_n 2, 1) := by decide +kernel
theorem dL_law_282 : decode cL_law 282 = .ok (.aload_n 0, 1) := by decide +kernel
theorem dL_law_283 : decode cL_law 283 = .ok (.iload_n 3, 1) := by decide +kernel
theorem dL_law_284 : decode cL_law 284 = .ok (.iconst 1, 1) := by decide +kernel
theorem dL_law_285 : decode cL_law 285 = .ok (.iadd, 1) := by decide +kernel
theorem dL_law_286 : decode cL_law 286 = .ok (.iaload, 1) := by decide +kernel
theorem dL_law_287 : decode cL_law 287 = .ok (.aload_n 0, 1) := by decide +kernel
theorem dL_law_288 : decode cL_law 288 = .ok (.iload_n 3, 1) := by decide +kernel
theorem dL_law_289 : decode cL_law 289 = .ok (.iconst 2, 1) := by decide +kernel
theorem dL_law_290 : decode cL_law 290 = .ok (.iadd, 1) := by decide +kernel
theorem dL_law_291 : decode cL_law 291 = .ok (.iaload, 1) := by decide +kernel
theorem dL_law_292 : decode cL_law 292 = .ok (.aload_n 0, 1) := by decide +kernel
theorem dL_law_293 : decode cL_law 293 = .ok (.iload_n 3, 1) := by decide +kernel
theorem dL_law_294 : decode cL_law 294 = .ok (.iconst 3, 1) := by decide +kernel
theorem dL_law_295 : decode cL_law 295 = .ok (.iadd, 1) := by decide +kernel
theorem dL_law_296 : decode cL_law 296 = .ok (.iaload, 1) := by decide +kernel
theorem dL_law_297 : decode cL_law 297 = .ok (.aload_n 0, 1) := by decide +kernel
theorem dL_law_298 : decode cL_law 298 = .ok (.iload_n 3, 1) := by decide +kernel
theorem dL_law_299 : decode cL_law 299 = .ok (.iconst 4, 1) := by decide +kernel
theorem dL_law_300 : decode cL_law 300 = .ok (.iadd, 1) := by decide +kernel
theorem dL_law_301 : decode cL_law 301 = .ok (.iaload, 1) := by decide +kernel
theorem dL_law_302 : decode cL_law 302 = .ok (.invokevirtual 22, 3) := by decide +kernel
theorem dL_law_305 : decode cL_law 305 = .ok (.if_icmp .eq 1346, 3) := by decide +kernel
theorem dL_law_308 : decode cL_law 308 = .ok (.iconst 0, 1) := by decide +kernel
theorem dL_law_309 : decode cL_law 309 = .ok (.ireturn, 1) := by decide +kernel
theorem dL_law_310 : decode cL_law 310 = .ok (.aload_n 1, 1) := by decide +kernel
theorem dL_law_311 : decode cL_law 311 = .ok (.aload_n 0, 1) := by decide +kernel
theorem dL_law_312 : decode cL_law 312 = .ok (.iload_n 3, 1) := by decide +kernel
theorem dL_law_313 : decode cL_law 313 = .ok (.iconst 1, 1) := by decide +kernel
theorem dL_law_314 : decode cL_law 314 = .ok (.iadd, 1) := by decide +kernel
theorem dL_law_315 : decode cL_law 315 = .ok (.iaload, 1) := by decide +kernel
theorem dL_law_316 : decode cL_law 316 = .ok (.aload_n 0, 1) := by decide +kernel
theorem dL_law_317 : decode cL_law 317 = .ok (.iload_n 3, 1) := by decide +kernel
theorem dL_law_318 : decode cL_law 318 = .ok (.iconst 2, 1) := by decide +kernel
theorem dL_law_319 : decode cL_law 319 = .ok (.iadd, 1) := by decide +kernel
theorem dL_law_320 : decode cL_law 320 = .ok (.iaload, 1) := by decide +kernel
theorem dL_law_321 : decode cL_law 321 = .ok (.aload_n 0, 1) := by decide +kernel
theorem dL_law_322 : decode cL_law 322 = .ok (.iload_n 3, 1) := by decide +kernel
theorem dL_law_323 : decode cL_law 323 = .ok (.iconst 3, 1) := by decide +kernel
theorem dL_law_324 : decode cL_law 324 = .ok (.iadd, 1) := by decide +kernel
theorem dL_law_325 : decode cL_law 325 = .ok (.iaload, 1) := by decide +kernel
theorem dL_law_326 : decode cL_law 326 = .ok (.invokevirtual 23, 3) := by decide +kernel
theorem dL_law_329 : decode cL_law 329 = .ok (.aload_n 2, 1) := by decide +kernel
theorem dL_law_330 : decode cL_law 330 = .ok (.aload_n 0, 1) := by decide +kernel
theorem dL_law_331 : decode cL_law 331 = .ok (.iload_n 3, 1) := by decide +kernel
theorem dL_law_332 : decode cL_law 332 = .ok (.iconst 1, 1) := by decide +kernel
theorem dL_law_333 : decode cL_law 333 = .ok (.iadd, 1) := by decide +kernel
theorem dL_law_334 : decode cL_law 334 = .ok (.iaload, 1) := by decide +kernel
theorem dL_law_335 : decode cL_law 335 = .ok (.aload_n 0, 1) := by decide +kernel
theorem dL_law_336 : decode cL_law 336 = .ok (.iload_n 3, 1) := by decide +kernel
theorem dL_law_337 : decode cL_law 337 = .ok (.iconst 2, 1) := by decide +kernel
theorem dL_law_338 : decode cL_law 338 = .ok (.iadd, 1) := by decide +kernel
theorem dL_law_339 : decode cL_law 339 = .ok (.iaload, 1) := by decide +kernel
theorem dL_law_340 : decode cL_law 340 = .ok (.aload_n 0, 1) := by decide +kernel
theorem dL_law_341 : decode cL_law 341 = .ok (.iload_n 3, 1) := by decide +kernel
theorem dL_law_342 : decode cL_law 342 = .ok (.iconst 3, 1) := by decide +kernel
theorem dL_law_343 : decode cL_law 343 = .ok (.iadd, 1) := by decide +kernel
theorem dL_law_344 : decode cL_law 344 = .ok (.iaload, 1) := by decide +kernel
theorem dL_law_345 : decode cL_law 345 = .ok (.invokevirtual 27, 3) := by decide +kernel
theorem dL_law_348 : decode cL_law 348 = .ok (.if_icmp .eq 1303, 3) := by decide +kernel
theorem dL_law_351 : decode cL_law 351 = .ok (.iconst 0, 1) := by decide +kernel
theorem dL_law_352 : decode cL_law 352 = .ok (.ireturn, 1) := by decide +kernel
theorem dL_law_353 : decode cL_law 353 = .ok (.aload_n 1, 1) := by decide +kernel
theorem dL_law_354 : decode cL_law 354 = .ok (.aload_n 0, 1) := by decide +kernel
theorem dL_law_355 : decode cL_law 355 = .ok (.iload_n 3, 1) := by decide +kernel
theorem dL_law_356 : decode cL_law 356 = .ok (.iconst 1, 1) := by decide +kernel
theorem dL_law_357 : decode cL_law 357 = .ok (.iadd, 1) := by decide +kernel
theorem dL_law_358 : decode cL_law 358 = .ok (.iaload, 1) := by decide +kernel
theorem dL_law_359 : decode cL_law 359 = .ok (.aload_n 0, 1) := by decide +kernel
theorem dL_law_360 : decode cL_law 360 = .ok (.iload_n 3, 1) := by decide +kernel
theorem dL_law_361 : decode cL_law 361 = .ok (.iconst 2, 1) := by decide +kernel
theorem dL_law_362 : decode cL_law 362 = .ok (.iadd, 1) := by decide +kernel
theorem dL_law_363 : decode cL_law 363 = .ok (.iaload, 1) := by decide +kernel
theorem dL_law_364 : decode cL_law 364 = .ok (.invokevirtual 28, 3) := by decide +kernel
theorem dL_law_367 : decode cL_law 367 = .ok (.aload_n 2, 1) := by decide +kernel
theorem dL_law_368 : decode cL_law 368 = .ok (.aload_n 0, 1) := by decide +kernel
theorem dL_law_369 : decode cL_law 369 = .ok (.iload_n 3, 1) := by decide +kernel
theorem dL_law_370 : decode cL_law 370 = .ok (.iconst 1, 1) := by decide +kernel
theorem dL_law_371 : decode cL_law 371 = .ok (.iadd, 1) := by decide +kernel
theorem dL_law_372 : decode cL_law 372 = .ok (.iaload, 1) := by decide +kernel
theorem dL_law_373 : decode cL_law 373 = .ok (.aload_n 0, 1) := by decide +kernel
theorem dL_law_374 : decode cL_law 374 = .ok (.iload_n 3, 1) := by decide +kernel
theorem dL_law_375 : decode cL_law 375 = .ok (.iconst 2, 1) := by decide +kernel
theorem dL_law_376 : decode cL_law 376 = .ok (.iadd, 1) := by decide +kernel
theorem dL_law_377 : decode cL_law 377 = .ok (.iaload, 1) := by decide +kernel
theorem dL_law_378 : decode cL_law 378 = .ok (.invokevirtual 31, 3) := by decide +kernel
theorem dL_law_381 : decode cL_law 381 = .ok (.if_icmp .eq 1270, 3) := by decide +kernel
theorem dL_law_384 : decode cL_law 384 = .ok (.iconst 0, 1) := by decide +kernel
theorem dL_law_385 : decode cL_law 385 = .ok (.ireturn, 1) := by decide +kernel
theorem dL_law_386 : decode cL_law 386 = .ok (.aload_n 1, 1) := by decide +kernel
theorem dL_law_387 : decode cL_law 387 = .ok (.invokevirtual 32, 3) := by decide +kernel
theorem dL_law_390 : decode cL_law 390 = .ok (.aload_n 2, 1) := by decide +kernel
theorem dL_law_391 : decode cL_law 391 = .ok (.invokevirtual 36, 3) := by decide +kernel
theorem dL_law_394 : decode cL_law 394 = .ok (.if_icmp .eq 1257, 3) := by decide +kernel
theorem dL_law_397 : decode cL_law 397 = .ok (.iconst 0, 1) := by decide +kernel
theorem dL_law_398 : decode cL_law 398 = .ok (.ireturn, 1) := by decide +kernel
theorem dL_law_399 : decode cL_law 399 = .ok (.aload_n 1, 1) := by decide +kernel
theorem dL_law_400 : decode cL_law 400 = .ok (.aload_n 0, 1) := by decide +kernel
theorem dL_law_401 : decode cL_law 401 = .ok (.iload_n 3, 1) := by decide +kernel
theorem dL_law_402 : decode cL_law 402 = .ok (.iconst 1, 1) := by decide +kernel
theorem dL_law_403 : decode cL_law 403 = .ok (.iadd, 1) := by decide +kernel
theorem dL_law_404 : decode cL_law 404 = .ok (.iaload, 1) := by decide +kernel
theorem dL_law_405 : decode cL_law 405 = .ok (.aload_n 0, 1) := by decide +kernel
theorem dL_law_406 : decode cL_law 406 = .ok (.iload_n 3, 1) := by decide +kernel
theorem dL_law_407 : decode cL_law 407 = .ok (.iconst 2, 1) := by decide +kernel
theorem dL_law_408 : decode cL_law 408 = .ok (.iadd, 1) := by decide +kernel
theorem dL_law_409 : decode cL_law 409 = .ok (.iaload, 1) := by decide +kernel
theorem dL_law_410 : decode cL_law 410 = .ok (.aload_n 0, 1) := by decide +kernel
theorem dL_law_411 : decode cL_law 411 = .ok (.iload_n 3, 1) := by decide +kernel
theorem dL_law_412 : decode cL_law 412 = .ok (.iconst 3, 1) := by decide +kernel
theorem dL_law_413 : decode cL_law 413 = .ok (.iadd, 1) := by decide +kernel
theorem dL_law_414 : decode cL_law 414 = .ok (.iaload, 1) := by decide +kernel
theorem dL_law_415 : decode cL_law 415 = .ok (.aload_n 0, 1) := by decide +kernel
theorem dL_law_416 : decode cL_law 416 = .ok (.iload_n 3, 1) := by decide +kernel
theorem dL_law_417 : decode cL_law 417 = .ok (.iconst 4, 1) := by decide +kernel
theorem dL_law_418 : decode cL_law 418 = .ok (.iadd, 1) := by decide +kernel
theorem dL_law_419 : decode cL_law 419 = .ok (.iaload, 1) := by decide +kernel
theorem dL_law_420 : decode cL_law 420 = .ok (.invokevirtual 37, 3) := by decide +kernel
theorem dL_law_423 : decode cL_law 423 = .ok (.aload_n 2, 1) := by decide +kernel
theorem dL_law_424 : decode cL_law 424 = .ok (.aload_n 0, 1) := by decide +kernel
theorem dL_law_425 : decode cL_law 425 = .ok (.iload_n 3, 1) := by decide +kernel
theorem dL_law_426 : decode cL_law 426 = .ok (.iconst 1, 1) := by decide +kernel
theorem dL_law_427 : decode cL_law 427 = .ok (.iadd, 1) := by decide +kernel
theorem dL_law_428 : decode cL_law 428 = .ok (.iaload, 1) := by decide +kernel
theorem dL_law_429 : decode cL_law 429 = .ok (.aload_n 0, 1) := by decide +kernel
theorem dL_law_430 : decode cL_law 430 = .ok (.iload_n 3, 1) := by decide +kernel
theorem dL_law_431 : decode cL_law 431 = .ok (.iconst 2, 1) := by decide +kernel
theorem dL_law_432 : decode cL_law 432 = .ok (.iadd, 1) := by decide +kernel
theorem dL_law_433 : decode cL_law 433 = .ok (.iaload, 1) := by decide +kernel
theorem dL_law_434 : decode cL_law 434 = .ok (.aload_n 0, 1) := by decide +kernel
theorem dL_law_435 : decode cL_law 435 = .ok (.iload_n 3, 1) := by decide +kernel
theorem dL_law_436 : decode cL_law 436 = .ok (.iconst 3, 1) := by decide +kernel
theorem dL_law_437 : decode cL_law 437 = .ok (.iadd, 1) := by decide +kernel
theorem dL_law_438 : decode cL_law 438 = .ok (.iaload, 1) := by decide +kernel
theorem dL_law_439 : decode cL_law 439 = .ok (.aload_n 0, 1) := by decide +kernel
theorem dL_law_440 : decode cL_law 440 = .ok (.iload_n 3, 1) := by decide +kernel
theorem dL_law_441 : decode cL_law 441 = .ok (.iconst 4, 1) := by decide +kernel
theorem dL_law_442 : decode cL_law 442 = .ok (.iadd, 1) := by decide +kernel
theorem dL_law_443 : decode cL_law 443 = .ok (.iaload, 1) := by decide +kernel
theorem dL_law_444 : decode cL_law 444 = .ok (.invokevirtual 40, 3) := by decide +kernel
theorem dL_law_447 : decode cL_law 447 = .ok (.if_icmp .eq 1204, 3) := by decide +kernel
theorem dL_law_450 : decode cL_law 450 = .ok (.iconst 0, 1) := by decide +kernel
theorem dL_law_451 : decode cL_law 451 = .ok (.ireturn, 1) := by decide +kernel
theorem dL_law_452 : decode cL_law 452 = .ok (.aload_n 1, 1) := by decide +kernel
theorem dL_law_453 : decode cL_law 453 = .ok (.aload_n 0, 1) := by decide +kernel
theorem dL_law_454 : decode cL_law 454 = .ok (.iload_n 3, 1) := by decide +kernel
theorem dL_law_455 : decode cL_law 455 = .ok (.iconst 1, 1) := by decide +kernel
theorem dL_law_456 : decode cL_law 456 = .ok (.iadd, 1) := by decide +kernel
theorem dL_law_457 : decode cL_law 457 = .ok (.iaload, 1) := by decide +kernel
theorem dL_law_458 : decode cL_law 458 = .ok (.aload_n 0, 1) := by decide +kernel
theorem dL_law_459 : decode cL_law 459 = .ok (.iload_n 3, 1) := by decide +kernel
theorem dL_law_460 : decode cL_law 460 = .ok (.iconst 2, 1) := by decide +kernel
theorem dL_law_461 : decode cL_law 461 = .ok (.iadd, 1) := by decide +kernel
theorem dL_law_462 : decode cL_law 462 = .ok (.iaload, 1) := by decide +kernel
theorem dL_law_463 : decode cL_law 463 = .ok (.invokevirtual 41, 3) := by decide +kernel
theorem dL_law_466 : decode cL_law 466 = .ok (.aload_n 2, 1) := by decide +kernel
theorem dL_law_467 : decode cL_law 467 = .ok (.aload_n 0, 1) := by decide +kernel
theorem dL_law_468 : decode cL_law 468 = .ok (.iload_n 3, 1) := by decide +kernel
theorem dL_law_469 : decode cL_law 469 = .ok (.iconst 1, 1) := by decide +kernel
theorem dL_law_470 : decode cL_law 470 = .ok (.iadd, 1) := by decide +kernel
theorem dL_law_471 : decode cL_law 471 = .ok (.iaload, 1) := by decide +kernel
theorem dL_law_472 : decode cL_law 472 = .ok (.aload_n 0, 1) := by decide +kernel
theorem dL_law_473 : decode cL_law 473 = .ok (.iload_n 3, 1) := by decide +kernel
theorem dL_law_474 : decode cL_law 474 = .ok (.iconst 2, 1) := by decide +kernel
theorem dL_law_475 : decode cL_law 475 = .ok (.iadd, 1) := by decide +kernel
theorem dL_law_476 : decode cL_law 476 = .ok (.iaload, 1) := by decide +kernel
theorem dL_law_477 : decode cL_law 477 = .ok (.invokevirtual 44, 3) := by decide +kernel
theorem dL_law_480 : decode cL_law 480 = .ok (.if_icmp .eq 1171, 3) := by decide +kernel
theorem dL_law_483 : decode cL_law 483 = .ok (.iconst 0, 1) := by decide +kernel
theorem dL_law_484 : decode cL_law 484 = .ok (.ireturn, 1) := by decide +kernel
theorem dL_law_485 : decode cL_law 485 = .ok (.aload_n 1, 1) := by decide +kernel
theorem dL_law_486 : decode cL_law 486 = .ok (.aload_n 0, 1) := by decide +kernel
theorem dL_law_487 : decode cL_law 487 = .ok (.iload_n 3, 1) := by decide +kernel
theorem dL_law_488 : decode cL_law 488 = .ok (.iconst 1, 1) := by decide +kernel
theorem dL_law_489 : decode cL_law 489 = .ok (.iadd, 1) := by decide +kernel
theorem dL_law_490 : decode cL_law 490 = .ok (.iaload, 1) := by decide +kernel
theorem dL_law_491 : decode cL_law 491 = .ok (.invokevirtual 45, 3) := by decide +kernel
theorem dL_law_494 : decode cL_law 494 = .ok (.aload_n 2, 1) := by decide +kernel
theorem dL_law_495 : decode cL_law 495 = .ok (.aload_n 0, 1) := by decide +kernel
theorem dL_law_496 : decode cL_law 496 = .ok (.iload_n 3, 1) := by decide +kernel
theorem dL_law_497 : decode cL_law 497 = .ok (.iconst 1, 1) := by decide +kernel
theorem dL_law_498 : decode cL_law 498 = .ok (.iadd, 1) := by decide +kernel
theorem dL_law_499 : decode cL_law 499 = .ok (.iaload, 1) := by decide +kernel
theorem dL_law_500 : decode cL_law 500 = .ok (.invokevirtual 49, 3) := by decide +kernel
theorem dL_law_503 : decode cL_law 503 = .ok (.if_icmp .eq 1148, 3) := by decide +kernel
theorem dL_law_506 : decode cL_law 506 = .ok (.iconst 0, 1) := by decide +kernel
theorem dL_law_507 : decode cL_law 507 = .ok (.ireturn, 1) := by decide +kernel
theorem dL_law_508 : decode cL_law 508 = .ok (.aload_n 1, 1) := by decide +kernel
theorem dL_law_509 : decode cL_law 509 = .ok (.aload_n 0, 1) := by decide +kernel
theorem dL_law_510 : decode cL_law 510 = .ok (.iload_n 3, 1) := by decide +kernel
theorem dL_law_511 : decode cL_law 511 = .ok (.iconst 1, 1) := by decide +kernel
theorem dL_law_512 : decode cL_law 512 = .ok (.iadd, 1) := by decide +kernel
theorem dL_law_513 : decode cL_law 513 = .ok (.iaload, 1) := by decide +kernel
theorem dL_law_514 : decode cL_law 514 = .ok (.aload_n 0, 1) := by decide +kernel
theorem dL_law_515 : decode cL_law 515 = .ok (.iload_n 3, 1) := by decide +kernel
theorem dL_law_516 : decode cL_law 516 = .ok (.iconst 2, 1) := by decide +kernel
theorem dL_law_517 : decode cL_law 517 = .ok (.iadd, 1) := by decide +kernel
theorem dL_law_518 : decode cL_law 518 = .ok (.iaload, 1) := by decide +kernel
theorem dL_law_519 : decode cL_law 519 = .ok (.aload_n 0, 1) := by decide +kernel
theorem dL_law_520 : decode cL_law 520 = .ok (.iload_n 3, 1) := by decide +kernel
theorem dL_law_521 : decode cL_law 521 = .ok (.iconst 3, 1) := by decide +kernel
theorem dL_law_522 : decode cL_law 522 = .ok (.iadd, 1) := by decide +kernel
theorem dL_law_523 : decode cL_law 523 = .ok (.iaload, 1) := by decide +kernel
theorem dL_law_524 : decode cL_law 524 = .ok (.aload_n 0, 1) := by decide +kernel
theorem dL_law_525 : decode cL_law 525 = .ok (.iload_n 3, 1) := by decide +kernel
theorem dL_law_526 : decode cL_law 526 = .ok (.iconst 4, 1) := by decide +kernel
theorem dL_law_527 : decode cL_law 527 = .ok (.iadd, 1) := by decide +kernel
theorem dL_law_528 : decode cL_law 528 = .ok (.iaload, 1) := by decide +kernel
theorem dL_law_529 : decode cL_law 529 = .ok (.aload_n 0, 1) := by decide +kernel
theorem dL_law_530 : decode cL_law 530 = .ok (.iload_n 3, 1) := by decide +kernel
theorem dL_law_531 : decode cL_law 531 = .ok (.iconst 5, 1) := by decide +kernel
theorem dL_law_532 : decode cL_law 532 = .ok (.iadd, 1) := by decide +kernel
theorem dL_law_533 : decode cL_law 533 = .ok (.iaload, 1) := by decide +kernel
theorem dL_law_534 : decode cL_law 534 = .ok (.invokevirtual 50, 3) := by decide +kernel
theorem dL_law_537 : decode cL_law 537 = .ok (.aload_n 2, 1) := by decide +kernel
theorem dL_law_538 : decode cL_law 538 = .ok (.aload_n 0, 1) := by decide +kernel
theorem dL_law_539 : decode cL_law 539 = .ok (.iload_n 3, 1) := by decide +kernel
theorem dL_law_540 : decode cL_law 540 = .ok (.iconst 1, 1) := by decide +kernel
theorem dL_law_541 : decode cL_law 541 = .ok (.iadd, 1) := by decide +kernel
theorem dL_law_542 : decode cL_law 542 = .ok (.iaload, 1) := by decide +kernel
theorem dL_law_543 : decode cL_law 543 = .ok (.aload_n 0, 1) := by decide +kernel
theorem dL_law_544 : decode cL_law 544 = .ok (.iload_n 3, 1) := by decide +kernel
theorem dL_law_545 : decode cL_law 545 = .ok (.iconst 2, 1) := by decide +kernel
theorem dL_law_546 : decode cL_law 546 = .ok (.iadd, 1) := by decide +kernel
theorem dL_law_547 : decode cL_law 547 = .ok (.iaload, 1) := by decide +kernel
theorem dL_law_548 : decode cL_law 548 = .ok (.aload_n 0, 1) := by decide +kernel
theorem dL_law_549 : decode cL_law 549 = .ok (.iload_n 3, 1) := by decide +kernel
theorem dL_law_550 : decode cL_law 550 = .ok (.iconst 3, 1) := by decide +kernel
theorem dL_law_551 : decode cL_law 551 = .ok (.iadd, 1) := by decide +kernel
theorem dL_law_552 : decode cL_law 552 = .ok (.iaload, 1) := by decide +kernel
theorem dL_law_553 : decode cL_law 553 = .ok (.aload_n 0, 1) := by decide +kernel
theorem dL_law_554 : decode cL_law 554 = .ok (.iload_n 3, 1) := by decide +kernel
theorem dL_law_555 : decode cL_law 555 = .ok (.iconst 4, 1) := by decide +kernel
theorem dL_law_556 : decode cL_law 556 = .ok (.iadd, 1) := by decide +kernel
theorem dL_law_557 : decode cL_law 557 = .ok (.iaload, 1) := by decide +kernel
theorem dL_law_558 : decode cL_law 558 = .ok (.aload_n 0, 1) := by decide +kernel
theorem dL_law_559 : decode cL_law 559 = .ok (.iload_n 3, 1) := by decide +kernel
theorem dL_law_560 : decode cL_law 560 = .ok (.iconst 5, 1) := by decide +kernel
theorem dL_law_561 : decode cL_law 561 = .ok (.iadd, 1) := by decide +kernel
theorem dL_law_562 : decode cL_law 562 = .ok (.iaload, 1) := by decide +kernel
theorem dL_law_563 : decode cL_law 563 = .ok (.invokevirtual 54, 3) := by decide +kernel
theorem dL_law_566 : decode cL_law 566 = .ok (.if_icmp .eq 1085, 3) := by decide +kernel
theorem dL_law_569 : decode cL_law 569 = .ok (.iconst 0, 1) := by decide +kernel
theorem dL_law_570 : decode cL_law 570 = .ok (.ireturn, 1) := by decide +kernel
theorem dL_law_571 : decode cL_law 571 = .ok (.aload_n 1, 1) := by decide +kernel
theorem dL_law_572 : decode cL_law 572 = .ok (.aload_n 0, 1) := by decide +kernel
theorem dL_law_573 : decode cL_law 573 = .ok (.iload_n 3, 1) := by decide +kernel
theorem dL_law_574 : decode cL_law 574 = .ok (.iconst 1, 1) := by decide +kernel
theorem dL_law_575 : decode cL_law 575 = .ok (.iadd, 1) := by decide +kernel
theorem dL_law_576 : decode cL_law 576 = .ok (.iaload, 1) := by decide +kernel
theorem dL_law_577 : decode cL_law 577 = .ok (.invokevirtual 55, 3) := by decide +kernel
theorem dL_law_580 : decode cL_law 580 = .ok (.aload_n 2, 1) := by decide +kernel
theorem dL_law_581 : decode cL_law 581 = .ok (.aload_n 0, 1) := by decide +kernel
theorem dL_law_582 : decode cL_law 582 = .ok (.iload_n 3, 1) := by decide +kernel
theorem dL_law_583 : decode cL_law 583 = .ok (.iconst 1, 1) := by decide +kernel
theorem dL_law_584 : decode cL_law 584 = .ok (.iadd, 1) := by decide +kernel
theorem dL_law_585 : decode cL_law 585 = .ok (.iaload, 1) := by decide +kernel
theorem dL_law_586 : decode cL_law 586 = .ok (.invokevirtual 58, 3) := by decide +kernel
theorem dL_law_589 : decode cL_law 589 = .ok (.if_icmp .eq 1062, 3) := by decide +kernel
theorem dL_law_592 : decode cL_law 592 = .ok (.iconst 0, 1) := by decide +kernel
theorem dL_law_593 : decode cL_law 593 = .ok (.ireturn, 1) := by decide +kernel
theorem dL_law_594 : decode cL_law 594 = .ok (.aload_n 1, 1) := by decide +kernel
theorem dL_law_595 : decode cL_law 595 = .ok (.invokevirtual 59, 3) := by decide +kernel
theorem dL_law_598 : decode cL_law 598 = .ok (.aload_n 2, 1) := by decide +kernel
theorem dL_law_599 : decode cL_law 599 = .ok (.invokevirtual 62, 3) := by decide +kernel
theorem dL_law_602 : decode cL_law 602 = .ok (.if_icmp .eq 1049, 3) := by decide +kernel
theorem dL_law_605 : decode cL_law 605 = .ok (.iconst 0, 1) := by decide +kernel
theorem dL_law_606 : decode cL_law 606 = .ok (.ireturn, 1) := by decide +kernel
theorem dL_law_607 : decode cL_law 607 = .ok (.aload_n 1, 1) := by decide +kernel
theorem dL_law_608 : decode cL_law 608 = .ok (.invokevirtual 63, 3) := by decide +kernel
theorem dL_law_611 : decode cL_law 611 = .ok (.aload_n 2, 1) := by decide +kernel
theorem dL_law_612 : decode cL_law 612 = .ok (.invokevirtual 66, 3) := by decide +kernel
theorem dL_law_615 : decode cL_law 615 = .ok (.if_icmp .eq 1036, 3) := by decide +kernel
theorem dL_law_618 : decode cL_law 618 = .ok (.iconst 0, 1) := by decide +kernel
theorem dL_law_619 : decode cL_law 619 = .ok (.ireturn, 1) := by decide +kernel
theorem dL_law_620 : decode cL_law 620 = .ok (.aload_n 1, 1) := by decide +kernel
theorem dL_law_621 : decode cL_law 621 = .ok (.invokevirtual 67, 3) := by decide +kernel
theorem dL_law_624 : decode cL_law 624 = .ok (.aload_n 2, 1) := by decide +kernel
theorem dL_law_625 : decode cL_law 625 = .ok (.invokevirtual 70, 3) := by decide +kernel
theorem dL_law_628 : decode cL_law 628 = .ok (.if_icmp .eq 1023, 3) := by decide +kernel
theorem dL_law_631 : decode cL_law 631 = .ok (.iconst 0, 1) := by decide +kernel
theorem dL_law_632 : decode cL_law 632 = .ok (.ireturn, 1) := by decide +kernel
theorem dL_law_633 : decode cL_law 633 = .ok (.aload_n 1, 1) := by decide +kernel
theorem dL_law_634 : decode cL_law 634 = .ok (.invokevirtual 71, 3) := by decide +kernel
theorem dL_law_637 : decode cL_law 637 = .ok (.aload_n 2, 1) := by decide +kernel
theorem dL_law_638 : decode cL_law 638 = .ok (.invokevirtual 74, 3) := by decide +kernel
theorem dL_law_641 : decode cL_law 641 = .ok (.if_icmp .eq 1010, 3) := by decide +kernel
theorem dL_law_644 : decode cL_law 644 = .ok (.iconst 0, 1) := by decide +kernel
theorem dL_law_645 : decode cL_law 645 = .ok (.ireturn, 1) := by decide +kernel
theorem dL_law_646 : decode cL_law 646 = .ok (.aload_n 1, 1) := by decide +kernel
theorem dL_law_647 : decode cL_law 647 = .ok (.aload_n 0, 1) := by decide +kernel
theorem dL_law_648 : decode cL_law 648 = .ok (.iload_n 3, 1) := by decide +kernel
theorem dL_law_649 : decode cL_law 649 = .ok (.iconst 1, 1) := by decide +kernel
theorem dL_law_650 : decode cL_law 650 = .ok (.iadd, 1) := by decide +kernel
theorem dL_law_651 : decode cL_law 651 = .ok (.iaload, 1) := by decide +kernel
theorem dL_law_652 : decode cL_law 652 = .ok (.invokevirtual 75, 3) := by decide +kernel
theorem dL_law_655 : decode cL_law 655 = .ok (.aload_n 2, 1) := by decide +kernel
theorem dL_law_656 : decode cL_law 656 = .ok (.aload_n 0, 1) := by decide +kernel
theorem dL_law_657 : decode cL_law 657 = .ok (.iload_n 3, 1) := by decide +kernel
theorem dL_law_658 : decode cL_law 658 = .ok (.iconst 1, 1) := by decide +kernel
theorem dL_law_659 : decode cL_law 659 = .ok (.iadd, 1) := by decide +kernel
theorem dL_law_660 : decode cL_law 660 = .ok (.iaload, 1) := by decide +kernel
theorem dL_law_661 : decode cL_law 661 = .ok (.invokevirtual 78, 3) := by decide +kernel
theorem dL_law_664 : decode cL_law 664 = .ok (.if_icmp .eq 987, 3) := by decide +kernel
theorem dL_law_667 : decode cL_law 667 = .ok (.iconst 0, 1) := by decide +kernel
theorem dL_law_668 : decode cL_law 668 = .ok (.ireturn, 1) := by decide +kernel
theorem dL_law_669 : decode cL_law 669 = .ok (.aload_n 1, 1) := by decide +kernel
theorem dL_law_670 : decode cL_law 670 = .ok (.aload_n 0, 1) := by decide +kernel
theorem dL_law_671 : decode cL_law 671 = .ok (.iload_n 3, 1) := by decide +kernel
theorem dL_law_672 : decode cL_law 672 = .ok (.iconst 1, 1) := by decide +kernel
theorem dL_law_673 : decode cL_law 673 = .ok (.iadd, 1) := by decide +kernel
theorem dL_law_674 : decode cL_law 674 = .ok (.iaload, 1) := by decide +kernel
theorem dL_law_675 : decode cL_law 675 = .ok (.aload_n 0, 1) := by decide +kernel
theorem dL_law_676 : decode cL_law 676 = .ok (.iload_n 3, 1) := by decide +kernel
theorem dL_law_677 : decode cL_law 677 = .ok (.iconst 2, 1) := by decide +kernel
theorem dL_law_678 : decode cL_law 678 = .ok (.iadd, 1) := by decide +kernel
theorem dL_law_679 : decode cL_law 679 = .ok (.iaload, 1) := by decide +kernel
theorem dL_law_680 : decode cL_law 680 = .ok (.aload_n 0, 1) := by decide +kernel
theorem dL_law_681 : decode cL_law 681 = .ok (.iload_n 3, 1) := by decide +kernel
theorem dL_law_682 : decode cL_law 682 = .ok (.iconst 3, 1) := by decide +kernel
theorem dL_law_683 : decode cL_law 683 = .ok (.iadd, 1) := by decide +kernel
theorem dL_law_684 : decode cL_law 684 = .ok (.iaload, 1) := by decide +kernel
theorem dL_law_685 : decode cL_law 685 = .ok (.aload_n 0, 1) := by decide +kernel
theorem dL_law_686 : decode cL_law 686 = .ok (.iload_n 3, 1) := by decide +kernel
theorem dL_law_687 : decode cL_law 687 = .ok (.iconst 4, 1) := by decide +kernel
theorem dL_law_688 : decode cL_law 688 = .ok (.iadd, 1) := by decide +kernel
theorem dL_law_689 : decode cL_law 689 = .ok (.iaload, 1) := by decide +kernel
theorem dL_law_690 : decode cL_law 690 = .ok (.invokevirtual 79, 3) := by decide +kernel
theorem dL_law_693 : decode cL_law 693 = .ok (.aload_n 2, 1) := by decide +kernel
theorem dL_law_694 : decode cL_law 694 = .ok (.aload_n 0, 1) := by decide +kernel
theorem dL_law_695 : decode cL_law 695 = .ok (.iload_n 3, 1) := by decide +kernel
theorem dL_law_696 : decode cL_law 696 = .ok (.iconst 1, 1) := by decide +kernel
theorem dL_law_697 : decode cL_law 697 = .ok (.iadd, 1) := by decide +kernel
theorem dL_law_698 : decode cL_law 698 = .ok (.iaload, 1) := by decide +kernel
theorem dL_law_699 : decode cL_law 699 = .ok (.aload_n 0, 1) := by decide +kernel
theorem dL_law_700 : decode cL_law 700 = .ok (.iload_n 3, 1) := by decide +kernel
theorem dL_law_701 : decode cL_law 701 = .ok (.iconst 2, 1) := by decide +kernel
theorem dL_law_702 : decode cL_law 702 = .ok (.iadd, 1) := by decide +kernel
theorem dL_law_703 : decode cL_law 703 = .ok (.iaload, 1) := by decide +kernel
theorem dL_law_704 : decode cL_law 704 = .ok (.aload_n 0, 1) := by decide +kernel
theorem dL_law_705 : decode cL_law 705 = .ok (.iload_n 3, 1) := by decide +kernel
theorem dL_law_706 : decode cL_law 706 = .ok (.iconst 3, 1) := by decide +kernel
theorem dL_law_707 : decode cL_law 707 = .ok (.iadd, 1) := by decide +kernel
theorem dL_law_708 : decode cL_law 708 = .ok (.iaload, 1) := by decide +kernel
theorem dL_law_709 : decode cL_law 709 = .ok (.aload_n 0, 1) := by decide +kernel
theorem dL_law_710 : decode cL_law 710 = .ok (.iload_n 3, 1) := by decide +kernel
theorem dL_law_711 : decode cL_law 711 = .ok (.iconst 4, 1) := by decide +kernel
theorem dL_law_712 : decode cL_law 712 = .ok (.iadd, 1) := by decide +kernel
theorem dL_law_713 : decode cL_law 713 = .ok (.iaload, 1) := by decide +kernel
theorem dL_law_714 : decode cL_law 714 = .ok (.invokevirtual 82, 3) := by decide +kernel
theorem dL_law_717 : decode cL_law 717 = .ok (.if_icmp .eq 934, 3) := by decide +kernel
theorem dL_law_720 : decode cL_law 720 = .ok (.iconst 0, 1) := by decide +kernel
theorem dL_law_721 : decode cL_law 721 = .ok (.ireturn, 1) := by decide +kernel
theorem dL_law_722 : decode cL_law 722 = .ok (.aload_n 1, 1) := by decide +kernel
theorem dL_law_723 : decode cL_law 723 = .ok (.aload_n 0, 1) := by decide +kernel
theorem dL_law_724 : decode cL_law 724 = .ok (.iload_n 3, 1) := by decide +kernel
theorem dL_law_725 : decode cL_law 725 = .ok (.iconst 1, 1) := by decide +kernel
theorem dL_law_726 : decode cL_law 726 = .ok (.iadd, 1) := by decide +kernel
theorem dL_law_727 : decode cL_law 727 = .ok (.iaload, 1) := by decide +kernel
theorem dL_law_728 : decode cL_law 728 = .ok (.aload_n 0, 1) := by decide +kernel
theorem dL_law_729 : decode cL_law 729 = .ok (.iload_n 3, 1) := by decide +kernel
theorem dL_law_730 : decode cL_law 730 = .ok (.iconst 2, 1) := by decide +kernel
theorem dL_law_731 : decode cL_law 731 = .ok (.iadd, 1) := by decide +kernel
theorem dL_law_732 : decode cL_law 732 = .ok (.iaload, 1) := by decide +kernel
theorem dL_law_733 : decode cL_law 733 = .ok (.aload_n 0, 1) := by decide +kernel
theorem dL_law_734 : decode cL_law 734 = .ok (.iload_n 3, 1) := by decide +kernel
theorem dL_law_735 : decode cL_law 735 = .ok (.iconst 3, 1) := by decide +kernel
theorem dL_law_736 : decode cL_law 736 = .ok (.iadd, 1) := by decide +kernel
theorem dL_law_737 : decode cL_law 737 = .ok (.iaload, 1) := by decide +kernel
theorem dL_law_738 : decode cL_law 738 = .ok (.aload_n 0, 1) := by decide +kernel
theorem dL_law_739 : decode cL_law 739 = .ok (.iload_n 3, 1) := by decide +kernel
theorem dL_law_740 : decode cL_law 740 = .ok (.iconst 4, 1) := by decide +kernel
theorem dL_law_741 : decode cL_law 741 = .ok (.iadd, 1) := by decide +kernel
theorem dL_law_742 : decode cL_law 742 = .ok (.iaload, 1) := by decide +kernel
theorem dL_law_743 : decode cL_law 743 = .ok (.invokevirtual 83, 3) := by decide +kernel
theorem dL_law_746 : decode cL_law 746 = .ok (.aload_n 2, 1) := by decide +kernel
theorem dL_law_747 : decode cL_law 747 = .ok (.aload_n 0, 1) := by decide +kernel
theorem dL_law_748 : decode cL_law 748 = .ok (.iload_n 3, 1) := by decide +kernel
theorem dL_law_749 : decode cL_law 749 = .ok (.iconst 1, 1) := by decide +kernel
theorem dL_law_750 : decode cL_law 750 = .ok (.iadd, 1) := by decide +kernel
theorem dL_law_751 : decode cL_law 751 = .ok (.iaload, 1) := by decide +kernel
theorem dL_law_752 : decode cL_law 752 = .ok (.aload_n 0, 1) := by decide +kernel
theorem dL_law_753 : decode cL_law 753 = .ok (.iload_n 3, 1) := by decide +kernel
theorem dL_law_754 : decode cL_law 754 = .ok (.iconst 2, 1) := by decide +kernel
theorem dL_law_755 : decode cL_law 755 = .ok (.iadd, 1) := by decide +kernel
theorem dL_law_756 : decode cL_law 756 = .ok (.iaload, 1) := by decide +kernel
theorem dL_law_757 : decode cL_law 757 = .ok (.aload_n 0, 1) := by decide +kernel
theorem dL_law_758 : decode cL_law 758 = .ok (.iload_n 3, 1) := by decide +kernel
theorem dL_law_759 : decode cL_law 759 = .ok (.iconst 3, 1) := by decide +kernel
theorem dL_law_760 : decode cL_law 760 = .ok (.iadd, 1) := by decide +kernel
theorem dL_law_761 : decode cL_law 761 = .ok (.iaload, 1) := by decide +kernel
theorem dL_law_762 : decode cL_law 762 = .ok (.aload_n 0, 1) := by decide +kernel
theorem dL_law_763 : decode cL_law 763 = .ok (.iload_n 3, 1) := by decide +kernel
theorem dL_law_764 : decode cL_law 764 = .ok (.iconst 4, 1) := by decide +kernel
theorem dL_law_765 : decode cL_law 765 = .ok (.iadd, 1) := by decide +kernel
theorem dL_law_766 : decode cL_law 766 = .ok (.iaload, 1) := by decide +kernel
theorem dL_law_767 : decode cL_law 767 = .ok (.invokevirtual 86, 3) := by decide +kernel
theorem dL_law_770 : decode cL_law 770 = .ok (.if_icmp .eq 881, 3) := by decide +kernel
theorem dL_law_773 : decode cL_law 773 = .ok (.iconst 0, 1) := by decide +kernel
theorem dL_law_774 : decode cL_law 774 = .ok (.ireturn, 1) := by decide +kernel
theorem dL_law_775 : decode cL_law 775 = .ok (.aload_n 1, 1) := by decide +kernel
theorem dL_law_776 : decode cL_law 776 = .ok (.aload_n 0, 1) := by decide +kernel
theorem dL_law_777 : decode cL_law 777 = .ok (.iload_n 3, 1) := by decide +kernel
theorem dL_law_778 : decode cL_law 778 = .ok (.iconst 1, 1) := by decide +kernel
theorem dL_law_779 : decode cL_law 779 = .ok (.iadd, 1) := by decide +kernel
theorem dL_law_780 : decode cL_law 780 = .ok (.iaload, 1) := by decide +kernel
theorem dL_law_781 : decode cL_law 781 = .ok (.aload_n 0, 1) := by decide +kernel
theorem dL_law_782 : decode cL_law 782 = .ok (.iload_n 3, 1) := by decide +kernel
theorem dL_law_783 : decode cL_law 783 = .ok (.iconst 2, 1) := by decide +kernel
theorem dL_law_784 : decode cL_law 784 = .ok (.iadd, 1) := by decide +kernel
theorem dL_law_785 : decode cL_law 785 = .ok (.iaload, 1) := by decide +kernel
theorem dL_law_786 : decode cL_law 786 = .ok (.invokevirtual 87, 3) := by decide +kernel
theorem dL_law_789 : decode cL_law 789 = .ok (.aload_n 2, 1) := by decide +kernel
theorem dL_law_790 : decode cL_law 790 = .ok (.aload_n 0, 1) := by decide +kernel
theorem dL_law_791 : decode cL_law 791 = .ok (.iload_n 3, 1) := by decide +kernel
theorem dL_law_792 : decode cL_law 792 = .ok (.iconst 1, 1) := by decide +kernel
theorem dL_law_793 : decode cL_law 793 = .ok (.iadd, 1) := by decide +kernel
theorem dL_law_794 : decode cL_law 794 = .ok (.iaload, 1) := by decide +kernel
theorem dL_law_795 : decode cL_law 795 = .ok (.aload_n 0, 1) := by decide +kernel
theorem dL_law_796 : decode cL_law 796 = .ok (.iload_n 3, 1) := by decide +kernel
theorem dL_law_797 : decode cL_law 797 = .ok (.iconst 2, 1) := by decide +kernel
theorem dL_law_798 : decode cL_law 798 = .ok (.iadd, 1) := by decide +kernel
theorem dL_law_799 : decode cL_law 799 = .ok (.iaload, 1) := by decide +kernel
theorem dL_law_800 : decode cL_law 800 = .ok (.invokevirtual 90, 3) := by decide +kernel
theorem dL_law_803 : decode cL_law 803 = .ok (.if_icmp .eq 848, 3) := by decide +kernel
theorem dL_law_806 : decode cL_law 806 = .ok (.iconst 0, 1) := by decide +kernel
theorem dL_law_807 : decode cL_law 807 = .ok (.ireturn, 1) := by decide +kernel
theorem dL_law_808 : decode cL_law 808 = .ok (.aload_n 1, 1) := by decide +kernel
theorem dL_law_809 : decode cL_law 809 = .ok (.aload_n 0, 1) := by decide +kernel
theorem dL_law_810 : decode cL_law 810 = .ok (.iload_n 3, 1) := by decide +kernel
theorem dL_law_811 : decode cL_law 811 = .ok (.iconst 1, 1) := by decide +kernel
theorem dL_law_812 : decode cL_law 812 = .ok (.iadd, 1) := by decide +kernel
theorem dL_law_813 : decode cL_law 813 = .ok (.iaload, 1) := by decide +kernel
theorem dL_law_814 : decode cL_law 814 = .ok (.aload_n 0, 1) := by decide +kernel
theorem dL_law_815 : decode cL_law 815 = .ok (.iload_n 3, 1) := by decide +kernel
theorem dL_law_816 : decode cL_law 816 = .ok (.iconst 2, 1) := by decide +kernel
theorem dL_law_817 : decode cL_law 817 = .ok (.iadd, 1) := by decide +kernel
theorem dL_law_818 : decode cL_law 818 = .ok (.iaload, 1) := by decide +kernel
theorem dL_law_819 : decode cL_law 819 = .ok (.aload_n 0, 1) := by decide +kernel
theorem dL_law_820 : decode cL_law 820 = .ok (.iload_n 3, 1) := by decide +kernel
theorem dL_law_821 : decode cL_law 821 = .ok (.iconst 3, 1) := by decide +kernel
theorem dL_law_822 : decode cL_law 822 = .ok (.iadd, 1) := by decide +kernel
theorem dL_law_823 : decode cL_law 823 = .ok (.iaload, 1) := by decide +kernel
theorem dL_law_824 : decode cL_law 824 = .ok (.invokevirtual 91, 3) := by decide +kernel
theorem dL_law_827 : decode cL_law 827 = .ok (.aload_n 2, 1) := by decide +kernel
theorem dL_law_828 : decode cL_law 828 = .ok (.aload_n 0, 1) := by decide +kernel
theorem dL_law_829 : decode cL_law 829 = .ok (.iload_n 3, 1) := by decide +kernel
theorem dL_law_830 : decode cL_law 830 = .ok (.iconst 1, 1) := by decide +kernel
theorem dL_law_831 : decode cL_law 831 = .ok (.iadd, 1) := by decide +kernel
theorem dL_law_832 : decode cL_law 832 = .ok (.iaload, 1) := by decide +kernel
theorem dL_law_833 : decode cL_law 833 = .ok (.aload_n 0, 1) := by decide +kernel
theorem dL_law_834 : decode cL_law 834 = .ok (.iload_n 3, 1) := by decide +kernel
theorem dL_law_835 : decode cL_law 835 = .ok (.iconst 2, 1) := by decide +kernel
theorem dL_law_836 : decode cL_law 836 = .ok (.iadd, 1) := by decide +kernel
theorem dL_law_837 : decode cL_law 837 = .ok (.iaload, 1) := by decide +kernel
theorem dL_law_838 : decode cL_law 838 = .ok (.aload_n 0, 1) := by decide +kernel
theorem dL_law_839 : decode cL_law 839 = .ok (.iload_n 3, 1) := by decide +kernel
theorem dL_law_840 : decode cL_law 840 = .ok (.iconst 3, 1) := by decide +kernel
theorem dL_law_841 : decode cL_law 841 = .ok (.iadd, 1) := by decide +kernel
theorem dL_law_842 : decode cL_law 842 = .ok (.iaload, 1) := by decide +kernel
theorem dL_law_843 : decode cL_law 843 = .ok (.invokevirtual 94, 3) := by decide +kernel
theorem dL_law_846 : decode cL_law 846 = .ok (.if_icmp .eq 805, 3) := by decide +kernel
theorem dL_law_849 : decode cL_law 849 = .ok (.iconst 0, 1) := by decide +kernel
theorem dL_law_850 : decode cL_law 850 = .ok (.ireturn, 1) := by decide +kernel
theorem dL_law_851 : decode cL_law 851 = .ok (.aload_n 1, 1) := by decide +kernel
theorem dL_law_852 : decode cL_law 852 = .ok (.aload_n 0, 1) := by decide +kernel
theorem dL_law_853 : decode cL_law 853 = .ok (.iload_n 3, 1) := by decide +kernel
theorem dL_law_854 : decode cL_law 854 = .ok (.iconst 1, 1) := by decide +kernel
theorem dL_law_855 : decode cL_law 855 = .ok (.iadd, 1) := by decide +kernel
theorem dL_law_856 : decode cL_law 856 = .ok (.iaload, 1) := by decide +kernel
theorem dL_law_857 : decode cL_law 857 = .ok (.aload_n 0, 1) := by decide +kernel
theorem dL_law_858 : decode cL_law 858 = .ok (.iload_n 3, 1) := by decide +kernel
theorem dL_law_859 : decode cL_law 859 = .ok (.iconst 2, 1) := by decide +kernel
theorem dL_law_860 : decode cL_law 860 = .ok (.iadd, 1) := by decide +kernel
theorem dL_law_861 : decode cL_law 861 = .ok (.iaload, 1) := by decide +kernel
theorem dL_law_862 : decode cL_law 862 = .ok (.invokevirtual 95, 3) := by decide +kernel
theorem dL_law_865 : decode cL_law 865 = .ok (.aload_n 2, 1) := by decide +kernel
theorem dL_law_866 : decode cL_law 866 = .ok (.aload_n 0, 1) := by decide +kernel
theorem dL_law_867 : decode cL_law 867 = .ok (.iload_n 3, 1) := by decide +kernel
theorem dL_law_868 : decode cL_law 868 = .ok (.iconst 1, 1) := by decide +kernel
theorem dL_law_869 : decode cL_law 869 = .ok (.iadd, 1) := by decide +kernel
theorem dL_law_870 : decode cL_law 870 = .ok (.iaload, 1) := by decide +kernel
theorem dL_law_871 : decode cL_law 871 = .ok (.aload_n 0, 1) := by decide +kernel
theorem dL_law_872 : decode cL_law 872 = .ok (.iload_n 3, 1) := by decide +kernel
theorem dL_law_873 : decode cL_law 873 = .ok (.iconst 2, 1) := by decide +kernel
theorem dL_law_874 : decode cL_law 874 = .ok (.iadd, 1) := by decide +kernel
theorem dL_law_875 : decode cL_law 875 = .ok (.iaload, 1) := by decide +kernel
theorem dL_law_876 : decode cL_law 876 = .ok (.invokevirtual 98, 3) := by decide +kernel
theorem dL_law_879 : decode cL_law 879 = .ok (.if_icmp .eq 772, 3) := by decide +kernel
theorem dL_law_882 : decode cL_law 882 = .ok (.iconst 0, 1) := by decide +kernel
theorem dL_law_883 : decode cL_law 883 = .ok (.ireturn, 1) := by decide +kernel
theorem dL_law_884 : decode cL_law 884 = .ok (.aload_n 1, 1) := by decide +kernel
theorem dL_law_885 : decode cL_law 885 = .ok (.aload_n 0, 1) := by decide +kernel
theorem dL_law_886 : decode cL_law 886 = .ok (.iload_n 3, 1) := by decide +kernel
theorem dL_law_887 : decode cL_law 887 = .ok (.iconst 1, 1) := by decide +kernel
theorem dL_law_888 : decode cL_law 888 = .ok (.iadd, 1) := by decide +kernel
theorem dL_law_889 : decode cL_law 889 = .ok (.iaload, 1) := by decide +kernel
theorem dL_law_890 : decode cL_law 890 = .ok (.aload_n 0, 1) := by decide +kernel
theorem dL_law_891 : decode cL_law 891 = .ok (.iload_n 3, 1) := by decide +kernel
theorem dL_law_892 : decode cL_law 892 = .ok (.iconst 2, 1) := by decide +kernel
theorem dL_law_893 : decode cL_law 893 = .ok (.iadd, 1) := by decide +kernel
theorem dL_law_894 : decode cL_law 894 = .ok (.iaload, 1) := by decide +kernel
theorem dL_law_895 : decode cL_law 895 = .ok (.aload_n 0, 1) := by decide +kernel
theorem dL_law_896 : decode cL_law 896 = .ok (.iload_n 3, 1) := by decide +kernel
theorem dL_law_897 : decode cL_law 897 = .ok (.iconst 3, 1) := by decide +kernel
theorem dL_law_898 : decode cL_law 898 = .ok (.iadd, 1) := by decide +kernel
theorem dL_law_899 : decode cL_law 899 = .ok (.iaload, 1) := by decide +kernel
theorem dL_law_900 : decode cL_law 900 = .ok (.invokevirtual 99, 3) := by decide +kernel
theorem dL_law_903 : decode cL_law 903 = .ok (.aload_n 2, 1) := by decide +kernel
theorem dL_law_904 : decode cL_law 904 = .ok (.aload_n 0, 1) := by decide +kernel
theorem dL_law_905 : decode cL_law 905 = .ok (.iload_n 3, 1) := by decide +kernel
theorem dL_law_906 : decode cL_law 906 = .ok (.iconst 1, 1) := by decide +kernel
theorem dL_law_907 : decode cL_law 907 = .ok (.iadd, 1) := by decide +kernel
theorem dL_law_908 : decode cL_law 908 = .ok (.iaload, 1) := by decide +kernel
theorem dL_law_909 : decode cL_law 909 = .ok (.aload_n 0, 1) := by decide +kernel
theorem dL_law_910 : decode cL_law 910 = .ok (.iload_n 3, 1) := by decide +kernel
theorem dL_law_911 : decode cL_law 911 = .ok (.iconst 2, 1) := by decide +kernel
theorem dL_law_912 : decode cL_law 912 = .ok (.iadd, 1) := by decide +kernel
theorem dL_law_913 : decode cL_law 913 = .ok (.iaload, 1) := by decide +kernel
theorem dL_law_914 : decode cL_law 914 = .ok (.aload_n 0, 1) := by decide +kernel
theorem dL_law_915 : decode cL_law 915 = .ok (.iload_n 3, 1) := by decide +kernel
theorem dL_law_916 : decode cL_law 916 = .ok (.iconst 3, 1) := by decide +kernel
theorem dL_law_917 : decode cL_law 917 = .ok (.iadd, 1) := by decide +kernel
theorem dL_law_918 : decode cL_law 918 = .ok (.iaload, 1) := by decide +kernel
theorem dL_law_919 : decode cL_law 919 = .ok (.invokevirtual 102, 3) := by decide +kernel
theorem dL_law_922 : decode cL_law 922 = .ok (.if_icmp .eq 729, 3) := by decide +kernel
theorem dL_law_925 : decode cL_law 925 = .ok (.iconst 0, 1) := by decide +kernel
theorem dL_law_926 : decode cL_law 926 = .ok (.ireturn, 1) := by decide +kernel
theorem dL_law_927 : decode cL_law 927 = .ok (.aload_n 1, 1) := by decide +kernel
theorem dL_law_928 : decode cL_law 928 = .ok (.aload_n 0, 1) := by decide +kernel
theorem dL_law_929 : decode cL_law 929 = .ok (.iload_n 3, 1) := by decide +kernel
theorem dL_law_930 : decode cL_law 930 = .ok (.iconst 1, 1) := by decide +kernel
theorem dL_law_931 : decode cL_law 931 = .ok (.iadd, 1) := by decide +kernel
theorem dL_law_932 : decode cL_law 932 = .ok (.iaload, 1) := by decide +kernel
theorem dL_law_933 : decode cL_law 933 = .ok (.invokevirtual 103, 3) := by decide +kernel
theorem dL_law_936 : decode cL_law 936 = .ok (.aload_n 2, 1) := by decide +kernel
theorem dL_law_937 : decode cL_law 937 = .ok (.aload_n 0, 1) := by decide +kernel
theorem dL_law_938 : decode cL_law 938 = .ok (.iload_n 3, 1) := by decide +kernel
theorem dL_law_939 : decode cL_law 939 = .ok (.iconst 1, 1) := by decide +kernel
theorem dL_law_940 : decode cL_law 940 = .ok (.iadd, 1) := by decide +kernel
theorem dL_law_941 : decode cL_law 941 = .ok (.iaload, 1) := by decide +kernel
theorem dL_law_942 : decode cL_law 942 = .ok (.invokevirtual 106, 3) := by decide +kernel
theorem dL_law_945 : decode cL_law 945 = .ok (.if_icmp .eq 706, 3) := by decide +kernel
theorem dL_law_948 : decode cL_law 948 = .ok (.iconst 0, 1) := by decide +kernel
theorem dL_law_949 : decode cL_law 949 = .ok (.ireturn, 1) := by decide +kernel
theorem dL_law_950 : decode cL_law 950 = .ok (.aload_n 1, 1) := by decide +kernel
theorem dL_law_951 : decode cL_law 951 = .ok (.aload_n 0, 1) := by decide +kernel
theorem dL_law_952 : decode cL_law 952 = .ok (.iload_n 3, 1) := by decide +kernel
theorem dL_law_953 : decode cL_law 953 = .ok (.iconst 1, 1) := by decide +kernel
theorem dL_law_954 : decode cL_law 954 = .ok (.iadd, 1) := by decide +kernel
theorem dL_law_955 : decode cL_law 955 = .ok (.iaload, 1) := by decide +kernel
theorem dL_law_956 : decode cL_law 956 = .ok (.aload_n 0, 1) := by decide +kernel
theorem dL_law_957 : decode cL_law 957 = .ok (.iload_n 3, 1) := by decide +kernel
theorem dL_law_958 : decode cL_law 958 = .ok (.iconst 2, 1) := by decide +kernel
theorem dL_law_959 : decode cL_law 959 = .ok (.iadd, 1) := by decide +kernel
theorem dL_law_960 : decode cL_law 960 = .ok (.iaload, 1) := by decide +kernel
theorem dL_law_961 : decode cL_law 961 = .ok (.aload_n 0, 1) := by decide +kernel
theorem dL_law_962 : decode cL_law 962 = .ok (.iload_n 3, 1) := by decide +kernel
theorem dL_law_963 : decode cL_law 963 = .ok (.iconst 3, 1) := by decide +kernel
theorem dL_law_964 : decode cL_law 964 = .ok (.iadd, 1) := by decide +kernel
theorem dL_law_965 : decode cL_law 965 = .ok (.iaload, 1) := by decide +kernel
theorem dL_law_966 : decode cL_law 966 = .ok (.aload_n 0, 1) := by decide +kernel
theorem dL_law_967 : decode cL_law 967 = .ok (.iload_n 3, 1) := by decide +kernel
theorem dL_law_968 : decode cL_law 968 = .ok (.iconst 4, 1) := by decide +kernel
theorem dL_law_969 : decode cL_law 969 = .ok (.iadd, 1) := by decide +kernel
theorem dL_law_970 : decode cL_law 970 = .ok (.iaload, 1) := by decide +kernel
theorem dL_law_971 : decode cL_law 971 = .ok (.invokevirtual 107, 3) := by decide +kernel
theorem dL_law_974 : decode cL_law 974 = .ok (.aload_n 2, 1) := by decide +kernel
theorem dL_law_975 : decode cL_law 975 = .ok (.aload_n 0, 1) := by decide +kernel
theorem dL_law_976 : decode cL_law 976 = .ok (.iload_n 3, 1) := by decide +kernel
theorem dL_law_977 : decode cL_law 977 = .ok (.iconst 1, 1) := by decide +kernel
theorem dL_law_978 : decode cL_law 978 = .ok (.iadd, 1) := by decide +kernel
theorem dL_law_979 : decode cL_law 979 = .ok (.iaload, 1) := by decide +kernel
theorem dL_law_980 : decode cL_law 980 = .ok (.aload_n 0, 1) := by decide +kernel
theorem dL_law_981 : decode cL_law 981 = .ok (.iload_n 3, 1) := by decide +kernel
theorem dL_law_982 : decode cL_law 982 = .ok (.iconst 2, 1) := by decide +kernel
theorem dL_law_983 : decode cL_law 983 = .ok (.iadd, 1) := by decide +kernel
theorem dL_law_984 : decode cL_law 984 = .ok (.iaload, 1) := by decide +kernel
theorem dL_law_985 : decode cL_law 985 = .ok (.aload_n 0, 1) := by decide +kernel
theorem dL_law_986 : decode cL_law 986 = .ok (.iload_n 3, 1) := by decide +kernel
theorem dL_law_987 : decode cL_law 987 = .ok (.iconst 3, 1) := by decide +kernel
theorem dL_law_988 : decode cL_law 988 = .ok (.iadd, 1) := by decide +kernel
theorem dL_law_989 : decode cL_law 989 = .ok (.iaload, 1) := by decide +kernel
theorem dL_law_990 : decode cL_law 990 = .ok (.aload_n 0, 1) := by decide +kernel
theorem dL_law_991 : decode cL_law 991 = .ok (.iload_n 3, 1) := by decide +kernel
theorem dL_law_992 : decode cL_law 992 = .ok (.iconst 4, 1) := by decide +kernel
theorem dL_law_993 : decode cL_law 993 = .ok (.iadd, 1) := by decide +kernel
theorem dL_law_994 : decode cL_law 994 = .ok (.iaload, 1) := by decide +kernel
theorem dL_law_995 : decode cL_law 995 = .ok (.invokevirtual 110, 3) := by decide +kernel
theorem dL_law_998 : decode cL_law 998 = .ok (.if_icmp .eq 653, 3) := by decide +kernel
theorem dL_law_1001 : decode cL_law 1001 = .ok (.iconst 0, 1) := by decide +kernel
theorem dL_law_1002 : decode cL_law 1002 = .ok (.ireturn, 1) := by decide +kernel
theorem dL_law_1003 : decode cL_law 1003 = .ok (.aload_n 1, 1) := by decide +kernel
theorem dL_law_1004 : decode cL_law 1004 = .ok (.aload_n 0, 1) := by decide +kernel
theorem dL_law_1005 : decode cL_law 1005 = .ok (.iload_n 3, 1) := by decide +kernel
theorem dL_law_1006 : decode cL_law 1006 = .ok (.iconst 1, 1) := by decide +kernel
theorem dL_law_1007 : decode cL_law 1007 = .ok (.iadd, 1) := by decide +kernel
theorem dL_law_1008 : decode cL_law 1008 = .ok (.iaload, 1) := by decide +kernel
theorem dL_law_1009 : decode cL_law 1009 = .ok (.invokevirtual 111, 3) := by decide +kernel
theorem dL_law_1012 : decode cL_law 1012 = .ok (.aload_n 2, 1) := by decide +kernel
theorem dL_law_1013 : decode cL_law 1013 = .ok (.aload_n 0, 1) := by decide +kernel
theorem dL_law_1014 : decode cL_law 1014 = .ok (.iload_n 3, 1) := by decide +kernel
theorem dL_law_1015 : decode cL_law 1015 = .ok (.iconst 1, 1) := by decide +kernel
theorem dL_law_1016 : decode cL_law 1016 = .ok (.iadd, 1) := by decide +kernel
theorem dL_law_1017 : decode cL_law 1017 = .ok (.iaload, 1) := by decide +kernel
theorem dL_law_1018 : decode cL_law 1018 = .ok (.invokevirtual 114, 3) := by decide +kernel
theorem dL_law_1021 : decode cL_law 1021 = .ok (.if_icmp .eq 630, 3) := by decide +kernel
theorem dL_law_1024 : decode cL_law 1024 = .ok (.iconst 0, 1) := by decide +kernel
theorem dL_law_1025 : decode cL_law 1025 = .ok (.ireturn, 1) := by decide +kernel
theorem dL_law_1026 : decode cL_law 1026 = .ok (.aload_n 1, 1) := by decide +kernel
theorem dL_law_1027 : decode cL_law 1027 = .ok (.aload_n 0, 1) := by decide +kernel
theorem dL_law_1028 : decode cL_law 1028 = .ok (.iload_n 3, 1) := by decide +kernel
theorem dL_law_1029 : decode cL_law 1029 = .ok (.iconst 1, 1) := by decide +kernel
theorem dL_law_1030 : decode cL_law 1030 = .ok (.iadd, 1) := by decide +kernel
theorem dL_law_1031 : decode cL_law 1031 = .ok (.iaload, 1) := by decide +kernel
theorem dL_law_1032 : decode cL_law 1032 = .ok (.invokevirtual 115, 3) := by decide +kernel
theorem dL_law_1035 : decode cL_law 1035 = .ok (.aload_n 2, 1) := by decide +kernel
theorem dL_law_1036 : decode cL_law 1036 = .ok (.aload_n 0, 1) := by decide +kernel
theorem dL_law_1037 : decode cL_law 1037 = .ok (.iload_n 3, 1) := by decide +kernel
theorem dL_law_1038 : decode cL_law 1038 = .ok (.iconst 1, 1) := by decide +kernel
theorem dL_law_1039 : decode cL_law 1039 = .ok (.iadd, 1) := by decide +kernel
theorem dL_law_1040 : decode cL_law 1040 = .ok (.iaload, 1) := by decide +kernel
theorem dL_law_1041 : decode cL_law 1041 = .ok (.invokevirtual 118, 3) := by decide +kernel
theorem dL_law_1044 : decode cL_law 1044 = .ok (.if_icmp .eq 607, 3) := by decide +kernel
theorem dL_law_1047 : decode cL_law 1047 = .ok (.iconst 0, 1) := by decide +kernel
theorem dL_law_1048 : decode cL_law 1048 = .ok (.ireturn, 1) := by decide +kernel
theorem dL_law_1049 : decode cL_law 1049 = .ok (.aload_n 1, 1) := by decide +kernel
theorem dL_law_1050 : decode cL_law 1050 = .ok (.invokevirtual 119, 3) := by decide +kernel
theorem dL_law_1053 : decode cL_law 1053 = .ok (.aload_n 2, 1) := by decide +kernel
theorem dL_law_1054 : decode cL_law 1054 = .ok (.invokevirtual 123, 3) := by decide +kernel
theorem dL_law_1057 : decode cL_law 1057 = .ok (.lcmp, 1) := by decide +kernel
theorem dL_law_1058 : decode cL_law 1058 = .ok (.ifCond .eq 593, 3) := by decide +kernel
theorem dL_law_1061 : decode cL_law 1061 = .ok (.iconst 0, 1) := by decide +kernel
theorem dL_law_1062 : decode cL_law 1062 = .ok (.ireturn, 1) := by decide +kernel
theorem dL_law_1063 : decode cL_law 1063 = .ok (.aload_n 1, 1) := by decide +kernel
theorem dL_law_1064 : decode cL_law 1064 = .ok (.aload_n 0, 1) := by decide +kernel
theorem dL_law_1065 : decode cL_law 1065 = .ok (.iload_n 3, 1) := by decide +kernel
theorem dL_law_1066 : decode cL_law 1066 = .ok (.iconst 1, 1) := by decide +kernel
theorem dL_law_1067 : decode cL_law 1067 = .ok (.iadd, 1) := by decide +kernel
theorem dL_law_1068 : decode cL_law 1068 = .ok (.iaload, 1) := by decide +kernel
theorem dL_law_1069 : decode cL_law 1069 = .ok (.aload_n 0, 1) := by decide +kernel
theorem dL_law_1070 : decode cL_law 1070 = .ok (.iload_n 3, 1) := by decide +kernel
theorem dL_law_1071 : decode cL_law 1071 = .ok (.iconst 2, 1) := by decide +kernel
theorem dL_law_1072 : decode cL_law 1072 = .ok (.iadd, 1) := by decide +kernel
theorem dL_law_1073 : decode cL_law 1073 = .ok (.iaload, 1) := by decide +kernel
theorem dL_law_1074 : decode cL_law 1074 = .ok (.invokevirtual 124, 3) := by decide +kernel
theorem dL_law_1077 : decode cL_law 1077 = .ok (.aload_n 2, 1) := by decide +kernel
theorem dL_law_1078 : decode cL_law 1078 = .ok (.aload_n 0, 1) := by decide +kernel
theorem dL_law_1079 : decode cL_law 1079 = .ok (.iload_n 3, 1) := by decide +kernel
theorem dL_law_1080 : decode cL_law 1080 = .ok (.iconst 1, 1) := by decide +kernel
theorem dL_law_1081 : decode cL_law 1081 = .ok (.iadd, 1) := by decide +kernel
theorem dL_law_1082 : decode cL_law 1082 = .ok (.iaload, 1) := by decide +kernel
theorem dL_law_1083 : decode cL_law 1083 = .ok (.aload_n 0, 1) := by decide +kernel
theorem dL_law_1084 : decode cL_law 1084 = .ok (.iload_n 3, 1) := by decide +kernel
theorem dL_law_1085 : decode cL_law 1085 = .ok (.iconst 2, 1) := by decide +kernel
theorem dL_law_1086 : decode cL_law 1086 = .ok (.iadd, 1) := by decide +kernel
theorem dL_law_1087 : decode cL_law 1087 = .ok (.iaload, 1) := by decide +kernel
theorem dL_law_1088 : decode cL_law 1088 = .ok (.invokevirtual 128, 3) := by decide +kernel
theorem dL_law_1091 : decode cL_law 1091 = .ok (.lcmp, 1) := by decide +kernel
theorem dL_law_1092 : decode cL_law 1092 = .ok (.ifCond .eq 559, 3) := by decide +kernel
theorem dL_law_1095 : decode cL_law 1095 = .ok (.iconst 0, 1) := by decide +kernel
theorem dL_law_1096 : decode cL_law 1096 = .ok (.ireturn, 1) := by decide +kernel
theorem dL_law_1097 : decode cL_law 1097 = .ok (.aload_n 1, 1) := by decide +kernel
theorem dL_law_1098 : decode cL_law 1098 = .ok (.aload_n 0, 1) := by decide +kernel
theorem dL_law_1099 : decode cL_law 1099 = .ok (.iload_n 3, 1) := by decide +kernel
theorem dL_law_1100 : decode cL_law 1100 = .ok (.iconst 1, 1) := by decide +kernel
theorem dL_law_1101 : decode cL_law 1101 = .ok (.iadd, 1) := by decide +kernel
theorem dL_law_1102 : decode cL_law 1102 = .ok (.iaload, 1) := by decide +kernel
theorem dL_law_1103 : decode cL_law 1103 = .ok (.invokevirtual 129, 3) := by decide +kernel
theorem dL_law_1106 : decode cL_law 1106 = .ok (.aload_n 2, 1) := by decide +kernel
theorem dL_law_1107 : decode cL_law 1107 = .ok (.aload_n 0, 1) := by decide +kernel
theorem dL_law_1108 : decode cL_law 1108 = .ok (.iload_n 3, 1) := by decide +kernel
theorem dL_law_1109 : decode cL_law 1109 = .ok (.iconst 1, 1) := by decide +kernel
theorem dL_law_1110 : decode cL_law 1110 = .ok (.iadd, 1) := by decide +kernel
theorem dL_law_1111 : decode cL_law 1111 = .ok (.iaload, 1) := by decide +kernel
theorem dL_law_1112 : decode cL_law 1112 = .ok (.invokevirtual 132, 3) := by decide +kernel
theorem dL_law_1115 : decode cL_law 1115 = .ok (.if_icmp .eq 536, 3) := by decide +kernel
theorem dL_law_1118 : decode cL_law 1118 = .ok (.iconst 0, 1) := by decide +kernel
theorem dL_law_1119 : decode cL_law 1119 = .ok (.ireturn, 1) := by decide +kernel
theorem dL_law_1120 : decode cL_law 1120 = .ok (.aload_n 1, 1) := by decide +kernel
theorem dL_law_1121 : decode cL_law 1121 = .ok (.invokevirtual 133, 3) := by decide +kernel
theorem dL_law_1124 : decode cL_law 1124 = .ok (.aload_n 2, 1) := by decide +kernel
theorem dL_law_1125 : decode cL_law 1125 = .ok (.invokevirtual 136, 3) := by decide +kernel
theorem dL_law_1128 : decode cL_law 1128 = .ok (.if_icmp .eq 523, 3) := by decide +kernel
theorem dL_law_1131 : decode cL_law 1131 = .ok (.iconst 0, 1) := by decide +kernel
theorem dL_law_1132 : decode cL_law 1132 = .ok (.ireturn, 1) := by decide +kernel
theorem dL_law_1133 : decode cL_law 1133 = .ok (.aload_n 1, 1) := by decide +kernel
theorem dL_law_1134 : decode cL_law 1134 = .ok (.aload_n 0, 1) := by decide +kernel
theorem dL_law_1135 : decode cL_law 1135 = .ok (.iload_n 3, 1) := by decide +kernel
theorem dL_law_1136 : decode cL_law 1136 = .ok (.iconst 1, 1) := by decide +kernel
theorem dL_law_1137 : decode cL_law 1137 = .ok (.iadd, 1) := by decide +kernel
theorem dL_law_1138 : decode cL_law 1138 = .ok (.iaload, 1) := by decide +kernel
theorem dL_law_1139 : decode cL_law 1139 = .ok (.aload_n 0, 1) := by decide +kernel
theorem dL_law_1140 : decode cL_law 1140 = .ok (.iload_n 3, 1) := by decide +kernel
theorem dL_law_1141 : decode cL_law 1141 = .ok (.iconst 2, 1) := by decide +kernel
theorem dL_law_1142 : decode cL_law 1142 = .ok (.iadd, 1) := by decide +kernel
theorem dL_law_1143 : decode cL_law 1143 = .ok (.iaload, 1) := by decide +kernel
theorem dL_law_1144 : decode cL_law 1144 = .ok (.aload_n 0, 1) := by decide +kernel
theorem dL_law_1145 : decode cL_law 1145 = .ok (.iload_n 3, 1) := by decide +kernel
theorem dL_law_1146 : decode cL_law 1146 = .ok (.iconst 3, 1) := by decide +kernel
theorem dL_law_1147 : decode cL_law 1147 = .ok (.iadd, 1) := by decide +kernel
theorem dL_law_1148 : decode cL_law 1148 = .ok (.iaload, 1) := by decide +kernel
theorem dL_law_1149 : decode cL_law 1149 = .ok (.invokevirtual 137, 3) := by decide +kernel
theorem dL_law_1152 : decode cL_law 1152 = .ok (.aload_n 2, 1) := by decide +kernel
theorem dL_law_1153 : decode cL_law 1153 = .ok (.aload_n 0, 1) := by decide +kernel
theorem dL_law_1154 : decode cL_law 1154 = .ok (.iload_n 3, 1) := by decide +kernel
theorem dL_law_1155 : decode cL_law 1155 = .ok (.iconst 1, 1) := by decide +kernel
theorem dL_law_1156 : decode cL_law 1156 = .ok (.iadd, 1) := by decide +kernel
theorem dL_law_1157 : decode cL_law 1157 = .ok (.iaload, 1) := by decide +kernel
theorem dL_law_1158 : decode cL_law 1158 = .ok (.aload_n 0, 1) := by decide +kernel
theorem dL_law_1159 : decode cL_law 1159 = .ok (.iload_n 3, 1) := by decide +kernel
theorem dL_law_1160 : decode cL_law 1160 = .ok (.iconst 2, 1) := by decide +kernel
theorem dL_law_1161 : decode cL_law 1161 = .ok (.iadd, 1) := by decide +kernel
theorem dL_law_1162 : decode cL_law 1162 = .ok (.iaload, 1) := by decide +kernel
theorem dL_law_1163 : decode cL_law 1163 = .ok (.aload_n 0, 1) := by decide +kernel
theorem dL_law_1164 : decode cL_law 1164 = .ok (.iload_n 3, 1) := by decide +kernel
theorem dL_law_1165 : decode cL_law 1165 = .ok (.iconst 3, 1) := by decide +kernel
theorem dL_law_1166 : decode cL_law 1166 = .ok (.iadd, 1) := by decide +kernel
theorem dL_law_1167 : decode cL_law 1167 = .ok (.iaload, 1) := by decide +kernel
theorem dL_law_1168 : decode cL_law 1168 = .ok (.invokevirtual 141, 3) := by decide +kernel
theorem dL_law_1171 : decode cL_law 1171 = .ok (.lcmp, 1) := by decide +kernel
theorem dL_law_1172 : decode cL_law 1172 = .ok (.ifCond .eq 479, 3) := by decide +kernel
theorem dL_law_1175 : decode cL_law 1175 = .ok (.iconst 0, 1) := by decide +kernel
theorem dL_law_1176 : decode cL_law 1176 = .ok (.ireturn, 1) := by decide +kernel
theorem dL_law_1177 : decode cL_law 1177 = .ok (.aload_n 1, 1) := by decide +kernel
theorem dL_law_1178 : decode cL_law 1178 = .ok (.aload_n 0, 1) := by decide +kernel
theorem dL_law_1179 : decode cL_law 1179 = .ok (.iload_n 3, 1) := by decide +kernel
theorem dL_law_1180 : decode cL_law 1180 = .ok (.iconst 1, 1) := by decide +kernel
theorem dL_law_1181 : decode cL_law 1181 = .ok (.iadd, 1) := by decide +kernel
theorem dL_law_1182 : decode cL_law 1182 = .ok (.iaload, 1) := by decide +kernel
theorem dL_law_1183 : decode cL_law 1183 = .ok (.invokevirtual 142, 3) := by decide +kernel
theorem dL_law_1186 : decode cL_law 1186 = .ok (.aload_n 2, 1) := by decide +kernel
theorem dL_law_1187 : decode cL_law 1187 = .ok (.aload_n 0, 1) := by decide +kernel
theorem dL_law_1188 : decode cL_law 1188 = .ok (.iload_n 3, 1) := by decide +kernel
theorem dL_law_1189 : decode cL_law 1189 = .ok (.iconst 1, 1) := by decide +kernel
theorem dL_law_1190 : decode cL_law 1190 = .ok (.iadd, 1) := by decide +kernel
theorem dL_law_1191 : decode cL_law 1191 = .ok (.iaload, 1) := by decide +kernel
theorem dL_law_1192 : decode cL_law 1192 = .ok (.invokevirtual 145, 3) := by decide +kernel
theorem dL_law_1195 : decode cL_law 1195 = .ok (.if_icmp .eq 456, 3) := by decide +kernel
theorem dL_law_1198 : decode cL_law 1198 = .ok (.iconst 0, 1) := by decide +kernel
theorem dL_law_1199 : decode cL_law 1199 = .ok (.ireturn, 1) := by decide +kernel
theorem dL_law_1200 : decode cL_law 1200 = .ok (.aload_n 1, 1) := by decide +kernel
theorem dL_law_1201 : decode cL_law 1201 = .ok (.aload_n 0, 1) := by decide +kernel
theorem dL_law_1202 : decode cL_law 1202 = .ok (.iload_n 3, 1) := by decide +kernel
theorem dL_law_1203 : decode cL_law 1203 = .ok (.iconst 1, 1) := by decide +kernel
theorem dL_law_1204 : decode cL_law 1204 = .ok (.iadd, 1) := by decide +kernel
theorem dL_law_1205 : decode cL_law 1205 = .ok (.iaload, 1) := by decide +kernel
theorem dL_law_1206 : decode cL_law 1206 = .ok (.aload_n 0, 1) := by decide +kernel
theorem dL_law_1207 : decode cL_law 1207 = .ok (.iload_n 3, 1) := by decide +kernel
theorem dL_law_1208 : decode cL_law 1208 = .ok (.iconst 2, 1) := by decide +kernel
theorem dL_law_1209 : decode cL_law 1209 = .ok (.iadd, 1) := by decide +kernel
theorem dL_law_1210 : decode cL_law 1210 = .ok (.iaload, 1) := by decide +kernel
theorem dL_law_1211 : decode cL_law 1211 = .ok (.aload_n 0, 1) := by decide +kernel
theorem dL_law_1212 : decode cL_law 1212 = .ok (.iload_n 3, 1) := by decide +kernel
theorem dL_law_1213 : decode cL_law 1213 = .ok (.iconst 3, 1) := by decide +kernel
theorem dL_law_1214 : decode cL_law 1214 = .ok (.iadd, 1) := by decide +kernel
theorem dL_law_1215 : decode cL_law 1215 = .ok (.iaload, 1) := by decide +kernel
theorem dL_law_1216 : decode cL_law 1216 = .ok (.invokevirtual 146, 3) := by decide +kernel
theorem dL_law_1219 : decode cL_law 1219 = .ok (.aload_n 2, 1) := by decide +kernel
theorem dL_law_1220 : decode cL_law 1220 = .ok (.aload_n 0, 1) := by decide +kernel
theorem dL_law_1221 : decode cL_law 1221 = .ok (.iload_n 3, 1) := by decide +kernel
theorem dL_law_1222 : decode cL_law 1222 = .ok (.iconst 1, 1) := by decide +kernel
theorem dL_law_1223 : decode cL_law 1223 = .ok (.iadd, 1) := by decide +kernel
theorem dL_law_1224 : decode cL_law 1224 = .ok (.iaload, 1) := by decide +kernel
theorem dL_law_1225 : decode cL_law 1225 = .ok (.aload_n 0, 1) := by decide +kernel
theorem dL_law_1226 : decode cL_law 1226 = .ok (.iload_n 3, 1) := by decide +kernel
theorem dL_law_1227 : decode cL_law 1227 = .ok (.iconst 2, 1) := by decide +kernel
theorem dL_law_1228 : decode cL_law 1228 = .ok (.iadd, 1) := by decide +kernel
theorem dL_law_1229 : decode cL_law 1229 = .ok (.iaload, 1) := by decide +kernel
theorem dL_law_1230 : decode cL_law 1230 = .ok (.aload_n 0, 1) := by decide +kernel
theorem dL_law_1231 : decode cL_law 1231 = .ok (.iload_n 3, 1) := by decide +kernel
theorem dL_law_1232 : decode cL_law 1232 = .ok (.iconst 3, 1) := by decide +kernel
theorem dL_law_1233 : decode cL_law 1233 = .ok (.iadd, 1) := by decide +kernel
theorem dL_law_1234 : decode cL_law 1234 = .ok (.iaload, 1) := by decide +kernel
theorem dL_law_1235 : decode cL_law 1235 = .ok (.invokevirtual 149, 3) := by decide +kernel
theorem dL_law_1238 : decode cL_law 1238 = .ok (.if_icmp .eq 413, 3) := by decide +kernel
theorem dL_law_1241 : decode cL_law 1241 = .ok (.iconst 0, 1) := by decide +kernel
theorem dL_law_1242 : decode cL_law 1242 = .ok (.ireturn, 1) := by decide +kernel
theorem dL_law_1243 : decode cL_law 1243 = .ok (.aload_n 1, 1) := by decide +kernel
theorem dL_law_1244 : decode cL_law 1244 = .ok (.aload_n 0, 1) := by decide +kernel
theorem dL_law_1245 : decode cL_law 1245 = .ok (.iload_n 3, 1) := by decide +kernel
theorem dL_law_1246 : decode cL_law 1246 = .ok (.iconst 1, 1) := by decide +kernel
theorem dL_law_1247 : decode cL_law 1247 = .ok (.iadd, 1) := by decide +kernel
theorem dL_law_1248 : decode cL_law 1248 = .ok (.iaload, 1) := by decide +kernel
theorem dL_law_1249 : decode cL_law 1249 = .ok (.aload_n 0, 1) := by decide +kernel
theorem dL_law_1250 : decode cL_law 1250 = .ok (.iload_n 3, 1) := by decide +kernel
theorem dL_law_1251 : decode cL_law 1251 = .ok (.iconst 2, 1) := by decide +kernel
theorem dL_law_1252 : decode cL_law 1252 = .ok (.iadd, 1) := by decide +kernel
theorem dL_law_1253 : decode cL_law 1253 = .ok (.iaload, 1) := by decide +kernel
theorem dL_law_1254 : decode cL_law 1254 = .ok (.aload_n 0, 1) := by decide +kernel
theorem dL_law_1255 : decode cL_law 1255 = .ok (.iload_n 3, 1) := by decide +kernel
theorem dL_law_1256 : decode cL_law 1256 = .ok (.iconst 3, 1) := by decide +kernel
theorem dL_law_1257 : decode cL_law 1257 = .ok (.iadd, 1) := by decide +kernel
theorem dL_law_1258 : decode cL_law 1258 = .ok (.iaload, 1) := by decide +kernel
theorem dL_law_1259 : decode cL_law 1259 = .ok (.aload_n 0, 1) := by decide +kernel
theorem dL_law_1260 : decode cL_law 1260 = .ok (.iload_n 3, 1) := by decide +kernel
theorem dL_law_1261 : decode cL_law 1261 = .ok (.iconst 4, 1) := by decide +kernel
theorem dL_law_1262 : decode cL_law 1262 = .ok (.iadd, 1) := by decide +kernel
theorem dL_law_1263 : decode cL_law 1263 = .ok (.iaload, 1) := by decide +kernel
theorem dL_law_1264 : decode cL_law 1264 = .ok (.aload_n 0, 1) := by decide +kernel
theorem dL_law_1265 : decode cL_law 1265 = .ok (.iload_n 3, 1) := by decide +kernel
theorem dL_law_1266 : decode cL_law 1266 = .ok (.iconst 5, 1) := by decide +kernel
theorem dL_law_1267 : decode cL_law 1267 = .ok (.iadd, 1) := by decide +kernel
theorem dL_law_1268 : decode cL_law 1268 = .ok (.iaload, 1) := by decide +kernel
theorem dL_law_1269 : decode cL_law 1269 = .ok (.aload_n 0, 1) := by decide +kernel
theorem dL_law_1270 : decode cL_law 1270 = .ok (.iload_n 3, 1) := by decide +kernel
theorem dL_law_1271 : decode cL_law 1271 = .ok (.bipush 6, 2) := by decide +kernel
theorem dL_law_1273 : decode cL_law 1273 = .ok (.iadd, 1) := by decide +kernel
theorem dL_law_1274 : decode cL_law 1274 = .ok (.iaload, 1) := by decide +kernel
theorem dL_law_1275 : decode cL_law 1275 = .ok (.invokevirtual 150, 3) := by decide +kernel
theorem dL_law_1278 : decode cL_law 1278 = .ok (.aload_n 2, 1) := by decide +kernel
theorem dL_law_1279 : decode cL_law 1279 = .ok (.aload_n 0, 1) := by decide +kernel
theorem dL_law_1280 : decode cL_law 1280 = .ok (.iload_n 3, 1) := by decide +kernel
theorem dL_law_1281 : decode cL_law 1281 = .ok (.iconst 1, 1) := by decide +kernel
theorem dL_law_1282 : decode cL_law 1282 = .ok (.iadd, 1) := by decide +kernel
theorem dL_law_1283 : decode cL_law 1283 = .ok (.iaload, 1) := by decide +kernel
theorem dL_law_1284 : decode cL_law 1284 = .ok (.aload_n 0, 1) := by decide +kernel
theorem dL_law_1285 : decode cL_law 1285 = .ok (.iload_n 3, 1) := by decide +kernel
theorem dL_law_1286 : decode cL_law 1286 = .ok (.iconst 2, 1) := by decide +kernel
theorem dL_law_1287 : decode cL_law 1287 = .ok (.iadd, 1) := by decide +kernel
theorem dL_law_1288 : decode cL_law 1288 = .ok (.iaload, 1) := by decide +kernel
theorem dL_law_1289 : decode cL_law 1289 = .ok (.aload_n 0, 1) := by decide +kernel
theorem dL_law_1290 : decode cL_law 1290 = .ok (.iload_n 3, 1) := by decide +kernel
theorem dL_law_1291 : decode cL_law 1291 = .ok (.iconst 3, 1) := by decide +kernel
theorem dL_law_1292 : decode cL_law 1292 = .ok (.iadd, 1) := by decide +kernel
theorem dL_law_1293 : decode cL_law 1293 = .ok (.iaload, 1) := by decide +kernel
theorem dL_law_1294 : decode cL_law 1294 = .ok (.aload_n 0, 1) := by decide +kernel
theorem dL_law_1295 : decode cL_law 1295 = .ok (.iload_n 3, 1) := by decide +kernel
theorem dL_law_1296 : decode cL_law 1296 = .ok (.iconst 4, 1) := by decide +kernel
theorem dL_law_1297 : decode cL_law 1297 = .ok (.iadd, 1) := by decide +kernel
theorem dL_law_1298 : decode cL_law 1298 = .ok (.iaload, 1) := by decide +kernel
theorem dL_law_1299 : decode cL_law 1299 = .ok (.aload_n 0, 1) := by decide +kernel
theorem dL_law_1300 : decode cL_law 1300 = .ok (.iload_n 3, 1) := by decide +kernel
theorem dL_law_1301 : decode cL_law 1301 = .ok (.iconst 5, 1) := by decide +kernel
theorem dL_law_1302 : decode cL_law 1302 = .ok (.iadd, 1) := by decide +kernel
theorem dL_law_1303 : decode cL_law 1303 = .ok (.iaload, 1) := by decide +kernel
theorem dL_law_1304 : decode cL_law 1304 = .ok (.aload_n 0, 1) := by decide +kernel
theorem dL_law_1305 : decode cL_law 1305 = .ok (.iload_n 3, 1) := by decide +kernel
theorem dL_law_1306 : decode cL_law 1306 = .ok (.bipush 6, 2) := by decide +kernel
theorem dL_law_1308 : decode cL_law 1308 = .ok (.iadd, 1) := by decide +kernel
theorem dL_law_1309 : decode cL_law 1309 = .ok (.iaload, 1) := by decide +kernel
theorem dL_law_1310 : decode cL_law 1310 = .ok (.invokevirtual 154, 3) := by decide +kernel
theorem dL_law_1313 : decode cL_law 1313 = .ok (.if_icmp .eq 338, 3) := by decide +kernel
theorem dL_law_1316 : decode cL_law 1316 = .ok (.iconst 0, 1) := by decide +kernel
theorem dL_law_1317 : decode cL_law 1317 = .ok (.ireturn, 1) := by decide +kernel
theorem dL_law_1318 : decode cL_law 1318 = .ok (.aload_n 1, 1) := by decide +kernel
theorem dL_law_1319 : decode cL_law 1319 = .ok (.aload_n 0, 1) := by decide +kernel
theorem dL_law_1320 : decode cL_law 1320 = .ok (.iload_n 3, 1) := by decide +kernel
theorem dL_law_1321 : decode cL_law 1321 = .ok (.iconst 1, 1) := by decide +kernel
theorem dL_law_1322 : decode cL_law 1322 = .ok (.iadd, 1) := by decide +kernel
theorem dL_law_1323 : decode cL_law 1323 = .ok (.iaload, 1) := by decide +kernel
theorem dL_law_1324 : decode cL_law 1324 = .ok (.invokevirtual 155, 3) := by decide +kernel
theorem dL_law_1327 : decode cL_law 1327 = .ok (.aload_n 2, 1) := by decide +kernel
theorem dL_law_1328 : decode cL_law 1328 = .ok (.aload_n 0, 1) := by decide +kernel
theorem dL_law_1329 : decode cL_law 1329 = .ok (.iload_n 3, 1) := by decide +kernel
theorem dL_law_1330 : decode cL_law 1330 = .ok (.iconst 1, 1) := by decide +kernel
theorem dL_law_1331 : decode cL_law 1331 = .ok (.iadd, 1) := by decide +kernel
theorem dL_law_1332 : decode cL_law 1332 = .ok (.iaload, 1) := by decide +kernel
theorem dL_law_1333 : decode cL_law 1333 = .ok (.invokevirtual 158, 3) := by decide +kernel
theorem dL_law_1336 : decode cL_law 1336 = .ok (.if_icmp .eq 315, 3) := by decide +kernel
theorem dL_law_1339 : decode cL_law 1339 = .ok (.iconst 0, 1) := by decide +kernel
theorem dL_law_1340 : decode cL_law 1340 = .ok (.ireturn, 1) := by decide +kernel
theorem dL_law_1341 : decode cL_law 1341 = .ok (.aload_n 1, 1) := by decide +kernel
theorem dL_law_1342 : decode cL_law 1342 = .ok (.aload_n 0, 1) := by decide +kernel
theorem dL_law_1343 : decode cL_law 1343 = .ok (.iload_n 3, 1) := by decide +kernel
theorem dL_law_1344 : decode cL_law 1344 = .ok (.iconst 1, 1) := by decide +kernel
theorem dL_law_1345 : decode cL_law 1345 = .ok (.iadd, 1) := by decide +kernel
theorem dL_law_1346 : decode cL_law 1346 = .ok (.iaload, 1) := by decide +kernel
theorem dL_law_1347 : decode cL_law 1347 = .ok (.invokevirtual 159, 3) := by decide +kernel
theorem dL_law_1350 : decode cL_law 1350 = .ok (.aload_n 2, 1) := by decide +kernel
theorem dL_law_1351 : decode cL_law 1351 = .ok (.aload_n 0, 1) := by decide +kernel
theorem dL_law_1352 : decode cL_law 1352 = .ok (.iload_n 3, 1) := by decide +kernel
theorem dL_law_1353 : decode cL_law 1353 = .ok (.iconst 1, 1) := by decide +kernel
theorem dL_law_1354 : decode cL_law 1354 = .ok (.iadd, 1) := by decide +kernel
theorem dL_law_1355 : decode cL_law 1355 = .ok (.iaload, 1) := by decide +kernel
theorem dL_law_1356 : decode cL_law 1356 = .ok (.invokevirtual 162, 3) := by decide +kernel
theorem dL_law_1359 : decode cL_law 1359 = .ok (.if_icmp .eq 292, 3) := by decide +kernel
theorem dL_law_1362 : decode cL_law 1362 = .ok (.iconst 0, 1) := by decide +kernel
theorem dL_law_1363 : decode cL_law 1363 = .ok (.ireturn, 1) := by decide +kernel
theorem dL_law_1364 : decode cL_law 1364 = .ok (.aload_n 1, 1) := by decide +kernel
theorem dL_law_1365 : decode cL_law 1365 = .ok (.aload_n 0, 1) := by decide +kernel
theorem dL_law_1366 : decode cL_law 1366 = .ok (.iload_n 3, 1) := by decide +kernel
theorem dL_law_1367 : decode cL_law 1367 = .ok (.iconst 1, 1) := by decide +kernel
theorem dL_law_1368 : decode cL_law 1368 = .ok (.iadd, 1) := by decide +kernel
theorem dL_law_1369 : decode cL_law 1369 = .ok (.iaload, 1) := by decide +kernel
theorem dL_law_1370 : decode cL_law 1370 = .ok (.aload_n 0, 1) := by decide +kernel
theorem dL_law_1371 : decode cL_law 1371 = .ok (.iload_n 3, 1) := by decide +kernel
theorem dL_law_1372 : decode cL_law 1372 = .ok (.iconst 2, 1) := by decide +kernel
theorem dL_law_1373 : decode cL_law 1373 = .ok (.iadd, 1) := by decide +kernel
theorem dL_law_1374 : decode cL_law 1374 = .ok (.iaload, 1) := by decide +kernel
theorem dL_law_1375 : decode cL_law 1375 = .ok (.aload_n 0, 1) := by decide +kernel
theorem dL_law_1376 : decode cL_law 1376 = .ok (.iload_n 3, 1) := by decide +kernel
theorem dL_law_1377 : decode cL_law 1377 = .ok (.iconst 3, 1) := by decide +kernel
theorem dL_law_1378 : decode cL_law 1378 = .ok (.iadd, 1) := by decide +kernel
theorem dL_law_1379 : decode cL_law 1379 = .ok (.iaload, 1) := by decide +kernel
theorem dL_law_1380 : decode cL_law 1380 = .ok (.invokevirtual 163, 3) := by decide +kernel
theorem dL_law_1383 : decode cL_law 1383 = .ok (.aload_n 2, 1) := by decide +kernel
theorem dL_law_1384 : decode cL_law 1384 = .ok (.aload_n 0, 1) := by decide +kernel
theorem dL_law_1385 : decode cL_law 1385 = .ok (.iload_n 3, 1) := by decide +kernel
theorem dL_law_1386 : decode cL_law 1386 = .ok (.iconst 1, 1) := by decide +kernel
theorem dL_law_1387 : decode cL_law 1387 = .ok (.iadd, 1) := by decide +kernel
theorem dL_law_1388 : decode cL_law 1388 = .ok (.iaload, 1) := by decide +kernel
theorem dL_law_1389 : decode cL_law 1389 = .ok (.aload_n 0, 1) := by decide +kernel
theorem dL_law_1390 : decode cL_law 1390 = .ok (.iload_n 3, 1) := by decide +kernel
theorem dL_law_1391 : decode cL_law 1391 = .ok (.iconst 2, 1) := by decide +kernel
theorem dL_law_1392 : decode cL_law 1392 = .ok (.iadd, 1) := by decide +kernel
theorem dL_law_1393 : decode cL_law 1393 = .ok (.iaload, 1) := by decide +kernel
theorem dL_law_1394 : decode cL_law 1394 = .ok (.aload_n 0, 1) := by decide +kernel
theorem dL_law_1395 : decode cL_law 1395 = .ok (.iload_n 3, 1) := by decide +kernel
theorem dL_law_1396 : decode cL_law 1396 = .ok (.iconst 3, 1) := by decide +kernel
theorem dL_law_1397 : decode cL_law 1397 = .ok (.iadd, 1) := by decide +kernel
theorem dL_law_1398 : decode cL_law 1398 = .ok (.iaload, 1) := by decide +kernel
theorem dL_law_1399 : decode cL_law 1399 = .ok (.invokevirtual 166, 3) := by decide +kernel
theorem dL_law_1402 : decode cL_law 1402 = .ok (.if_icmp .eq 249, 3) := by decide +kernel
theorem dL_law_1405 : decode cL_law 1405 = .ok (.iconst 0, 1) := by decide +kernel
theorem dL_law_1406 : decode cL_law 1406 = .ok (.ireturn, 1) := by decide +kernel
theorem dL_law_1407 : decode cL_law 1407 = .ok (.aload_n 1, 1) := by decide +kernel
theorem dL_law_1408 : decode cL_law 1408 = .ok (.aload_n 0, 1) := by decide +kernel
theorem dL_law_1409 : decode cL_law 1409 = .ok (.iload_n 3, 1) := by decide +kernel
theorem dL_law_1410 : decode cL_law 1410 = .ok (.iconst 1, 1) := by decide +kernel
theorem dL_law_1411 : decode cL_law 1411 = .ok (.iadd, 1) := by decide +kernel
theorem dL_law_1412 : decode cL_law 1412 = .ok (.iaload, 1) := by decide +kernel
theorem dL_law_1413 : decode cL_law 1413 = .ok (.aload_n 0, 1) := by decide +kernel
theorem dL_law_1414 : decode cL_law 1414 = .ok (.iload_n 3, 1) := by decide +kernel
theorem dL_law_1415 : decode cL_law 1415 = .ok (.iconst 2, 1) := by decide +kernel
theorem dL_law_1416 : decode cL_law 1416 = .ok (.iadd, 1) := by decide +kernel
theorem dL_law_1417 : decode cL_law 1417 = .ok (.iaload, 1) := by decide +kernel
theorem dL_law_1418 : decode cL_law 1418 = .ok (.aload_n 0, 1) := by decide +kernel
theorem dL_law_1419 : decode cL_law 1419 = .ok (.iload_n 3, 1) := by decide +kernel
theorem dL_law_1420 : decode cL_law 1420 = .ok (.iconst 3, 1) := by decide +kernel
theorem dL_law_1421 : decode cL_law 1421 = .ok (.iadd, 1) := by decide +kernel
theorem dL_law_1422 : decode cL_law 1422 = .ok (.iaload, 1) := by decide +kernel
theorem dL_law_1423 : decode cL_law 1423 = .ok (.aload_n 0, 1) := by decide +kernel
theorem dL_law_1424 : decode cL_law 1424 = .ok (.iload_n 3, 1) := by decide +kernel
theorem dL_law_1425 : decode cL_law 1425 = .ok (.iconst 4, 1) := by decide +kernel
theorem dL_law_1426 : decode cL_law 1426 = .ok (.iadd, 1) := by decide +kernel
theorem dL_law_1427 : decode cL_law 1427 = .ok (.iaload, 1) := by decide +kernel
theorem dL_law_1428 : decode cL_law 1428 = .ok (.invokevirtual 167, 3) := by decide +kernel
theorem dL_law_1431 : decode cL_law 1431 = .ok (.aload_n 2, 1) := by decide +kernel
theorem dL_law_1432 : decode cL_law 1432 = .ok (.aload_n 0, 1) := by decide +kernel
theorem dL_law_1433 : decode cL_law 1433 = .ok (.iload_n 3, 1) := by decide +kernel
theorem dL_law_1434 : decode cL_law 1434 = .ok (.iconst 1, 1) := by decide +kernel
theorem dL_law_1435 : decode cL_law 1435 = .ok (.iadd, 1) := by decide +kernel
theorem dL_law_1436 : decode cL_law 1436 = .ok (.iaload, 1) := by decide +kernel
theorem dL_law_1437 : decode cL_law 1437 = .ok (.aload_n 0, 1) := by decide +kernel
theorem dL_law_1438 : decode cL_law 1438 = .ok (.iload_n 3, 1) := by decide +kernel
theorem dL_law_1439 : decode cL_law 1439 = .ok (.iconst 2, 1) := by decide +kernel
theorem dL_law_1440 : decode cL_law 1440 = .ok (.iadd, 1) := by decide +kernel
theorem dL_law_1441 : decode cL_law 1441 = .ok (.iaload, 1) := by decide +kernel
theorem dL_law_1442 : decode cL_law 1442 = .ok (.aload_n 0, 1) := by decide +kernel
theorem dL_law_1443 : decode cL_law 1443 = .ok (.iload_n 3, 1) := by decide +kernel
theorem dL_law_1444 : decode cL_law 1444 = .ok (.iconst 3, 1) := by decide +kernel
theorem dL_law_1445 : decode cL_law 1445 = .ok (.iadd, 1) := by decide +kernel
theorem dL_law_1446 : decode cL_law 1446 = .ok (.iaload, 1) := by decide +kernel
theorem dL_law_1447 : decode cL_law 1447 = .ok (.aload_n 0, 1) := by decide +kernel
theorem dL_law_1448 : decode cL_law 1448 = .ok (.iload_n 3, 1) := by decide +kernel
theorem dL_law_1449 : decode cL_law 1449 = .ok (.iconst 4, 1) := by decide +kernel
theorem dL_law_1450 : decode cL_law 1450 = .ok (.iadd, 1) := by decide +kernel
theorem dL_law_1451 : decode cL_law 1451 = .ok (.iaload, 1) := by decide +kernel
theorem dL_law_1452 : decode cL_law 1452 = .ok (.invokevirtual 170, 3) := by decide +kernel
theorem dL_law_1455 : decode cL_law 1455 = .ok (.if_icmp .eq 196, 3) := by decide +kernel
theorem dL_law_1458 : decode cL_law 1458 = .ok (.iconst 0, 1) := by decide +kernel
theorem dL_law_1459 : decode cL_law 1459 = .ok (.ireturn, 1) := by decide +kernel
theorem dL_law_1460 : decode cL_law 1460 = .ok (.aload_n 1, 1) := by decide +kernel
theorem dL_law_1461 : decode cL_law 1461 = .ok (.aload_n 0, 1) := by decide +kernel
theorem dL_law_1462 : decode cL_law 1462 = .ok (.iload_n 3, 1) := by decide +kernel
theorem dL_law_1463 : decode cL_law 1463 = .ok (.iconst 1, 1) := by decide +kernel
theorem dL_law_1464 : decode cL_law 1464 = .ok (.iadd, 1) := by decide +kernel
theorem dL_law_1465 : decode cL_law 1465 = .ok (.iaload, 1) := by decide +kernel
theorem dL_law_1466 : decode cL_law 1466 = .ok (.aload_n 0, 1) := by decide +kernel
theorem dL_law_1467 : decode cL_law 1467 = .ok (.iload_n 3, 1) := by decide +kernel
theorem dL_law_1468 : decode cL_law 1468 = .ok (.iconst 2, 1) := by decide +kernel
theorem dL_law_1469 : decode cL_law 1469 = .ok (.iadd, 1) := by decide +kernel
theorem dL_law_1470 : decode cL_law 1470 = .ok (.iaload, 1) := by decide +kernel
theorem dL_law_1471 : decode cL_law 1471 = .ok (.aload_n 0, 1) := by decide +kernel
theorem dL_law_1472 : decode cL_law 1472 = .ok (.iload_n 3, 1) := by decide +kernel
theorem dL_law_1473 : decode cL_law 1473 = .ok (.iconst 3, 1) := by decide +kernel
theorem dL_law_1474 : decode cL_law 1474 = .ok (.iadd, 1) := by decide +kernel
theorem dL_law_1475 : decode cL_law 1475 = .ok (.iaload, 1) := by decide +kernel
theorem dL_law_1476 : decode cL_law 1476 = .ok (.aload_n 0, 1) := by decide +kernel
theorem dL_law_1477 : decode cL_law 1477 = .ok (.iload_n 3, 1) := by decide +kernel
theorem dL_law_1478 : decode cL_law 1478 = .ok (.iconst 4, 1) := by decide +kernel
theorem dL_law_1479 : decode cL_law 1479 = .ok (.iadd, 1) := by decide +kernel
theorem dL_law_1480 : decode cL_law 1480 = .ok (.iaload, 1) := by decide +kernel
theorem dL_law_1481 : decode cL_law 1481 = .ok (.invokevirtual 171, 3) := by decide +kernel
theorem dL_law_1484 : decode cL_law 1484 = .ok (.aload_n 2, 1) := by decide +kernel
theorem dL_law_1485 : decode cL_law 1485 = .ok (.aload_n 0, 1) := by decide +kernel
theorem dL_law_1486 : decode cL_law 1486 = .ok (.iload_n 3, 1) := by decide +kernel
theorem dL_law_1487 : decode cL_law 1487 = .ok (.iconst 1, 1) := by decide +kernel
theorem dL_law_1488 : decode cL_law 1488 = .ok (.iadd, 1) := by decide +kernel
theorem dL_law_1489 : decode cL_law 1489 = .ok (.iaload, 1) := by decide +kernel
theorem dL_law_1490 : decode cL_law 1490 = .ok (.aload_n 0, 1) := by decide +kernel
theorem dL_law_1491 : decode cL_law 1491 = .ok (.iload_n 3, 1) := by decide +kernel
theorem dL_law_1492 : decode cL_law 1492 = .ok (.iconst 2, 1) := by decide +kernel
theorem dL_law_1493 : decode cL_law 1493 = .ok (.iadd, 1) := by decide +kernel
theorem dL_law_1494 : decode cL_law 1494 = .ok (.iaload, 1) := by decide +kernel
theorem dL_law_1495 : decode cL_law 1495 = .ok (.aload_n 0, 1) := by decide +kernel
theorem dL_law_1496 : decode cL_law 1496 = .ok (.iload_n 3, 1) := by decide +kernel
theorem dL_law_1497 : decode cL_law 1497 = .ok (.iconst 3, 1) := by decide +kernel
theorem dL_law_1498 : decode cL_law 1498 = .ok (.iadd, 1) := by decide +kernel
theorem dL_law_1499 : decode cL_law 1499 = .ok (.iaload, 1) := by decide +kernel
theorem dL_law_1500 : decode cL_law 1500 = .ok (.aload_n 0, 1) := by decide +kernel
theorem dL_law_1501 : decode cL_law 1501 = .ok (.iload_n 3, 1) := by decide +kernel
theorem dL_law_1502 : decode cL_law 1502 = .ok (.iconst 4, 1) := by decide +kernel
theorem dL_law_1503 : decode cL_law 1503 = .ok (.iadd, 1) := by decide +kernel
theorem dL_law_1504 : decode cL_law 1504 = .ok (.iaload, 1) := by decide +kernel
theorem dL_law_1505 : decode cL_law 1505 = .ok (.invokevirtual 174, 3) := by decide +kernel
theorem dL_law_1508 : decode cL_law 1508 = .ok (.if_icmp .eq 143, 3) := by decide +kernel
theorem dL_law_1511 : decode cL_law 1511 = .ok (.iconst 0, 1) := by decide +kernel
theorem dL_law_1512 : decode cL_law 1512 = .ok (.ireturn, 1) := by decide +kernel
theorem dL_law_1513 : decode cL_law 1513 = .ok (.aload_n 1, 1) := by decide +kernel
theorem dL_law_1514 : decode cL_law 1514 = .ok (.aload_n 0, 1) := by decide +kernel
theorem dL_law_1515 : decode cL_law 1515 = .ok (.iload_n 3, 1) := by decide +kernel
theorem dL_law_1516 : decode cL_law 1516 = .ok (.iconst 1, 1) := by decide +kernel
theorem dL_law_1517 : decode cL_law 1517 = .ok (.iadd, 1) := by decide +kernel
theorem dL_law_1518 : decode cL_law 1518 = .ok (.iaload, 1) := by decide +kernel
theorem dL_law_1519 : decode cL_law 1519 = .ok (.aload_n 0, 1) := by decide +kernel
theorem dL_law_1520 : decode cL_law 1520 = .ok (.iload_n 3, 1) := by decide +kernel
theorem dL_law_1521 : decode cL_law 1521 = .ok (.iconst 2, 1) := by decide +kernel
theorem dL_law_1522 : decode cL_law 1522 = .ok (.iadd, 1) := by decide +kernel
theorem dL_law_1523 : decode cL_law 1523 = .ok (.iaload, 1) := by decide +kernel
theorem dL_law_1524 : decode cL_law 1524 = .ok (.invokevirtual 175, 3) := by decide +kernel
theorem dL_law_1527 : decode cL_law 1527 = .ok (.aload_n 2, 1) := by decide +kernel
theorem dL_law_1528 : decode cL_law 1528 = .ok (.aload_n 0, 1) := by decide +kernel
theorem dL_law_1529 : decode cL_law 1529 = .ok (.iload_n 3, 1) := by decide +kernel
theorem dL_law_1530 : decode cL_law 1530 = .ok (.iconst 1, 1) := by decide +kernel
theorem dL_law_1531 : decode cL_law 1531 = .ok (.iadd, 1) := by decide +kernel
theorem dL_law_1532 : decode cL_law 1532 = .ok (.iaload, 1) := by decide +kernel
theorem dL_law_1533 : decode cL_law 1533 = .ok (.aload_n 0, 1) := by decide +kernel
theorem dL_law_1534 : decode cL_law 1534 = .ok (.iload_n 3, 1) := by decide +kernel
theorem dL_law_1535 : decode cL_law 1535 = .ok (.iconst 2, 1) := by decide +kernel
theorem dL_law_1536 : decode cL_law 1536 = .ok (.iadd, 1) := by decide +kernel
theorem dL_law_1537 : decode cL_law 1537 = .ok (.iaload, 1) := by decide +kernel
theorem dL_law_1538 : decode cL_law 1538 = .ok (.invokevirtual 178, 3) := by decide +kernel
theorem dL_law_1541 : decode cL_law 1541 = .ok (.if_icmp .eq 110, 3) := by decide +kernel
theorem dL_law_1544 : decode cL_law 1544 = .ok (.iconst 0, 1) := by decide +kernel
theorem dL_law_1545 : decode cL_law 1545 = .ok (.ireturn, 1) := by decide +kernel
theorem dL_law_1546 : decode cL_law 1546 = .ok (.aload_n 1, 1) := by decide +kernel
theorem dL_law_1547 : decode cL_law 1547 = .ok (.aload_n 0, 1) := by decide +kernel
theorem dL_law_1548 : decode cL_law 1548 = .ok (.iload_n 3, 1) := by decide +kernel
theorem dL_law_1549 : decode cL_law 1549 = .ok (.iconst 1, 1) := by decide +kernel
theorem dL_law_1550 : decode cL_law 1550 = .ok (.iadd, 1) := by decide +kernel
theorem dL_law_1551 : decode cL_law 1551 = .ok (.iaload, 1) := by decide +kernel
theorem dL_law_1552 : decode cL_law 1552 = .ok (.invokevirtual 179, 3) := by decide +kernel
theorem dL_law_1555 : decode cL_law 1555 = .ok (.aload_n 2, 1) := by decide +kernel
theorem dL_law_1556 : decode cL_law 1556 = .ok (.aload_n 0, 1) := by decide +kernel
theorem dL_law_1557 : decode cL_law 1557 = .ok (.iload_n 3, 1) := by decide +kernel
theorem dL_law_1558 : decode cL_law 1558 = .ok (.iconst 1, 1) := by decide +kernel
theorem dL_law_1559 : decode cL_law 1559 = .ok (.iadd, 1) := by decide +kernel
theorem dL_law_1560 : decode cL_law 1560 = .ok (.iaload, 1) := by decide +kernel
theorem dL_law_1561 : decode cL_law 1561 = .ok (.invokevirtual 182, 3) := by decide +kernel
theorem dL_law_1564 : decode cL_law 1564 = .ok (.if_icmp .eq 87, 3) := by decide +kernel
theorem dL_law_1567 : decode cL_law 1567 = .ok (.iconst 0, 1) := by decide +kernel
theorem dL_law_1568 : decode cL_law 1568 = .ok (.ireturn, 1) := by decide +kernel
theorem dL_law_1569 : decode cL_law 1569 = .ok (.aload_n 1, 1) := by decide +kernel
theorem dL_law_1570 : decode cL_law 1570 = .ok (.aload_n 0, 1) := by decide +kernel
theorem dL_law_1571 : decode cL_law 1571 = .ok (.iload_n 3, 1) := by decide +kernel
theorem dL_law_1572 : decode cL_law 1572 = .ok (.iconst 1, 1) := by decide +kernel
theorem dL_law_1573 : decode cL_law 1573 = .ok (.iadd, 1) := by decide +kernel
theorem dL_law_1574 : decode cL_law 1574 = .ok (.iaload, 1) := by decide +kernel
theorem dL_law_1575 : decode cL_law 1575 = .ok (.invokevirtual 183, 3) := by decide +kernel
theorem dL_law_1578 : decode cL_law 1578 = .ok (.aload_n 2, 1) := by decide +kernel
theorem dL_law_1579 : decode cL_law 1579 = .ok (.aload_n 0, 1) := by decide +kernel
theorem dL_law_1580 : decode cL_law 1580 = .ok (.iload_n 3, 1) := by decide +kernel
theorem dL_law_1581 : decode cL_law 1581 = .ok (.iconst 1, 1) := by decide +kernel
theorem dL_law_1582 : decode cL_law 1582 = .ok (.iadd, 1) := by decide +kernel
theorem dL_law_1583 : decode cL_law 1583 = .ok (.iaload, 1) := by decide +kernel
theorem dL_law_1584 : decode cL_law 1584 = .ok (.invokevirtual 186, 3) := by decide +kernel
theorem dL_law_1587 : decode cL_law 1587 = .ok (.if_icmp .eq 64, 3) := by decide +kernel
theorem dL_law_1590 : decode cL_law 1590 = .ok (.iconst 0, 1) := by decide +kernel
theorem dL_law_1591 : decode cL_law 1591 = .ok (.ireturn, 1) := by decide +kernel
theorem dL_law_1592 : decode cL_law 1592 = .ok (.aload_n 1, 1) := by decide +kernel
theorem dL_law_1593 : decode cL_law 1593 = .ok (.aload_n 0, 1) := by decide +kernel
theorem dL_law_1594 : decode cL_law 1594 = .ok (.iload_n 3, 1) := by decide +kernel
theorem dL_law_1595 : decode cL_law 1595 = .ok (.iconst 1, 1) := by decide +kernel
theorem dL_law_1596 : decode cL_law 1596 = .ok (.iadd, 1) := by decide +kernel
theorem dL_law_1597 : decode cL_law 1597 = .ok (.iaload, 1) := by decide +kernel
theorem dL_law_1598 : decode cL_law 1598 = .ok (.invokevirtual 187, 3) := by decide +kernel
theorem dL_law_1601 : decode cL_law 1601 = .ok (.aload_n 2, 1) := by decide +kernel
theorem dL_law_1602 : decode cL_law 1602 = .ok (.aload_n 0, 1) := by decide +kernel
theorem dL_law_1603 : decode cL_law 1603 = .ok (.iload_n 3, 1) := by decide +kernel
theorem dL_law_1604 : decode cL_law 1604 = .ok (.iconst 1, 1) := by decide +kernel
theorem dL_law_1605 : decode cL_law 1605 = .ok (.iadd, 1) := by decide +kernel
theorem dL_law_1606 : decode cL_law 1606 = .ok (.iaload, 1) := by decide +kernel
theorem dL_law_1607 : decode cL_law 1607 = .ok (.invokevirtual 190, 3) := by decide +kernel
theorem dL_law_1610 : decode cL_law 1610 = .ok (.if_icmp .eq 41, 3) := by decide +kernel
theorem dL_law_1613 : decode cL_law 1613 = .ok (.iconst 0, 1) := by decide +kernel
theorem dL_law_1614 : decode cL_law 1614 = .ok (.ireturn, 1) := by decide +kernel
theorem dL_law_1615 : decode cL_law 1615 = .ok (.aload_n 1, 1) := by decide +kernel
theorem dL_law_1616 : decode cL_law 1616 = .ok (.aload_n 0, 1) := by decide +kernel
theorem dL_law_1617 : decode cL_law 1617 = .ok (.iload_n 3, 1) := by decide +kernel
theorem dL_law_1618 : decode cL_law 1618 = .ok (.iconst 1, 1) := by decide +kernel
theorem dL_law_1619 : decode cL_law 1619 = .ok (.iadd, 1) := by decide +kernel
theorem dL_law_1620 : decode cL_law 1620 = .ok (.iaload, 1) := by decide +kernel
theorem dL_law_1621 : decode cL_law 1621 = .ok (.invokevirtual 191, 3) := by decide +kernel
theorem dL_law_1624 : decode cL_law 1624 = .ok (.aload_n 2, 1) := by decide +kernel
theorem dL_law_1625 : decode cL_law 1625 = .ok (.aload_n 0, 1) := by decide +kernel
theorem dL_law_1626 : decode cL_law 1626 = .ok (.iload_n 3, 1) := by decide +kernel
theorem dL_law_1627 : decode cL_law 1627 = .ok (.iconst 1, 1) := by decide +kernel
theorem dL_law_1628 : decode cL_law 1628 = .ok (.iadd, 1) := by decide +kernel
theorem dL_law_1629 : decode cL_law 1629 = .ok (.iaload, 1) := by decide +kernel
theorem dL_law_1630 : decode cL_law 1630 = .ok (.invokevirtual 194, 3) := by decide +kernel
theorem dL_law_1633 : decode cL_law 1633 = .ok (.if_icmp .eq 18, 3) := by decide +kernel
theorem dL_law_1636 : decode cL_law 1636 = .ok (.iconst 0, 1) := by decide +kernel
theorem dL_law_1637 : decode cL_law 1637 = .ok (.ireturn, 1) := by decide +kernel
theorem dL_law_1638 : decode cL_law 1638 = .ok (.aload_n 1, 1) := by decide +kernel
theorem dL_law_1639 : decode cL_law 1639 = .ok (.invokevirtual 195, 3) := by decide +kernel
theorem dL_law_1642 : decode cL_law 1642 = .ok (.aload_n 2, 1) := by decide +kernel
theorem dL_law_1643 : decode cL_law 1643 = .ok (.invokevirtual 198, 3) := by decide +kernel
theorem dL_law_1646 : decode cL_law 1646 = .ok (.if_icmp .eq 5, 3) := by decide +kernel
theorem dL_law_1649 : decode cL_law 1649 = .ok (.iconst 0, 1) := by decide +kernel
theorem dL_law_1650 : decode cL_law 1650 = .ok (.ireturn, 1) := by decide +kernel
theorem dL_law_1651 : decode cL_law 1651 = .ok (.iinc 3 7, 3) := by decide +kernel
theorem dL_law_1654 : decode cL_law 1654 = .ok (.goto (-1636), 3) := by decide +kernel
theorem dL_law_1657 : decode cL_law 1657 = .ok (.iconst 1, 1) := by decide +kernel
theorem dL_law_1658 : decode cL_law 1658 = .ok (.ireturn, 1) := by decide +kernel
theorem cl_L_7 : Cond.classLink RL 7 RX11 ∈ tblG := tg 111 (by decide +kernel) (by decide +kernel)
theorem isn_X11 : Cond.instantiable RX11 17 ∈ tblG := tg 112 (by decide +kernel) (by decide +kernel)
theorem cd_X11_init : Cond.code yX11_init cX11_init 1 none ∈ tblG := tg 115 (by decide +kernel) (by decide +kernel)
theorem gW_X11_init : GoodIn tblG (wsG yX11_init cX11_init 1 none) := tgi cd_X11_init
theorem ml_L_9 : Cond.methodLink RL 9 yX11_init ∈ tblG := tg 113 (by decide +kernel) (by decide +kernel)
theorem im_X11_init : Cond.instanceMethod yX11_init ∈ tblG := tg 114 (by decide +kernel) (by decide +kernel)
theorem hs_X11_init : yX11_init.cls ≠ "java/lang/invoke/MethodHandle" ∧ yX11_init.cls ≠ "java/lang/invoke/VarHandle" ∧ (parseMethodDescriptor yX11_init.desc).map (fun d => d.parameters.length) = some 0 := by decide +kernel
theorem cl_L_10 : Cond.classLink RL 10 RX12 ∈ tblG := tg 1184 (by decide +kernel) (by decide +kernel)
theorem isn_X12 : Cond.instantiable RX12 52 ∈ tblG := tg 1185 (by decide +kernel) (by decide +kernel)
theorem cd_X12_init : Cond.code yX12_init cX12_init 1 none ∈ tblG := tg 1188 (by decide +kernel) (by decide +kernel)
theorem gW_X12_init : GoodIn tblG (wsG yX12_init cX12_init 1 none) := tgi cd_X12_init
theorem ml_L_12 : Cond.methodLink RL 12 yX12_init ∈ tblG := tg 1186 (by decide +kernel) (by decide +kernel)
theorem im_X12_init : Cond.instanceMethod yX12_init ∈ tblG := tg 1187 (by decide +kernel) (by decide +kernel)
theorem hs_X12_init : yX12_init.cls ≠ "java/lang/invoke/MethodHandle" ∧ yX12_init.cls ≠ "java/lang/invoke/VarHandle" ∧ (parseMethodDescriptor yX12_init.desc).map (fun d => d.parameters.length) = some 0 := by decide +kernel
theorem ml_L_13 : Cond.methodLink RL 13 yX11_wall ∈ tblG := tg 496 (by decide +kernel) (by decide +kernel)
theorem im_X11_wall : Cond.instanceMethod yX11_wall ∈ tblG := tg 497 (by decide +kernel) (by decide +kernel)
theorem se_X11_wall : Cond.selects RX11 yX11_wall yX11_wall ∈ tblG := tg 498 (by decide +kernel) (by decide +kernel)
theorem cd_X11_wall : Cond.code yX11_wall cX11_wall 4 (some .int) ∈ tblG := tg 499 (by decide +kernel) (by decide +kernel)
theorem gW_X11_wall : GoodIn tblG (wsG yX11_wall cX11_wall 4 (some .int)) := tgi cd_X11_wall
theorem gV_L_13 : GoodIn tblG (wsV RL 13 RX11 yX11_wall (wsG yX11_wall cX11_wall 4 (some .int))) := tgV ml_L_13 im_X11_wall se_X11_wall ini_X11 gW_X11_wall
theorem hv_X11_wall : yX11_wall.cls = RX11 ∧ yX11_wall.cls ≠ "java/lang/invoke/MethodHandle" ∧ yX11_wall.cls ≠ "java/lang/invoke/VarHandle" ∧ (parseMethodDescriptor yX11_wall.desc).map (fun d => d.parameters.length) = some 2 := by decide +kernel
theorem ml_L_17 : Cond.methodLink RL 17 yX12_wall ∈ tblG := tg 1375 (by decide +kernel) (by decide +kernel)
theorem im_X12_wall : Cond.instanceMethod yX12_wall ∈ tblG := tg 1376 (by decide +kernel) (by decide +kernel)
theorem se_X12_wall : Cond.selects RX12 yX12_wall yX12_wall ∈ tblG := tg 1377 (by decide +kernel) (by decide +kernel)
theorem cd_X12_wall : Cond.code yX12_wall cX12_wall 3 (some .int) ∈ tblG := tg 1378 (by decide +kernel) (by decide +kernel)
theorem gW_X12_wall : GoodIn tblG (wsG yX12_wall cX12_wall 3 (some .int)) := tgi cd_X12_wall
theorem gV_L_17 : GoodIn tblG (wsV RL 17 RX12 yX12_wall (wsG yX12_wall cX12_wall 3 (some .int))) := tgV ml_L_17 im_X12_wall se_X12_wall ini_X12 gW_X12_wall
theorem hv_X12_wall : yX12_wall.cls = RX12 ∧ yX12_wall.cls ≠ "java/lang/invoke/MethodHandle" ∧ yX12_wall.cls ≠ "java/lang/invoke/VarHandle" ∧ (parseMethodDescriptor yX12_wall.desc).map (fun d => d.parameters.length) = some 2 := by decide +kernel
theorem ml_L_18 : Cond.methodLink RL 18 yX11_glass ∈ tblG := tg 531 (by decide +kernel) (by decide +kernel)
theorem im_X11_glass : Cond.instanceMethod yX11_glass ∈ tblG := tg 532 (by decide +kernel) (by decide +kernel)
theorem se_X11_glass : Cond.selects RX11 yX11_glass yX11_glass ∈ tblG := tg 533 (by decide +kernel) (by decide +kernel)
theorem cd_X11_glass : Cond.code yX11_glass cX11_glass 6 (some .int) ∈ tblG := tg 534 (by decide +kernel) (by decide +kernel)
theorem gW_X11_glass : GoodIn tblG (wsG yX11_glass cX11_glass 6 (some .int)) := tgi cd_X11_glass
theorem gV_L_18 : GoodIn tblG (wsV RL 18 RX11 yX11_glass (wsG yX11_glass cX11_glass 6 (some .int))) := tgV ml_L_18 im_X11_glass se_X11_glass ini_X11 gW_X11_glass
theorem hv_X11_glass : yX11_glass.cls = RX11 ∧ yX11_glass.cls ≠ "java/lang/invoke/MethodHandle" ∧ yX11_glass.cls ≠ "java/lang/invoke/VarHandle" ∧ (parseMethodDescriptor yX11_glass.desc).map (fun d => d.parameters.length) = some 4 := by decide +kernel
theorem ml_L_22 : Cond.methodLink RL 22 yX12_glass ∈ tblG := tg 1407 (by decide +kernel) (by decide +kernel)
theorem im_X12_glass : Cond.instanceMethod yX12_glass ∈ tblG := tg 1408 (by decide +kernel) (by decide +kernel)
theorem se_X12_glass : Cond.selects RX12 yX12_glass yX12_glass ∈ tblG := tg 1409 (by decide +kernel) (by decide +kernel)
theorem cd_X12_glass : Cond.code yX12_glass cX12_glass 7 (some .int) ∈ tblG := tg 1410 (by decide +kernel) (by decide +kernel)
theorem gW_X12_glass : GoodIn tblG (wsG yX12_glass cX12_glass 7 (some .int)) := tgi cd_X12_glass
theorem gV_L_22 : GoodIn tblG (wsV RL 22 RX12 yX12_glass (wsG yX12_glass cX12_glass 7 (some .int))) := tgV ml_L_22 im_X12_glass se_X12_glass ini_X12 gW_X12_glass
theorem hv_X12_glass : yX12_glass.cls = RX12 ∧ yX12_glass.cls ≠ "java/lang/invoke/MethodHandle" ∧ yX12_glass.cls ≠ "java/lang/invoke/VarHandle" ∧ (parseMethodDescriptor yX12_glass.desc).map (fun d => d.parameters.length) = some 4 := by decide +kernel
theorem ml_L_23 : Cond.methodLink RL 23 yX11_turn ∈ tblG := tg 566 (by decide +kernel) (by decide +kernel)
theorem im_X11_turn : Cond.instanceMethod yX11_turn ∈ tblG := tg 567 (by decide +kernel) (by decide +kernel)
theorem se_X11_turn : Cond.selects RX11 yX11_turn yX11_turn ∈ tblG := tg 568 (by decide +kernel) (by decide +kernel)
theorem cd_X11_turn : Cond.code yX11_turn cX11_turn 5 (some .int) ∈ tblG := tg 569 (by decide +kernel) (by decide +kernel)
theorem gW_X11_turn : GoodIn tblG (wsG yX11_turn cX11_turn 5 (some .int)) := tgi cd_X11_turn
theorem gV_L_23 : GoodIn tblG (wsV RL 23 RX11 yX11_turn (wsG yX11_turn cX11_turn 5 (some .int))) := tgV ml_L_23 im_X11_turn se_X11_turn ini_X11 gW_X11_turn
theorem hv_X11_turn : yX11_turn.cls = RX11 ∧ yX11_turn.cls ≠ "java/lang/invoke/MethodHandle" ∧ yX11_turn.cls ≠ "java/lang/invoke/VarHandle" ∧ (parseMethodDescriptor yX11_turn.desc).map (fun d => d.parameters.length) = some 3 := by decide +kernel
theorem ml_L_27 : Cond.methodLink RL 27 yX12_turn ∈ tblG := tg 1426 (by decide +kernel) (by decide +kernel)
theorem im_X12_turn : Cond.instanceMethod yX12_turn ∈ tblG := tg 1427 (by decide +kernel) (by decide +kernel)
theorem se_X12_turn : Cond.selects RX12 yX12_turn yX12_turn ∈ tblG := tg 1428 (by decide +kernel) (by decide +kernel)
theorem cd_X12_turn : Cond.code yX12_turn cX12_turn 4 (some .int) ∈ tblG := tg 1429 (by decide +kernel) (by decide +kernel)
theorem gW_X12_turn : GoodIn tblG (wsG yX12_turn cX12_turn 4 (some .int)) := tgi cd_X12_turn
theorem gV_L_27 : GoodIn tblG (wsV RL 27 RX12 yX12_turn (wsG yX12_turn cX12_turn 4 (some .int))) := tgV ml_L_27 im_X12_turn se_X12_turn ini_X12 gW_X12_turn
theorem hv_X12_turn : yX12_turn.cls = RX12 ∧ yX12_turn.cls ≠ "java/lang/invoke/MethodHandle" ∧ yX12_turn.cls ≠ "java/lang/invoke/VarHandle" ∧ (parseMethodDescriptor yX12_turn.desc).map (fun d => d.parameters.length) = some 3 := by decide +kernel
theorem ml_L_28 : Cond.methodLink RL 28 yX11_of ∈ tblG := tg 576 (by decide +kernel) (by decide +kernel)
theorem im_X11_of : Cond.instanceMethod yX11_of ∈ tblG := tg 577 (by decide +kernel) (by decide +kernel)
theorem se_X11_of : Cond.selects RX11 yX11_of yX11_of ∈ tblG := tg 578 (by decide +kernel) (by decide +kernel)
theorem cd_X11_of : Cond.code yX11_of cX11_of 3 (some .int) ∈ tblG := tg 579 (by decide +kernel) (by decide +kernel)
theorem gW_X11_of : GoodIn tblG (wsG yX11_of cX11_of 3 (some .int)) := tgi cd_X11_of
theorem gV_L_28 : GoodIn tblG (wsV RL 28 RX11 yX11_of (wsG yX11_of cX11_of 3 (some .int))) := tgV ml_L_28 im_X11_of se_X11_of ini_X11 gW_X11_of
theorem hv_X11_of : yX11_of.cls = RX11 ∧ yX11_of.cls ≠ "java/lang/invoke/MethodHandle" ∧ yX11_of.cls ≠ "java/lang/invoke/VarHandle" ∧ (parseMethodDescriptor yX11_of.desc).map (fun d => d.parameters.length) = some 2 := by decide +kernel
theorem ml_L_31 : Cond.methodLink RL 31 yX12_of ∈ tblG := tg 1434 (by decide +kernel) (by decide +kernel)
theorem im_X12_of : Cond.instanceMethod yX12_of ∈ tblG := tg 1435 (by decide +kernel) (by decide +kernel)
theorem se_X12_of : Cond.selects RX12 yX12_of yX12_of ∈ tblG := tg 1436 (by decide +kernel) (by decide +kernel)
theorem cd_X12_of : Cond.code yX12_of cX12_of 3 (some .int) ∈ tblG := tg 1437 (by decide +kernel) (by decide +kernel)
theorem gW_X12_of : GoodIn tblG (wsG yX12_of cX12_of 3 (some .int)) := tgi cd_X12_of
theorem gV_L_31 : GoodIn tblG (wsV RL 31 RX12 yX12_of (wsG yX12_of cX12_of 3 (some .int))) := tgV ml_L_31 im_X12_of se_X12_of ini_X12 gW_X12_of
theorem hv_X12_of : yX12_of.cls = RX12 ∧ yX12_of.cls ≠ "java/lang/invoke/MethodHandle" ∧ yX12_of.cls ≠ "java/lang/invoke/VarHandle" ∧ (parseMethodDescriptor yX12_of.desc).map (fun d => d.parameters.length) = some 2 := by decide +kernel
theorem ml_L_32 : Cond.methodLink RL 32 yX11_body ∈ tblG := tg 580 (by decide +kernel) (by decide +kernel)
theorem im_X11_body : Cond.instanceMethod yX11_body ∈ tblG := tg 581 (by decide +kernel) (by decide +kernel)
theorem se_X11_body : Cond.selects RX11 yX11_body yX11_body ∈ tblG := tg 582 (by decide +kernel) (by decide +kernel)
theorem cd_X11_body : Cond.code yX11_body cX11_body 1 (some .int) ∈ tblG := tg 583 (by decide +kernel) (by decide +kernel)
theorem gW_X11_body : GoodIn tblG (wsG yX11_body cX11_body 1 (some .int)) := tgi cd_X11_body
theorem gV_L_32 : GoodIn tblG (wsV RL 32 RX11 yX11_body (wsG yX11_body cX11_body 1 (some .int))) := tgV ml_L_32 im_X11_body se_X11_body ini_X11 gW_X11_body
theorem hv_X11_body : yX11_body.cls = RX11 ∧ yX11_body.cls ≠ "java/lang/invoke/MethodHandle" ∧ yX11_body.cls ≠ "java/lang/invoke/VarHandle" ∧ (parseMethodDescriptor yX11_body.desc).map (fun d => d.parameters.length) = some 0 := by decide +kernel
theorem ml_L_36 : Cond.methodLink RL 36 yX12_body ∈ tblG := tg 1439 (by decide +kernel) (by decide +kernel)
theorem im_X12_body : Cond.instanceMethod yX12_body ∈ tblG := tg 1440 (by decide +kernel) (by decide +kernel)
theorem se_X12_body : Cond.selects RX12 yX12_body yX12_body ∈ tblG := tg 1441 (by decide +kernel) (by decide +kernel)
theorem cd_X12_body : Cond.code yX12_body cX12_body 3 (some .int) ∈ tblG := tg 1442 (by decide +kernel) (by decide +kernel)
theorem gW_X12_body : GoodIn tblG (wsG yX12_body cX12_body 3 (some .int)) := tgi cd_X12_body
theorem gV_L_36 : GoodIn tblG (wsV RL 36 RX12 yX12_body (wsG yX12_body cX12_body 3 (some .int))) := tgV ml_L_36 im_X12_body se_X12_body ini_X12 gW_X12_body
theorem hv_X12_body : yX12_body.cls = RX12 ∧ yX12_body.cls ≠ "java/lang/invoke/MethodHandle" ∧ yX12_body.cls ≠ "java/lang/invoke/VarHandle" ∧ (parseMethodDescriptor yX12_body.desc).map (fun d => d.parameters.length) = some 0 := by decide +kernel
theorem ml_L_37 : Cond.methodLink RL 37 yX11_stay ∈ tblG := tg 584 (by decide +kernel) (by decide +kernel)
theorem im_X11_stay : Cond.instanceMethod yX11_stay ∈ tblG := tg 585 (by decide +kernel) (by decide +kernel)
theorem se_X11_stay : Cond.selects RX11 yX11_stay yX11_stay ∈ tblG := tg 586 (by decide +kernel) (by decide +kernel)
theorem cd_X11_stay : Cond.code yX11_stay cX11_stay 5 (some .int) ∈ tblG := tg 587 (by decide +kernel) (by decide +kernel)
theorem gW_X11_stay : GoodIn tblG (wsG yX11_stay cX11_stay 5 (some .int)) := tgi cd_X11_stay
theorem gV_L_37 : GoodIn tblG (wsV RL 37 RX11 yX11_stay (wsG yX11_stay cX11_stay 5 (some .int))) := tgV ml_L_37 im_X11_stay se_X11_stay ini_X11 gW_X11_stay
theorem hv_X11_stay : yX11_stay.cls = RX11 ∧ yX11_stay.cls ≠ "java/lang/invoke/MethodHandle" ∧ yX11_stay.cls ≠ "java/lang/invoke/VarHandle" ∧ (parseMethodDescriptor yX11_stay.desc).map (fun d => d.parameters.length) = some 4 := by decide +kernel
theorem ml_L_40 : Cond.methodLink RL 40 yX12_stay ∈ tblG := tg 1443 (by decide +kernel) (by decide +kernel)
theorem im_X12_stay : Cond.instanceMethod yX12_stay ∈ tblG := tg 1444 (by decide +kernel) (by decide +kernel)
theorem se_X12_stay : Cond.selects RX12 yX12_stay yX12_stay ∈ tblG := tg 1445 (by decide +kernel) (by decide +kernel)
theorem cd_X12_stay : Cond.code yX12_stay cX12_stay 5 (some .int) ∈ tblG := tg 1446 (by decide +kernel) (by decide +kernel)
theorem gW_X12_stay : GoodIn tblG (wsG yX12_stay cX12_stay 5 (some .int)) := tgi cd_X12_stay
theorem gV_L_40 : GoodIn tblG (wsV RL 40 RX12 yX12_stay (wsG yX12_stay cX12_stay 5 (some .int))) := tgV ml_L_40 im_X12_stay se_X12_stay ini_X12 gW_X12_stay
theorem hv_X12_stay : yX12_stay.cls = RX12 ∧ yX12_stay.cls ≠ "java/lang/invoke/MethodHandle" ∧ yX12_stay.cls ≠ "java/lang/invoke/VarHandle" ∧ (parseMethodDescriptor yX12_stay.desc).map (fun d => d.parameters.length) = some 4 := by decide +kernel
theorem ml_L_41 : Cond.methodLink RL 41 yX11_where ∈ tblG := tg 604 (by decide +kernel) (by decide +kernel)
theorem im_X11_where : Cond.instanceMethod yX11_where ∈ tblG := tg 605 (by decide +kernel) (by decide +kernel)
theorem se_X11_where : Cond.selects RX11 yX11_where yX11_where ∈ tblG := tg 606 (by decide +kernel) (by decide +kernel)
theorem cd_X11_where : Cond.code yX11_where cX11_where 3 (some .int) ∈ tblG := tg 607 (by decide +kernel) (by decide +kernel)
theorem gW_X11_where : GoodIn tblG (wsG yX11_where cX11_where 3 (some .int)) := tgi cd_X11_where
theorem gV_L_41 : GoodIn tblG (wsV RL 41 RX11 yX11_where (wsG yX11_where cX11_where 3 (some .int))) := tgV ml_L_41 im_X11_where se_X11_where ini_X11 gW_X11_where
theorem hv_X11_where : yX11_where.cls = RX11 ∧ yX11_where.cls ≠ "java/lang/invoke/MethodHandle" ∧ yX11_where.cls ≠ "java/lang/invoke/VarHandle" ∧ (parseMethodDescriptor yX11_where.desc).map (fun d => d.parameters.length) = some 2 := by decide +kernel
theorem ml_L_44 : Cond.methodLink RL 44 yX12_where ∈ tblG := tg 1459 (by decide +kernel) (by decide +kernel)
theorem im_X12_where : Cond.instanceMethod yX12_where ∈ tblG := tg 1460 (by decide +kernel) (by decide +kernel)
theorem se_X12_where : Cond.selects RX12 yX12_where yX12_where ∈ tblG := tg 1461 (by decide +kernel) (by decide +kernel)
theorem cd_X12_where : Cond.code yX12_where cX12_where 3 (some .int) ∈ tblG := tg 1462 (by decide +kernel) (by decide +kernel)
theorem gW_X12_where : GoodIn tblG (wsG yX12_where cX12_where 3 (some .int)) := tgi cd_X12_where
theorem gV_L_44 : GoodIn tblG (wsV RL 44 RX12 yX12_where (wsG yX12_where cX12_where 3 (some .int))) := tgV ml_L_44 im_X12_where se_X12_where ini_X12 gW_X12_where
theorem hv_X12_where : yX12_where.cls = RX12 ∧ yX12_where.cls ≠ "java/lang/invoke/MethodHandle" ∧ yX12_where.cls ≠ "java/lang/invoke/VarHandle" ∧ (parseMethodDescriptor yX12_where.desc).map (fun d => d.parameters.length) = some 2 := by decide +kernel
theorem ml_L_45 : Cond.methodLink RL 45 yX11_least ∈ tblG := tg 608 (by decide +kernel) (by decide +kernel)
theorem im_X11_least : Cond.instanceMethod yX11_least ∈ tblG := tg 609 (by decide +kernel) (by decide +kernel)
theorem se_X11_least : Cond.selects RX11 yX11_least yX11_least ∈ tblG := tg 610 (by decide +kernel) (by decide +kernel)
theorem cd_X11_least : Cond.code yX11_least cX11_least 3 (some .int) ∈ tblG := tg 611 (by decide +kernel) (by decide +kernel)
theorem gW_X11_least : GoodIn tblG (wsG yX11_least cX11_least 3 (some .int)) := tgi cd_X11_least
theorem gV_L_45 : GoodIn tblG (wsV RL 45 RX11 yX11_least (wsG yX11_least cX11_least 3 (some .int))) := tgV ml_L_45 im_X11_least se_X11_least ini_X11 gW_X11_least
theorem hv_X11_least : yX11_least.cls = RX11 ∧ yX11_least.cls ≠ "java/lang/invoke/MethodHandle" ∧ yX11_least.cls ≠ "java/lang/invoke/VarHandle" ∧ (parseMethodDescriptor yX11_least.desc).map (fun d => d.parameters.length) = some 1 := by decide +kernel
theorem ml_L_49 : Cond.methodLink RL 49 yX12_least ∈ tblG := tg 1467 (by decide +kernel) (by decide +kernel)
theorem im_X12_least : Cond.instanceMethod yX12_least ∈ tblG := tg 1468 (by decide +kernel) (by decide +kernel)
theorem se_X12_least : Cond.selects RX12 yX12_least yX12_least ∈ tblG := tg 1469 (by decide +kernel) (by decide +kernel)
theorem cd_X12_least : Cond.code yX12_least cX12_least 2 (some .int) ∈ tblG := tg 1470 (by decide +kernel) (by decide +kernel)
theorem gW_X12_least : GoodIn tblG (wsG yX12_least cX12_least 2 (some .int)) := tgi cd_X12_least
theorem gV_L_49 : GoodIn tblG (wsV RL 49 RX12 yX12_least (wsG yX12_least cX12_least 2 (some .int))) := tgV ml_L_49 im_X12_least se_X12_least ini_X12 gW_X12_least
theorem hv_X12_least : yX12_least.cls = RX12 ∧ yX12_least.cls ≠ "java/lang/invoke/MethodHandle" ∧ yX12_least.cls ≠ "java/lang/invoke/VarHandle" ∧ (parseMethodDescriptor yX12_least.desc).map (fun d => d.parameters.length) = some 1 := by decide +kernel
theorem ml_L_50 : Cond.methodLink RL 50 yX11_feed ∈ tblG := tg 613 (by decide +kernel) (by decide +kernel)
theorem im_X11_feed : Cond.instanceMethod yX11_feed ∈ tblG := tg 614 (by decide +kernel) (by decide +kernel)
theorem se_X11_feed : Cond.selects RX11 yX11_feed yX11_feed ∈ tblG := tg 615 (by decide +kernel) (by decide +kernel)
theorem cd_X11_feed : Cond.code yX11_feed cX11_feed 6 (some .int) ∈ tblG := tg 616 (by decide +kernel) (by decide +kernel)
theorem gW_X11_feed : GoodIn tblG (wsG yX11_feed cX11_feed 6 (some .int)) := tgi cd_X11_feed
theorem gV_L_50 : GoodIn tblG (wsV RL 50 RX11 yX11_feed (wsG yX11_feed cX11_feed 6 (some .int))) := tgV ml_L_50 im_X11_feed se_X11_feed ini_X11 gW_X11_feed
theorem hv_X11_feed : yX11_feed.cls = RX11 ∧ yX11_feed.cls ≠ "java/lang/invoke/MethodHandle" ∧ yX11_feed.cls ≠ "java/lang/invoke/VarHandle" ∧ (parseMethodDescriptor yX11_feed.desc).map (fun d => d.parameters.length) = some 5 := by decide +kernel
theorem ml_L_54 : Cond.methodLink RL 54 yX12_feed ∈ tblG := tg 1480 (by decide +kernel) (by decide +kernel)
theorem im_X12_feed : Cond.instanceMethod yX12_feed ∈ tblG := tg 1481 (by decide +kernel) (by decide +kernel)
theorem se_X12_feed : Cond.selects RX12 yX12_feed yX12_feed ∈ tblG := tg 1482 (by decide +kernel) (by decide +kernel)
theorem cd_X12_feed : Cond.code yX12_feed cX12_feed 6 (some .int) ∈ tblG := tg 1483 (by decide +kernel) (by decide +kernel)
theorem gW_X12_feed : GoodIn tblG (wsG yX12_feed cX12_feed 6 (some .int)) := tgi cd_X12_feed
theorem gV_L_54 : GoodIn tblG (wsV RL 54 RX12 yX12_feed (wsG yX12_feed cX12_feed 6 (some .int))) := tgV ml_L_54 im_X12_feed se_X12_feed ini_X12 gW_X12_feed
theorem hv_X12_feed : yX12_feed.cls = RX12 ∧ yX12_feed.cls ≠ "java/lang/invoke/MethodHandle" ∧ yX12_feed.cls ≠ "java/lang/invoke/VarHandle" ∧ (parseMethodDescriptor yX12_feed.desc).map (fun d => d.parameters.length) = some 5 := by decide +kernel
theorem ml_L_55 : Cond.methodLink RL 55 yX11_end ∈ tblG := tg 621 (by decide +kernel) (by decide +kernel)
theorem im_X11_end : Cond.instanceMethod yX11_end ∈ tblG := tg 622 (by decide +kernel) (by decide +kernel)
theorem se_X11_end : Cond.selects RX11 yX11_end yX11_end ∈ tblG := tg 623 (by decide +kernel) (by decide +kernel)
theorem cd_X11_end : Cond.code yX11_end cX11_end 2 (some .int) ∈ tblG := tg 624 (by decide +kernel) (by decide +kernel)
theorem gW_X11_end : GoodIn tblG (wsG yX11_end cX11_end 2 (some .int)) := tgi cd_X11_end
theorem gV_L_55 : GoodIn tblG (wsV RL 55 RX11 yX11_end (wsG yX11_end cX11_end 2 (some .int))) := tgV ml_L_55 im_X11_end se_X11_end ini_X11 gW_X11_end
theorem hv_X11_end : yX11_end.cls = RX11 ∧ yX11_end.cls ≠ "java/lang/invoke/MethodHandle" ∧ yX11_end.cls ≠ "java/lang/invoke/VarHandle" ∧ (parseMethodDescriptor yX11_end.desc).map (fun d => d.parameters.length) = some 1 := by decide +kernel
theorem ml_L_58 : Cond.methodLink RL 58 yX12_end ∈ tblG := tg 1488 (by decide +kernel) (by decide +kernel)
theorem im_X12_end : Cond.instanceMethod yX12_end ∈ tblG := tg 1489 (by decide +kernel) (by decide +kernel)
theorem se_X12_end : Cond.selects RX12 yX12_end yX12_end ∈ tblG := tg 1490 (by decide +kernel) (by decide +kernel)
theorem cd_X12_end : Cond.code yX12_end cX12_end 2 (some .int) ∈ tblG := tg 1491 (by decide +kernel) (by decide +kernel)
theorem gW_X12_end : GoodIn tblG (wsG yX12_end cX12_end 2 (some .int)) := tgi cd_X12_end
theorem gV_L_58 : GoodIn tblG (wsV RL 58 RX12 yX12_end (wsG yX12_end cX12_end 2 (some .int))) := tgV ml_L_58 im_X12_end se_X12_end ini_X12 gW_X12_end
theorem hv_X12_end : yX12_end.cls = RX12 ∧ yX12_end.cls ≠ "java/lang/invoke/MethodHandle" ∧ yX12_end.cls ≠ "java/lang/invoke/VarHandle" ∧ (parseMethodDescriptor yX12_end.desc).map (fun d => d.parameters.length) = some 1 := by decide +kernel
theorem ml_L_59 : Cond.methodLink RL 59 yX11_row ∈ tblG := tg 625 (by decide +kernel) (by decide +kernel)
theorem im_X11_row : Cond.instanceMethod yX11_row ∈ tblG := tg 626 (by decide +kernel) (by decide +kernel)
theorem se_X11_row : Cond.selects RX11 yX11_row yX11_row ∈ tblG := tg 627 (by decide +kernel) (by decide +kernel)
theorem cd_X11_row : Cond.code yX11_row cX11_row 4 (some .int) ∈ tblG := tg 628 (by decide +kernel) (by decide +kernel)
theorem gW_X11_row : GoodIn tblG (wsG yX11_row cX11_row 4 (some .int)) := tgi cd_X11_row
theorem gV_L_59 : GoodIn tblG (wsV RL 59 RX11 yX11_row (wsG yX11_row cX11_row 4 (some .int))) := tgV ml_L_59 im_X11_row se_X11_row ini_X11 gW_X11_row
theorem hv_X11_row : yX11_row.cls = RX11 ∧ yX11_row.cls ≠ "java/lang/invoke/MethodHandle" ∧ yX11_row.cls ≠ "java/lang/invoke/VarHandle" ∧ (parseMethodDescriptor yX11_row.desc).map (fun d => d.parameters.length) = some 0 := by decide +kernel
theorem ml_L_62 : Cond.methodLink RL 62 yX12_row ∈ tblG := tg 1472 (by decide +kernel) (by decide +kernel)
theorem im_X12_row : Cond.instanceMethod yX12_row ∈ tblG := tg 1473 (by decide +kernel) (by decide +kernel)
theorem se_X12_row : Cond.selects RX12 yX12_row yX12_row ∈ tblG := tg 1474 (by decide +kernel) (by decide +kernel)
theorem cd_X12_row : Cond.code yX12_row cX12_row 5 (some .int) ∈ tblG := tg 1475 (by decide +kernel) (by decide +kernel)
theorem gW_X12_row : GoodIn tblG (wsG yX12_row cX12_row 5 (some .int)) := tgi cd_X12_row
theorem gV_L_62 : GoodIn tblG (wsV RL 62 RX12 yX12_row (wsG yX12_row cX12_row 5 (some .int))) := tgV ml_L_62 im_X12_row se_X12_row ini_X12 gW_X12_row
theorem hv_X12_row : yX12_row.cls = RX12 ∧ yX12_row.cls ≠ "java/lang/invoke/MethodHandle" ∧ yX12_row.cls ≠ "java/lang/invoke/VarHandle" ∧ (parseMethodDescriptor yX12_row.desc).map (fun d => d.parameters.length) = some 0 := by decide +kernel
theorem ml_L_63 : Cond.methodLink RL 63 yX11_faded ∈ tblG := tg 633 (by decide +kernel) (by decide +kernel)
theorem im_X11_faded : Cond.instanceMethod yX11_faded ∈ tblG := tg 634 (by decide +kernel) (by decide +kernel)
theorem se_X11_faded : Cond.selects RX11 yX11_faded yX11_faded ∈ tblG := tg 635 (by decide +kernel) (by decide +kernel)
theorem cd_X11_faded : Cond.code yX11_faded cX11_faded 1 (some .int) ∈ tblG := tg 636 (by decide +kernel) (by decide +kernel)
theorem gW_X11_faded : GoodIn tblG (wsG yX11_faded cX11_faded 1 (some .int)) := tgi cd_X11_faded
theorem gV_L_63 : GoodIn tblG (wsV RL 63 RX11 yX11_faded (wsG yX11_faded cX11_faded 1 (some .int))) := tgV ml_L_63 im_X11_faded se_X11_faded ini_X11 gW_X11_faded
theorem hv_X11_faded : yX11_faded.cls = RX11 ∧ yX11_faded.cls ≠ "java/lang/invoke/MethodHandle" ∧ yX11_faded.cls ≠ "java/lang/invoke/VarHandle" ∧ (parseMethodDescriptor yX11_faded.desc).map (fun d => d.parameters.length) = some 0 := by decide +kernel
theorem ml_L_66 : Cond.methodLink RL 66 yX12_faded ∈ tblG := tg 1476 (by decide +kernel) (by decide +kernel)
theorem im_X12_faded : Cond.instanceMethod yX12_faded ∈ tblG := tg 1477 (by decide +kernel) (by decide +kernel)
theorem se_X12_faded : Cond.selects RX12 yX12_faded yX12_faded ∈ tblG := tg 1478 (by decide +kernel) (by decide +kernel)
theorem cd_X12_faded : Cond.code yX12_faded cX12_faded 1 (some .int) ∈ tblG := tg 1479 (by decide +kernel) (by decide +kernel)
theorem gW_X12_faded : GoodIn tblG (wsG yX12_faded cX12_faded 1 (some .int)) := tgi cd_X12_faded
theorem gV_L_66 : GoodIn tblG (wsV RL 66 RX12 yX12_faded (wsG yX12_faded cX12_faded 1 (some .int))) := tgV ml_L_66 im_X12_faded se_X12_faded ini_X12 gW_X12_faded
theorem hv_X12_faded : yX12_faded.cls = RX12 ∧ yX12_faded.cls ≠ "java/lang/invoke/MethodHandle" ∧ yX12_faded.cls ≠ "java/lang/invoke/VarHandle" ∧ (parseMethodDescriptor yX12_faded.desc).map (fun d => d.parameters.length) = some 0 := by decide +kernel
theorem ml_L_67 : Cond.methodLink RL 67 yX11_law ∈ tblG := tg 637 (by decide +kernel) (by decide +kernel)
theorem im_X11_law : Cond.instanceMethod yX11_law ∈ tblG := tg 638 (by decide +kernel) (by decide +kernel)
theorem se_X11_law : Cond.selects RX11 yX11_law yX11_law ∈ tblG := tg 639 (by decide +kernel) (by decide +kernel)
theorem cd_X11_law : Cond.code yX11_law cX11_law 3 (some .int) ∈ tblG := tg 640 (by decide +kernel) (by decide +kernel)
theorem gW_X11_law : GoodIn tblG (wsG yX11_law cX11_law 3 (some .int)) := tgi cd_X11_law
theorem gV_L_67 : GoodIn tblG (wsV RL 67 RX11 yX11_law (wsG yX11_law cX11_law 3 (some .int))) := tgV ml_L_67 im_X11_law se_X11_law ini_X11 gW_X11_law
theorem hv_X11_law : yX11_law.cls = RX11 ∧ yX11_law.cls ≠ "java/lang/invoke/MethodHandle" ∧ yX11_law.cls ≠ "java/lang/invoke/VarHandle" ∧ (parseMethodDescriptor yX11_law.desc).map (fun d => d.parameters.length) = some 0 := by decide +kernel
theorem ml_L_70 : Cond.methodLink RL 70 yX12_law ∈ tblG := tg 1496 (by decide +kernel) (by decide +kernel)
theorem im_X12_law : Cond.instanceMethod yX12_law ∈ tblG := tg 1497 (by decide +kernel) (by decide +kernel)
theorem se_X12_law : Cond.selects RX12 yX12_law yX12_law ∈ tblG := tg 1498 (by decide +kernel) (by decide +kernel)
theorem cd_X12_law : Cond.code yX12_law cX12_law 3 (some .int) ∈ tblG := tg 1499 (by decide +kernel) (by decide +kernel)
theorem gW_X12_law : GoodIn tblG (wsG yX12_law cX12_law 3 (some .int)) := tgi cd_X12_law
theorem gV_L_70 : GoodIn tblG (wsV RL 70 RX12 yX12_law (wsG yX12_law cX12_law 3 (some .int))) := tgV ml_L_70 im_X12_law se_X12_law ini_X12 gW_X12_law
theorem hv_X12_law : yX12_law.cls = RX12 ∧ yX12_law.cls ≠ "java/lang/invoke/MethodHandle" ∧ yX12_law.cls ≠ "java/lang/invoke/VarHandle" ∧ (parseMethodDescriptor yX12_law.desc).map (fun d => d.parameters.length) = some 0 := by decide +kernel
theorem ml_L_71 : Cond.methodLink RL 71 yX11_fault ∈ tblG := tg 796 (by decide +kernel) (by decide +kernel)
theorem im_X11_fault : Cond.instanceMethod yX11_fault ∈ tblG := tg 797 (by decide +kernel) (by decide +kernel)
theorem se_X11_fault : Cond.selects RX11 yX11_fault yX11_fault ∈ tblG := tg 798 (by decide +kernel) (by decide +kernel)
theorem cd_X11_fault : Cond.code yX11_fault cX11_fault 1 (some .int) ∈ tblG := tg 799 (by decide +kernel) (by decide +kernel)
theorem gW_X11_fault : GoodIn tblG (wsG yX11_fault cX11_fault 1 (some .int)) := tgi cd_X11_fault
theorem gV_L_71 : GoodIn tblG (wsV RL 71 RX11 yX11_fault (wsG yX11_fault cX11_fault 1 (some .int))) := tgV ml_L_71 im_X11_fault se_X11_fault ini_X11 gW_X11_fault
theorem hv_X11_fault : yX11_fault.cls = RX11 ∧ yX11_fault.cls ≠ "java/lang/invoke/MethodHandle" ∧ yX11_fault.cls ≠ "java/lang/invoke/VarHandle" ∧ (parseMethodDescriptor yX11_fault.desc).map (fun d => d.parameters.length) = some 0 := by decide +kernel
theorem ml_L_74 : Cond.methodLink RL 74 yX12_fault ∈ tblG := tg 1492 (by decide +kernel) (by decide +kernel)
theorem im_X12_fault : Cond.instanceMethod yX12_fault ∈ tblG := tg 1493 (by decide +kernel) (by decide +kernel)
theorem se_X12_fault : Cond.selects RX12 yX12_fault yX12_fault ∈ tblG := tg 1494 (by decide +kernel) (by decide +kernel)
theorem cd_X12_fault : Cond.code yX12_fault cX12_fault 1 (some .int) ∈ tblG := tg 1495 (by decide +kernel) (by decide +kernel)
theorem gW_X12_fault : GoodIn tblG (wsG yX12_fault cX12_fault 1 (some .int)) := tgi cd_X12_fault
theorem gV_L_74 : GoodIn tblG (wsV RL 74 RX12 yX12_fault (wsG yX12_fault cX12_fault 1 (some .int))) := tgV ml_L_74 im_X12_fault se_X12_fault ini_X12 gW_X12_fault
theorem hv_X12_fault : yX12_fault.cls = RX12 ∧ yX12_fault.cls ≠ "java/lang/invoke/MethodHandle" ∧ yX12_fault.cls ≠ "java/lang/invoke/VarHandle" ∧ (parseMethodDescriptor yX12_fault.desc).map (fun d => d.parameters.length) = some 0 := by decide +kernel
theorem ml_L_75 : Cond.methodLink RL 75 yX11_force ∈ tblG := tg 800 (by decide +kernel) (by decide +kernel)
theorem im_X11_force : Cond.instanceMethod yX11_force ∈ tblG := tg 801 (by decide +kernel) (by decide +kernel)
theorem se_X11_force : Cond.selects RX11 yX11_force yX11_force ∈ tblG := tg 802 (by decide +kernel) (by decide +kernel)
theorem cd_X11_force : Cond.code yX11_force cX11_force 3 (some .int) ∈ tblG := tg 803 (by decide +kernel) (by decide +kernel)
theorem gW_X11_force : GoodIn tblG (wsG yX11_force cX11_force 3 (some .int)) := tgi cd_X11_force
theorem gV_L_75 : GoodIn tblG (wsV RL 75 RX11 yX11_force (wsG yX11_force cX11_force 3 (some .int))) := tgV ml_L_75 im_X11_force se_X11_force ini_X11 gW_X11_force
theorem hv_X11_force : yX11_force.cls = RX11 ∧ yX11_force.cls ≠ "java/lang/invoke/MethodHandle" ∧ yX11_force.cls ≠ "java/lang/invoke/VarHandle" ∧ (parseMethodDescriptor yX11_force.desc).map (fun d => d.parameters.length) = some 1 := by decide +kernel
theorem ml_L_78 : Cond.methodLink RL 78 yX12_force ∈ tblG := tg 1595 (by decide +kernel) (by decide +kernel)
theorem im_X12_force : Cond.instanceMethod yX12_force ∈ tblG := tg 1596 (by decide +kernel) (by decide +kernel)
theorem se_X12_force : Cond.selects RX12 yX12_force yX12_force ∈ tblG := tg 1597 (by decide +kernel) (by decide +kernel)
theorem cd_X12_force : Cond.code yX12_force cX12_force 2 (some .int) ∈ tblG := tg 1598 (by decide +kernel) (by decide +kernel)
theorem gW_X12_force : GoodIn tblG (wsG yX12_force cX12_force 2 (some .int)) := tgi cd_X12_force
theorem gV_L_78 : GoodIn tblG (wsV RL 78 RX12 yX12_force (wsG yX12_force cX12_force 2 (some .int))) := tgV ml_L_78 im_X12_force se_X12_force ini_X12 gW_X12_force
theorem hv_X12_force : yX12_force.cls = RX12 ∧ yX12_force.cls ≠ "java/lang/invoke/MethodHandle" ∧ yX12_force.cls ≠ "java/lang/invoke/VarHandle" ∧ (parseMethodDescriptor yX12_force.desc).map (fun d => d.parameters.length) = some 1 := by decide +kernel
theorem ml_L_79 : Cond.methodLink RL 79 yX11_look ∈ tblG := tg 804 (by decide +kernel) (by decide +kernel)
theorem im_X11_look : Cond.instanceMethod yX11_look ∈ tblG := tg 805 (by decide +kernel) (by decide +kernel)
theorem se_X11_look : Cond.selects RX11 yX11_look yX11_look ∈ tblG := tg 806 (by decide +kernel) (by decide +kernel)
theorem cd_X11_look : Cond.code yX11_look cX11_look 5 (some .int) ∈ tblG := tg 807 (by decide +kernel) (by decide +kernel)
theorem gW_X11_look : GoodIn tblG (wsG yX11_look cX11_look 5 (some .int)) := tgi cd_X11_look
theorem gV_L_79 : GoodIn tblG (wsV RL 79 RX11 yX11_look (wsG yX11_look cX11_look 5 (some .int))) := tgV ml_L_79 im_X11_look se_X11_look ini_X11 gW_X11_look
theorem hv_X11_look : yX11_look.cls = RX11 ∧ yX11_look.cls ≠ "java/lang/invoke/MethodHandle" ∧ yX11_look.cls ≠ "java/lang/invoke/VarHandle" ∧ (parseMethodDescriptor yX11_look.desc).map (fun d => d.parameters.length) = some 4 := by decide +kernel
theorem ml_L_82 : Cond.methodLink RL 82 yX12_look ∈ tblG := tg 1599 (by decide +kernel) (by decide +kernel)
theorem im_X12_look : Cond.instanceMethod yX12_look ∈ tblG := tg 1600 (by decide +kernel) (by decide +kernel)
theorem se_X12_look : Cond.selects RX12 yX12_look yX12_look ∈ tblG := tg 1601 (by decide +kernel) (by decide +kernel)
theorem cd_X12_look : Cond.code yX12_look cX12_look 5 (some .int) ∈ tblG := tg 1602 (by decide +kernel) (by decide +kernel)
theorem gW_X12_look : GoodIn tblG (wsG yX12_look cX12_look 5 (some .int)) := tgi cd_X12_look
theorem gV_L_82 : GoodIn tblG (wsV RL 82 RX12 yX12_look (wsG yX12_look cX12_look 5 (some .int))) := tgV ml_L_82 im_X12_look se_X12_look ini_X12 gW_X12_look
theorem hv_X12_look : yX12_look.cls = RX12 ∧ yX12_look.cls ≠ "java/lang/invoke/MethodHandle" ∧ yX12_look.cls ≠ "java/lang/invoke/VarHandle" ∧ (parseMethodDescriptor yX12_look.desc).map (fun d => d.parameters.length) = some 4 := by decide +kernel
theorem ml_L_83 : Cond.methodLink RL 83 yX11_point ∈ tblG := tg 870 (by decide +kernel) (by decide +kernel)
theorem im_X11_point : Cond.instanceMethod yX11_point ∈ tblG := tg 871 (by decide +kernel) (by decide +kernel)
theorem se_X11_point : Cond.selects RX11 yX11_point yX11_point ∈ tblG := tg 872 (by decide +kernel) (by decide +kernel)
theorem cd_X11_point : Cond.code yX11_point cX11_point 5 (some .int) ∈ tblG := tg 873 (by decide +kernel) (by decide +kernel)
theorem gW_X11_point : GoodIn tblG (wsG yX11_point cX11_point 5 (some .int)) := tgi cd_X11_point
theorem gV_L_83 : GoodIn tblG (wsV RL 83 RX11 yX11_point (wsG yX11_point cX11_point 5 (some .int))) := tgV ml_L_83 im_X11_point se_X11_point ini_X11 gW_X11_point
theorem hv_X11_point : yX11_point.cls = RX11 ∧ yX11_point.cls ≠ "java/lang/invoke/MethodHandle" ∧ yX11_point.cls ≠ "java/lang/invoke/VarHandle" ∧ (parseMethodDescriptor yX11_point.desc).map (fun d => d.parameters.length) = some 4 := by decide +kernel
theorem ml_L_86 : Cond.methodLink RL 86 yX12_point ∈ tblG := tg 1651 (by decide +kernel) (by decide +kernel)
theorem im_X12_point : Cond.instanceMethod yX12_point ∈ tblG := tg 1652 (by decide +kernel) (by decide +kernel)
theorem se_X12_point : Cond.selects RX12 yX12_point yX12_point ∈ tblG := tg 1653 (by decide +kernel) (by decide +kernel)
theorem cd_X12_point : Cond.code yX12_point cX12_point 5 (some .int) ∈ tblG := tg 1654 (by decide +kernel) (by decide +kernel)
theorem gW_X12_point : GoodIn tblG (wsG yX12_point cX12_point 5 (some .int)) := tgi cd_X12_point
theorem gV_L_86 : GoodIn tblG (wsV RL 86 RX12 yX12_point (wsG yX12_point cX12_point 5 (some .int))) := tgV ml_L_86 im_X12_point se_X12_point ini_X12 gW_X12_point
theorem hv_X12_point : yX12_point.cls = RX12 ∧ yX12_point.cls ≠ "java/lang/invoke/MethodHandle" ∧ yX12_point.cls ≠ "java/lang/invoke/VarHandle" ∧ (parseMethodDescriptor yX12_point.desc).map (fun d => d.parameters.length) = some 4 := by decide +kernel
theorem ml_L_87 : Cond.methodLink RL 87 yX11_sees ∈ tblG := tg 874 (by decide +kernel) (by decide +kernel)
theorem im_X11_sees : Cond.instanceMethod yX11_sees ∈ tblG := tg 875 (by decide +kernel) (by decide +kernel)
theorem se_X11_sees : Cond.selects RX11 yX11_sees yX11_sees ∈ tblG := tg 876 (by decide +kernel) (by decide +kernel)
theorem cd_X11_sees : Cond.code yX11_sees cX11_sees 3 (some .int) ∈ tblG := tg 877 (by decide +kernel) (by decide +kernel)
theorem gW_X11_sees : GoodIn tblG (wsG yX11_sees cX11_sees 3 (some .int)) := tgi cd_X11_sees
theorem gV_L_87 : GoodIn tblG (wsV RL 87 RX11 yX11_sees (wsG yX11_sees cX11_sees 3 (some .int))) := tgV ml_L_87 im_X11_sees se_X11_sees ini_X11 gW_X11_sees
theorem hv_X11_sees : yX11_sees.cls = RX11 ∧ yX11_sees.cls ≠ "java/lang/invoke/MethodHandle" ∧ yX11_sees.cls ≠ "java/lang/invoke/VarHandle" ∧ (parseMethodDescriptor yX11_sees.desc).map (fun d => d.parameters.length) = some 2 := by decide +kernel
theorem ml_L_90 : Cond.methodLink RL 90 yX12_sees ∈ tblG := tg 1655 (by decide +kernel) (by decide +kernel)
theorem im_X12_sees : Cond.instanceMethod yX12_sees ∈ tblG := tg 1656 (by decide +kernel) (by decide +kernel)
theorem se_X12_sees : Cond.selects RX12 yX12_sees yX12_sees ∈ tblG := tg 1657 (by decide +kernel) (by decide +kernel)
theorem cd_X12_sees : Cond.code yX12_sees cX12_sees 3 (some .int) ∈ tblG := tg 1658 (by decide +kernel) (by decide +kernel)
theorem gW_X12_sees : GoodIn tblG (wsG yX12_sees cX12_sees 3 (some .int)) := tgi cd_X12_sees
theorem gV_L_90 : GoodIn tblG (wsV RL 90 RX12 yX12_sees (wsG yX12_sees cX12_sees 3 (some .int))) := tgV ml_L_90 im_X12_sees se_X12_sees ini_X12 gW_X12_sees
theorem hv_X12_sees : yX12_sees.cls = RX12 ∧ yX12_sees.cls ≠ "java/lang/invoke/MethodHandle" ∧ yX12_sees.cls ≠ "java/lang/invoke/VarHandle" ∧ (parseMethodDescriptor yX12_sees.desc).map (fun d => d.parameters.length) = some 2 := by decide +kernel
theorem ml_L_91 : Cond.methodLink RL 91 yX11_late ∈ tblG := tg 883 (by decide +kernel) (by decide +kernel)
theorem im_X11_late : Cond.instanceMethod yX11_late ∈ tblG := tg 884 (by decide +kernel) (by decide +kernel)
theorem se_X11_late : Cond.selects RX11 yX11_late yX11_late ∈ tblG := tg 885 (by decide +kernel) (by decide +kernel)
theorem cd_X11_late : Cond.code yX11_late cX11_late 5 (some .int) ∈ tblG := tg 886 (by decide +kernel) (by decide +kernel)
theorem gW_X11_late : GoodIn tblG (wsG yX11_late cX11_late 5 (some .int)) := tgi cd_X11_late
theorem gV_L_91 : GoodIn tblG (wsV RL 91 RX11 yX11_late (wsG yX11_late cX11_late 5 (some .int))) := tgV ml_L_91 im_X11_late se_X11_late ini_X11 gW_X11_late
theorem hv_X11_late : yX11_late.cls = RX11 ∧ yX11_late.cls ≠ "java/lang/invoke/MethodHandle" ∧ yX11_late.cls ≠ "java/lang/invoke/VarHandle" ∧ (parseMethodDescriptor yX11_late.desc).map (fun d => d.parameters.length) = some 3 := by decide +kernel
theorem ml_L_94 : Cond.methodLink RL 94 yX12_late ∈ tblG := tg 1663 (by decide +kernel) (by decide +kernel)
theorem im_X12_late : Cond.instanceMethod yX12_late ∈ tblG := tg 1664 (by decide +kernel) (by decide +kernel)
theorem se_X12_late : Cond.selects RX12 yX12_late yX12_late ∈ tblG := tg 1665 (by decide +kernel) (by decide +kernel)
theorem cd_X12_late : Cond.code yX12_late cX12_late 4 (some .int) ∈ tblG := tg 1666 (by decide +kernel) (by decide +kernel)
theorem gW_X12_late : GoodIn tblG (wsG yX12_late cX12_late 4 (some .int)) := tgi cd_X12_late
theorem gV_L_94 : GoodIn tblG (wsV RL 94 RX12 yX12_late (wsG yX12_late cX12_late 4 (some .int))) := tgV ml_L_94 im_X12_late se_X12_late ini_X12 gW_X12_late
theorem hv_X12_late : yX12_late.cls = RX12 ∧ yX12_late.cls ≠ "java/lang/invoke/MethodHandle" ∧ yX12_late.cls ≠ "java/lang/invoke/VarHandle" ∧ (parseMethodDescriptor yX12_late.desc).map (fun d => d.parameters.length) = some 3 := by decide +kernel
theorem ml_L_95 : Cond.methodLink RL 95 yX11_first ∈ tblG := tg 891 (by decide +kernel) (by decide +kernel)
theorem im_X11_first : Cond.instanceMethod yX11_first ∈ tblG := tg 892 (by decide +kernel) (by decide +kernel)
theorem se_X11_first : Cond.selects RX11 yX11_first yX11_first ∈ tblG := tg 893 (by decide +kernel) (by decide +kernel)
theorem cd_X11_first : Cond.code yX11_first cX11_first 7 (some .int) ∈ tblG := tg 894 (by decide +kernel) (by decide +kernel)
theorem gW_X11_first : GoodIn tblG (wsG yX11_first cX11_first 7 (some .int)) := tgi cd_X11_first
theorem gV_L_95 : GoodIn tblG (wsV RL 95 RX11 yX11_first (wsG yX11_first cX11_first 7 (some .int))) := tgV ml_L_95 im_X11_first se_X11_first ini_X11 gW_X11_first
theorem hv_X11_first : yX11_first.cls = RX11 ∧ yX11_first.cls ≠ "java/lang/invoke/MethodHandle" ∧ yX11_first.cls ≠ "java/lang/invoke/VarHandle" ∧ (parseMethodDescriptor yX11_first.desc).map (fun d => d.parameters.length) = some 2 := by decide +kernel
theorem ml_L_98 : Cond.methodLink RL 98 yX12_first ∈ tblG := tg 1671 (by decide +kernel) (by decide +kernel)
theorem im_X12_first : Cond.instanceMethod yX12_first ∈ tblG := tg 1672 (by decide +kernel) (by decide +kernel)
theorem se_X12_first : Cond.selects RX12 yX12_first yX12_first ∈ tblG := tg 1673 (by decide +kernel) (by decide +kernel)
theorem cd_X12_first : Cond.code yX12_first cX12_first 6 (some .int) ∈ tblG := tg 1674 (by decide +kernel) (by decide +kernel)
theorem gW_X12_first : GoodIn tblG (wsG yX12_first cX12_first 6 (some .int)) := tgi cd_X12_first
theorem gV_L_98 : GoodIn tblG (wsV RL 98 RX12 yX12_first (wsG yX12_first cX12_first 6 (some .int))) := tgV ml_L_98 im_X12_first se_X12_first ini_X12 gW_X12_first
theorem hv_X12_first : yX12_first.cls = RX12 ∧ yX12_first.cls ≠ "java/lang/invoke/MethodHandle" ∧ yX12_first.cls ≠ "java/lang/invoke/VarHandle" ∧ (parseMethodDescriptor yX12_first.desc).map (fun d => d.parameters.length) = some 2 := by decide +kernel
theorem ml_L_99 : Cond.methodLink RL 99 yX11_lit ∈ tblG := tg 895 (by decide +kernel) (by decide +kernel)
theorem im_X11_lit : Cond.instanceMethod yX11_lit ∈ tblG := tg 896 (by decide +kernel) (by decide +kernel)
theorem se_X11_lit : Cond.selects RX11 yX11_lit yX11_lit ∈ tblG := tg 897 (by decide +kernel) (by decide +kernel)
theorem cd_X11_lit : Cond.code yX11_lit cX11_lit 6 (some .int) ∈ tblG := tg 898 (by decide +kernel) (by decide +kernel)
theorem gW_X11_lit : GoodIn tblG (wsG yX11_lit cX11_lit 6 (some .int)) := tgi cd_X11_lit
theorem gV_L_99 : GoodIn tblG (wsV RL 99 RX11 yX11_lit (wsG yX11_lit cX11_lit 6 (some .int))) := tgV ml_L_99 im_X11_lit se_X11_lit ini_X11 gW_X11_lit
theorem hv_X11_lit : yX11_lit.cls = RX11 ∧ yX11_lit.cls ≠ "java/lang/invoke/MethodHandle" ∧ yX11_lit.cls ≠ "java/lang/invoke/VarHandle" ∧ (parseMethodDescriptor yX11_lit.desc).map (fun d => d.parameters.length) = some 3 := by decide +kernel
theorem ml_L_102 : Cond.methodLink RL 102 yX12_lit ∈ tblG := tg 1676 (by decide +kernel) (by decide +kernel)
theorem im_X12_lit : Cond.instanceMethod yX12_lit ∈ tblG := tg 1677 (by decide +kernel) (by decide +kernel)
theorem se_X12_lit : Cond.selects RX12 yX12_lit yX12_lit ∈ tblG := tg 1678 (by decide +kernel) (by decide +kernel)
theorem cd_X12_lit : Cond.code yX12_lit cX12_lit 8 (some .int) ∈ tblG := tg 1679 (by decide +kernel) (by decide +kernel)
theorem gW_X12_lit : GoodIn tblG (wsG yX12_lit cX12_lit 8 (some .int)) := tgi cd_X12_lit
theorem gV_L_102 : GoodIn tblG (wsV RL 102 RX12 yX12_lit (wsG yX12_lit cX12_lit 8 (some .int))) := tgV ml_L_102 im_X12_lit se_X12_lit ini_X12 gW_X12_lit
theorem hv_X12_lit : yX12_lit.cls = RX12 ∧ yX12_lit.cls ≠ "java/lang/invoke/MethodHandle" ∧ yX12_lit.cls ≠ "java/lang/invoke/VarHandle" ∧ (parseMethodDescriptor yX12_lit.desc).map (fun d => d.parameters.length) = some 3 := by decide +kernel
theorem ml_L_103 : Cond.methodLink RL 103 yX11_unseen ∈ tblG := tg 909 (by decide +kernel) (by decide +kernel)
theorem im_X11_unseen : Cond.instanceMethod yX11_unseen ∈ tblG := tg 910 (by decide +kernel) (by decide +kernel)
theorem se_X11_unseen : Cond.selects RX11 yX11_unseen yX11_unseen ∈ tblG := tg 911 (by decide +kernel) (by decide +kernel)
theorem cd_X11_unseen : Cond.code yX11_unseen cX11_unseen 4 (some .int) ∈ tblG := tg 912 (by decide +kernel) (by decide +kernel)
theorem gW_X11_unseen : GoodIn tblG (wsG yX11_unseen cX11_unseen 4 (some .int)) := tgi cd_X11_unseen
theorem gV_L_103 : GoodIn tblG (wsV RL 103 RX11 yX11_unseen (wsG yX11_unseen cX11_unseen 4 (some .int))) := tgV ml_L_103 im_X11_unseen se_X11_unseen ini_X11 gW_X11_unseen
theorem hv_X11_unseen : yX11_unseen.cls = RX11 ∧ yX11_unseen.cls ≠ "java/lang/invoke/MethodHandle" ∧ yX11_unseen.cls ≠ "java/lang/invoke/VarHandle" ∧ (parseMethodDescriptor yX11_unseen.desc).map (fun d => d.parameters.length) = some 1 := by decide +kernel
theorem ml_L_106 : Cond.methodLink RL 106 yX12_unseen ∈ tblG := tg 1688 (by decide +kernel) (by decide +kernel)
theorem im_X12_unseen : Cond.instanceMethod yX12_unseen ∈ tblG := tg 1689 (by decide +kernel) (by decide +kernel)
theorem se_X12_unseen : Cond.selects RX12 yX12_unseen yX12_unseen ∈ tblG := tg 1690 (by decide +kernel) (by decide +kernel)
theorem cd_X12_unseen : Cond.code yX12_unseen cX12_unseen 4 (some .int) ∈ tblG := tg 1691 (by decide +kernel) (by decide +kernel)
theorem gW_X12_unseen : GoodIn tblG (wsG yX12_unseen cX12_unseen 4 (some .int)) := tgi cd_X12_unseen
theorem gV_L_106 : GoodIn tblG (wsV RL 106 RX12 yX12_unseen (wsG yX12_unseen cX12_unseen 4 (some .int))) := tgV ml_L_106 im_X12_unseen se_X12_unseen ini_X12 gW_X12_unseen
theorem hv_X12_unseen : yX12_unseen.cls = RX12 ∧ yX12_unseen.cls ≠ "java/lang/invoke/MethodHandle" ∧ yX12_unseen.cls ≠ "java/lang/invoke/VarHandle" ∧ (parseMethodDescriptor yX12_unseen.desc).map (fun d => d.parameters.length) = some 1 := by decide +kernel
theorem ml_L_107 : Cond.methodLink RL 107 yX11_sighting ∈ tblG := tg 926 (by decide +kernel) (by decide +kernel)
theorem im_X11_sighting : Cond.instanceMethod yX11_sighting ∈ tblG := tg 927 (by decide +kernel) (by decide +kernel)
theorem se_X11_sighting : Cond.selects RX11 yX11_sighting yX11_sighting ∈ tblG := tg 928 (by decide +kernel) (by decide +kernel)
theorem cd_X11_sighting : Cond.code yX11_sighting cX11_sighting 6 (some .int) ∈ tblG := tg 929 (by decide +kernel) (by decide +kernel)
theorem gW_X11_sighting : GoodIn tblG (wsG yX11_sighting cX11_sighting 6 (some .int)) := tgi cd_X11_sighting
theorem gV_L_107 : GoodIn tblG (wsV RL 107 RX11 yX11_sighting (wsG yX11_sighting cX11_sighting 6 (some .int))) := tgV ml_L_107 im_X11_sighting se_X11_sighting ini_X11 gW_X11_sighting
theorem hv_X11_sighting : yX11_sighting.cls = RX11 ∧ yX11_sighting.cls ≠ "java/lang/invoke/MethodHandle" ∧ yX11_sighting.cls ≠ "java/lang/invoke/VarHandle" ∧ (parseMethodDescriptor yX11_sighting.desc).map (fun d => d.parameters.length) = some 4 := by decide +kernel
theorem ml_L_110 : Cond.methodLink RL 110 yX12_sighting ∈ tblG := tg 1696 (by decide +kernel) (by decide +kernel)
theorem im_X12_sighting : Cond.instanceMethod yX12_sighting ∈ tblG := tg 1697 (by decide +kernel) (by decide +kernel)
theorem se_X12_sighting : Cond.selects RX12 yX12_sighting yX12_sighting ∈ tblG := tg 1698 (by decide +kernel) (by decide +kernel)
theorem cd_X12_sighting : Cond.code yX12_sighting cX12_sighting 8 (some .int) ∈ tblG := tg 1699 (by decide +kernel) (by decide +kernel)
theorem gW_X12_sighting : GoodIn tblG (wsG yX12_sighting cX12_sighting 8 (some .int)) := tgi cd_X12_sighting
theorem gV_L_110 : GoodIn tblG (wsV RL 110 RX12 yX12_sighting (wsG yX12_sighting cX12_sighting 8 (some .int))) := tgV ml_L_110 im_X12_sighting se_X12_sighting ini_X12 gW_X12_sighting
theorem hv_X12_sighting : yX12_sighting.cls = RX12 ∧ yX12_sighting.cls ≠ "java/lang/invoke/MethodHandle" ∧ yX12_sighting.cls ≠ "java/lang/invoke/VarHandle" ∧ (parseMethodDescriptor yX12_sighting.desc).map (fun d => d.parameters.length) = some 4 := by decide +kernel
theorem ml_L_111 : Cond.methodLink RL 111 yX11_drop ∈ tblG := tg 938 (by decide +kernel) (by decide +kernel)
theorem im_X11_drop : Cond.instanceMethod yX11_drop ∈ tblG := tg 939 (by decide +kernel) (by decide +kernel)
theorem se_X11_drop : Cond.selects RX11 yX11_drop yX11_drop ∈ tblG := tg 940 (by decide +kernel) (by decide +kernel)
theorem cd_X11_drop : Cond.code yX11_drop cX11_drop 2 (some .int) ∈ tblG := tg 941 (by decide +kernel) (by decide +kernel)
theorem gW_X11_drop : GoodIn tblG (wsG yX11_drop cX11_drop 2 (some .int)) := tgi cd_X11_drop
theorem gV_L_111 : GoodIn tblG (wsV RL 111 RX11 yX11_drop (wsG yX11_drop cX11_drop 2 (some .int))) := tgV ml_L_111 im_X11_drop se_X11_drop ini_X11 gW_X11_drop
theorem hv_X11_drop : yX11_drop.cls = RX11 ∧ yX11_drop.cls ≠ "java/lang/invoke/MethodHandle" ∧ yX11_drop.cls ≠ "java/lang/invoke/VarHandle" ∧ (parseMethodDescriptor yX11_drop.desc).map (fun d => d.parameters.length) = some 1 := by decide +kernel
theorem ml_L_114 : Cond.methodLink RL 114 yX12_drop ∈ tblG := tg 1700 (by decide +kernel) (by decide +kernel)
theorem im_X12_drop : Cond.instanceMethod yX12_drop ∈ tblG := tg 1701 (by decide +kernel) (by decide +kernel)
theorem se_X12_drop : Cond.selects RX12 yX12_drop yX12_drop ∈ tblG := tg 1702 (by decide +kernel) (by decide +kernel)
theorem cd_X12_drop : Cond.code yX12_drop cX12_drop 3 (some .int) ∈ tblG := tg 1703 (by decide +kernel) (by decide +kernel)
theorem gW_X12_drop : GoodIn tblG (wsG yX12_drop cX12_drop 3 (some .int)) := tgi cd_X12_drop
theorem gV_L_114 : GoodIn tblG (wsV RL 114 RX12 yX12_drop (wsG yX12_drop cX12_drop 3 (some .int))) := tgV ml_L_114 im_X12_drop se_X12_drop ini_X12 gW_X12_drop
theorem hv_X12_drop : yX12_drop.cls = RX12 ∧ yX12_drop.cls ≠ "java/lang/invoke/MethodHandle" ∧ yX12_drop.cls ≠ "java/lang/invoke/VarHandle" ∧ (parseMethodDescriptor yX12_drop.desc).map (fun d => d.parameters.length) = some 1 := by decide +kernel
theorem ml_L_115 : Cond.methodLink RL 115 yX11_start ∈ tblG := tg 947 (by decide +kernel) (by decide +kernel)
theorem im_X11_start : Cond.instanceMethod yX11_start ∈ tblG := tg 948 (by decide +kernel) (by decide +kernel)
theorem se_X11_start : Cond.selects RX11 yX11_start yX11_start ∈ tblG := tg 949 (by decide +kernel) (by decide +kernel)
theorem cd_X11_start : Cond.code yX11_start cX11_start 3 (some .int) ∈ tblG := tg 950 (by decide +kernel) (by decide +kernel)
theorem gW_X11_start : GoodIn tblG (wsG yX11_start cX11_start 3 (some .int)) := tgi cd_X11_start
theorem gV_L_115 : GoodIn tblG (wsV RL 115 RX11 yX11_start (wsG yX11_start cX11_start 3 (some .int))) := tgV ml_L_115 im_X11_start se_X11_start ini_X11 gW_X11_start
theorem hv_X11_start : yX11_start.cls = RX11 ∧ yX11_start.cls ≠ "java/lang/invoke/MethodHandle" ∧ yX11_start.cls ≠ "java/lang/invoke/VarHandle" ∧ (parseMethodDescriptor yX11_start.desc).map (fun d => d.parameters.length) = some 1 := by decide +kernel
theorem ml_L_118 : Cond.methodLink RL 118 yX12_start ∈ tblG := tg 1704 (by decide +kernel) (by decide +kernel)
theorem im_X12_start : Cond.instanceMethod yX12_start ∈ tblG := tg 1705 (by decide +kernel) (by decide +kernel)
theorem se_X12_start : Cond.selects RX12 yX12_start yX12_start ∈ tblG := tg 1706 (by decide +kernel) (by decide +kernel)
theorem cd_X12_start : Cond.code yX12_start cX12_start 2 (some .int) ∈ tblG := tg 1707 (by decide +kernel) (by decide +kernel)
theorem gW_X12_start : GoodIn tblG (wsG yX12_start cX12_start 2 (some .int)) := tgi cd_X12_start
theorem gV_L_118 : GoodIn tblG (wsV RL 118 RX12 yX12_start (wsG yX12_start cX12_start 2 (some .int))) := tgV ml_L_118 im_X12_start se_X12_start ini_X12 gW_X12_start
theorem hv_X12_start : yX12_start.cls = RX12 ∧ yX12_start.cls ≠ "java/lang/invoke/MethodHandle" ∧ yX12_start.cls ≠ "java/lang/invoke/VarHandle" ∧ (parseMethodDescriptor yX12_start.desc).map (fun d => d.parameters.length) = some 1 := by decide +kernel
theorem ml_L_119 : Cond.methodLink RL 119 yX11_fits ∈ tblG := tg 951 (by decide +kernel) (by decide +kernel)
theorem im_X11_fits : Cond.instanceMethod yX11_fits ∈ tblG := tg 952 (by decide +kernel) (by decide +kernel)
theorem se_X11_fits : Cond.selects RX11 yX11_fits yX11_fits ∈ tblG := tg 953 (by decide +kernel) (by decide +kernel)
theorem cd_X11_fits : Cond.code yX11_fits cX11_fits 1 (some .long) ∈ tblG := tg 954 (by decide +kernel) (by decide +kernel)
theorem gW_X11_fits : GoodIn tblG (wsG yX11_fits cX11_fits 1 (some .long)) := tgi cd_X11_fits
theorem gV_L_119 : GoodIn tblG (wsV RL 119 RX11 yX11_fits (wsG yX11_fits cX11_fits 1 (some .long))) := tgV ml_L_119 im_X11_fits se_X11_fits ini_X11 gW_X11_fits
theorem hv_X11_fits : yX11_fits.cls = RX11 ∧ yX11_fits.cls ≠ "java/lang/invoke/MethodHandle" ∧ yX11_fits.cls ≠ "java/lang/invoke/VarHandle" ∧ (parseMethodDescriptor yX11_fits.desc).map (fun d => d.parameters.length) = some 0 := by decide +kernel
theorem ml_L_123 : Cond.methodLink RL 123 yX12_fits_ ∈ tblG := tg 1708 (by decide +kernel) (by decide +kernel)
theorem im_X12_fits_ : Cond.instanceMethod yX12_fits_ ∈ tblG := tg 1709 (by decide +kernel) (by decide +kernel)
theorem se_X12_fits_ : Cond.selects RX12 yX12_fits_ yX12_fits_ ∈ tblG := tg 1710 (by decide +kernel) (by decide +kernel)
theorem cd_X12_fits_ : Cond.code yX12_fits_ cX12_fits_ 1 (some .long) ∈ tblG := tg 1711 (by decide +kernel) (by decide +kernel)
theorem gW_X12_fits_ : GoodIn tblG (wsG yX12_fits_ cX12_fits_ 1 (some .long)) := tgi cd_X12_fits_
theorem gV_L_123 : GoodIn tblG (wsV RL 123 RX12 yX12_fits_ (wsG yX12_fits_ cX12_fits_ 1 (some .long))) := tgV ml_L_123 im_X12_fits_ se_X12_fits_ ini_X12 gW_X12_fits_
theorem hv_X12_fits_ : yX12_fits_.cls = RX12 ∧ yX12_fits_.cls ≠ "java/lang/invoke/MethodHandle" ∧ yX12_fits_.cls ≠ "java/lang/invoke/VarHandle" ∧ (parseMethodDescriptor yX12_fits_.desc).map (fun d => d.parameters.length) = some 0 := by decide +kernel
theorem ml_L_124 : Cond.methodLink RL 124 yX11_could ∈ tblG := tg 988 (by decide +kernel) (by decide +kernel)
theorem im_X11_could : Cond.instanceMethod yX11_could ∈ tblG := tg 989 (by decide +kernel) (by decide +kernel)
theorem se_X11_could : Cond.selects RX11 yX11_could yX11_could ∈ tblG := tg 990 (by decide +kernel) (by decide +kernel)
theorem cd_X11_could : Cond.code yX11_could cX11_could 3 (some .long) ∈ tblG := tg 991 (by decide +kernel) (by decide +kernel)
theorem gW_X11_could : GoodIn tblG (wsG yX11_could cX11_could 3 (some .long)) := tgi cd_X11_could
theorem gV_L_124 : GoodIn tblG (wsV RL 124 RX11 yX11_could (wsG yX11_could cX11_could 3 (some .long))) := tgV ml_L_124 im_X11_could se_X11_could ini_X11 gW_X11_could
theorem hv_X11_could : yX11_could.cls = RX11 ∧ yX11_could.cls ≠ "java/lang/invoke/MethodHandle" ∧ yX11_could.cls ≠ "java/lang/invoke/VarHandle" ∧ (parseMethodDescriptor yX11_could.desc).map (fun d => d.parameters.length) = some 2 := by decide +kernel
theorem ml_L_128 : Cond.methodLink RL 128 yX12_could ∈ tblG := tg 1760 (by decide +kernel) (by decide +kernel)
theorem im_X12_could : Cond.instanceMethod yX12_could ∈ tblG := tg 1761 (by decide +kernel) (by decide +kernel)
theorem se_X12_could : Cond.selects RX12 yX12_could yX12_could ∈ tblG := tg 1762 (by decide +kernel) (by decide +kernel)
theorem cd_X12_could : Cond.code yX12_could cX12_could 6 (some .long) ∈ tblG := tg 1763 (by decide +kernel) (by decide +kernel)
theorem gW_X12_could : GoodIn tblG (wsG yX12_could cX12_could 6 (some .long)) := tgi cd_X12_could
theorem gV_L_128 : GoodIn tblG (wsV RL 128 RX12 yX12_could (wsG yX12_could cX12_could 6 (some .long))) := tgV ml_L_128 im_X12_could se_X12_could ini_X12 gW_X12_could
theorem hv_X12_could : yX12_could.cls = RX12 ∧ yX12_could.cls ≠ "java/lang/invoke/MethodHandle" ∧ yX12_could.cls ≠ "java/lang/invoke/VarHandle" ∧ (parseMethodDescriptor yX12_could.desc).map (fun d => d.parameters.length) = some 2 := by decide +kernel
theorem ml_L_129 : Cond.methodLink RL 129 yX11_path ∈ tblG := tg 1016 (by decide +kernel) (by decide +kernel)
theorem im_X11_path : Cond.instanceMethod yX11_path ∈ tblG := tg 1017 (by decide +kernel) (by decide +kernel)
theorem se_X11_path : Cond.selects RX11 yX11_path yX11_path ∈ tblG := tg 1018 (by decide +kernel) (by decide +kernel)
theorem cd_X11_path : Cond.code yX11_path cX11_path 2 (some .int) ∈ tblG := tg 1019 (by decide +kernel) (by decide +kernel)
theorem gW_X11_path : GoodIn tblG (wsG yX11_path cX11_path 2 (some .int)) := tgi cd_X11_path
theorem gV_L_129 : GoodIn tblG (wsV RL 129 RX11 yX11_path (wsG yX11_path cX11_path 2 (some .int))) := tgV ml_L_129 im_X11_path se_X11_path ini_X11 gW_X11_path
theorem hv_X11_path : yX11_path.cls = RX11 ∧ yX11_path.cls ≠ "java/lang/invoke/MethodHandle" ∧ yX11_path.cls ≠ "java/lang/invoke/VarHandle" ∧ (parseMethodDescriptor yX11_path.desc).map (fun d => d.parameters.length) = some 1 := by decide +kernel
theorem ml_L_132 : Cond.methodLink RL 132 yX12_path ∈ tblG := tg 1764 (by decide +kernel) (by decide +kernel)
theorem im_X12_path : Cond.instanceMethod yX12_path ∈ tblG := tg 1765 (by decide +kernel) (by decide +kernel)
theorem se_X12_path : Cond.selects RX12 yX12_path yX12_path ∈ tblG := tg 1766 (by decide +kernel) (by decide +kernel)
theorem cd_X12_path : Cond.code yX12_path cX12_path 8 (some .int) ∈ tblG := tg 1767 (by decide +kernel) (by decide +kernel)
theorem gW_X12_path : GoodIn tblG (wsG yX12_path cX12_path 8 (some .int)) := tgi cd_X12_path
theorem gV_L_132 : GoodIn tblG (wsV RL 132 RX12 yX12_path (wsG yX12_path cX12_path 8 (some .int))) := tgV ml_L_132 im_X12_path se_X12_path ini_X12 gW_X12_path
theorem hv_X12_path : yX12_path.cls = RX12 ∧ yX12_path.cls ≠ "java/lang/invoke/MethodHandle" ∧ yX12_path.cls ≠ "java/lang/invoke/VarHandle" ∧ (parseMethodDescriptor yX12_path.desc).map (fun d => d.parameters.length) = some 1 := by decide +kernel
theorem ml_L_133 : Cond.methodLink RL 133 yX11_core ∈ tblG := tg 1030 (by decide +kernel) (by decide +kernel)
theorem im_X11_core : Cond.instanceMethod yX11_core ∈ tblG := tg 1031 (by decide +kernel) (by decide +kernel)
theorem se_X11_core : Cond.selects RX11 yX11_core yX11_core ∈ tblG := tg 1032 (by decide +kernel) (by decide +kernel)
theorem cd_X11_core : Cond.code yX11_core cX11_core 1 (some .int) ∈ tblG := tg 1033 (by decide +kernel) (by decide +kernel)
theorem gW_X11_core : GoodIn tblG (wsG yX11_core cX11_core 1 (some .int)) := tgi cd_X11_core
theorem gV_L_133 : GoodIn tblG (wsV RL 133 RX11 yX11_core (wsG yX11_core cX11_core 1 (some .int))) := tgV ml_L_133 im_X11_core se_X11_core ini_X11 gW_X11_core
theorem hv_X11_core : yX11_core.cls = RX11 ∧ yX11_core.cls ≠ "java/lang/invoke/MethodHandle" ∧ yX11_core.cls ≠ "java/lang/invoke/VarHandle" ∧ (parseMethodDescriptor yX11_core.desc).map (fun d => d.parameters.length) = some 0 := by decide +kernel
theorem ml_L_136 : Cond.methodLink RL 136 yX12_core ∈ tblG := tg 1744 (by decide +kernel) (by decide +kernel)
theorem im_X12_core : Cond.instanceMethod yX12_core ∈ tblG := tg 1745 (by decide +kernel) (by decide +kernel)
theorem se_X12_core : Cond.selects RX12 yX12_core yX12_core ∈ tblG := tg 1746 (by decide +kernel) (by decide +kernel)
theorem cd_X12_core : Cond.code yX12_core cX12_core 3 (some .int) ∈ tblG := tg 1747 (by decide +kernel) (by decide +kernel)
theorem gW_X12_core : GoodIn tblG (wsG yX12_core cX12_core 3 (some .int)) := tgi cd_X12_core
theorem gV_L_136 : GoodIn tblG (wsV RL 136 RX12 yX12_core (wsG yX12_core cX12_core 3 (some .int))) := tgV ml_L_136 im_X12_core se_X12_core ini_X12 gW_X12_core
theorem hv_X12_core : yX12_core.cls = RX12 ∧ yX12_core.cls ≠ "java/lang/invoke/MethodHandle" ∧ yX12_core.cls ≠ "java/lang/invoke/VarHandle" ∧ (parseMethodDescriptor yX12_core.desc).map (fun d => d.parameters.length) = some 0 := by decide +kernel
theorem ml_L_137 : Cond.methodLink RL 137 yX11_tells ∈ tblG := tg 1040 (by decide +kernel) (by decide +kernel)
theorem im_X11_tells : Cond.instanceMethod yX11_tells ∈ tblG := tg 1041 (by decide +kernel) (by decide +kernel)
theorem se_X11_tells : Cond.selects RX11 yX11_tells yX11_tells ∈ tblG := tg 1042 (by decide +kernel) (by decide +kernel)
theorem cd_X11_tells : Cond.code yX11_tells cX11_tells 6 (some .long) ∈ tblG := tg 1043 (by decide +kernel) (by decide +kernel)
theorem gW_X11_tells : GoodIn tblG (wsG yX11_tells cX11_tells 6 (some .long)) := tgi cd_X11_tells
theorem gV_L_137 : GoodIn tblG (wsV RL 137 RX11 yX11_tells (wsG yX11_tells cX11_tells 6 (some .long))) := tgV ml_L_137 im_X11_tells se_X11_tells ini_X11 gW_X11_tells
theorem hv_X11_tells : yX11_tells.cls = RX11 ∧ yX11_tells.cls ≠ "java/lang/invoke/MethodHandle" ∧ yX11_tells.cls ≠ "java/lang/invoke/VarHandle" ∧ (parseMethodDescriptor yX11_tells.desc).map (fun d => d.parameters.length) = some 3 := by decide +kernel
theorem ml_L_141 : Cond.methodLink RL 141 yX12_tells ∈ tblG := tg 1752 (by decide +kernel) (by decide +kernel)
theorem im_X12_tells : Cond.instanceMethod yX12_tells ∈ tblG := tg 1753 (by decide +kernel) (by decide +kernel)
theorem se_X12_tells : Cond.selects RX12 yX12_tells yX12_tells ∈ tblG := tg 1754 (by decide +kernel) (by decide +kernel)
theorem cd_X12_tells : Cond.code yX12_tells cX12_tells 6 (some .long) ∈ tblG := tg 1755 (by decide +kernel) (by decide +kernel)
theorem gW_X12_tells : GoodIn tblG (wsG yX12_tells cX12_tells 6 (some .long)) := tgi cd_X12_tells
theorem gV_L_141 : GoodIn tblG (wsV RL 141 RX12 yX12_tells (wsG yX12_tells cX12_tells 6 (some .long))) := tgV ml_L_141 im_X12_tells se_X12_tells ini_X12 gW_X12_tells
theorem hv_X12_tells : yX12_tells.cls = RX12 ∧ yX12_tells.cls ≠ "java/lang/invoke/MethodHandle" ∧ yX12_tells.cls ≠ "java/lang/invoke/VarHandle" ∧ (parseMethodDescriptor yX12_tells.desc).map (fun d => d.parameters.length) = some 3 := by decide +kernel
theorem ml_L_142 : Cond.methodLink RL 142 yX11_surely ∈ tblG := tg 1045 (by decide +kernel) (by decide +kernel)
theorem im_X11_surely : Cond.instanceMethod yX11_surely ∈ tblG := tg 1046 (by decide +kernel) (by decide +kernel)
theorem se_X11_surely : Cond.selects RX11 yX11_surely yX11_surely ∈ tblG := tg 1047 (by decide +kernel) (by decide +kernel)
theorem cd_X11_surely : Cond.code yX11_surely cX11_surely 4 (some .int) ∈ tblG := tg 1048 (by decide +kernel) (by decide +kernel)
theorem gW_X11_surely : GoodIn tblG (wsG yX11_surely cX11_surely 4 (some .int)) := tgi cd_X11_surely
theorem gV_L_142 : GoodIn tblG (wsV RL 142 RX11 yX11_surely (wsG yX11_surely cX11_surely 4 (some .int))) := tgV ml_L_142 im_X11_surely se_X11_surely ini_X11 gW_X11_surely
theorem hv_X11_surely : yX11_surely.cls = RX11 ∧ yX11_surely.cls ≠ "java/lang/invoke/MethodHandle" ∧ yX11_surely.cls ≠ "java/lang/invoke/VarHandle" ∧ (parseMethodDescriptor yX11_surely.desc).map (fun d => d.parameters.length) = some 1 := by decide +kernel
theorem ml_L_145 : Cond.methodLink RL 145 yX12_surely ∈ tblG := tg 1756 (by decide +kernel) (by decide +kernel)
theorem im_X12_surely : Cond.instanceMethod yX12_surely ∈ tblG := tg 1757 (by decide +kernel) (by decide +kernel)
theorem se_X12_surely : Cond.selects RX12 yX12_surely yX12_surely ∈ tblG := tg 1758 (by decide +kernel) (by decide +kernel)
theorem cd_X12_surely : Cond.code yX12_surely cX12_surely 5 (some .int) ∈ tblG := tg 1759 (by decide +kernel) (by decide +kernel)
theorem gW_X12_surely : GoodIn tblG (wsG yX12_surely cX12_surely 5 (some .int)) := tgi cd_X12_surely
theorem gV_L_145 : GoodIn tblG (wsV RL 145 RX12 yX12_surely (wsG yX12_surely cX12_surely 5 (some .int))) := tgV ml_L_145 im_X12_surely se_X12_surely ini_X12 gW_X12_surely
theorem hv_X12_surely : yX12_surely.cls = RX12 ∧ yX12_surely.cls ≠ "java/lang/invoke/MethodHandle" ∧ yX12_surely.cls ≠ "java/lang/invoke/VarHandle" ∧ (parseMethodDescriptor yX12_surely.desc).map (fun d => d.parameters.length) = some 1 := by decide +kernel
theorem ml_L_146 : Cond.methodLink RL 146 yX11_spot ∈ tblG := tg 1056 (by decide +kernel) (by decide +kernel)
theorem im_X11_spot : Cond.instanceMethod yX11_spot ∈ tblG := tg 1057 (by decide +kernel) (by decide +kernel)
theorem se_X11_spot : Cond.selects RX11 yX11_spot yX11_spot ∈ tblG := tg 1058 (by decide +kernel) (by decide +kernel)
theorem cd_X11_spot : Cond.code yX11_spot cX11_spot 5 (some .int) ∈ tblG := tg 1059 (by decide +kernel) (by decide +kernel)
theorem gW_X11_spot : GoodIn tblG (wsG yX11_spot cX11_spot 5 (some .int)) := tgi cd_X11_spot
theorem gV_L_146 : GoodIn tblG (wsV RL 146 RX11 yX11_spot (wsG yX11_spot cX11_spot 5 (some .int))) := tgV ml_L_146 im_X11_spot se_X11_spot ini_X11 gW_X11_spot
theorem hv_X11_spot : yX11_spot.cls = RX11 ∧ yX11_spot.cls ≠ "java/lang/invoke/MethodHandle" ∧ yX11_spot.cls ≠ "java/lang/invoke/VarHandle" ∧ (parseMethodDescriptor yX11_spot.desc).map (fun d => d.parameters.length) = some 3 := by decide +kernel
theorem ml_L_149 : Cond.methodLink RL 149 yX12_spot ∈ tblG := tg 1771 (by decide +kernel) (by decide +kernel)
theorem im_X12_spot : Cond.instanceMethod yX12_spot ∈ tblG := tg 1772 (by decide +kernel) (by decide +kernel)
theorem se_X12_spot : Cond.selects RX12 yX12_spot yX12_spot ∈ tblG := tg 1773 (by decide +kernel) (by decide +kernel)
theorem cd_X12_spot : Cond.code yX12_spot cX12_spot 5 (some .int) ∈ tblG := tg 1774 (by decide +kernel) (by decide +kernel)
theorem gW_X12_spot : GoodIn tblG (wsG yX12_spot cX12_spot 5 (some .int)) := tgi cd_X12_spot
theorem gV_L_149 : GoodIn tblG (wsV RL 149 RX12 yX12_spot (wsG yX12_spot cX12_spot 5 (some .int))) := tgV ml_L_149 im_X12_spot se_X12_spot ini_X12 gW_X12_spot
theorem hv_X12_spot : yX12_spot.cls = RX12 ∧ yX12_spot.cls ≠ "java/lang/invoke/MethodHandle" ∧ yX12_spot.cls ≠ "java/lang/invoke/VarHandle" ∧ (parseMethodDescriptor yX12_spot.desc).map (fun d => d.parameters.length) = some 3 := by decide +kernel
theorem ml_L_150 : Cond.methodLink RL 150 yX11_wish ∈ tblG := tg 1060 (by decide +kernel) (by decide +kernel)
theorem im_X11_wish : Cond.instanceMethod yX11_wish ∈ tblG := tg 1061 (by decide +kernel) (by decide +kernel)
theorem se_X11_wish : Cond.selects RX11 yX11_wish yX11_wish ∈ tblG := tg 1062 (by decide +kernel) (by decide +kernel)
theorem cd_X11_wish : Cond.code yX11_wish cX11_wish 8 (some .int) ∈ tblG := tg 1063 (by decide +kernel) (by decide +kernel)
theorem gW_X11_wish : GoodIn tblG (wsG yX11_wish cX11_wish 8 (some .int)) := tgi cd_X11_wish
theorem gV_L_150 : GoodIn tblG (wsV RL 150 RX11 yX11_wish (wsG yX11_wish cX11_wish 8 (some .int))) := tgV ml_L_150 im_X11_wish se_X11_wish ini_X11 gW_X11_wish
theorem hv_X11_wish : yX11_wish.cls = RX11 ∧ yX11_wish.cls ≠ "java/lang/invoke/MethodHandle" ∧ yX11_wish.cls ≠ "java/lang/invoke/VarHandle" ∧ (parseMethodDescriptor yX11_wish.desc).map (fun d => d.parameters.length) = some 6 := by decide +kernel
theorem ml_L_154 : Cond.methodLink RL 154 yX12_wish ∈ tblG := tg 1775 (by decide +kernel) (by decide +kernel)
theorem im_X12_wish : Cond.instanceMethod yX12_wish ∈ tblG := tg 1776 (by decide +kernel) (by decide +kernel)
theorem se_X12_wish : Cond.selects RX12 yX12_wish yX12_wish ∈ tblG := tg 1777 (by decide +kernel) (by decide +kernel)
theorem cd_X12_wish : Cond.code yX12_wish cX12_wish 9 (some .int) ∈ tblG := tg 1778 (by decide +kernel) (by decide +kernel)
theorem gW_X12_wish : GoodIn tblG (wsG yX12_wish cX12_wish 9 (some .int)) := tgi cd_X12_wish
theorem gV_L_154 : GoodIn tblG (wsV RL 154 RX12 yX12_wish (wsG yX12_wish cX12_wish 9 (some .int))) := tgV ml_L_154 im_X12_wish se_X12_wish ini_X12 gW_X12_wish
theorem hv_X12_wish : yX12_wish.cls = RX12 ∧ yX12_wish.cls ≠ "java/lang/invoke/MethodHandle" ∧ yX12_wish.cls ≠ "java/lang/invoke/VarHandle" ∧ (parseMethodDescriptor yX12_wish.desc).map (fun d => d.parameters.length) = some 6 := by decide +kernel
theorem ml_L_155 : Cond.methodLink RL 155 yX11_lacks ∈ tblG := tg 1064 (by decide +kernel) (by decide +kernel)
theorem im_X11_lacks : Cond.instanceMethod yX11_lacks ∈ tblG := tg 1065 (by decide +kernel) (by decide +kernel)
theorem se_X11_lacks : Cond.selects RX11 yX11_lacks yX11_lacks ∈ tblG := tg 1066 (by decide +kernel) (by decide +kernel)
theorem cd_X11_lacks : Cond.code yX11_lacks cX11_lacks 2 (some .int) ∈ tblG := tg 1067 (by decide +kernel) (by decide +kernel)
theorem gW_X11_lacks : GoodIn tblG (wsG yX11_lacks cX11_lacks 2 (some .int)) := tgi cd_X11_lacks
theorem gV_L_155 : GoodIn tblG (wsV RL 155 RX11 yX11_lacks (wsG yX11_lacks cX11_lacks 2 (some .int))) := tgV ml_L_155 im_X11_lacks se_X11_lacks ini_X11 gW_X11_lacks
theorem hv_X11_lacks : yX11_lacks.cls = RX11 ∧ yX11_lacks.cls ≠ "java/lang/invoke/MethodHandle" ∧ yX11_lacks.cls ≠ "java/lang/invoke/VarHandle" ∧ (parseMethodDescriptor yX11_lacks.desc).map (fun d => d.parameters.length) = some 1 := by decide +kernel
theorem ml_L_158 : Cond.methodLink RL 158 yX12_lacks ∈ tblG := tg 1779 (by decide +kernel) (by decide +kernel)
theorem im_X12_lacks : Cond.instanceMethod yX12_lacks ∈ tblG := tg 1780 (by decide +kernel) (by decide +kernel)
theorem se_X12_lacks : Cond.selects RX12 yX12_lacks yX12_lacks ∈ tblG := tg 1781 (by decide +kernel) (by decide +kernel)
theorem cd_X12_lacks : Cond.code yX12_lacks cX12_lacks 2 (some .int) ∈ tblG := tg 1782 (by decide +kernel) (by decide +kernel)
theorem gW_X12_lacks : GoodIn tblG (wsG yX12_lacks cX12_lacks 2 (some .int)) := tgi cd_X12_lacks
theorem gV_L_158 : GoodIn tblG (wsV RL 158 RX12 yX12_lacks (wsG yX12_lacks cX12_lacks 2 (some .int))) := tgV ml_L_158 im_X12_lacks se_X12_lacks ini_X12 gW_X12_lacks
theorem hv_X12_lacks : yX12_lacks.cls = RX12 ∧ yX12_lacks.cls ≠ "java/lang/invoke/MethodHandle" ∧ yX12_lacks.cls ≠ "java/lang/invoke/VarHandle" ∧ (parseMethodDescriptor yX12_lacks.desc).map (fun d => d.parameters.length) = some 1 := by decide +kernel
theorem ml_L_159 : Cond.methodLink RL 159 yX11_hang ∈ tblG := tg 1078 (by decide +kernel) (by decide +kernel)
theorem im_X11_hang : Cond.instanceMethod yX11_hang ∈ tblG := tg 1079 (by decide +kernel) (by decide +kernel)
theorem se_X11_hang : Cond.selects RX11 yX11_hang yX11_hang ∈ tblG := tg 1080 (by decide +kernel) (by decide +kernel)
theorem cd_X11_hang : Cond.code yX11_hang cX11_hang 2 (some .int) ∈ tblG := tg 1081 (by decide +kernel) (by decide +kernel)
theorem gW_X11_hang : GoodIn tblG (wsG yX11_hang cX11_hang 2 (some .int)) := tgi cd_X11_hang
theorem gV_L_159 : GoodIn tblG (wsV RL 159 RX11 yX11_hang (wsG yX11_hang cX11_hang 2 (some .int))) := tgV ml_L_159 im_X11_hang se_X11_hang ini_X11 gW_X11_hang
theorem hv_X11_hang : yX11_hang.cls = RX11 ∧ yX11_hang.cls ≠ "java/lang/invoke/MethodHandle" ∧ yX11_hang.cls ≠ "java/lang/invoke/VarHandle" ∧ (parseMethodDescriptor yX11_hang.desc).map (fun d => d.parameters.length) = some 1 := by decide +kernel
theorem ml_L_162 : Cond.methodLink RL 162 yX12_hang ∈ tblG := tg 1791 (by decide +kernel) (by decide +kernel)
theorem im_X12_hang : Cond.instanceMethod yX12_hang ∈ tblG := tg 1792 (by decide +kernel) (by decide +kernel)
theorem se_X12_hang : Cond.selects RX12 yX12_hang yX12_hang ∈ tblG := tg 1793 (by decide +kernel) (by decide +kernel)
theorem cd_X12_hang : Cond.code yX12_hang cX12_hang 7 (some .int) ∈ tblG := tg 1794 (by decide +kernel) (by decide +kernel)
theorem gW_X12_hang : GoodIn tblG (wsG yX12_hang cX12_hang 7 (some .int)) := tgi cd_X12_hang
theorem gV_L_162 : GoodIn tblG (wsV RL 162 RX12 yX12_hang (wsG yX12_hang cX12_hang 7 (some .int))) := tgV ml_L_162 im_X12_hang se_X12_hang ini_X12 gW_X12_hang
theorem hv_X12_hang : yX12_hang.cls = RX12 ∧ yX12_hang.cls ≠ "java/lang/invoke/MethodHandle" ∧ yX12_hang.cls ≠ "java/lang/invoke/VarHandle" ∧ (parseMethodDescriptor yX12_hang.desc).map (fun d => d.parameters.length) = some 1 := by decide +kernel
theorem ml_L_163 : Cond.methodLink RL 163 yX11_soonest ∈ tblG := tg 1093 (by decide +kernel) (by decide +kernel)
theorem im_X11_soonest : Cond.instanceMethod yX11_soonest ∈ tblG := tg 1094 (by decide +kernel) (by decide +kernel)
theorem se_X11_soonest : Cond.selects RX11 yX11_soonest yX11_soonest ∈ tblG := tg 1095 (by decide +kernel) (by decide +kernel)
theorem cd_X11_soonest : Cond.code yX11_soonest cX11_soonest 4 (some .int) ∈ tblG := tg 1096 (by decide +kernel) (by decide +kernel)
theorem gW_X11_soonest : GoodIn tblG (wsG yX11_soonest cX11_soonest 4 (some .int)) := tgi cd_X11_soonest
theorem gV_L_163 : GoodIn tblG (wsV RL 163 RX11 yX11_soonest (wsG yX11_soonest cX11_soonest 4 (some .int))) := tgV ml_L_163 im_X11_soonest se_X11_soonest ini_X11 gW_X11_soonest
theorem hv_X11_soonest : yX11_soonest.cls = RX11 ∧ yX11_soonest.cls ≠ "java/lang/invoke/MethodHandle" ∧ yX11_soonest.cls ≠ "java/lang/invoke/VarHandle" ∧ (parseMethodDescriptor yX11_soonest.desc).map (fun d => d.parameters.length) = some 3 := by decide +kernel
theorem ml_L_166 : Cond.methodLink RL 166 yX12_soonest ∈ tblG := tg 1798 (by decide +kernel) (by decide +kernel)
theorem im_X12_soonest : Cond.instanceMethod yX12_soonest ∈ tblG := tg 1799 (by decide +kernel) (by decide +kernel)
theorem se_X12_soonest : Cond.selects RX12 yX12_soonest yX12_soonest ∈ tblG := tg 1800 (by decide +kernel) (by decide +kernel)
theorem cd_X12_soonest : Cond.code yX12_soonest cX12_soonest 4 (some .int) ∈ tblG := tg 1801 (by decide +kernel) (by decide +kernel)
theorem gW_X12_soonest : GoodIn tblG (wsG yX12_soonest cX12_soonest 4 (some .int)) := tgi cd_X12_soonest
theorem gV_L_166 : GoodIn tblG (wsV RL 166 RX12 yX12_soonest (wsG yX12_soonest cX12_soonest 4 (some .int))) := tgV ml_L_166 im_X12_soonest se_X12_soonest ini_X12 gW_X12_soonest
theorem hv_X12_soonest : yX12_soonest.cls = RX12 ∧ yX12_soonest.cls ≠ "java/lang/invoke/MethodHandle" ∧ yX12_soonest.cls ≠ "java/lang/invoke/VarHandle" ∧ (parseMethodDescriptor yX12_soonest.desc).map (fun d => d.parameters.length) = some 3 := by decide +kernel
theorem ml_L_167 : Cond.methodLink RL 167 yX11_way ∈ tblG := tg 1122 (by decide +kernel) (by decide +kernel)
theorem im_X11_way : Cond.instanceMethod yX11_way ∈ tblG := tg 1123 (by decide +kernel) (by decide +kernel)
theorem se_X11_way : Cond.selects RX11 yX11_way yX11_way ∈ tblG := tg 1124 (by decide +kernel) (by decide +kernel)
theorem cd_X11_way : Cond.code yX11_way cX11_way 6 (some .int) ∈ tblG := tg 1125 (by decide +kernel) (by decide +kernel)
theorem gW_X11_way : GoodIn tblG (wsG yX11_way cX11_way 6 (some .int)) := tgi cd_X11_way
theorem gV_L_167 : GoodIn tblG (wsV RL 167 RX11 yX11_way (wsG yX11_way cX11_way 6 (some .int))) := tgV ml_L_167 im_X11_way se_X11_way ini_X11 gW_X11_way
theorem hv_X11_way : yX11_way.cls = RX11 ∧ yX11_way.cls ≠ "java/lang/invoke/MethodHandle" ∧ yX11_way.cls ≠ "java/lang/invoke/VarHandle" ∧ (parseMethodDescriptor yX11_way.desc).map (fun d => d.parameters.length) = some 4 := by decide +kernel
theorem ml_L_170 : Cond.methodLink RL 170 yX12_way ∈ tblG := tg 1806 (by decide +kernel) (by decide +kernel)
theorem im_X12_way : Cond.instanceMethod yX12_way ∈ tblG := tg 1807 (by decide +kernel) (by decide +kernel)
theorem se_X12_way : Cond.selects RX12 yX12_way yX12_way ∈ tblG := tg 1808 (by decide +kernel) (by decide +kernel)
theorem cd_X12_way : Cond.code yX12_way cX12_way 10 (some .int) ∈ tblG := tg 1809 (by decide +kernel) (by decide +kernel)
theorem gW_X12_way : GoodIn tblG (wsG yX12_way cX12_way 10 (some .int)) := tgi cd_X12_way
theorem gV_L_170 : GoodIn tblG (wsV RL 170 RX12 yX12_way (wsG yX12_way cX12_way 10 (some .int))) := tgV ml_L_170 im_X12_way se_X12_way ini_X12 gW_X12_way
theorem hv_X12_way : yX12_way.cls = RX12 ∧ yX12_way.cls ≠ "java/lang/invoke/MethodHandle" ∧ yX12_way.cls ≠ "java/lang/invoke/VarHandle" ∧ (parseMethodDescriptor yX12_way.desc).map (fun d => d.parameters.length) = some 4 := by decide +kernel
theorem ml_L_171 : Cond.methodLink RL 171 yX11_sooner ∈ tblG := tg 1135 (by decide +kernel) (by decide +kernel)
theorem im_X11_sooner : Cond.instanceMethod yX11_sooner ∈ tblG := tg 1136 (by decide +kernel) (by decide +kernel)
theorem se_X11_sooner : Cond.selects RX11 yX11_sooner yX11_sooner ∈ tblG := tg 1137 (by decide +kernel) (by decide +kernel)
theorem cd_X11_sooner : Cond.code yX11_sooner cX11_sooner 12 (some .int) ∈ tblG := tg 1138 (by decide +kernel) (by decide +kernel)
theorem gW_X11_sooner : GoodIn tblG (wsG yX11_sooner cX11_sooner 12 (some .int)) := tgi cd_X11_sooner
theorem gV_L_171 : GoodIn tblG (wsV RL 171 RX11 yX11_sooner (wsG yX11_sooner cX11_sooner 12 (some .int))) := tgV ml_L_171 im_X11_sooner se_X11_sooner ini_X11 gW_X11_sooner
theorem hv_X11_sooner : yX11_sooner.cls = RX11 ∧ yX11_sooner.cls ≠ "java/lang/invoke/MethodHandle" ∧ yX11_sooner.cls ≠ "java/lang/invoke/VarHandle" ∧ (parseMethodDescriptor yX11_sooner.desc).map (fun d => d.parameters.length) = some 4 := by decide +kernel
theorem ml_L_174 : Cond.methodLink RL 174 yX12_sooner ∈ tblG := tg 1810 (by decide +kernel) (by decide +kernel)
theorem im_X12_sooner : Cond.instanceMethod yX12_sooner ∈ tblG := tg 1811 (by decide +kernel) (by decide +kernel)
theorem se_X12_sooner : Cond.selects RX12 yX12_sooner yX12_sooner ∈ tblG := tg 1812 (by decide +kernel) (by decide +kernel)
theorem cd_X12_sooner : Cond.code yX12_sooner cX12_sooner 12 (some .int) ∈ tblG := tg 1813 (by decide +kernel) (by decide +kernel)
theorem gW_X12_sooner : GoodIn tblG (wsG yX12_sooner cX12_sooner 12 (some .int)) := tgi cd_X12_sooner
theorem gV_L_174 : GoodIn tblG (wsV RL 174 RX12 yX12_sooner (wsG yX12_sooner cX12_sooner 12 (some .int))) := tgV ml_L_174 im_X12_sooner se_X12_sooner ini_X12 gW_X12_sooner
theorem hv_X12_sooner : yX12_sooner.cls = RX12 ∧ yX12_sooner.cls ≠ "java/lang/invoke/MethodHandle" ∧ yX12_sooner.cls ≠ "java/lang/invoke/VarHandle" ∧ (parseMethodDescriptor yX12_sooner.desc).map (fun d => d.parameters.length) = some 4 := by decide +kernel
theorem ml_L_175 : Cond.methodLink RL 175 yX11_wander ∈ tblG := tg 1143 (by decide +kernel) (by decide +kernel)
theorem im_X11_wander : Cond.instanceMethod yX11_wander ∈ tblG := tg 1144 (by decide +kernel) (by decide +kernel)
theorem se_X11_wander : Cond.selects RX11 yX11_wander yX11_wander ∈ tblG := tg 1145 (by decide +kernel) (by decide +kernel)
theorem cd_X11_wander : Cond.code yX11_wander cX11_wander 9 (some .int) ∈ tblG := tg 1146 (by decide +kernel) (by decide +kernel)
theorem gW_X11_wander : GoodIn tblG (wsG yX11_wander cX11_wander 9 (some .int)) := tgi cd_X11_wander
theorem gV_L_175 : GoodIn tblG (wsV RL 175 RX11 yX11_wander (wsG yX11_wander cX11_wander 9 (some .int))) := tgV ml_L_175 im_X11_wander se_X11_wander ini_X11 gW_X11_wander
theorem hv_X11_wander : yX11_wander.cls = RX11 ∧ yX11_wander.cls ≠ "java/lang/invoke/MethodHandle" ∧ yX11_wander.cls ≠ "java/lang/invoke/VarHandle" ∧ (parseMethodDescriptor yX11_wander.desc).map (fun d => d.parameters.length) = some 2 := by decide +kernel
theorem ml_L_178 : Cond.methodLink RL 178 yX12_wander ∈ tblG := tg 1814 (by decide +kernel) (by decide +kernel)
theorem im_X12_wander : Cond.instanceMethod yX12_wander ∈ tblG := tg 1815 (by decide +kernel) (by decide +kernel)
theorem se_X12_wander : Cond.selects RX12 yX12_wander yX12_wander ∈ tblG := tg 1816 (by decide +kernel) (by decide +kernel)
theorem cd_X12_wander : Cond.code yX12_wander cX12_wander 7 (some .int) ∈ tblG := tg 1817 (by decide +kernel) (by decide +kernel)
theorem gW_X12_wander : GoodIn tblG (wsG yX12_wander cX12_wander 7 (some .int)) := tgi cd_X12_wander
theorem gV_L_178 : GoodIn tblG (wsV RL 178 RX12 yX12_wander (wsG yX12_wander cX12_wander 7 (some .int))) := tgV ml_L_178 im_X12_wander se_X12_wander ini_X12 gW_X12_wander
theorem hv_X12_wander : yX12_wander.cls = RX12 ∧ yX12_wander.cls ≠ "java/lang/invoke/MethodHandle" ∧ yX12_wander.cls ≠ "java/lang/invoke/VarHandle" ∧ (parseMethodDescriptor yX12_wander.desc).map (fun d => d.parameters.length) = some 2 := by decide +kernel
theorem ml_L_179 : Cond.methodLink RL 179 yX11_drawn ∈ tblG := tg 1152 (by decide +kernel) (by decide +kernel)
theorem im_X11_drawn : Cond.instanceMethod yX11_drawn ∈ tblG := tg 1153 (by decide +kernel) (by decide +kernel)
theorem se_X11_drawn : Cond.selects RX11 yX11_drawn yX11_drawn ∈ tblG := tg 1154 (by decide +kernel) (by decide +kernel)
theorem cd_X11_drawn : Cond.code yX11_drawn cX11_drawn 2 (some .int) ∈ tblG := tg 1155 (by decide +kernel) (by decide +kernel)
theorem gW_X11_drawn : GoodIn tblG (wsG yX11_drawn cX11_drawn 2 (some .int)) := tgi cd_X11_drawn
theorem gV_L_179 : GoodIn tblG (wsV RL 179 RX11 yX11_drawn (wsG yX11_drawn cX11_drawn 2 (some .int))) := tgV ml_L_179 im_X11_drawn se_X11_drawn ini_X11 gW_X11_drawn
theorem hv_X11_drawn : yX11_drawn.cls = RX11 ∧ yX11_drawn.cls ≠ "java/lang/invoke/MethodHandle" ∧ yX11_drawn.cls ≠ "java/lang/invoke/VarHandle" ∧ (parseMethodDescriptor yX11_drawn.desc).map (fun d => d.parameters.length) = some 1 := by decide +kernel
theorem ml_L_182 : Cond.methodLink RL 182 yX12_drawn ∈ tblG := tg 1821 (by decide +kernel) (by decide +kernel)
theorem im_X12_drawn : Cond.instanceMethod yX12_drawn ∈ tblG := tg 1822 (by decide +kernel) (by decide +kernel)
theorem se_X12_drawn : Cond.selects RX12 yX12_drawn yX12_drawn ∈ tblG := tg 1823 (by decide +kernel) (by decide +kernel)
theorem cd_X12_drawn : Cond.code yX12_drawn cX12_drawn 2 (some .int) ∈ tblG := tg 1824 (by decide +kernel) (by decide +kernel)
theorem gW_X12_drawn : GoodIn tblG (wsG yX12_drawn cX12_drawn 2 (some .int)) := tgi cd_X12_drawn
theorem gV_L_182 : GoodIn tblG (wsV RL 182 RX12 yX12_drawn (wsG yX12_drawn cX12_drawn 2 (some .int))) := tgV ml_L_182 im_X12_drawn se_X12_drawn ini_X12 gW_X12_drawn
theorem hv_X12_drawn : yX12_drawn.cls = RX12 ∧ yX12_drawn.cls ≠ "java/lang/invoke/MethodHandle" ∧ yX12_drawn.cls ≠ "java/lang/invoke/VarHandle" ∧ (parseMethodDescriptor yX12_drawn.desc).map (fun d => d.parameters.length) = some 1 := by decide +kernel
theorem ml_L_183 : Cond.methodLink RL 183 yX11_image ∈ tblG := tg 1156 (by decide +kernel) (by decide +kernel)
theorem im_X11_image : Cond.instanceMethod yX11_image ∈ tblG := tg 1157 (by decide +kernel) (by decide +kernel)
theorem se_X11_image : Cond.selects RX11 yX11_image yX11_image ∈ tblG := tg 1158 (by decide +kernel) (by decide +kernel)
theorem cd_X11_image : Cond.code yX11_image cX11_image 2 (some .int) ∈ tblG := tg 1159 (by decide +kernel) (by decide +kernel)
theorem gW_X11_image : GoodIn tblG (wsG yX11_image cX11_image 2 (some .int)) := tgi cd_X11_image
theorem gV_L_183 : GoodIn tblG (wsV RL 183 RX11 yX11_image (wsG yX11_image cX11_image 2 (some .int))) := tgV ml_L_183 im_X11_image se_X11_image ini_X11 gW_X11_image
theorem hv_X11_image : yX11_image.cls = RX11 ∧ yX11_image.cls ≠ "java/lang/invoke/MethodHandle" ∧ yX11_image.cls ≠ "java/lang/invoke/VarHandle" ∧ (parseMethodDescriptor yX11_image.desc).map (fun d => d.parameters.length) = some 1 := by decide +kernel
theorem ml_L_186 : Cond.methodLink RL 186 yX12_image ∈ tblG := tg 1360 (by decide +kernel) (by decide +kernel)
theorem im_X12_image : Cond.instanceMethod yX12_image ∈ tblG := tg 1361 (by decide +kernel) (by decide +kernel)
theorem se_X12_image : Cond.selects RX12 yX12_image yX12_image ∈ tblG := tg 1362 (by decide +kernel) (by decide +kernel)
theorem cd_X12_image : Cond.code yX12_image cX12_image 3 (some .int) ∈ tblG := tg 1363 (by decide +kernel) (by decide +kernel)
theorem gW_X12_image : GoodIn tblG (wsG yX12_image cX12_image 3 (some .int)) := tgi cd_X12_image
theorem gV_L_186 : GoodIn tblG (wsV RL 186 RX12 yX12_image (wsG yX12_image cX12_image 3 (some .int))) := tgV ml_L_186 im_X12_image se_X12_image ini_X12 gW_X12_image
theorem hv_X12_image : yX12_image.cls = RX12 ∧ yX12_image.cls ≠ "java/lang/invoke/MethodHandle" ∧ yX12_image.cls ≠ "java/lang/invoke/VarHandle" ∧ (parseMethodDescriptor yX12_image.desc).map (fun d => d.parameters.length) = some 1 := by decide +kernel
theorem ml_L_187 : Cond.methodLink RL 187 yX11_back ∈ tblG := tg 1172 (by decide +kernel) (by decide +kernel)
theorem im_X11_back : Cond.instanceMethod yX11_back ∈ tblG := tg 1173 (by decide +kernel) (by decide +kernel)
theorem se_X11_back : Cond.selects RX11 yX11_back yX11_back ∈ tblG := tg 1174 (by decide +kernel) (by decide +kernel)
theorem cd_X11_back : Cond.code yX11_back cX11_back 2 (some .int) ∈ tblG := tg 1175 (by decide +kernel) (by decide +kernel)
theorem gW_X11_back : GoodIn tblG (wsG yX11_back cX11_back 2 (some .int)) := tgi cd_X11_back
theorem gV_L_187 : GoodIn tblG (wsV RL 187 RX11 yX11_back (wsG yX11_back cX11_back 2 (some .int))) := tgV ml_L_187 im_X11_back se_X11_back ini_X11 gW_X11_back
theorem hv_X11_back : yX11_back.cls = RX11 ∧ yX11_back.cls ≠ "java/lang/invoke/MethodHandle" ∧ yX11_back.cls ≠ "java/lang/invoke/VarHandle" ∧ (parseMethodDescriptor yX11_back.desc).map (fun d => d.parameters.length) = some 1 := by decide +kernel
theorem ml_L_190 : Cond.methodLink RL 190 yX12_back ∈ tblG := tg 1371 (by decide +kernel) (by decide +kernel)
theorem im_X12_back : Cond.instanceMethod yX12_back ∈ tblG := tg 1372 (by decide +kernel) (by decide +kernel)
theorem se_X12_back : Cond.selects RX12 yX12_back yX12_back ∈ tblG := tg 1373 (by decide +kernel) (by decide +kernel)
theorem cd_X12_back : Cond.code yX12_back cX12_back 3 (some .int) ∈ tblG := tg 1374 (by decide +kernel) (by decide +kernel)
theorem gW_X12_back : GoodIn tblG (wsG yX12_back cX12_back 3 (some .int)) := tgi cd_X12_back
theorem gV_L_190 : GoodIn tblG (wsV RL 190 RX12 yX12_back (wsG yX12_back cX12_back 3 (some .int))) := tgV ml_L_190 im_X12_back se_X12_back ini_X12 gW_X12_back
theorem hv_X12_back : yX12_back.cls = RX12 ∧ yX12_back.cls ≠ "java/lang/invoke/MethodHandle" ∧ yX12_back.cls ≠ "java/lang/invoke/VarHandle" ∧ (parseMethodDescriptor yX12_back.desc).map (fun d => d.parameters.length) = some 1 := by decide +kernel
theorem ml_L_191 : Cond.methodLink RL 191 yX11_count ∈ tblG := tg 1176 (by decide +kernel) (by decide +kernel)
theorem im_X11_count : Cond.instanceMethod yX11_count ∈ tblG := tg 1177 (by decide +kernel) (by decide +kernel)
theorem se_X11_count : Cond.selects RX11 yX11_count yX11_count ∈ tblG := tg 1178 (by decide +kernel) (by decide +kernel)
theorem cd_X11_count : Cond.code yX11_count cX11_count 2 (some .int) ∈ tblG := tg 1179 (by decide +kernel) (by decide +kernel)
theorem gW_X11_count : GoodIn tblG (wsG yX11_count cX11_count 2 (some .int)) := tgi cd_X11_count
theorem gV_L_191 : GoodIn tblG (wsV RL 191 RX11 yX11_count (wsG yX11_count cX11_count 2 (some .int))) := tgV ml_L_191 im_X11_count se_X11_count ini_X11 gW_X11_count
theorem hv_X11_count : yX11_count.cls = RX11 ∧ yX11_count.cls ≠ "java/lang/invoke/MethodHandle" ∧ yX11_count.cls ≠ "java/lang/invoke/VarHandle" ∧ (parseMethodDescriptor yX11_count.desc).map (fun d => d.parameters.length) = some 1 := by decide +kernel
theorem ml_L_194 : Cond.methodLink RL 194 yX12_count ∈ tblG := tg 1825 (by decide +kernel) (by decide +kernel)
theorem im_X12_count : Cond.instanceMethod yX12_count ∈ tblG := tg 1826 (by decide +kernel) (by decide +kernel)
theorem se_X12_count : Cond.selects RX12 yX12_count yX12_count ∈ tblG := tg 1827 (by decide +kernel) (by decide +kernel)
theorem cd_X12_count : Cond.code yX12_count cX12_count 4 (some .int) ∈ tblG := tg 1828 (by decide +kernel) (by decide +kernel)
theorem gW_X12_count : GoodIn tblG (wsG yX12_count cX12_count 4 (some .int)) := tgi cd_X12_count
theorem gV_L_194 : GoodIn tblG (wsV RL 194 RX12 yX12_count (wsG yX12_count cX12_count 4 (some .int))) := tgV ml_L_194 im_X12_count se_X12_count ini_X12 gW_X12_count
theorem hv_X12_count : yX12_count.cls = RX12 ∧ yX12_count.cls ≠ "java/lang/invoke/MethodHandle" ∧ yX12_count.cls ≠ "java/lang/invoke/VarHandle" ∧ (parseMethodDescriptor yX12_count.desc).map (fun d => d.parameters.length) = some 1 := by decide +kernel
theorem ml_L_195 : Cond.methodLink RL 195 yX11_status ∈ tblG := tg 1180 (by decide +kernel) (by decide +kernel)
theorem im_X11_status : Cond.instanceMethod yX11_status ∈ tblG := tg 1181 (by decide +kernel) (by decide +kernel)
theorem se_X11_status : Cond.selects RX11 yX11_status yX11_status ∈ tblG := tg 1182 (by decide +kernel) (by decide +kernel)
theorem cd_X11_status : Cond.code yX11_status cX11_status 1 (some .int) ∈ tblG := tg 1183 (by decide +kernel) (by decide +kernel)
theorem gW_X11_status : GoodIn tblG (wsG yX11_status cX11_status 1 (some .int)) := tgi cd_X11_status
theorem gV_L_195 : GoodIn tblG (wsV RL 195 RX11 yX11_status (wsG yX11_status cX11_status 1 (some .int))) := tgV ml_L_195 im_X11_status se_X11_status ini_X11 gW_X11_status
theorem hv_X11_status : yX11_status.cls = RX11 ∧ yX11_status.cls ≠ "java/lang/invoke/MethodHandle" ∧ yX11_status.cls ≠ "java/lang/invoke/VarHandle" ∧ (parseMethodDescriptor yX11_status.desc).map (fun d => d.parameters.length) = some 0 := by decide +kernel
theorem ml_L_198 : Cond.methodLink RL 198 yX12_status ∈ tblG := tg 1829 (by decide +kernel) (by decide +kernel)
theorem im_X12_status : Cond.instanceMethod yX12_status ∈ tblG := tg 1830 (by decide +kernel) (by decide +kernel)
theorem se_X12_status : Cond.selects RX12 yX12_status yX12_status ∈ tblG := tg 1831 (by decide +kernel) (by decide +kernel)
theorem cd_X12_status : Cond.code yX12_status cX12_status 1 (some .int) ∈ tblG := tg 1832 (by decide +kernel) (by decide +kernel)
theorem gW_X12_status : GoodIn tblG (wsG yX12_status cX12_status 1 (some .int)) := tgi cd_X12_status
theorem gV_L_198 : GoodIn tblG (wsV RL 198 RX12 yX12_status (wsG yX12_status cX12_status 1 (some .int))) := tgV ml_L_198 im_X12_status se_X12_status ini_X12 gW_X12_status
theorem hv_X12_status : yX12_status.cls = RX12 ∧ yX12_status.cls ≠ "java/lang/invoke/MethodHandle" ∧ yX12_status.cls ≠ "java/lang/invoke/VarHandle" ∧ (parseMethodDescriptor yX12_status.desc).map (fun d => d.parameters.length) = some 0 := by decide +kernel
theorem isn_X3 : Cond.instantiable RX3 4 ∈ tblG := tg 757 (by decide +kernel) (by decide +kernel)
theorem inG_X3 : ∀ w ∈ wsX30, w ∈ tblG := tgs [786, 788, 790, 792] (by decide +kernel) (by decide +kernel)
/-! THE CLAIM OUT OF ONE WALK OF THE LAW'S BODY. Your part is whole_start (and what it stands on); all else here is the same for every law, but numbers. -/
def R_law : String := "LateGlassLaw"
def lw_P (b : Addr) (xs : List Int32) (args : Array Value) (s : State) : Prop := args = #[.ref b] ∧ s.IntsAt b xs ∧ xs.length ≤ 7 ∧ (Jvm.Cond.and given_1 narrow_1).before args s = true
def lw_Q (_ : Array Value) (s : State) (o : Outcome) (t : State) : Prop := o = .returned (some (.int 1)) ∧ Framed s o t [] 600000 7302250
def lw_Z (below : List Frame) (a : Array Value) (s : State) : State → Prop := fun t => ∃ o, t.status = .running ∧ Ended t below o ∧ lw_Q a s o t
/-- the law's own end, with 1 on the stack, nothing written that was there before, its room as the claim has it -/
theorem lw_ret {p : Program} {l : Launch} {e : Env} {s : State} {m : MethodId} {below : List Frame} {meth : Method} {c : Code} {b : Nat} (hx : p.tables.exec = Jvm.exec) (hb : c.code = code) (hr : meth.sig.returnType = ret) (hlocks : meth.locks = false) {pc : Nat} {H : Heap} {ls : Array Slot} (hdg : decode code pc = .ok (.ireturn, 1)) : W p l e room_1 s m #[Value.ref b] below meth c H [] 600000 7302250 (lw_Z below #[Value.ref b] s) (F0 m pc ls [.int 1]) := by
  intro T hT X
  obtain ⟨fs, hret, hrun, hended, hW, hframe⟩ := X.leave (v := some (.int 1)) (hlocks := hlocks) (fun h => by rw [hr] at h; cases h)
  have hmeth' : T.vm.method? m = some meth := X.method'
  refine ⟨T.setFrames fs, ?_, .returned (some (.int 1)), hrun, hended, rfl, ⟨_, rfl⟩, hW, hframe⟩
  jvm_step X.here [X.here.top, hx, hb, hdg, hmeth', hr, ret, narrow_b1]
  (try refine ⟨rfl, ?_⟩); (try refine ⟨rfl, ?_⟩)
  first | (intro acts; rw [hret _ acts rfl rfl rfl]) | rw [hret _ _ rfl rfl rfl]
  exact Steps.refl _
/-- what holds at the law's entry: the machine, the code, the tables' words (any of lw_tbl by 'hts w (by decide +kernel)'), the script of L ints xs at the cell b, what the Statement gives of the start (any of its parts by flat_of_before) -/
def lw_At (p : Program) (s : State) (m : MethodId) (meth : Method) (c : Code) (b L : Nat) (xs : Nat → Int32) : Prop :=
  p.tables.exec = Jvm.exec ∧ c.code = code ∧ meth.sig.returnType = ret ∧ c.maxLocals = 4 ∧ s.vm.findClass R_law = some m.cls ∧ (∀ w ∈ lw_tbl, w.before #[Value.ref b] s = true) ∧ va_X b L xs s s.heap ∧ b < s.heap.size ∧ meth.locks = false ∧ (Jvm.Cond.and given_1 narrow_1).before #[Value.ref b] s = true

def cwA (G : g5_G) (qx0 qx1 qx2 qx3 qx4 qx5 qx6 qx7 qx8 qx9 qx10 qx11 qx12 qx13 qx14 qx15 qx16 qx17 qx18 qx19 qx20 qx21 qx22 qx23 qx24 qx25 qx26 qx27 qx28 qx29 qx30 qx31 qx32 qx33 qx34 qx35 qx36 qx37 qx38 qx39 qx40 qx41 qx42 qx43 qx44 qx45 qx46 qx47 qx48 qx49 qx50 qx51 qx52 qx53 qx54 qx55 qx56 qx57 qx58 qx59 qx60 qx61 qx62 qx63 qx64 qx65 qx66 qx67 qx68 qx69 qx70 qx71 rm0 rm1 rm2 rm3 rm4 rm5 rm6 rm7 rm8 rm9 rm10 rm11 rm12 rm13 rm14 rm15 rm16 rm17 rm18 rm19 rm20 rm21 rm22 : Nat) : va_W := [(qx0, .inr (11, [.ref qx1, .ref qx14, .ref qx41, .ref qx42, .ref qx47, .ref qx49, .ref qx57, .ref qx58, .ref qx61, .ref qx69, .int 0, .int 0, .int (-1), .ref qx70, .int 0, .ref qx71, .int 0])), (qx1, .inr (1, [.long 0, .int 1000, .int (-1), .int (-1), .int 0, .ref qx2, .ref qx3, .ref qx5, .ref qx7, .ref qx9, .ref qx11, .long 0, .ref qx13])), (qx2, .inl (G.2 4, 6, .inr (.inr (.inr (.inr (fun _ => none)))))), (qx3, .inr (6, [.int 6, .int 5, .ref qx4, .int 0])), (qx4, .inl (G.2 0, 30, .inl (fun _ => 0))), (qx5, .inr (6, [.int 5, .int 24, .ref qx6, .int 0])), (qx6, .inl (G.2 0, 120, .inl (fun _ => 0))), (qx7, .inr (6, [.int 10, .int 4, .ref qx8, .int 0])), (qx8, .inl (G.2 0, 40, .inl (fun _ => 0))), (qx9, .inr (6, [.int 8, .int 5, .ref qx10, .int 0])), (qx10, .inl (G.2 0, 40, .inl (fun _ => 0))), (qx11, .inr (6, [.int 6, .int 6, .ref qx12, .int 0])), (qx12, .inl (G.2 0, 36, .inl (fun _ => 0))), (qx13, .inl (G.2 1, 24, .inr (.inl (fun _ => 0)))), (qx14, .inl (G.2 3, 2, .inr (.inr (.inr (.inr (va_up (va_up (fun _ => none) 0 (some qx15)) 1 (some qx28))))))), (qx15, .inr (1, [.long 0, .int 1000, .int (-1), .int (-1), .int 0, .ref qx16, .ref qx17, .ref qx19, .ref qx21, .ref qx23, .ref qx25, .long 0, .ref qx27])), (qx16, .inl (G.2 4, 6, .inr (.inr (.inr (.inr (fun _ => none)))))), (qx17, .inr (6, [.int 6, .int 5, .ref qx18, .int 0])), (qx18, .inl (G.2 0, 30, .inl (fun _ => 0))), (qx19, .inr (6, [.int 5, .int 24, .ref qx20, .int 0])), (qx20, .inl (G.2 0, 120, .inl (fun _ => 0))), (qx21, .inr (6, [.int 10, .int 4, .ref qx22, .int 0])), (qx22, .inl (G.2 0, 40, .inl (fun _ => 0))), (qx23, .inr (6, [.int 8, .int 5, .ref qx24, .int 0])), (qx24, .inl (G.2 0, 40, .inl (fun _ => 0))), (qx25, .inr (6, [.int 6, .int 6, .ref qx26, .int 0])), (qx26, .inl (G.2 0, 36, .inl (fun _ => 0))), (qx27, .inl (G.2 1, 24, .inr (.inl (fun _ => 0)))), (qx28, .inr (1, [.long 0, .int 1000, .int (-1), .int (-1), .int 0, .ref qx29, .ref qx30, .ref qx32, .ref qx34, .ref qx36, .ref qx38, .long 0, .ref qx40])), (qx29, .inl (G.2 4, 6, .inr (.inr (.inr (.inr (fun _ => none)))))), (qx30, .inr (6, [.int 6, .int 5, .ref qx31, .int 0])), (qx31, .inl (G.2 0, 30, .inl (fun _ => 0))), (qx32, .inr (6, [.int 5, .int 24, .ref qx33, .int 0])), (qx33, .inl (G.2 0, 120, .inl (fun _ => 0))), (qx34, .inr (6, [.int 10, .int 4, .ref qx35, .int 0])), (qx35, .inl (G.2 0, 40, .inl (fun _ => 0))), (qx36, .inr (6, [.int 8, .int 5, .ref qx37, .int 0])), (qx37, .inl (G.2 0, 40, .inl (fun _ => 0))), (qx38, .inr (6, [.int 6, .int 6, .ref qx39, .int 0])), (qx39, .inl (G.2 0, 36, .inl (fun _ => 0))), (qx40, .inl (G.2 1, 24, .inr (.inl (fun _ => 0)))), (qx41, .inl (G.2 2, 2, .inl (fun _ => 0))), (qx42, .inr (5, [.ref qx1, .ref qx43, .ref qx46, .int 0, .int 0, .int 0, .int 0, .int 0, .int 0, .int 0, .int 0, .int 0, .int 0])), (qx43, .inr (2, [.ref qx44, .ref qx45])), (qx44, .inl (G.2 0, 8, .inl (fun _ => 0))), (qx45, .inl (G.2 1, 50, .inr (.inl (fun _ => 0)))), (qx46, .inl (G.2 0, 200, .inl (fun _ => 0))), (qx47, .inr (10, [.ref qx1, .ref qx42, .ref qx48])), (qx48, .inl (G.2 1, 24, .inr (.inl (fun _ => 0)))), (qx49, .inr (7, [.ref qx1, .ref qx42, .ref qx50, .ref qx51, .int 0, .ref qx52, .ref qx53, .ref qx54, .ref qx55, .ref qx56])), (qx50, .inl (G.2 1, 24, .inr (.inl (fun _ => 0)))), (qx51, .inl (G.2 0, 1536, .inl (fun _ => 0))), (qx52, .inl (G.2 1, 2048, .inr (.inl (fun _ => 0)))), (qx53, .inl (G.2 1, 2048, .inr (.inl (fun _ => 0)))), (qx54, .inl (G.2 0, 1536, .inl (fun _ => 0))), (qx55, .inl (G.2 0, 64, .inl (fun _ => 0))), (qx56, .inl (G.2 0, 64, .inl (fun _ => 0))), (qx57, .inr (0, [.ref qx1, .ref qx42, .int 0, .int 0, .int 0])), (qx58, .inr (9, [.ref qx1, .ref qx42, .ref qx59, .ref qx60])), (qx59, .inl (G.2 1, 24, .inr (.inl (fun _ => 0)))), (qx60, .inl (G.2 0, 1536, .inl (fun _ => 0))), (qx61, .inr (4, [.ref qx62, .ref qx66, .ref qx67, .ref qx68, .int 0, .int 0, .int 0, .int (-1)])), (qx62, .inr (8, [.ref qx63, .ref qx64, .ref qx65])), (qx63, .inl (G.2 0, 401, .inl (fun _ => 0))), (qx64, .inl (G.2 0, 401, .inl (fun _ => 0))), (qx65, .inl (G.2 0, 401, .inl (fun _ => 0))), (qx66, .inl (G.2 0, 12, .inl (fun _ => 0))), (qx67, .inl (G.2 0, 13, .inl (fun _ => 0))), (qx68, .inl (G.2 0, 400, .inl (fun _ => 0))), (qx69, .inl (G.2 0, 400, .inl (fun _ => 0))), (qx70, .inl (G.2 0, 24, .inl (fun _ => 0))), (qx71, .inl (G.2 0, 5, .inl (fun _ => 0))), (rm0, .inr (12, [.int 0, .int 0, .ref rm1, .ref rm2, .ref rm3, .ref rm4, .int 0, .ref rm5, .int 0, .int 0, .int 0, .int 0, .long 0, .int (-1), .int 0, .int 0, .ref rm6, .int 0, .ref rm7, .ref rm8, .int 0, .ref rm9, .ref rm10, .int 0, .int 0, .ref rm11, .ref rm12, .int 0, .ref rm13, .ref rm14, .int 0, .long 0, .long 0, .int 0, .int 0, .int 0, .int 0, .int 0, .ref rm15, .int 0, .int 0, .ref rm16, .int 0, .ref rm17, .ref rm18, .ref rm19, .int 0, .ref rm20, .ref rm21, .long 0, .ref rm22, .int 0])), (rm1, .inl (G.2 0, 7, .inl (fun _ => 0))), (rm2, .inl (G.2 0, 5740, .inl (upd (upd (upd (fun _ => 0) 3 (-1)) 4 1000) 6 (-1)))), (rm3, .inl (G.2 0, 11480, .inl (fun _ => 0))), (rm4, .inl (G.2 2, 2, .inl (fun _ => 0))), (rm5, .inl (G.2 0, 400, .inl (fun _ => 0))), (rm6, .inl (G.2 0, 96, .inl (fun _ => 0))), (rm7, .inl (G.2 0, 400, .inl (fun _ => 0))), (rm8, .inl (G.2 0, 400, .inl (fun _ => 0))), (rm9, .inl (G.2 0, 400, .inl (fun _ => 0))), (rm10, .inl (G.2 0, 400, .inl (fun _ => 0))), (rm11, .inl (G.2 1, 8, .inr (.inl (vp_updL (vp_updL (vp_updL (vp_updL (vp_updL (vp_updL (vp_updL (vp_updL (fun _ => 0) 0 7734899) 1 24) 2 25) 3 278194) 4 23609) 5 81049) 6 20583955) 7 86285588)))), (rm12, .inl (G.2 1, 4, .inr (.inl (vp_updL (vp_updL (vp_updL (vp_updL (fun _ => 0) 0 394885) 1 153204) 2 117118547) 3 3544114)))), (rm13, .inl (G.2 1, 13, .inr (.inl (fun _ => 0)))), (rm14, .inl (G.2 1, 400, .inr (.inl (fun _ => 0)))), (rm15, .inl (G.2 0, 200, .inl (fun _ => 0))), (rm16, .inl (G.2 2, 1536, .inl (fun _ => 0))), (rm17, .inl (G.2 1, 49152, .inr (.inl (fun _ => 0)))), (rm18, .inl (G.2 1, 49152, .inr (.inl (fun _ => 0)))), (rm19, .inl (G.2 0, 1536, .inl (fun _ => 0))), (rm20, .inl (G.2 2, 1536, .inl (fun _ => 0))), (rm21, .inl (G.2 2, 1536, .inl (fun _ => 0))), (rm22, .inl (G.2 0, 24, .inl (fun _ => 0)))]
def lwC (p : Program) (s : State) (m : MethodId) (meth : Method) (c : Code) (b : Nat) (xs : Nat → Int32) (G : g5_G) : Prop := lw_At p s m meth c b 7 xs ∧ va_K G.1 vwCl (T5 G) s ∧ g5_N s
set_option maxHeartbeats 4000000 in
set_option maxRecDepth 100000 in
theorem lw_ctx {s : State} {b : Nat} (hts0 : ∀ w ∈ lw_tbl, w.before #[Value.ref b] s = true) (hgv : (Jvm.Cond.and given_1 narrow_1).before #[Value.ref b] s = true) : ∃ G : g5_G, va_K G.1 vwCl (T5 G) s ∧ g5_N s ∧ g5_S (fun q : Nat => s.heap.size ≤ q) s s.heap := by
  have hts : ∀ w ∈ tblG, w.before #[Value.ref b] s = true := fun w h => hts0 w (List.mem_filter.mp h).1
  obtain ⟨c0, i0, k0⟩ := u_known (C := RX0) (T := TX0) (N := 5) (n := 5) hts inG_X0 (hts _ isn_X0)
  obtain ⟨c1, i1, k1⟩ := u_known (C := RX1) (T := TX1) (N := 13) (n := 13) hts inG_X1 (hts _ isn_X1)
  obtain ⟨c2, i2, k2⟩ := u_known (C := RX2) (T := TX2) (N := 2) (n := 2) hts inG_X2 (hts _ isn_X2)
  obtain ⟨c3, i3, k3⟩ := u_known (C := RX3) (T := TX3) (N := 4) (n := 4) hts inG_X3 (hts _ isn_X3)
  obtain ⟨c4, i4, k4⟩ := u_known (C := RX4) (T := TX4) (N := 8) (n := 8) hts inG_X4 (hts _ isn_X4)
  obtain ⟨c5, i5, k5⟩ := u_known (C := RX5) (T := TX5) (N := 13) (n := 13) hts inG_X5 (hts _ isn_X5)
  obtain ⟨c6, i6, k6⟩ := u_known (C := RX6) (T := TX6) (N := 4) (n := 4) hts inG_X6 (hts _ isn_X6)
  obtain ⟨c7, i7, k7⟩ := u_known (C := RX7) (T := TX7) (N := 10) (n := 10) hts inG_X7 (hts _ isn_X7)
  obtain ⟨c8, i8, k8⟩ := u_known (C := RX8) (T := TX8) (N := 3) (n := 3) hts inG_X8 (hts _ isn_X8)
  obtain ⟨c9, i9, k9⟩ := u_known (C := RX9) (T := TX9) (N := 4) (n := 4) hts inG_X9 (hts _ isn_X9)
  obtain ⟨c10, i10, k10⟩ := u_known (C := RX10) (T := TX10) (N := 3) (n := 3) hts inG_X10 (hts _ isn_X10)
  obtain ⟨c11, i11, k11⟩ := u_known (C := RX11) (T := TX11) (N := 17) (n := 17) hts inG_X11 (hts _ isn_X11)
  obtain ⟨c12, i12, k12⟩ := u_known (C := RX12) (T := TX12) (N := 52) (n := 52) hts inG_X12 (hts _ isn_X12)
  obtain ⟨cI, kI, pI, fI, gI, hI⟩ := Cond.arrayClass_spec (hts _ acl_I)
  obtain ⟨cJ, kJ, pJ, fJ, gJ, hJ⟩ := Cond.arrayClass_spec (hts _ acl_J)
  obtain ⟨cZ, kZ, pZ, fZ, gZ, hZ⟩ := Cond.arrayClass_spec (hts _ acl_Z)
  obtain ⟨pH, cH, kH, eH, -, fH, gH, hH⟩ := Cond.arrayOver_spec (n := "LateGlass$House") (hts0 _ (List.mem_of_getElem? (i := 221) (by decide +kernel)))
  obtain ⟨pW, cW, kW, eW, -, fW, gW, hW⟩ := Cond.arrayOver_spec (n := "LateGlass$Law") (hts0 _ (List.mem_of_getElem? (i := 126) (by decide +kernel)))
  refine ⟨((fun k => if k = 0 then c0 else if k = 1 then c1 else if k = 2 then c2 else if k = 3 then c3 else if k = 4 then c4 else if k = 5 then c5 else if k = 6 then c6 else if k = 7 then c7 else if k = 8 then c8 else if k = 9 then c9 else if k = 10 then c10 else if k = 11 then c11 else c12, fun k => if k = 0 then i0 else if k = 1 then i1 else if k = 2 then i2 else if k = 3 then i3 else if k = 4 then i4 else if k = 5 then i5 else if k = 6 then i6 else if k = 7 then i7 else if k = 8 then i8 else if k = 9 then i9 else if k = 10 then i10 else if k = 11 then i11 else i12), fun k => if k = 0 then cI else if k = 1 then cJ else if k = 2 then cZ else if k = 3 then cH else cW), ⟨?_, ?_⟩, ⟨?_, ?_, ?_⟩, ?_⟩
  · intro k q hq
    match k, hq with
    | 0, hq => cases hq; exact k0
    | 1, hq => cases hq; exact k1
    | 2, hq => cases hq; exact k2
    | 3, hq => cases hq; exact k3
    | 4, hq => cases hq; exact k4
    | 5, hq => cases hq; exact k5
    | 6, hq => cases hq; exact k6
    | 7, hq => cases hq; exact k7
    | 8, hq => cases hq; exact k8
    | 9, hq => cases hq; exact k9
    | 10, hq => cases hq; exact k10
    | 11, hq => cases hq; exact k11
    | 12, hq => cases hq; exact k12
    | k + 13, hq => simp [vwCl] at hq
  · intro k q hq
    match k, hq with
    | 0, hq => cases hq; exact ⟨fun n z => ⟨fun k h => (by cases h), kI, gI, pI, hI⟩, fI⟩
    | 1, hq => cases hq; exact ⟨fun n z => ⟨fun k h => (by cases h), kJ, gJ, pJ, hJ⟩, fJ⟩
    | 2, hq => cases hq; exact ⟨fun n z => ⟨fun k h => (by cases h), kZ, gZ, pZ, hZ⟩, fZ⟩
    | 3, hq => cases hq; exact ⟨fun n z => ⟨fun k h => (by cases h), kH, fH, pH, gH⟩, kH, pH, fH, gH, eH, hH⟩
    | 4, hq => cases hq; exact ⟨fun n z => ⟨fun k h => (by cases h), kW, fW, pW, gW⟩, kW, pW, fW, gW, eW, hW⟩
    | k + 5, hq => simp [T5] at hq
  · intro w hw
    simp only [nw5, List.mem_cons, List.not_mem_nil, or_false] at hw
    rcases hw with rfl | rfl | rfl | rfl | rfl | rfl | rfl | rfl | rfl | rfl | rfl | rfl | rfl | rfl | rfl
    · exact va_Nw.of rfl (hts0 _ (List.mem_of_getElem? (i := 121) (by decide +kernel)))
    · exact va_Nw.of rfl (hts0 _ (List.mem_of_getElem? (i := 230) (by decide +kernel)))
    · exact va_Nw.of rfl (hts0 _ (List.mem_of_getElem? (i := 395) (by decide +kernel)))
    · exact va_Nw.of rfl (hts0 _ (List.mem_of_getElem? (i := 401) (by decide +kernel)))
    · exact va_Nw.of rfl (hts0 _ (List.mem_of_getElem? (i := 514) (by decide +kernel)))
    · exact va_Nw.of rfl (hts0 _ (List.mem_of_getElem? (i := 816) (by decide +kernel)))
    · exact va_Nw.of rfl (hts0 _ (List.mem_of_getElem? (i := 822) (by decide +kernel)))
    · exact va_Nw.of rfl (hts0 _ (List.mem_of_getElem? (i := 825) (by decide +kernel)))
    · exact va_Nw.of rfl (hts0 _ (List.mem_of_getElem? (i := 982) (by decide +kernel)))
    · exact va_Nw.of rfl (hts0 _ (List.mem_of_getElem? (i := 987) (by decide +kernel)))
    · exact va_Nw.of rfl (hts0 _ (List.mem_of_getElem? (i := 1007) (by decide +kernel)))
    · exact va_Nw.of rfl (hts0 _ (List.mem_of_getElem? (i := 1028) (by decide +kernel)))
    · exact va_Nw.of rfl (hts0 _ (List.mem_of_getElem? (i := 1110) (by decide +kernel)))
    · exact va_Nw.of rfl (hts0 _ (List.mem_of_getElem? (i := 1133) (by decide +kernel)))
    · exact va_Nw.of rfl (hts0 _ (List.mem_of_getElem? (i := 1134) (by decide +kernel)))
  · exact va_AO.of (hts0 _ (List.mem_of_getElem? (i := 221) (by decide +kernel)))
  · exact va_AO.of (hts0 _ (List.mem_of_getElem? (i := 126) (by decide +kernel)))
  · have hA : ∀ a : Nat, a < s.heap.size → ¬ (fun q : Nat => s.heap.size ≤ q) a := fun a h => Nat.not_le.mpr h
    have hF := flat_of_before _ hgv
    obtain ⟨tH, htH, hTH⟩ := va_Tof (tm := (.static "LateGlass" "HAVING" "[I")) (ty := .int) (N := 5) (f := g5_hav) (A := fun q : Nat => s.heap.size ≤ q) (by decide) (hF (.arrayOf (.static "LateGlass" "HAVING" "[I") .int) (by decide +kernel)) (va_eqt (hF (.eq (.length (.static "LateGlass" "HAVING" "[I")) (.int 5)) (by decide +kernel))) (fun j hj => by
      rcases (show j = 0 ∨ j = 1 ∨ j = 2 ∨ j = 3 ∨ j = 4 by omega) with rfl | rfl | rfl | rfl | rfl
      · exact va_eqt (hF (.eq (.elem (.static "LateGlass" "HAVING" "[I") (.int 0)) (.int (-1431655766))) (by decide +kernel))
      · exact va_eqt (hF (.eq (.elem (.static "LateGlass" "HAVING" "[I") (.int 1)) (.int (-858993460))) (by decide +kernel))
      · exact va_eqt (hF (.eq (.elem (.static "LateGlass" "HAVING" "[I") (.int 2)) (.int (-252645136))) (by decide +kernel))
      · exact va_eqt (hF (.eq (.elem (.static "LateGlass" "HAVING" "[I") (.int 3)) (.int (-16711936))) (by decide +kernel))
      · exact va_eqt (hF (.eq (.elem (.static "LateGlass" "HAVING" "[I") (.int 4)) (.int (-65536))) (by decide +kernel)))  hA
    obtain ⟨tL, htL, hTL⟩ := va_Tof (tm := (.static "LateGlass" "LOWEST_FIRST" "[I")) (ty := .int) (N := 5) (f := g5_low) (A := fun q : Nat => s.heap.size ≤ q) (by decide) (hF (.arrayOf (.static "LateGlass" "LOWEST_FIRST" "[I") .int) (by decide +kernel)) (va_eqt (hF (.eq (.length (.static "LateGlass" "LOWEST_FIRST" "[I")) (.int 5)) (by decide +kernel))) (fun j hj => by
      rcases (show j = 0 ∨ j = 1 ∨ j = 2 ∨ j = 3 ∨ j = 4 by omega) with rfl | rfl | rfl | rfl | rfl
      · exact va_eqt (hF (.eq (.elem (.static "LateGlass" "LOWEST_FIRST" "[I") (.int 0)) (.int 0)) (by decide +kernel))
      · exact va_eqt (hF (.eq (.elem (.static "LateGlass" "LOWEST_FIRST" "[I") (.int 1)) (.int 3)) (by decide +kernel))
      · exact va_eqt (hF (.eq (.elem (.static "LateGlass" "LOWEST_FIRST" "[I") (.int 2)) (.int 4)) (by decide +kernel))
      · exact va_eqt (hF (.eq (.elem (.static "LateGlass" "LOWEST_FIRST" "[I") (.int 3)) (.int 1)) (by decide +kernel))
      · exact va_eqt (hF (.eq (.elem (.static "LateGlass" "LOWEST_FIRST" "[I") (.int 4)) (.int 2)) (by decide +kernel)))  hA
    exact ⟨tH, tL, va_Zof (hts0 _ (List.mem_of_getElem? (i := 1008) (by decide +kernel))) (hts _ ini_X11) htH hA, hTH, va_Zof (hts0 _ (List.mem_of_getElem? (i := 1029) (by decide +kernel))) (hts _ ini_X11) htL hA, hTL⟩
set_option maxHeartbeats 4000000 in
theorem law_end {p : Program} {l : Launch} {e : Env} {s : State} {m : MethodId} {below : List Frame} {meth : Method} {c : Code} {b : Nat} {xs : Nat → Int32} {G : g5_G} (C : lwC p s m meth c b xs G) {H : Heap} {locs : List Loc} {ls : Array Slot} (hl : lv_has ls 4 [(3, .int 0), (0, .ref b)]) (hS : va_S (fun q : Nat => s.heap.size ≤ q) s.heap H locs) : W p l e room_1 s m #[Value.ref b] below meth c H locs 95 136749 (lw_Z below #[Value.ref b] s) (F0 m 1651 ls []) := by
  obtain ⟨⟨hx, hb, hr, hml, hown, hts0, hX, hbl, hlocks, hgv⟩, hK, hN⟩ := C
  have hbA : ¬ (fun q : Nat => s.heap.size ≤ q) b := Nat.not_le.mpr hbl
  refine lv_iinc (v := 7) (lv' := [(3, .int 7), (0, .ref b)]) hx hb dL_law_1651 hl (k := 0) rfl (by decide) (by decide) rfl (fun ls hl => ?_)
  refine lv_goto (tgt := 18) hx hb dL_law_1654 (by decide) ?_
  refine lv_iload_n hx hb dL_law_18 rfl (lv_at hl 0 rfl) ?_
  refine lv_aload_n hx hb dL_law_19 rfl (lv_at hl 1 rfl) ?_
  refine va_slen hx hb hX hbl hbA hS dL_law_20 ?_
  refine g5_ti (v := 7) (by decide) ?_
  refine lv_bipush (v := 7) hx hb dL_law_21 (by decide) ?_
  refine lv_isub hx hb dL_law_23 ?_
  refine g5_ti (v := 0) (by decide) ?_
  refine lv_icmp_gt (tgt := 1657) hx hb dL_law_24 (by decide) (fun c_1 => ?_) (fun c_1 => ?_)
  ·
    refine lv_iconst (v := 1) hx hb dL_law_1657 (by decide) ?_
    refine va_forget (fun q h => hS.2.2 q h) ?_
    refine W.widen (k := 600000) (n := 7302250) (by decide) (by decide) ?_
    exact lw_ret hx hb hr hlocks dL_law_1658
  ·
    exact absurd c_1 (by decide)
