theorem d_L_law_256 : decode code 256 = .ok (.i2l, 1) := by decide +kernel
theorem d_L_law_257 : decode code 257 = .ok (.bipush 32, 2) := by decide +kernel
theorem d_L_law_259 : decode code 259 = .ok (.lshl, 1) := by decide +kernel
theorem d_L_law_260 : decode code 260 = .ok (.aload_n 0, 1) := by decide +kernel
theorem d_L_law_261 : decode code 261 = .ok (.iload_n 3, 1) := by decide +kernel
theorem d_L_law_262 : decode code 262 = .ok (.iconst 4, 1) := by decide +kernel
theorem d_L_law_263 : decode code 263 = .ok (.iadd, 1) := by decide +kernel
theorem d_L_law_264 : decode code 264 = .ok (.iaload, 1) := by decide +kernel
theorem d_L_law_265 : decode code 265 = .ok (.i2l, 1) := by decide +kernel
theorem d_L_law_266 : decode code 266 = .ok (.ldc2_w 18, 3) := by decide +kernel
theorem d_L_law_269 : decode code 269 = .ok (.land, 1) := by decide +kernel
theorem d_L_law_270 : decode code 270 = .ok (.lor, 1) := by decide +kernel
theorem d_L_law_271 : decode code 271 = .ok (.invokevirtual 25, 3) := by decide +kernel
theorem d_L_law_274 : decode code 274 = .ok (.aload_n 2, 1) := by decide +kernel
theorem d_L_law_275 : decode code 275 = .ok (.aload_n 0, 1) := by decide +kernel
theorem d_L_law_276 : decode code 276 = .ok (.iload_n 3, 1) := by decide +kernel
theorem d_L_law_277 : decode code 277 = .ok (.iconst 1, 1) := by decide +kernel
theorem d_L_law_278 : decode code 278 = .ok (.iadd, 1) := by decide +kernel
theorem d_L_law_279 : decode code 279 = .ok (.iaload, 1) := by decide +kernel
theorem d_L_law_280 : decode code 280 = .ok (.aload_n 0, 1) := by decide +kernel
theorem d_L_law_281 : decode code 281 = .ok (.iload_n 3, 1) := by decide +kernel
theorem d_L_law_282 : decode code 282 = .ok (.iconst 2, 1) := by decide +kernel
theorem d_L_law_283 : decode code 283 = .ok (.iadd, 1) := by decide +kernel
theorem d_L_law_284 : decode code 284 = .ok (.iaload, 1) := by decide +kernel
theorem d_L_law_285 : decode code 285 = .ok (.aload_n 0, 1) := by decide +kernel
theorem d_L_law_286 : decode code 286 = .ok (.iload_n 3, 1) := by decide +kernel
theorem d_L_law_287 : decode code 287 = .ok (.iconst 3, 1) := by decide +kernel
theorem d_L_law_288 : decode code 288 = .ok (.iadd, 1) := by decide +kernel
theorem d_L_law_289 : decode code 289 = .ok (.iaload, 1) := by decide +kernel
theorem d_L_law_290 : decode code 290 = .ok (.i2l, 1) := by decide +kernel
theorem d_L_law_291 : decode code 291 = .ok (.bipush 32, 2) := by decide +kernel
theorem d_L_law_293 : decode code 293 = .ok (.lshl, 1) := by decide +kernel
theorem d_L_law_294 : decode code 294 = .ok (.aload_n 0, 1) := by decide +kernel
theorem d_L_law_295 : decode code 295 = .ok (.iload_n 3, 1) := by decide +kernel
theorem d_L_law_296 : decode code 296 = .ok (.iconst 4, 1) := by decide +kernel
theorem d_L_law_297 : decode code 297 = .ok (.iadd, 1) := by decide +kernel
theorem d_L_law_298 : decode code 298 = .ok (.iaload, 1) := by decide +kernel
theorem d_L_law_299 : decode code 299 = .ok (.i2l, 1) := by decide +kernel
theorem d_L_law_300 : decode code 300 = .ok (.ldc2_w 18, 3) := by decide +kernel
theorem d_L_law_303 : decode code 303 = .ok (.land, 1) := by decide +kernel
theorem d_L_law_304 : decode code 304 = .ok (.lor, 1) := by decide +kernel
theorem d_L_law_305 : decode code 305 = .ok (.invokevirtual 29, 3) := by decide +kernel
theorem d_L_law_308 : decode code 308 = .ok (.if_icmp .eq 510, 3) := by decide +kernel
theorem d_L_law_311 : decode code 311 = .ok (.iconst 0, 1) := by decide +kernel
theorem d_L_law_312 : decode code 312 = .ok (.ireturn, 1) := by decide +kernel
theorem d_L_law_313 : decode code 313 = .ok (.aload_n 1, 1) := by decide +kernel
theorem d_L_law_314 : decode code 314 = .ok (.aload_n 0, 1) := by decide +kernel
theorem d_L_law_315 : decode code 315 = .ok (.iload_n 3, 1) := by decide +kernel
theorem d_L_law_316 : decode code 316 = .ok (.iconst 1, 1) := by decide +kernel
theorem d_L_law_317 : decode code 317 = .ok (.iadd, 1) := by decide +kernel
theorem d_L_law_318 : decode code 318 = .ok (.iaload, 1) := by decide +kernel
theorem d_L_law_319 : decode code 319 = .ok (.aload_n 0, 1) := by decide +kernel
theorem d_L_law_320 : decode code 320 = .ok (.iload_n 3, 1) := by decide +kernel
theorem d_L_law_321 : decode code 321 = .ok (.iconst 2, 1) := by decide +kernel
theorem d_L_law_322 : decode code 322 = .ok (.iadd, 1) := by decide +kernel
theorem d_L_law_323 : decode code 323 = .ok (.iaload, 1) := by decide +kernel
theorem d_L_law_324 : decode code 324 = .ok (.invokevirtual 30, 3) := by decide +kernel
theorem d_L_law_327 : decode code 327 = .ok (.aload_n 2, 1) := by decide +kernel
theorem d_L_law_328 : decode code 328 = .ok (.aload_n 0, 1) := by decide +kernel
theorem d_L_law_329 : decode code 329 = .ok (.iload_n 3, 1) := by decide +kernel
theorem d_L_law_330 : decode code 330 = .ok (.iconst 1, 1) := by decide +kernel
theorem d_L_law_331 : decode code 331 = .ok (.iadd, 1) := by decide +kernel
theorem d_L_law_332 : decode code 332 = .ok (.iaload, 1) := by decide +kernel
theorem d_L_law_333 : decode code 333 = .ok (.aload_n 0, 1) := by decide +kernel
theorem d_L_law_334 : decode code 334 = .ok (.iload_n 3, 1) := by decide +kernel
theorem d_L_law_335 : decode code 335 = .ok (.iconst 2, 1) := by decide +kernel
theorem d_L_law_336 : decode code 336 = .ok (.iadd, 1) := by decide +kernel
theorem d_L_law_337 : decode code 337 = .ok (.iaload, 1) := by decide +kernel
theorem d_L_law_338 : decode code 338 = .ok (.invokevirtual 34, 3) := by decide +kernel
theorem d_L_law_341 : decode code 341 = .ok (.if_icmp .eq 477, 3) := by decide +kernel
theorem d_L_law_344 : decode code 344 = .ok (.iconst 0, 1) := by decide +kernel
theorem d_L_law_345 : decode code 345 = .ok (.ireturn, 1) := by decide +kernel
theorem d_L_law_346 : decode code 346 = .ok (.aload_n 1, 1) := by decide +kernel
theorem d_L_law_347 : decode code 347 = .ok (.aload_n 0, 1) := by decide +kernel
theorem d_L_law_348 : decode code 348 = .ok (.iload_n 3, 1) := by decide +kernel
theorem d_L_law_349 : decode code 349 = .ok (.iconst 1, 1) := by decide +kernel
theorem d_L_law_350 : decode code 350 = .ok (.iadd, 1) := by decide +kernel
theorem d_L_law_351 : decode code 351 = .ok (.iaload, 1) := by decide +kernel
theorem d_L_law_352 : decode code 352 = .ok (.aload_n 0, 1) := by decide +kernel
theorem d_L_law_353 : decode code 353 = .ok (.iload_n 3, 1) := by decide +kernel
theorem d_L_law_354 : decode code 354 = .ok (.iconst 2, 1) := by decide +kernel
theorem d_L_law_355 : decode code 355 = .ok (.iadd, 1) := by decide +kernel
theorem d_L_law_356 : decode code 356 = .ok (.iaload, 1) := by decide +kernel
theorem d_L_law_357 : decode code 357 = .ok (.aload_n 0, 1) := by decide +kernel
theorem d_L_law_358 : decode code 358 = .ok (.iload_n 3, 1) := by decide +kernel
theorem d_L_law_359 : decode code 359 = .ok (.iconst 3, 1) := by decide +kernel
theorem d_L_law_360 : decode code 360 = .ok (.iadd, 1) := by decide +kernel
theorem d_L_law_361 : decode code 361 = .ok (.iaload, 1) := by decide +kernel
theorem d_L_law_362 : decode code 362 = .ok (.aload_n 0, 1) := by decide +kernel
theorem d_L_law_363 : decode code 363 = .ok (.iload_n 3, 1) := by decide +kernel
theorem d_L_law_364 : decode code 364 = .ok (.iconst 4, 1) := by decide +kernel
theorem d_L_law_365 : decode code 365 = .ok (.iadd, 1) := by decide +kernel
theorem d_L_law_366 : decode code 366 = .ok (.iaload, 1) := by decide +kernel
theorem d_L_law_367 : decode code 367 = .ok (.i2l, 1) := by decide +kernel
theorem d_L_law_368 : decode code 368 = .ok (.bipush 32, 2) := by decide +kernel
theorem d_L_law_370 : decode code 370 = .ok (.lshl, 1) := by decide +kernel
theorem d_L_law_371 : decode code 371 = .ok (.aload_n 0, 1) := by decide +kernel
theorem d_L_law_372 : decode code 372 = .ok (.iload_n 3, 1) := by decide +kernel
theorem d_L_law_373 : decode code 373 = .ok (.iconst 5, 1) := by decide +kernel
theorem d_L_law_374 : decode code 374 = .ok (.iadd, 1) := by decide +kernel
theorem d_L_law_375 : decode code 375 = .ok (.iaload, 1) := by decide +kernel
theorem d_L_law_376 : decode code 376 = .ok (.i2l, 1) := by decide +kernel
theorem d_L_law_377 : decode code 377 = .ok (.ldc2_w 18, 3) := by decide +kernel
theorem d_L_law_380 : decode code 380 = .ok (.land, 1) := by decide +kernel
theorem d_L_law_381 : decode code 381 = .ok (.lor, 1) := by decide +kernel
theorem d_L_law_382 : decode code 382 = .ok (.aload_n 0, 1) := by decide +kernel
theorem d_L_law_383 : decode code 383 = .ok (.iload_n 3, 1) := by decide +kernel
theorem d_L_law_384 : decode code 384 = .ok (.bipush 6, 2) := by decide +kernel
theorem d_L_law_386 : decode code 386 = .ok (.iadd, 1) := by decide +kernel
theorem d_L_law_387 : decode code 387 = .ok (.iaload, 1) := by decide +kernel
theorem d_L_law_388 : decode code 388 = .ok (.i2l, 1) := by decide +kernel
theorem d_L_law_389 : decode code 389 = .ok (.bipush 32, 2) := by decide +kernel
theorem d_L_law_391 : decode code 391 = .ok (.lshl, 1) := by decide +kernel
theorem d_L_law_392 : decode code 392 = .ok (.aload_n 0, 1) := by decide +kernel
theorem d_L_law_393 : decode code 393 = .ok (.iload_n 3, 1) := by decide +kernel
theorem d_L_law_394 : decode code 394 = .ok (.bipush 7, 2) := by decide +kernel
theorem d_L_law_396 : decode code 396 = .ok (.iadd, 1) := by decide +kernel
theorem d_L_law_397 : decode code 397 = .ok (.iaload, 1) := by decide +kernel
theorem d_L_law_398 : decode code 398 = .ok (.i2l, 1) := by decide +kernel
theorem d_L_law_399 : decode code 399 = .ok (.ldc2_w 18, 3) := by decide +kernel
theorem d_L_law_402 : decode code 402 = .ok (.land, 1) := by decide +kernel
theorem d_L_law_403 : decode code 403 = .ok (.lor, 1) := by decide +kernel
theorem d_L_law_404 : decode code 404 = .ok (.invokevirtual 35, 3) := by decide +kernel
theorem d_L_law_407 : decode code 407 = .ok (.aload_n 2, 1) := by decide +kernel
theorem d_L_law_408 : decode code 408 = .ok (.aload_n 0, 1) := by decide +kernel
theorem d_L_law_409 : decode code 409 = .ok (.iload_n 3, 1) := by decide +kernel
theorem d_L_law_410 : decode code 410 = .ok (.iconst 1, 1) := by decide +kernel
theorem d_L_law_411 : decode code 411 = .ok (.iadd, 1) := by decide +kernel
theorem d_L_law_412 : decode code 412 = .ok (.iaload, 1) := by decide +kernel
theorem d_L_law_413 : decode code 413 = .ok (.aload_n 0, 1) := by decide +kernel
theorem d_L_law_414 : decode code 414 = .ok (.iload_n 3, 1) := by decide +kernel
theorem d_L_law_415 : decode code 415 = .ok (.iconst 2, 1) := by decide +kernel
theorem d_L_law_416 : decode code 416 = .ok (.iadd, 1) := by decide +kernel
theorem d_L_law_417 : decode code 417 = .ok (.iaload, 1) := by decide +kernel
theorem d_L_law_418 : decode code 418 = .ok (.aload_n 0, 1) := by decide +kernel
theorem d_L_law_419 : decode code 419 = .ok (.iload_n 3, 1) := by decide +kernel
theorem d_L_law_420 : decode code 420 = .ok (.iconst 3, 1) := by decide +kernel
theorem d_L_law_421 : decode code 421 = .ok (.iadd, 1) := by decide +kernel
theorem d_L_law_422 : decode code 422 = .ok (.iaload, 1) := by decide +kernel
theorem d_L_law_423 : decode code 423 = .ok (.aload_n 0, 1) := by decide +kernel
theorem d_L_law_424 : decode code 424 = .ok (.iload_n 3, 1) := by decide +kernel
theorem d_L_law_425 : decode code 425 = .ok (.iconst 4, 1) := by decide +kernel
theorem d_L_law_426 : decode code 426 = .ok (.iadd, 1) := by decide +kernel
theorem d_L_law_427 : decode code 427 = .ok (.iaload, 1) := by decide +kernel
theorem d_L_law_428 : decode code 428 = .ok (.i2l, 1) := by decide +kernel
theorem d_L_law_429 : decode code 429 = .ok (.bipush 32, 2) := by decide +kernel
theorem d_L_law_431 : decode code 431 = .ok (.lshl, 1) := by decide +kernel
theorem d_L_law_432 : decode code 432 = .ok (.aload_n 0, 1) := by decide +kernel
theorem d_L_law_433 : decode code 433 = .ok (.iload_n 3, 1) := by decide +kernel
theorem d_L_law_434 : decode code 434 = .ok (.iconst 5, 1) := by decide +kernel
