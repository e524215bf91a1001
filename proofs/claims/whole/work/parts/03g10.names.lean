theorem dX5_init_251 : decode cX5_init 251 = .ok (.ldc 77, 2) := by decide +kernel
theorem dX5_init_253 : decode cX5_init 253 = .ok (.iastore, 1) := by decide +kernel
theorem dX5_init_254 : decode cX5_init 254 = .ok (.dup, 1) := by decide +kernel
theorem dX5_init_255 : decode cX5_init 255 = .ok (.bipush 23, 2) := by decide +kernel
theorem dX5_init_257 : decode cX5_init 257 = .ok (.ldc 78, 2) := by decide +kernel
theorem dX5_init_259 : decode cX5_init 259 = .ok (.iastore, 1) := by decide +kernel
theorem dX5_init_260 : decode cX5_init 260 = .ok (.dup, 1) := by decide +kernel
theorem dX5_init_261 : decode cX5_init 261 = .ok (.bipush 24, 2) := by decide +kernel
theorem dX5_init_263 : decode cX5_init 263 = .ok (.ldc 79, 2) := by decide +kernel
theorem dX5_init_265 : decode cX5_init 265 = .ok (.iastore, 1) := by decide +kernel
theorem dX5_init_266 : decode cX5_init 266 = .ok (.dup, 1) := by decide +kernel
theorem dX5_init_267 : decode cX5_init 267 = .ok (.bipush 25, 2) := by decide +kernel
theorem dX5_init_269 : decode cX5_init 269 = .ok (.ldc 80, 2) := by decide +kernel
theorem dX5_init_271 : decode cX5_init 271 = .ok (.iastore, 1) := by decide +kernel
theorem dX5_init_272 : decode cX5_init 272 = .ok (.dup, 1) := by decide +kernel
theorem dX5_init_273 : decode cX5_init 273 = .ok (.bipush 26, 2) := by decide +kernel
theorem dX5_init_275 : decode cX5_init 275 = .ok (.ldc 81, 2) := by decide +kernel
theorem dX5_init_277 : decode cX5_init 277 = .ok (.iastore, 1) := by decide +kernel
theorem dX5_init_278 : decode cX5_init 278 = .ok (.dup, 1) := by decide +kernel
theorem dX5_init_279 : decode cX5_init 279 = .ok (.bipush 27, 2) := by decide +kernel
theorem dX5_init_281 : decode cX5_init 281 = .ok (.ldc 82, 2) := by decide +kernel
theorem dX5_init_283 : decode cX5_init 283 = .ok (.iastore, 1) := by decide +kernel
theorem dX5_init_284 : decode cX5_init 284 = .ok (.dup, 1) := by decide +kernel
theorem dX5_init_285 : decode cX5_init 285 = .ok (.bipush 28, 2) := by decide +kernel
theorem dX5_init_287 : decode cX5_init 287 = .ok (.ldc 83, 2) := by decide +kernel
theorem dX5_init_289 : decode cX5_init 289 = .ok (.iastore, 1) := by decide +kernel
theorem dX5_init_290 : decode cX5_init 290 = .ok (.dup, 1) := by decide +kernel
theorem dX5_init_291 : decode cX5_init 291 = .ok (.bipush 29, 2) := by decide +kernel
theorem dX5_init_293 : decode cX5_init 293 = .ok (.ldc 84, 2) := by decide +kernel
theorem dX5_init_295 : decode cX5_init 295 = .ok (.iastore, 1) := by decide +kernel
theorem dX5_init_296 : decode cX5_init 296 = .ok (.dup, 1) := by decide +kernel
theorem dX5_init_297 : decode cX5_init 297 = .ok (.bipush 30, 2) := by decide +kernel
theorem dX5_init_299 : decode cX5_init 299 = .ok (.ldc 85, 2) := by decide +kernel
theorem dX5_init_301 : decode cX5_init 301 = .ok (.iastore, 1) := by decide +kernel
theorem dX5_init_302 : decode cX5_init 302 = .ok (.dup, 1) := by decide +kernel
theorem dX5_init_303 : decode cX5_init 303 = .ok (.bipush 31, 2) := by decide +kernel
theorem dX5_init_305 : decode cX5_init 305 = .ok (.ldc 86, 2) := by decide +kernel
theorem dX5_init_307 : decode cX5_init 307 = .ok (.iastore, 1) := by decide +kernel
theorem dX5_init_308 : decode cX5_init 308 = .ok (.dup, 1) := by decide +kernel
theorem dX5_init_309 : decode cX5_init 309 = .ok (.bipush 32, 2) := by decide +kernel
theorem dX5_init_311 : decode cX5_init 311 = .ok (.ldc 87, 2) := by decide +kernel
theorem dX5_init_313 : decode cX5_init 313 = .ok (.iastore, 1) := by decide +kernel
theorem dX5_init_314 : decode cX5_init 314 = .ok (.dup, 1) := by decide +kernel
theorem dX5_init_315 : decode cX5_init 315 = .ok (.bipush 33, 2) := by decide +kernel
theorem dX5_init_317 : decode cX5_init 317 = .ok (.ldc 88, 2) := by decide +kernel
theorem dX5_init_319 : decode cX5_init 319 = .ok (.iastore, 1) := by decide +kernel
theorem dX5_init_320 : decode cX5_init 320 = .ok (.dup, 1) := by decide +kernel
theorem dX5_init_321 : decode cX5_init 321 = .ok (.bipush 34, 2) := by decide +kernel
theorem dX5_init_323 : decode cX5_init 323 = .ok (.ldc 89, 2) := by decide +kernel
theorem dX5_init_325 : decode cX5_init 325 = .ok (.iastore, 1) := by decide +kernel
theorem dX5_init_326 : decode cX5_init 326 = .ok (.dup, 1) := by decide +kernel
theorem dX5_init_327 : decode cX5_init 327 = .ok (.bipush 35, 2) := by decide +kernel
theorem dX5_init_329 : decode cX5_init 329 = .ok (.ldc 90, 2) := by decide +kernel
theorem dX5_init_331 : decode cX5_init 331 = .ok (.iastore, 1) := by decide +kernel
theorem dX5_init_332 : decode cX5_init 332 = .ok (.dup, 1) := by decide +kernel
theorem dX5_init_333 : decode cX5_init 333 = .ok (.bipush 36, 2) := by decide +kernel
theorem dX5_init_335 : decode cX5_init 335 = .ok (.ldc 91, 2) := by decide +kernel
theorem dX5_init_337 : decode cX5_init 337 = .ok (.iastore, 1) := by decide +kernel
theorem dX5_init_338 : decode cX5_init 338 = .ok (.dup, 1) := by decide +kernel
theorem dX5_init_339 : decode cX5_init 339 = .ok (.bipush 37, 2) := by decide +kernel
theorem dX5_init_341 : decode cX5_init 341 = .ok (.ldc 92, 2) := by decide +kernel
theorem dX5_init_343 : decode cX5_init 343 = .ok (.iastore, 1) := by decide +kernel
theorem dX5_init_344 : decode cX5_init 344 = .ok (.dup, 1) := by decide +kernel
theorem dX5_init_345 : decode cX5_init 345 = .ok (.bipush 38, 2) := by decide +kernel
theorem dX5_init_347 : decode cX5_init 347 = .ok (.ldc 93, 2) := by decide +kernel
theorem dX5_init_349 : decode cX5_init 349 = .ok (.iastore, 1) := by decide +kernel
theorem dX5_init_350 : decode cX5_init 350 = .ok (.dup, 1) := by decide +kernel
theorem dX5_init_351 : decode cX5_init 351 = .ok (.bipush 39, 2) := by decide +kernel
theorem dX5_init_353 : decode cX5_init 353 = .ok (.ldc 94, 2) := by decide +kernel
theorem dX5_init_355 : decode cX5_init 355 = .ok (.iastore, 1) := by decide +kernel
theorem dX5_init_356 : decode cX5_init 356 = .ok (.dup, 1) := by decide +kernel
theorem dX5_init_357 : decode cX5_init 357 = .ok (.bipush 40, 2) := by decide +kernel
theorem dX5_init_359 : decode cX5_init 359 = .ok (.ldc 95, 2) := by decide +kernel
theorem dX5_init_361 : decode cX5_init 361 = .ok (.iastore, 1) := by decide +kernel
theorem dX5_init_362 : decode cX5_init 362 = .ok (.dup, 1) := by decide +kernel
theorem dX5_init_363 : decode cX5_init 363 = .ok (.bipush 41, 2) := by decide +kernel
theorem dX5_init_365 : decode cX5_init 365 = .ok (.ldc 96, 2) := by decide +kernel
theorem dX5_init_367 : decode cX5_init 367 = .ok (.iastore, 1) := by decide +kernel
theorem dX5_init_368 : decode cX5_init 368 = .ok (.dup, 1) := by decide +kernel
theorem dX5_init_369 : decode cX5_init 369 = .ok (.bipush 42, 2) := by decide +kernel
theorem dX5_init_371 : decode cX5_init 371 = .ok (.ldc 97, 2) := by decide +kernel
theorem dX5_init_373 : decode cX5_init 373 = .ok (.iastore, 1) := by decide +kernel
theorem dX5_init_374 : decode cX5_init 374 = .ok (.dup, 1) := by decide +kernel
theorem dX5_init_375 : decode cX5_init 375 = .ok (.bipush 43, 2) := by decide +kernel
theorem dX5_init_377 : decode cX5_init 377 = .ok (.ldc 98, 2) := by decide +kernel
theorem dX5_init_379 : decode cX5_init 379 = .ok (.iastore, 1) := by decide +kernel
theorem dX5_init_380 : decode cX5_init 380 = .ok (.dup, 1) := by decide +kernel
theorem dX5_init_381 : decode cX5_init 381 = .ok (.bipush 44, 2) := by decide +kernel
theorem dX5_init_383 : decode cX5_init 383 = .ok (.ldc 99, 2) := by decide +kernel
theorem dX5_init_385 : decode cX5_init 385 = .ok (.iastore, 1) := by decide +kernel
theorem dX5_init_386 : decode cX5_init 386 = .ok (.dup, 1) := by decide +kernel
theorem dX5_init_387 : decode cX5_init 387 = .ok (.bipush 45, 2) := by decide +kernel
theorem dX5_init_389 : decode cX5_init 389 = .ok (.ldc 100, 2) := by decide +kernel
theorem dX5_init_391 : decode cX5_init 391 = .ok (.iastore, 1) := by decide +kernel
theorem dX5_init_392 : decode cX5_init 392 = .ok (.dup, 1) := by decide +kernel
theorem dX5_init_393 : decode cX5_init 393 = .ok (.bipush 46, 2) := by decide +kernel
theorem dX5_init_395 : decode cX5_init 395 = .ok (.ldc 101, 2) := by decide +kernel
theorem dX5_init_397 : decode cX5_init 397 = .ok (.iastore, 1) := by decide +kernel
theorem dX5_init_398 : decode cX5_init 398 = .ok (.dup, 1) := by decide +kernel
theorem dX5_init_399 : decode cX5_init 399 = .ok (.bipush 47, 2) := by decide +kernel
theorem dX5_init_401 : decode cX5_init 401 = .ok (.ldc 102, 2) := by decide +kernel
theorem dX5_init_403 : decode cX5_init 403 = .ok (.iastore, 1) := by decide +kernel
theorem dX5_init_404 : decode cX5_init 404 = .ok (.dup, 1) := by decide +kernel
theorem dX5_init_405 : decode cX5_init 405 = .ok (.bipush 48, 2) := by decide +kernel
theorem dX5_init_407 : decode cX5_init 407 = .ok (.ldc 103, 2) := by decide +kernel
theorem dX5_init_409 : decode cX5_init 409 = .ok (.iastore, 1) := by decide +kernel
theorem dX5_init_410 : decode cX5_init 410 = .ok (.dup, 1) := by decide +kernel
theorem dX5_init_411 : decode cX5_init 411 = .ok (.bipush 49, 2) := by decide +kernel
theorem dX5_init_413 : decode cX5_init 413 = .ok (.ldc 104, 2) := by decide +kernel
theorem dX5_init_415 : decode cX5_init 415 = .ok (.iastore, 1) := by decide +kernel
theorem dX5_init_416 : decode cX5_init 416 = .ok (.dup, 1) := by decide +kernel
theorem dX5_init_417 : decode cX5_init 417 = .ok (.bipush 50, 2) := by decide +kernel
theorem dX5_init_419 : decode cX5_init 419 = .ok (.ldc 105, 2) := by decide +kernel
theorem dX5_init_421 : decode cX5_init 421 = .ok (.iastore, 1) := by decide +kernel
theorem dX5_init_422 : decode cX5_init 422 = .ok (.dup, 1) := by decide +kernel
theorem dX5_init_423 : decode cX5_init 423 = .ok (.bipush 51, 2) := by decide +kernel
theorem dX5_init_425 : decode cX5_init 425 = .ok (.ldc 106, 2) := by decide +kernel
theorem dX5_init_427 : decode cX5_init 427 = .ok (.iastore, 1) := by decide +kernel
theorem dX5_init_428 : decode cX5_init 428 = .ok (.dup, 1) := by decide +kernel
theorem dX5_init_429 : decode cX5_init 429 = .ok (.bipush 52, 2) := by decide +kernel
theorem dX5_init_431 : decode cX5_init 431 = .ok (.ldc 107, 2) := by decide +kernel
theorem dX5_init_433 : decode cX5_init 433 = .ok (.iastore, 1) := by decide +kernel
theorem dX5_init_434 : decode cX5_init 434 = .ok (.dup, 1) := by decide +kernel
theorem dX5_init_435 : decode cX5_init 435 = .ok (.bipush 53, 2) := by decide +kernel
theorem dX5_init_437 : decode cX5_init 437 = .ok (.ldc 108, 2) := by decide +kernel
theorem dX5_init_439 : decode cX5_init 439 = .ok (.iastore, 1) := by decide +kernel
theorem dX5_init_440 : decode cX5_init 440 = .ok (.dup, 1) := by decide +kernel
theorem dX5_init_441 : decode cX5_init 441 = .ok (.bipush 54, 2) := by decide +kernel
theorem dX5_init_443 : decode cX5_init 443 = .ok (.ldc 109, 2) := by decide +kernel
theorem dX5_init_445 : decode cX5_init 445 = .ok (.iastore, 1) := by decide +kernel
theorem dX5_init_446 : decode cX5_init 446 = .ok (.dup, 1) := by decide +kernel
theorem dX5_init_447 : decode cX5_init 447 = .ok (.bipush 55, 2) := by decide +kernel
theorem dX5_init_449 : decode cX5_init 449 = .ok (.ldc 110, 2) := by decide +kernel
theorem dX5_init_451 : decode cX5_init 451 = .ok (.iastore, 1) := by decide +kernel
theorem dX5_init_452 : decode cX5_init 452 = .ok (.dup, 1) := by decide +kernel
theorem dX5_init_453 : decode cX5_init 453 = .ok (.bipush 56, 2) := by decide +kernel
theorem dX5_init_455 : decode cX5_init 455 = .ok (.ldc 111, 2) := by decide +kernel
theorem dX5_init_457 : decode cX5_init 457 = .ok (.iastore, 1) := by decide +kernel
theorem dX5_init_458 : decode cX5_init 458 = .ok (.dup, 1) := by decide +kernel
theorem dX5_init_459 : decode cX5_init 459 = .ok (.bipush 57, 2) := by decide +kernel
theorem dX5_init_461 : decode cX5_init 461 = .ok (.ldc 112, 2) := by decide +kernel
theorem dX5_init_463 : decode cX5_init 463 = .ok (.iastore, 1) := by decide +kernel
theorem dX5_init_464 : decode cX5_init 464 = .ok (.dup, 1) := by decide +kernel
theorem dX5_init_465 : decode cX5_init 465 = .ok (.bipush 58, 2) := by decide +kernel
theorem dX5_init_467 : decode cX5_init 467 = .ok (.ldc 113, 2) := by decide +kernel
theorem dX5_init_469 : decode cX5_init 469 = .ok (.iastore, 1) := by decide +kernel
theorem dX5_init_470 : decode cX5_init 470 = .ok (.dup, 1) := by decide +kernel
theorem dX5_init_471 : decode cX5_init 471 = .ok (.bipush 59, 2) := by decide +kernel
theorem dX5_init_473 : decode cX5_init 473 = .ok (.ldc 114, 2) := by decide +kernel
theorem dX5_init_475 : decode cX5_init 475 = .ok (.iastore, 1) := by decide +kernel
theorem dX5_init_476 : decode cX5_init 476 = .ok (.dup, 1) := by decide +kernel
theorem dX5_init_477 : decode cX5_init 477 = .ok (.bipush 60, 2) := by decide +kernel
theorem dX5_init_479 : decode cX5_init 479 = .ok (.ldc 115, 2) := by decide +kernel
theorem dX5_init_481 : decode cX5_init 481 = .ok (.iastore, 1) := by decide +kernel
theorem dX5_init_482 : decode cX5_init 482 = .ok (.dup, 1) := by decide +kernel
theorem dX5_init_483 : decode cX5_init 483 = .ok (.bipush 61, 2) := by decide +kernel
theorem dX5_init_485 : decode cX5_init 485 = .ok (.ldc 116, 2) := by decide +kernel
theorem dX5_init_487 : decode cX5_init 487 = .ok (.iastore, 1) := by decide +kernel
theorem dX5_init_488 : decode cX5_init 488 = .ok (.dup, 1) := by decide +kernel
theorem dX5_init_489 : decode cX5_init 489 = .ok (.bipush 62, 2) := by decide +kernel
