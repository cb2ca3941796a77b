theorem dL_law_188 : decode cL_law 188 = .ok (.aload_n 1, 1) := by decide +kernel
theorem dL_law_189 : decode cL_law 189 = .ok (.aload_n 0, 1) := by decide +kernel
theorem dL_law_190 : decode cL_law 190 = .ok (.iload_n 3, 1) := by decide +kernel
theorem dL_law_191 : decode cL_law 191 = .ok (.iconst 1, 1) := by decide +kernel
theorem dL_law_192 : decode cL_law 192 = .ok (.iadd, 1) := by decide +kernel
theorem dL_law_193 : decode cL_law 193 = .ok (.iaload, 1) := by decide +kernel
theorem dL_law_194 : decode cL_law 194 = .ok (.aload_n 0, 1) := by decide +kernel
theorem dL_law_195 : decode cL_law 195 = .ok (.iload_n 3, 1) := by decide +kernel
theorem dL_law_196 : decode cL_law 196 = .ok (.iconst 2, 1) := by decide +kernel
theorem dL_law_197 : decode cL_law 197 = .ok (.iadd, 1) := by decide +kernel
theorem dL_law_198 : decode cL_law 198 = .ok (.iaload, 1) := by decide +kernel
theorem dL_law_199 : decode cL_law 199 = .ok (.i2l, 1) := by decide +kernel
theorem dL_law_200 : decode cL_law 200 = .ok (.bipush 32, 2) := by decide +kernel
theorem dL_law_202 : decode cL_law 202 = .ok (.lshl, 1) := by decide +kernel
theorem dL_law_203 : decode cL_law 203 = .ok (.aload_n 0, 1) := by decide +kernel
theorem dL_law_204 : decode cL_law 204 = .ok (.iload_n 3, 1) := by decide +kernel
theorem dL_law_205 : decode cL_law 205 = .ok (.iconst 3, 1) := by decide +kernel
theorem dL_law_206 : decode cL_law 206 = .ok (.iadd, 1) := by decide +kernel
theorem dL_law_207 : decode cL_law 207 = .ok (.iaload, 1) := by decide +kernel
theorem dL_law_208 : decode cL_law 208 = .ok (.i2l, 1) := by decide +kernel
theorem dL_law_209 : decode cL_law 209 = .ok (.ldc2_w 13, 3) := by decide +kernel
theorem dL_law_212 : decode cL_law 212 = .ok (.land, 1) := by decide +kernel
theorem dL_law_213 : decode cL_law 213 = .ok (.lor, 1) := by decide +kernel
theorem dL_law_214 : decode cL_law 214 = .ok (.invokevirtual 15, 3) := by decide +kernel
theorem dL_law_217 : decode cL_law 217 = .ok (.aload_n 2, 1) := by decide +kernel
theorem dL_law_218 : decode cL_law 218 = .ok (.aload_n 0, 1) := by decide +kernel
theorem dL_law_219 : decode cL_law 219 = .ok (.iload_n 3, 1) := by decide +kernel
theorem dL_law_220 : decode cL_law 220 = .ok (.iconst 1, 1) := by decide +kernel
theorem dL_law_221 : decode cL_law 221 = .ok (.iadd, 1) := by decide +kernel
theorem dL_law_222 : decode cL_law 222 = .ok (.iaload, 1) := by decide +kernel
theorem dL_law_223 : decode cL_law 223 = .ok (.aload_n 0, 1) := by decide +kernel
theorem dL_law_224 : decode cL_law 224 = .ok (.iload_n 3, 1) := by decide +kernel
theorem dL_law_225 : decode cL_law 225 = .ok (.iconst 2, 1) := by decide +kernel
theorem dL_law_226 : decode cL_law 226 = .ok (.iadd, 1) := by decide +kernel
theorem dL_law_227 : decode cL_law 227 = .ok (.iaload, 1) := by decide +kernel
theorem dL_law_228 : decode cL_law 228 = .ok (.i2l, 1) := by decide +kernel
theorem dL_law_229 : decode cL_law 229 = .ok (.bipush 32, 2) := by decide +kernel
theorem dL_law_231 : decode cL_law 231 = .ok (.lshl, 1) := by decide +kernel
theorem dL_law_232 : decode cL_law 232 = .ok (.aload_n 0, 1) := by decide +kernel
theorem dL_law_233 : decode cL_law 233 = .ok (.iload_n 3, 1) := by decide +kernel
theorem dL_law_234 : decode cL_law 234 = .ok (.iconst 3, 1) := by decide +kernel
theorem dL_law_235 : decode cL_law 235 = .ok (.iadd, 1) := by decide +kernel
theorem dL_law_236 : decode cL_law 236 = .ok (.iaload, 1) := by decide +kernel
theorem dL_law_237 : decode cL_law 237 = .ok (.i2l, 1) := by decide +kernel
theorem dL_law_238 : decode cL_law 238 = .ok (.ldc2_w 13, 3) := by decide +kernel
theorem dL_law_241 : decode cL_law 241 = .ok (.land, 1) := by decide +kernel
theorem dL_law_242 : decode cL_law 242 = .ok (.lor, 1) := by decide +kernel
theorem dL_law_243 : decode cL_law 243 = .ok (.invokevirtual 19, 3) := by decide +kernel
theorem dL_law_246 : decode cL_law 246 = .ok (.if_icmp .eq 1171, 3) := by decide +kernel
theorem dL_law_251 : decode cL_law 251 = .ok (.aload_n 1, 1) := by decide +kernel
theorem dL_law_252 : decode cL_law 252 = .ok (.invokevirtual 20, 3) := by decide +kernel
theorem dL_law_255 : decode cL_law 255 = .ok (.aload_n 2, 1) := by decide +kernel
theorem dL_law_256 : decode cL_law 256 = .ok (.invokevirtual 24, 3) := by decide +kernel
theorem dL_law_259 : decode cL_law 259 = .ok (.if_icmp .eq 1158, 3) := by decide +kernel
theorem dL_law_264 : decode cL_law 264 = .ok (.aload_n 1, 1) := by decide +kernel
theorem dL_law_265 : decode cL_law 265 = .ok (.invokevirtual 25, 3) := by decide +kernel
theorem dL_law_268 : decode cL_law 268 = .ok (.aload_n 2, 1) := by decide +kernel
theorem dL_law_269 : decode cL_law 269 = .ok (.invokevirtual 28, 3) := by decide +kernel
theorem dL_law_272 : decode cL_law 272 = .ok (.if_icmp .eq 1145, 3) := by decide +kernel
theorem dL_law_277 : decode cL_law 277 = .ok (.aload_n 1, 1) := by decide +kernel
theorem dL_law_278 : decode cL_law 278 = .ok (.invokevirtual 29, 3) := by decide +kernel
theorem dL_law_281 : decode cL_law 281 = .ok (.aload_n 2, 1) := by decide +kernel
theorem dL_law_282 : decode cL_law 282 = .ok (.invokevirtual 32, 3) := by decide +kernel
theorem dL_law_285 : decode cL_law 285 = .ok (.if_icmp .eq 1132, 3) := by decide +kernel
theorem dL_law_290 : decode cL_law 290 = .ok (.aload_n 1, 1) := by decide +kernel
theorem dL_law_291 : decode cL_law 291 = .ok (.aload_n 0, 1) := by decide +kernel
theorem dL_law_292 : decode cL_law 292 = .ok (.iload_n 3, 1) := by decide +kernel
theorem dL_law_293 : decode cL_law 293 = .ok (.iconst 1, 1) := by decide +kernel
theorem dL_law_294 : decode cL_law 294 = .ok (.iadd, 1) := by decide +kernel
theorem dL_law_295 : decode cL_law 295 = .ok (.iaload, 1) := by decide +kernel
theorem dL_law_296 : decode cL_law 296 = .ok (.aload_n 0, 1) := by decide +kernel
theorem dL_law_297 : decode cL_law 297 = .ok (.iload_n 3, 1) := by decide +kernel
theorem dL_law_298 : decode cL_law 298 = .ok (.iconst 2, 1) := by decide +kernel
theorem dL_law_299 : decode cL_law 299 = .ok (.iadd, 1) := by decide +kernel
theorem dL_law_300 : decode cL_law 300 = .ok (.iaload, 1) := by decide +kernel
theorem dL_law_301 : decode cL_law 301 = .ok (.invokevirtual 33, 3) := by decide +kernel
theorem dL_law_304 : decode cL_law 304 = .ok (.aload_n 2, 1) := by decide +kernel
theorem dL_law_305 : decode cL_law 305 = .ok (.aload_n 0, 1) := by decide +kernel
theorem dL_law_306 : decode cL_law 306 = .ok (.iload_n 3, 1) := by decide +kernel
theorem dL_law_307 : decode cL_law 307 = .ok (.iconst 1, 1) := by decide +kernel
theorem dL_law_308 : decode cL_law 308 = .ok (.iadd, 1) := by decide +kernel
theorem dL_law_309 : decode cL_law 309 = .ok (.iaload, 1) := by decide +kernel
theorem dL_law_310 : decode cL_law 310 = .ok (.aload_n 0, 1) := by decide +kernel
theorem dL_law_311 : decode cL_law 311 = .ok (.iload_n 3, 1) := by decide +kernel
theorem dL_law_312 : decode cL_law 312 = .ok (.iconst 2, 1) := by decide +kernel
theorem dL_law_313 : decode cL_law 313 = .ok (.iadd, 1) := by decide +kernel
theorem dL_law_314 : decode cL_law 314 = .ok (.iaload, 1) := by decide +kernel
theorem dL_law_315 : decode cL_law 315 = .ok (.invokevirtual 37, 3) := by decide +kernel
theorem dL_law_318 : decode cL_law 318 = .ok (.if_icmp .eq 1099, 3) := by decide +kernel
theorem dL_law_323 : decode cL_law 323 = .ok (.aload_n 1, 1) := by decide +kernel
theorem dL_law_324 : decode cL_law 324 = .ok (.aload_n 0, 1) := by decide +kernel
theorem dL_law_325 : decode cL_law 325 = .ok (.iload_n 3, 1) := by decide +kernel
theorem dL_law_326 : decode cL_law 326 = .ok (.iconst 1, 1) := by decide +kernel
theorem dL_law_327 : decode cL_law 327 = .ok (.iadd, 1) := by decide +kernel
theorem dL_law_328 : decode cL_law 328 = .ok (.iaload, 1) := by decide +kernel
theorem dL_law_329 : decode cL_law 329 = .ok (.aload_n 0, 1) := by decide +kernel
theorem dL_law_330 : decode cL_law 330 = .ok (.iload_n 3, 1) := by decide +kernel
theorem dL_law_331 : decode cL_law 331 = .ok (.iconst 2, 1) := by decide +kernel
theorem dL_law_332 : decode cL_law 332 = .ok (.iadd, 1) := by decide +kernel
theorem dL_law_333 : decode cL_law 333 = .ok (.iaload, 1) := by decide +kernel
theorem dL_law_334 : decode cL_law 334 = .ok (.aload_n 0, 1) := by decide +kernel
theorem dL_law_335 : decode cL_law 335 = .ok (.iload_n 3, 1) := by decide +kernel
theorem dL_law_336 : decode cL_law 336 = .ok (.iconst 3, 1) := by decide +kernel
theorem dL_law_337 : decode cL_law 337 = .ok (.iadd, 1) := by decide +kernel
theorem dL_law_338 : decode cL_law 338 = .ok (.iaload, 1) := by decide +kernel
theorem dL_law_339 : decode cL_law 339 = .ok (.aload_n 0, 1) := by decide +kernel
theorem dL_law_340 : decode cL_law 340 = .ok (.iload_n 3, 1) := by decide +kernel
theorem dL_law_341 : decode cL_law 341 = .ok (.iconst 4, 1) := by decide +kernel
theorem dL_law_342 : decode cL_law 342 = .ok (.iadd, 1) := by decide +kernel
theorem dL_law_343 : decode cL_law 343 = .ok (.iaload, 1) := by decide +kernel
theorem dL_law_344 : decode cL_law 344 = .ok (.invokevirtual 38, 3) := by decide +kernel
theorem dL_law_347 : decode cL_law 347 = .ok (.aload_n 2, 1) := by decide +kernel
theorem dL_law_348 : decode cL_law 348 = .ok (.aload_n 0, 1) := by decide +kernel
theorem dL_law_349 : decode cL_law 349 = .ok (.iload_n 3, 1) := by decide +kernel
theorem dL_law_350 : decode cL_law 350 = .ok (.iconst 1, 1) := by decide +kernel
theorem dL_law_351 : decode cL_law 351 = .ok (.iadd, 1) := by decide +kernel
theorem dL_law_352 : decode cL_law 352 = .ok (.iaload, 1) := by decide +kernel
theorem dL_law_353 : decode cL_law 353 = .ok (.aload_n 0, 1) := by decide +kernel
theorem dL_law_354 : decode cL_law 354 = .ok (.iload_n 3, 1) := by decide +kernel
theorem dL_law_355 : decode cL_law 355 = .ok (.iconst 2, 1) := by decide +kernel
theorem dL_law_356 : decode cL_law 356 = .ok (.iadd, 1) := by decide +kernel
theorem dL_law_357 : decode cL_law 357 = .ok (.iaload, 1) := by decide +kernel
theorem dL_law_358 : decode cL_law 358 = .ok (.aload_n 0, 1) := by decide +kernel
theorem dL_law_359 : decode cL_law 359 = .ok (.iload_n 3, 1) := by decide +kernel
theorem dL_law_360 : decode cL_law 360 = .ok (.iconst 3, 1) := by decide +kernel
theorem dL_law_361 : decode cL_law 361 = .ok (.iadd, 1) := by decide +kernel
theorem dL_law_362 : decode cL_law 362 = .ok (.iaload, 1) := by decide +kernel
theorem dL_law_363 : decode cL_law 363 = .ok (.aload_n 0, 1) := by decide +kernel
theorem dL_law_364 : decode cL_law 364 = .ok (.iload_n 3, 1) := by decide +kernel
theorem dL_law_365 : decode cL_law 365 = .ok (.iconst 4, 1) := by decide +kernel
theorem dL_law_366 : decode cL_law 366 = .ok (.iadd, 1) := by decide +kernel
theorem dL_law_367 : decode cL_law 367 = .ok (.iaload, 1) := by decide +kernel
theorem dL_law_368 : decode cL_law 368 = .ok (.invokevirtual 42, 3) := by decide +kernel
theorem dL_law_371 : decode cL_law 371 = .ok (.if_icmp .eq 1046, 3) := by decide +kernel
theorem dL_law_376 : decode cL_law 376 = .ok (.aload_n 1, 1) := by decide +kernel
theorem dL_law_377 : decode cL_law 377 = .ok (.invokevirtual 43, 3) := by decide +kernel
theorem dL_law_380 : decode cL_law 380 = .ok (.aload_n 2, 1) := by decide +kernel
theorem dL_law_381 : decode cL_law 381 = .ok (.invokevirtual 46, 3) := by decide +kernel
theorem dL_law_384 : decode cL_law 384 = .ok (.if_icmp .eq 1033, 3) := by decide +kernel
theorem dL_law_389 : decode cL_law 389 = .ok (.aload_n 1, 1) := by decide +kernel
theorem dL_law_390 : decode cL_law 390 = .ok (.aload_n 0, 1) := by decide +kernel
theorem dL_law_391 : decode cL_law 391 = .ok (.iload_n 3, 1) := by decide +kernel
theorem dL_law_392 : decode cL_law 392 = .ok (.iconst 1, 1) := by decide +kernel
theorem dL_law_393 : decode cL_law 393 = .ok (.iadd, 1) := by decide +kernel
theorem dL_law_394 : decode cL_law 394 = .ok (.iaload, 1) := by decide +kernel
theorem dL_law_395 : decode cL_law 395 = .ok (.invokevirtual 47, 3) := by decide +kernel
theorem dL_law_398 : decode cL_law 398 = .ok (.aload_n 2, 1) := by decide +kernel
theorem dL_law_399 : decode cL_law 399 = .ok (.aload_n 0, 1) := by decide +kernel
theorem dL_law_400 : decode cL_law 400 = .ok (.iload_n 3, 1) := by decide +kernel
theorem dL_law_401 : decode cL_law 401 = .ok (.iconst 1, 1) := by decide +kernel
theorem dL_law_402 : decode cL_law 402 = .ok (.iadd, 1) := by decide +kernel
theorem dL_law_403 : decode cL_law 403 = .ok (.iaload, 1) := by decide +kernel
theorem dL_law_404 : decode cL_law 404 = .ok (.invokevirtual 51, 3) := by decide +kernel
theorem dL_law_407 : decode cL_law 407 = .ok (.if_icmp .eq 1010, 3) := by decide +kernel
theorem dL_law_412 : decode cL_law 412 = .ok (.aload_n 1, 1) := by decide +kernel
theorem dL_law_413 : decode cL_law 413 = .ok (.aload_n 0, 1) := by decide +kernel
theorem dL_law_414 : decode cL_law 414 = .ok (.iload_n 3, 1) := by decide +kernel
theorem dL_law_415 : decode cL_law 415 = .ok (.iconst 1, 1) := by decide +kernel
theorem dL_law_416 : decode cL_law 416 = .ok (.iadd, 1) := by decide +kernel
theorem dL_law_417 : decode cL_law 417 = .ok (.iaload, 1) := by decide +kernel
theorem dL_law_418 : decode cL_law 418 = .ok (.aload_n 0, 1) := by decide +kernel
theorem dL_law_419 : decode cL_law 419 = .ok (.iload_n 3, 1) := by decide +kernel
theorem dL_law_420 : decode cL_law 420 = .ok (.iconst 2, 1) := by decide +kernel
theorem dL_law_421 : decode cL_law 421 = .ok (.iadd, 1) := by decide +kernel
theorem dL_law_422 : decode cL_law 422 = .ok (.iaload, 1) := by decide +kernel
theorem dL_law_423 : decode cL_law 423 = .ok (.invokevirtual 52, 3) := by decide +kernel
theorem dL_law_426 : decode cL_law 426 = .ok (.aload_n 2, 1) := by decide +kernel
theorem dL_law_427 : decode cL_law 427 = .ok (.aload_n 0, 1) := by decide +kernel
theorem dL_law_428 : decode cL_law 428 = .ok (.iload_n 3, 1) := by decide +kernel
theorem dL_law_429 : decode cL_law 429 = .ok (.iconst 1, 1) := by decide +kernel
theorem dL_law_430 : decode cL_law 430 = .ok (.iadd, 1) := by decide +kernel
theorem dL_law_431 : decode cL_law 431 = .ok (.iaload, 1) := by decide +kernel
theorem dL_law_432 : decode cL_law 432 = .ok (.aload_n 0, 1) := by decide +kernel
theorem dL_law_433 : decode cL_law 433 = .ok (.iload_n 3, 1) := by decide +kernel
theorem dL_law_434 : decode cL_law 434 = .ok (.iconst 2, 1) := by decide +kernel
theorem dL_law_435 : decode cL_law 435 = .ok (.iadd, 1) := by decide +kernel
theorem dL_law_436 : decode cL_law 436 = .ok (.iaload, 1) := by decide +kernel
theorem dL_law_437 : decode cL_law 437 = .ok (.invokevirtual 56, 3) := by decide +kernel
theorem dL_law_440 : decode cL_law 440 = .ok (.lcmp, 1) := by decide +kernel
theorem dL_law_441 : decode cL_law 441 = .ok (.ifCond .eq 976, 3) := by decide +kernel
theorem dL_law_446 : decode cL_law 446 = .ok (.aload_n 1, 1) := by decide +kernel
theorem dL_law_447 : decode cL_law 447 = .ok (.aload_n 0, 1) := by decide +kernel
theorem dL_law_448 : decode cL_law 448 = .ok (.iload_n 3, 1) := by decide +kernel
theorem dL_law_449 : decode cL_law 449 = .ok (.iconst 1, 1) := by decide +kernel
theorem dL_law_450 : decode cL_law 450 = .ok (.iadd, 1) := by decide +kernel
theorem dL_law_451 : decode cL_law 451 = .ok (.iaload, 1) := by decide +kernel
theorem dL_law_452 : decode cL_law 452 = .ok (.invokevirtual 57, 3) := by decide +kernel
theorem dL_law_455 : decode cL_law 455 = .ok (.aload_n 2, 1) := by decide +kernel
theorem dL_law_456 : decode cL_law 456 = .ok (.aload_n 0, 1) := by decide +kernel
theorem dL_law_457 : decode cL_law 457 = .ok (.iload_n 3, 1) := by decide +kernel
theorem dL_law_458 : decode cL_law 458 = .ok (.iconst 1, 1) := by decide +kernel
theorem dL_law_459 : decode cL_law 459 = .ok (.iadd, 1) := by decide +kernel
theorem dL_law_460 : decode cL_law 460 = .ok (.iaload, 1) := by decide +kernel
theorem dL_law_461 : decode cL_law 461 = .ok (.invokevirtual 61, 3) := by decide +kernel
theorem dL_law_464 : decode cL_law 464 = .ok (.lcmp, 1) := by decide +kernel
theorem dL_law_465 : decode cL_law 465 = .ok (.ifCond .eq 952, 3) := by decide +kernel
theorem dL_law_470 : decode cL_law 470 = .ok (.aload_n 1, 1) := by decide +kernel
theorem dL_law_471 : decode cL_law 471 = .ok (.aload_n 0, 1) := by decide +kernel
theorem dL_law_472 : decode cL_law 472 = .ok (.iload_n 3, 1) := by decide +kernel
theorem dL_law_473 : decode cL_law 473 = .ok (.iconst 1, 1) := by decide +kernel
theorem dL_law_474 : decode cL_law 474 = .ok (.iadd, 1) := by decide +kernel
theorem dL_law_475 : decode cL_law 475 = .ok (.iaload, 1) := by decide +kernel
theorem dL_law_476 : decode cL_law 476 = .ok (.aload_n 0, 1) := by decide +kernel
theorem dL_law_477 : decode cL_law 477 = .ok (.iload_n 3, 1) := by decide +kernel
theorem dL_law_478 : decode cL_law 478 = .ok (.iconst 2, 1) := by decide +kernel
theorem dL_law_479 : decode cL_law 479 = .ok (.iadd, 1) := by decide +kernel
theorem dL_law_480 : decode cL_law 480 = .ok (.iaload, 1) := by decide +kernel
theorem dL_law_481 : decode cL_law 481 = .ok (.invokevirtual 62, 3) := by decide +kernel
theorem dL_law_484 : decode cL_law 484 = .ok (.aload_n 2, 1) := by decide +kernel
theorem dL_law_485 : decode cL_law 485 = .ok (.aload_n 0, 1) := by decide +kernel
theorem dL_law_486 : decode cL_law 486 = .ok (.iload_n 3, 1) := by decide +kernel
theorem dL_law_487 : decode cL_law 487 = .ok (.iconst 1, 1) := by decide +kernel
theorem dL_law_488 : decode cL_law 488 = .ok (.iadd, 1) := by decide +kernel
theorem dL_law_489 : decode cL_law 489 = .ok (.iaload, 1) := by decide +kernel
theorem dL_law_490 : decode cL_law 490 = .ok (.aload_n 0, 1) := by decide +kernel
theorem dL_law_491 : decode cL_law 491 = .ok (.iload_n 3, 1) := by decide +kernel
theorem dL_law_492 : decode cL_law 492 = .ok (.iconst 2, 1) := by decide +kernel
theorem dL_law_493 : decode cL_law 493 = .ok (.iadd, 1) := by decide +kernel
theorem dL_law_494 : decode cL_law 494 = .ok (.iaload, 1) := by decide +kernel
theorem dL_law_495 : decode cL_law 495 = .ok (.invokevirtual 65, 3) := by decide +kernel
theorem dL_law_498 : decode cL_law 498 = .ok (.if_icmp .eq 919, 3) := by decide +kernel
theorem dL_law_503 : decode cL_law 503 = .ok (.aload_n 1, 1) := by decide +kernel
theorem dL_law_504 : decode cL_law 504 = .ok (.aload_n 0, 1) := by decide +kernel
theorem dL_law_505 : decode cL_law 505 = .ok (.iload_n 3, 1) := by decide +kernel
theorem dL_law_506 : decode cL_law 506 = .ok (.iconst 1, 1) := by decide +kernel
theorem dL_law_507 : decode cL_law 507 = .ok (.iadd, 1) := by decide +kernel
theorem dL_law_508 : decode cL_law 508 = .ok (.iaload, 1) := by decide +kernel
theorem dL_law_509 : decode cL_law 509 = .ok (.invokevirtual 66, 3) := by decide +kernel
theorem dL_law_512 : decode cL_law 512 = .ok (.aload_n 2, 1) := by decide +kernel
theorem dL_law_513 : decode cL_law 513 = .ok (.aload_n 0, 1) := by decide +kernel
theorem dL_law_514 : decode cL_law 514 = .ok (.iload_n 3, 1) := by decide +kernel
theorem dL_law_515 : decode cL_law 515 = .ok (.iconst 1, 1) := by decide +kernel
theorem dL_law_516 : decode cL_law 516 = .ok (.iadd, 1) := by decide +kernel
theorem dL_law_517 : decode cL_law 517 = .ok (.iaload, 1) := by decide +kernel
theorem dL_law_518 : decode cL_law 518 = .ok (.invokevirtual 69, 3) := by decide +kernel
theorem dL_law_521 : decode cL_law 521 = .ok (.lcmp, 1) := by decide +kernel
theorem dL_law_522 : decode cL_law 522 = .ok (.ifCond .eq 895, 3) := by decide +kernel

set_option maxRecDepth 20000 in
theorem gu_L_X9_write : GoodIn wsL_law (wsV RL 15 RX9 yX9_write uX9_write) := goodIn_r _ [163, 164, 165, 2, 166, 168, 169, 2, 16, 167, 171, 172, 173, 15, 170, 174, 61, 59, 1064, 1065, 1066, 1067, 1068, 1069, 1070, 1071, 1072, 1073, 1074, 1075, 1076, 1077, 1078, 1079, 1080, 1081, 1118, 1119, 1120, 1121] (by decide +kernel) (by decide +kernel)
set_option maxRecDepth 20000 in
theorem gu_L_X10_write : GoodIn wsL_law (wsV RL 19 RX10 yX10_write uX10_write) := goodIn_r _ [175, 176, 177, 5, 178, 179, 182, 183, 5, 180, 136, 181, 184, 1082, 1083, 1084, 1085, 1086, 1087, 1088, 1089, 1090, 1091, 1092, 1093, 1094, 1095, 1096, 1097, 1098, 1099, 1100, 1101, 1102, 1103, 1104, 1105, 1106, 1107, 1108, 1109, 1110, 1111, 1112, 1113, 1114, 1115, 1116, 1117] (by decide +kernel) (by decide +kernel)
set_option maxHeartbeats 4000000 in
set_option maxRecDepth 100000 in
theorem lc_0 {p : Program} {l : Launch} {e : Env} {s : State} {m : MethodId} {below : List Frame} {meth : Method} {c : Code} {cells slots : Nat} {Q : State → Prop} {b h0 : Nat} {xs : Nat → Int32} {D : va_G} {cI cL cC : ClassId} {t : Nat → Nat} {H : Heap} {locs : List Loc} {ls : Array Slot} (hx : p.tables.exec = Jvm.exec) (hb : c.code = cL_law) (hml : c.maxLocals = 4) (hown : s.vm.findClass RL = some m.cls) (hts : ∀ w ∈ wsL_law, w.before #[Value.ref b] s = true) (hE : EV D cI cL cC s) (hbl : b < h0) (hG : tG D (fF cI cL cC 0 0) t H) (kt : t h0 = 1) (kt2 : t (h0 + 92) = 40) (ht0 : ∀ q : Nat, q < h0 → t q = 0) (uq_gC : ∀ b c : Nat, t b = 2 → t c = 2 → b = c) (uq_gR : ∀ b c : Nat, t b = 40 → t c = 40 → b = c) (hS : cF h0 s.heap H locs) (hX : va_X b 8 xs s H) (hl : lv_has ls 4 [(3, .int 0), (2, .ref (h0 + 92)), (1, .ref h0), (0, .ref b)]) (hcl : cells ≤ 600000) (hsl : slots ≤ 7302250) (kx : ∀ (H1 : Heap) (locs1 : List Loc), cF h0 s.heap H1 locs1 → va_X b 8 xs s H1 → W p l e room_1 s m #[Value.ref b] below meth c H1 locs1 cells slots Q (F0 m 1417 ls [])) : W p l e room_1 s m #[Value.ref b] below meth c H locs cells slots Q (F0 m 188 ls []) := by
  refine lv_aload_n hx hb dL_law_188 rfl (lv_at hl 2 rfl) ?_
  refine lv_aload_n hx hb dL_law_189 rfl (lv_at hl 3 rfl) ?_
  refine lv_iload_n hx hb dL_law_190 rfl (lv_at hl 0 rfl) ?_
  refine lv_iconst (v := 1) hx hb dL_law_191 (by decide) ?_
  refine lv_iadd hx hb dL_law_192 ?_
  refine lv_seti (y := 1) (by decide) ?_
  refine ty_sld hx hb hX (i := 1) (q_in (by decide) (by decide)) dL_law_193 ?_
  refine lv_seti (y := xs 1) rfl ?_
  refine lv_aload_n hx hb dL_law_194 rfl (lv_at hl 3 rfl) ?_
  refine lv_pc (pc2 := 195) rfl ?_
  refine lv_iload_n hx hb dL_law_195 rfl (lv_at hl 0 rfl) ?_
  refine lv_iconst (v := 2) hx hb dL_law_196 (by decide) ?_
  refine lv_iadd hx hb dL_law_197 ?_
  refine lv_seti (y := 2) (by decide) ?_
  refine ty_sld hx hb hX (i := 2) (q_in (by decide) (by decide)) dL_law_198 ?_
  refine lv_seti (y := xs 2) rfl ?_
  refine lv_i2l (v := (xs 2).toInt64) hx hb dL_law_199 rfl ?_
  refine lv_bipush (v := 32) hx hb dL_law_200 (by decide) ?_
  refine lv_lshl hx hb dL_law_202 rfl ?_
  refine lv_topl (fun z_1 e_2 => ?_)
  refine lv_aload_n hx hb dL_law_203 rfl (lv_at hl 3 rfl) ?_
  refine lv_pc (pc2 := 204) rfl ?_
  refine lv_iload_n hx hb dL_law_204 rfl (lv_at hl 0 rfl) ?_
  refine lv_iconst (v := 3) hx hb dL_law_205 (by decide) ?_
  refine lv_iadd hx hb dL_law_206 ?_
  refine lv_seti (y := 3) (by decide) ?_
  refine ty_sld hx hb hX (i := 3) (q_in (by decide) (by decide)) dL_law_207 ?_
  refine lv_seti (y := xs 3) rfl ?_
  refine lv_i2l (v := (xs 3).toInt64) hx hb dL_law_208 rfl ?_
  refine lv_ldc2 hx hb hown (hts (.constantLong RL 13 (4294967295)) (List.mem_of_getElem? (i := 6) rfl)) dL_law_209 ?_
  refine lv_land hx hb dL_law_212 ?_
  refine lv_topl (fun z_3 e_4 => ?_)
  refine lv_lor hx hb dL_law_213 ?_
  refine lv_topl (fun z_5 e_6 => ?_)
  refine lv_pc (pc2 := 214) rfl ?_
  obtain ⟨_, at_7⟩ := rcv1 hG kt
  refine lw_calli (W.runV (As := [.int (xs 1), .long z_5]) (rest := []) ⟨hx, hb, hml, hown, hts⟩ (c_X9_write l D t cI cL cC h0 (xs 1) z_5 uq_gC kt) (cwV 2 hts gu_L_X9_write rfl rfl rfl (by decide +kernel) ⟨Nat.le_of_ble_eq_true rfl, Nat.le_of_ble_eq_true rfl⟩) (tP_V hG hE at_7 rfl) rfl rfl hl.1 rfl (lv_room (Nat.le_of_ble_eq_true rfl)) dL_law_214 ⟨hcl, hsl⟩) hS rfl ht0 (fun r_8 H locs hp_9 _ hS o_10 => ?_)
  replace hX := hX.kept (o_10 b (by rw [ht0 b hbl]; rfl))
  have hG2 := tG.keptW (tG.ref hG) o_10 (fun q h => tM2_w h)
  refine lv_aload_n hx hb dL_law_217 rfl (lv_at hl 1 rfl) ?_
  refine lv_aload_n hx hb dL_law_218 rfl (lv_at hl 3 rfl) ?_
  refine lv_iload_n hx hb dL_law_219 rfl (lv_at hl 0 rfl) ?_
  refine lv_iconst (v := 1) hx hb dL_law_220 (by decide) ?_
  refine lv_iadd hx hb dL_law_221 ?_
  refine lv_seti (y := 1) (by decide) ?_
  refine ty_sld hx hb hX (i := 1) (q_in (by decide) (by decide)) dL_law_222 ?_
  refine lv_seti (y := xs 1) rfl ?_
  refine lv_aload_n hx hb dL_law_223 rfl (lv_at hl 3 rfl) ?_
  refine lv_pc (pc2 := 224) rfl ?_
  refine lv_iload_n hx hb dL_law_224 rfl (lv_at hl 0 rfl) ?_
  refine lv_iconst (v := 2) hx hb dL_law_225 (by decide) ?_
  refine lv_iadd hx hb dL_law_226 ?_
  refine lv_seti (y := 2) (by decide) ?_
  refine ty_sld hx hb hX (i := 2) (q_in (by decide) (by decide)) dL_law_227 ?_
  refine lv_seti (y := xs 2) rfl ?_
  refine lv_i2l (v := (xs 2).toInt64) hx hb dL_law_228 rfl ?_
  refine lv_bipush (v := 32) hx hb dL_law_229 (by decide) ?_
  refine lv_lshl hx hb dL_law_231 rfl ?_
  refine lv_topl (fun z_11 e_12 => ?_)
  refine lv_aload_n hx hb dL_law_232 rfl (lv_at hl 3 rfl) ?_
  refine lv_pc (pc2 := 233) rfl ?_
  refine lv_iload_n hx hb dL_law_233 rfl (lv_at hl 0 rfl) ?_
  refine lv_iconst (v := 3) hx hb dL_law_234 (by decide) ?_
  refine lv_iadd hx hb dL_law_235 ?_
  refine lv_seti (y := 3) (by decide) ?_
  refine ty_sld hx hb hX (i := 3) (q_in (by decide) (by decide)) dL_law_236 ?_
  refine lv_seti (y := xs 3) rfl ?_
  refine lv_i2l (v := (xs 3).toInt64) hx hb dL_law_237 rfl ?_
  refine lv_ldc2 hx hb hown (hts (.constantLong RL 13 (4294967295)) (List.mem_of_getElem? (i := 6) rfl)) dL_law_238 ?_
  refine lv_land hx hb dL_law_241 ?_
  refine lv_topl (fun z_13 e_14 => ?_)
  refine lv_lor hx hb dL_law_242 ?_
  refine lv_topl (fun z_15 e_16 => ?_)
  refine lv_pc (pc2 := 243) rfl ?_
  obtain ⟨_, at_17⟩ := rcv40 hG2 (tM2_40 kt2 (by decide))
  refine lw_calli (W.runV (As := [.int (xs 1), .long z_15]) (rest := [.int r_8]) ⟨hx, hb, hml, hown, hts⟩ (c_X10_write l D (tM2 t) cI cL cC (h0 + 92) (xs 1) z_15 (fun b c h1 h2 => uq_gR b c (tM2_of h1 (by decide)) (tM2_of h2 (by decide))) (tM2_40 kt2 (by decide))) (cwV 2 hts gu_L_X10_write rfl rfl rfl (by decide +kernel) ⟨Nat.le_of_ble_eq_true rfl, Nat.le_of_ble_eq_true rfl⟩) (tP_V hG2 hE at_17 rfl) rfl rfl hl.1 rfl (lv_room (Nat.le_of_ble_eq_true rfl)) dL_law_243 ⟨hcl, hsl⟩) hS rfl (fun q h => tM2_0 (ht0 q h)) (fun r_18 H locs hp_19 _ hS o_20 => ?_)
  replace hX := hX.kept (o_20 b (by rw [tM2_0 (ht0 b hbl)]; rfl))
  refine lv_icmp_eq (tgt := 1417) hx hb dL_law_246 (by decide) (fun _ => ?_) (fun q => absurd ((by rcases hp_9 with ⟨h1, g1⟩ | ⟨h1, g1⟩ <;> rcases hp_19 with ⟨h2, g2⟩ | ⟨h2, g2⟩ <;> first | exact h1.trans h2.symm | (exfalso; omega))) q)
  exact kx H locs hS hX

set_option maxRecDepth 20000 in
theorem gu_L_X9_clear : GoodIn wsL_law (wsV RL 20 RX9 yX9_clear uX9_clear) := goodIn_r _ [185, 186, 187, 2, 188, 16, 167, 1064, 1065, 1066, 1067, 1068, 1069, 1070, 1071, 1072, 1073, 1074, 1075, 1076, 1077, 1078, 1079, 1080, 1081, 1118, 1119, 1120, 1121] (by decide +kernel) (by decide +kernel)
set_option maxRecDepth 20000 in
theorem gu_L_X10_clear : GoodIn wsL_law (wsV RL 24 RX10 yX10_clear uX10_clear) := goodIn_r _ [189, 190, 191, 5, 192, 180, 1082, 1083, 1084, 1085, 1086, 1087, 1088, 1089, 1090, 1091, 1092, 1093, 1094, 1095, 1096, 1097, 1098, 1099, 1100, 1101, 1102, 1103, 1104, 1105, 1106, 1107, 1108, 1109, 1110, 1111, 1112, 1113, 1114, 1115, 1116, 1117] (by decide +kernel) (by decide +kernel)
set_option maxHeartbeats 4000000 in
set_option maxRecDepth 100000 in
theorem lc_1 {p : Program} {l : Launch} {e : Env} {s : State} {m : MethodId} {below : List Frame} {meth : Method} {c : Code} {cells slots : Nat} {Q : State → Prop} {b h0 : Nat} {xs : Nat → Int32} {D : va_G} {cI cL cC : ClassId} {t : Nat → Nat} {H : Heap} {locs : List Loc} {ls : Array Slot} (hx : p.tables.exec = Jvm.exec) (hb : c.code = cL_law) (hml : c.maxLocals = 4) (hown : s.vm.findClass RL = some m.cls) (hts : ∀ w ∈ wsL_law, w.before #[Value.ref b] s = true) (hE : EV D cI cL cC s) (hbl : b < h0) (hG : tG D (fF cI cL cC 0 0) t H) (kt : t h0 = 1) (kt2 : t (h0 + 92) = 40) (ht0 : ∀ q : Nat, q < h0 → t q = 0) (uq_gC : ∀ b c : Nat, t b = 2 → t c = 2 → b = c) (uq_gR : ∀ b c : Nat, t b = 40 → t c = 40 → b = c) (hS : cF h0 s.heap H locs) (hX : va_X b 8 xs s H) (hl : lv_has ls 4 [(3, .int 0), (2, .ref (h0 + 92)), (1, .ref h0), (0, .ref b)]) (hcl : cells ≤ 600000) (hsl : slots ≤ 7302250) (kx : ∀ (H1 : Heap) (locs1 : List Loc), cF h0 s.heap H1 locs1 → va_X b 8 xs s H1 → W p l e room_1 s m #[Value.ref b] below meth c H1 locs1 cells slots Q (F0 m 1417 ls [])) : W p l e room_1 s m #[Value.ref b] below meth c H locs cells slots Q (F0 m 251 ls []) := by
  refine lv_aload_n hx hb dL_law_251 rfl (lv_at hl 2 rfl) ?_
  obtain ⟨_, at_1⟩ := rcv1 hG kt
  refine lw_calli (W.runV (As := []) (rest := []) ⟨hx, hb, hml, hown, hts⟩ (c_X9_clear l D t cI cL cC h0  kt) (cwV 0 hts gu_L_X9_clear rfl rfl rfl (by decide +kernel) ⟨Nat.le_of_ble_eq_true rfl, Nat.le_of_ble_eq_true rfl⟩) (tP_V hG hE at_1 rfl) rfl rfl hl.1 rfl (lv_room (Nat.le_of_ble_eq_true rfl)) dL_law_252 ⟨hcl, hsl⟩) hS rfl ht0 (fun r_2 H locs hp_3 _ hS o_4 => ?_)
  replace hX := hX.kept (o_4 b (by rw [ht0 b hbl]; rfl))
  have hG2 := tG.keptW (tG.ref hG) o_4 (fun q h => tM2_w h)
  refine lv_aload_n hx hb dL_law_255 rfl (lv_at hl 1 rfl) ?_
  obtain ⟨_, at_5⟩ := rcv40 hG2 (tM2_40 kt2 (by decide))
  refine lw_calli (W.runV (As := []) (rest := [.int r_2]) ⟨hx, hb, hml, hown, hts⟩ (c_X10_clear l D (tM2 t) cI cL cC (h0 + 92)  (tM2_40 kt2 (by decide))) (cwV 0 hts gu_L_X10_clear rfl rfl rfl (by decide +kernel) ⟨Nat.le_of_ble_eq_true rfl, Nat.le_of_ble_eq_true rfl⟩) (tP_V hG2 hE at_5 rfl) rfl rfl hl.1 rfl (lv_room (Nat.le_of_ble_eq_true rfl)) dL_law_256 ⟨hcl, hsl⟩) hS rfl (fun q h => tM2_0 (ht0 q h)) (fun r_6 H locs hp_7 _ hS o_8 => ?_)
  replace hX := hX.kept (o_8 b (by rw [tM2_0 (ht0 b hbl)]; rfl))
  refine lv_icmp_eq (tgt := 1417) hx hb dL_law_259 (by decide) (fun _ => ?_) (fun q => absurd ((hp_3.trans hp_7.symm)) q)
  exact kx H locs hS hX

set_option maxRecDepth 20000 in
theorem gu_L_X9_fault : GoodIn wsL_law (wsV RL 25 RX9 yX9_fault uX9_fault) := goodIn_r _ [193, 194, 195, 2, 196, 16, 21, 197, 198, 199, 15, 200, 201, 202, 203, 19, 62, 61, 204, 69, 70, 71, 67, 205, 79, 80, 68, 81, 1064, 1065, 1066, 1067, 1068, 1069, 1070, 1071, 1072, 1073, 1074, 1075, 1076, 1077, 1078, 1079, 1080, 1081, 1118, 1119, 1120, 1121, 1122, 1123, 1124, 1125, 1126, 1127] (by decide +kernel) (by decide +kernel)
set_option maxRecDepth 20000 in
theorem gu_L_X10_fault : GoodIn wsL_law (wsV RL 28 RX10 yX10_fault uX10_fault) := goodIn_r _ [276, 277, 278, 5, 279, 280, 281, 282, 5, 283, 284, 180, 1082, 1083, 1084, 1085, 1086, 1087, 1088, 1089, 1090, 1091, 1092, 1093, 1094, 1095, 1096, 1097, 1098, 1099, 1100, 1101, 1102, 1103, 1104, 1105, 1106, 1107, 1108, 1109, 1110, 1111, 1112, 1113, 1114, 1115, 1116, 1117] (by decide +kernel) (by decide +kernel)
set_option maxHeartbeats 4000000 in
set_option maxRecDepth 100000 in
theorem lc_2 {p : Program} {l : Launch} {e : Env} {s : State} {m : MethodId} {below : List Frame} {meth : Method} {c : Code} {cells slots : Nat} {Q : State → Prop} {b h0 : Nat} {xs : Nat → Int32} {D : va_G} {cI cL cC : ClassId} {t : Nat → Nat} {H : Heap} {locs : List Loc} {ls : Array Slot} (hx : p.tables.exec = Jvm.exec) (hb : c.code = cL_law) (hml : c.maxLocals = 4) (hown : s.vm.findClass RL = some m.cls) (hts : ∀ w ∈ wsL_law, w.before #[Value.ref b] s = true) (hE : EV D cI cL cC s) (hbl : b < h0) (hG : tG D (fF cI cL cC 0 0) t H) (kt : t h0 = 1) (kt2 : t (h0 + 92) = 40) (ht0 : ∀ q : Nat, q < h0 → t q = 0) (uq_gC : ∀ b c : Nat, t b = 2 → t c = 2 → b = c) (uq_gR : ∀ b c : Nat, t b = 40 → t c = 40 → b = c) (hS : cF h0 s.heap H locs) (hX : va_X b 8 xs s H) (hl : lv_has ls 4 [(3, .int 0), (2, .ref (h0 + 92)), (1, .ref h0), (0, .ref b)]) (hcl : cells ≤ 600000) (hsl : slots ≤ 7302250) (kx : ∀ (H1 : Heap) (locs1 : List Loc), cF h0 s.heap H1 locs1 → va_X b 8 xs s H1 → W p l e room_1 s m #[Value.ref b] below meth c H1 locs1 cells slots Q (F0 m 1417 ls [])) : W p l e room_1 s m #[Value.ref b] below meth c H locs cells slots Q (F0 m 264 ls []) := by
  refine lv_aload_n hx hb dL_law_264 rfl (lv_at hl 2 rfl) ?_
  obtain ⟨_, at_1⟩ := rcv1 hG kt
  refine lw_calli (W.runV (As := []) (rest := []) ⟨hx, hb, hml, hown, hts⟩ (c_X9_fault l D t cI cL cC h0  kt) (cwV 0 hts gu_L_X9_fault rfl rfl rfl (by decide +kernel) ⟨Nat.le_of_ble_eq_true rfl, Nat.le_of_ble_eq_true rfl⟩) (tP_V hG hE at_1 rfl) rfl rfl hl.1 rfl (lv_room (Nat.le_of_ble_eq_true rfl)) dL_law_265 ⟨hcl, hsl⟩) hS rfl ht0 (fun r_2 H locs hp_3 _ hS o_4 => ?_)
  replace hX := hX.kept (o_4 b (by rw [ht0 b hbl]; rfl))
  have hG2 := tG.keptW (tG.ref hG) o_4 (fun q h => tM2_w h)
  refine lv_aload_n hx hb dL_law_268 rfl (lv_at hl 1 rfl) ?_
  obtain ⟨_, at_5⟩ := rcv40 hG2 (tM2_40 kt2 (by decide))
  refine lw_calli (W.runV (As := []) (rest := [.int r_2]) ⟨hx, hb, hml, hown, hts⟩ (c_X10_fault l D (tM2 t) cI cL cC (h0 + 92)  (tM2_40 kt2 (by decide))) (cwV 0 hts gu_L_X10_fault rfl rfl rfl (by decide +kernel) ⟨Nat.le_of_ble_eq_true rfl, Nat.le_of_ble_eq_true rfl⟩) (tP_V hG2 hE at_5 rfl) rfl rfl hl.1 rfl (lv_room (Nat.le_of_ble_eq_true rfl)) dL_law_269 ⟨hcl, hsl⟩) hS rfl (fun q h => tM2_0 (ht0 q h)) (fun r_6 H locs hp_7 _ hS o_8 => ?_)
  replace hX := hX.kept (o_8 b (by rw [tM2_0 (ht0 b hbl)]; rfl))
  refine lv_icmp_eq (tgt := 1417) hx hb dL_law_272 (by decide) (fun _ => ?_) (fun q => absurd ((hp_3.trans hp_7.symm)) q)
  exact kx H locs hS hX

set_option maxRecDepth 20000 in
theorem gu_L_X9_build : GoodIn wsL_law (wsV RL 29 RX9 yX9_build uX9_build) := goodIn_r _ [325, 326, 327, 2, 328, 16, 21, 197, 198, 199, 15, 329, 200, 201, 202, 203, 19, 62, 61, 204, 69, 70, 71, 67, 205, 79, 80, 68, 81, 1064, 1065, 1066, 1067, 1068, 1069, 1070, 1071, 1072, 1073, 1074, 1075, 1076, 1077, 1078, 1079, 1080, 1081, 1122, 1123, 1124, 1125, 1126, 1127, 1118, 1119, 1120, 1121] (by decide +kernel) (by decide +kernel)
set_option maxRecDepth 20000 in
theorem gu_L_X10_build : GoodIn wsL_law (wsV RL 32 RX10 yX10_build uX10_build) := goodIn_r _ [361, 362, 363, 5, 364, 280, 281, 282, 5, 284, 283, 180, 1082, 1083, 1084, 1085, 1086, 1087, 1088, 1089, 1090, 1091, 1092, 1093, 1094, 1095, 1096, 1097, 1098, 1099, 1100, 1101, 1102, 1103, 1104, 1105, 1106, 1107, 1108, 1109, 1110, 1111, 1112, 1113, 1114, 1115, 1116, 1117] (by decide +kernel) (by decide +kernel)
set_option maxHeartbeats 4000000 in
set_option maxRecDepth 100000 in
theorem lc_3 {p : Program} {l : Launch} {e : Env} {s : State} {m : MethodId} {below : List Frame} {meth : Method} {c : Code} {cells slots : Nat} {Q : State → Prop} {b h0 : Nat} {xs : Nat → Int32} {D : va_G} {cI cL cC : ClassId} {t : Nat → Nat} {H : Heap} {locs : List Loc} {ls : Array Slot} (hx : p.tables.exec = Jvm.exec) (hb : c.code = cL_law) (hml : c.maxLocals = 4) (hown : s.vm.findClass RL = some m.cls) (hts : ∀ w ∈ wsL_law, w.before #[Value.ref b] s = true) (hE : EV D cI cL cC s) (hbl : b < h0) (hG : tG D (fF cI cL cC 0 0) t H) (kt : t h0 = 1) (kt2 : t (h0 + 92) = 40) (ht0 : ∀ q : Nat, q < h0 → t q = 0) (uq_gC : ∀ b c : Nat, t b = 2 → t c = 2 → b = c) (uq_gR : ∀ b c : Nat, t b = 40 → t c = 40 → b = c) (hS : cF h0 s.heap H locs) (hX : va_X b 8 xs s H) (hl : lv_has ls 4 [(3, .int 0), (2, .ref (h0 + 92)), (1, .ref h0), (0, .ref b)]) (hcl : cells ≤ 600000) (hsl : slots ≤ 7302250) (kx : ∀ (H1 : Heap) (locs1 : List Loc), cF h0 s.heap H1 locs1 → va_X b 8 xs s H1 → W p l e room_1 s m #[Value.ref b] below meth c H1 locs1 cells slots Q (F0 m 1417 ls [])) : W p l e room_1 s m #[Value.ref b] below meth c H locs cells slots Q (F0 m 277 ls []) := by
  refine lv_aload_n hx hb dL_law_277 rfl (lv_at hl 2 rfl) ?_
  obtain ⟨_, at_1⟩ := rcv1 hG kt
  refine lw_calli (W.runV (As := []) (rest := []) ⟨hx, hb, hml, hown, hts⟩ (c_X9_build l D t cI cL cC h0  kt) (cwV 0 hts gu_L_X9_build rfl rfl rfl (by decide +kernel) ⟨Nat.le_of_ble_eq_true rfl, Nat.le_of_ble_eq_true rfl⟩) (tP_V hG hE at_1 rfl) rfl rfl hl.1 rfl (lv_room (Nat.le_of_ble_eq_true rfl)) dL_law_278 ⟨hcl, hsl⟩) hS rfl ht0 (fun r_2 H locs hp_3 _ hS o_4 => ?_)
  replace hX := hX.kept (o_4 b (by rw [ht0 b hbl]; rfl))
  have hG2 := tG.keptW (tG.ref hG) o_4 (fun q h => tM2_w h)
  refine lv_aload_n hx hb dL_law_281 rfl (lv_at hl 1 rfl) ?_
  obtain ⟨_, at_5⟩ := rcv40 hG2 (tM2_40 kt2 (by decide))
  refine lw_calli (W.runV (As := []) (rest := [.int r_2]) ⟨hx, hb, hml, hown, hts⟩ (c_X10_build l D (tM2 t) cI cL cC (h0 + 92)  (tM2_40 kt2 (by decide))) (cwV 0 hts gu_L_X10_build rfl rfl rfl (by decide +kernel) ⟨Nat.le_of_ble_eq_true rfl, Nat.le_of_ble_eq_true rfl⟩) (tP_V hG2 hE at_5 rfl) rfl rfl hl.1 rfl (lv_room (Nat.le_of_ble_eq_true rfl)) dL_law_282 ⟨hcl, hsl⟩) hS rfl (fun q h => tM2_0 (ht0 q h)) (fun r_6 H locs hp_7 _ hS o_8 => ?_)
  replace hX := hX.kept (o_8 b (by rw [tM2_0 (ht0 b hbl)]; rfl))
  refine lv_icmp_eq (tgt := 1417) hx hb dL_law_285 (by decide) (fun _ => ?_) (fun q => absurd ((hp_3.trans hp_7.symm)) q)
  exact kx H locs hS hX

set_option maxRecDepth 20000 in
theorem gu_L_X9_item : GoodIn wsL_law (wsV RL 33 RX9 yX9_item uX9_item) := goodIn_r _ [396, 397, 398, 2, 399, 400, 274, 2, 168, 169, 401, 402, 403, 275, 170, 404, 23, 1064, 1065, 1066, 1067, 1068, 1069, 1070, 1071, 1072, 1073, 1074, 1075, 1076, 1077, 1078, 1079, 1080, 1081] (by decide +kernel) (by decide +kernel)
set_option maxRecDepth 20000 in
theorem gu_L_X10_item : GoodIn wsL_law (wsV RL 37 RX10 yX10_item uX10_item) := goodIn_r _ [406, 407, 408, 5, 409, 410, 182, 183, 5, 391, 370, 184, 1082, 1083, 1084, 1085, 1086, 1087, 1088, 1089, 1090, 1091, 1092, 1093, 1094, 1095, 1096, 1097, 1098, 1099, 1100, 1101, 1102, 1103, 1104, 1105, 1106, 1107, 1108, 1109, 1110, 1111, 1112, 1113, 1114, 1115, 1116, 1117] (by decide +kernel) (by decide +kernel)
set_option maxHeartbeats 4000000 in
set_option maxRecDepth 100000 in
theorem lc_4 {p : Program} {l : Launch} {e : Env} {s : State} {m : MethodId} {below : List Frame} {meth : Method} {c : Code} {cells slots : Nat} {Q : State → Prop} {b h0 : Nat} {xs : Nat → Int32} {D : va_G} {cI cL cC : ClassId} {t : Nat → Nat} {H : Heap} {locs : List Loc} {ls : Array Slot} (hx : p.tables.exec = Jvm.exec) (hb : c.code = cL_law) (hml : c.maxLocals = 4) (hown : s.vm.findClass RL = some m.cls) (hts : ∀ w ∈ wsL_law, w.before #[Value.ref b] s = true) (hE : EV D cI cL cC s) (hbl : b < h0) (hG : tG D (fF cI cL cC 0 0) t H) (kt : t h0 = 1) (kt2 : t (h0 + 92) = 40) (ht0 : ∀ q : Nat, q < h0 → t q = 0) (uq_gC : ∀ b c : Nat, t b = 2 → t c = 2 → b = c) (uq_gR : ∀ b c : Nat, t b = 40 → t c = 40 → b = c) (hS : cF h0 s.heap H locs) (hX : va_X b 8 xs s H) (hl : lv_has ls 4 [(3, .int 0), (2, .ref (h0 + 92)), (1, .ref h0), (0, .ref b)]) (hcl : cells ≤ 600000) (hsl : slots ≤ 7302250) (kx : ∀ (H1 : Heap) (locs1 : List Loc), cF h0 s.heap H1 locs1 → va_X b 8 xs s H1 → W p l e room_1 s m #[Value.ref b] below meth c H1 locs1 cells slots Q (F0 m 1417 ls [])) : W p l e room_1 s m #[Value.ref b] below meth c H locs cells slots Q (F0 m 290 ls []) := by
  refine lv_aload_n hx hb dL_law_290 rfl (lv_at hl 2 rfl) ?_
  refine lv_aload_n hx hb dL_law_291 rfl (lv_at hl 3 rfl) ?_
  refine lv_iload_n hx hb dL_law_292 rfl (lv_at hl 0 rfl) ?_
  refine lv_iconst (v := 1) hx hb dL_law_293 (by decide) ?_
  refine lv_iadd hx hb dL_law_294 ?_
  refine lv_seti (y := 1) (by decide) ?_
  refine ty_sld hx hb hX (i := 1) (q_in (by decide) (by decide)) dL_law_295 ?_
  refine lv_seti (y := xs 1) rfl ?_
  refine lv_aload_n hx hb dL_law_296 rfl (lv_at hl 3 rfl) ?_
  refine lv_pc (pc2 := 297) rfl ?_
  refine lv_iload_n hx hb dL_law_297 rfl (lv_at hl 0 rfl) ?_
  refine lv_iconst (v := 2) hx hb dL_law_298 (by decide) ?_
  refine lv_iadd hx hb dL_law_299 ?_
  refine lv_seti (y := 2) (by decide) ?_
  refine ty_sld hx hb hX (i := 2) (q_in (by decide) (by decide)) dL_law_300 ?_
  refine lv_seti (y := xs 2) rfl ?_
  obtain ⟨_, at_1⟩ := rcv1 hG kt
  refine lw_calli (W.runV (As := [.int (xs 1), .int (xs 2)]) (rest := []) ⟨hx, hb, hml, hown, hts⟩ (c_X9_item l D t cI cL cC h0 (xs 1) (xs 2) kt) (cwV 2 hts gu_L_X9_item rfl rfl rfl (by decide +kernel) ⟨Nat.le_of_ble_eq_true rfl, Nat.le_of_ble_eq_true rfl⟩) (tP_V hG hE at_1 rfl) rfl rfl hl.1 rfl (lv_room (Nat.le_of_ble_eq_true rfl)) dL_law_301 ⟨hcl, hsl⟩) hS rfl ht0 (fun r_2 H locs hp_3 _ hS o_4 => ?_)
  replace hX := hX.kept (o_4 b (by rw [ht0 b hbl]; rfl))
  have hG2 := tG.keptW (tG.ref hG) o_4 (fun q h => rfl)
  refine lv_aload_n hx hb dL_law_304 rfl (lv_at hl 1 rfl) ?_
  refine lv_aload_n hx hb dL_law_305 rfl (lv_at hl 3 rfl) ?_
  refine lv_iload_n hx hb dL_law_306 rfl (lv_at hl 0 rfl) ?_
  refine lv_pc (pc2 := 307) rfl ?_
  refine lv_iconst (v := 1) hx hb dL_law_307 (by decide) ?_
  refine lv_iadd hx hb dL_law_308 ?_
  refine lv_seti (y := 1) (by decide) ?_
  refine ty_sld hx hb hX (i := 1) (q_in (by decide) (by decide)) dL_law_309 ?_
  refine lv_seti (y := xs 1) rfl ?_
  refine lv_aload_n hx hb dL_law_310 rfl (lv_at hl 3 rfl) ?_
  refine lv_iload_n hx hb dL_law_311 rfl (lv_at hl 0 rfl) ?_
  refine lv_iconst (v := 2) hx hb dL_law_312 (by decide) ?_
  refine lv_iadd hx hb dL_law_313 ?_
  refine lv_seti (y := 2) (by decide) ?_
  refine ty_sld hx hb hX (i := 2) (q_in (by decide) (by decide)) dL_law_314 ?_
  refine lv_seti (y := xs 2) rfl ?_
  refine lv_pc (pc2 := 315) rfl ?_
  obtain ⟨_, at_5⟩ := rcv40 hG2 (tM2_40 kt2 (by decide))
  refine lw_calli (W.runV (As := [.int (xs 1), .int (xs 2)]) (rest := [.int r_2]) ⟨hx, hb, hml, hown, hts⟩ (c_X10_item l D (tM2 t) cI cL cC (h0 + 92) (xs 1) (xs 2) (tM2_40 kt2 (by decide))) (cwV 2 hts gu_L_X10_item rfl rfl rfl (by decide +kernel) ⟨Nat.le_of_ble_eq_true rfl, Nat.le_of_ble_eq_true rfl⟩) (tP_V hG2 hE at_5 rfl) rfl rfl hl.1 rfl (lv_room (Nat.le_of_ble_eq_true rfl)) dL_law_315 ⟨hcl, hsl⟩) hS rfl (fun q h => tM2_0 (ht0 q h)) (fun r_6 H locs hp_7 _ hS o_8 => ?_)
  replace hX := hX.kept (o_8 b (by rw [tM2_0 (ht0 b hbl)]; rfl))
  refine lv_icmp_eq (tgt := 1417) hx hb dL_law_318 (by decide) (fun _ => ?_) (fun q => absurd ((by rcases hp_3 with ⟨h1, g1⟩ | ⟨h1, g1⟩ <;> rcases hp_7 with ⟨h2, g2⟩ | ⟨h2, g2⟩ <;> first | exact h1.trans h2.symm | (exfalso; omega))) q)
  exact kx H locs hS hX

set_option maxRecDepth 20000 in
theorem gu_L_X9_weather : GoodIn wsL_law (wsV RL 38 RX9 yX9_weather uX9_weather) := goodIn_r _ [411, 412, 413, 2, 414, 168, 169, 2, 29, 415, 416, 28, 170, 1064, 1065, 1066, 1067, 1068, 1069, 1070, 1071, 1072, 1073, 1074, 1075, 1076, 1077, 1078, 1079, 1080, 1081, 1128, 1129] (by decide +kernel) (by decide +kernel)
set_option maxRecDepth 20000 in
theorem gu_L_X10_weather : GoodIn wsL_law (wsV RL 42 RX10 yX10_weather uX10_weather) := goodIn_r _ [417, 418, 419, 5, 420, 182, 183, 5, 421, 318, 422, 423, 141, 184, 1082, 1083, 1084, 1085, 1086, 1087, 1088, 1089, 1090, 1091, 1092, 1093, 1094, 1095, 1096, 1097, 1098, 1099, 1100, 1101, 1102, 1103, 1104, 1105, 1106, 1107, 1108, 1109, 1110, 1111, 1112, 1113, 1114, 1115, 1116, 1117] (by decide +kernel) (by decide +kernel)
set_option maxHeartbeats 4000000 in
set_option maxRecDepth 100000 in
theorem lc_5 {p : Program} {l : Launch} {e : Env} {s : State} {m : MethodId} {below : List Frame} {meth : Method} {c : Code} {cells slots : Nat} {Q : State → Prop} {b h0 : Nat} {xs : Nat → Int32} {D : va_G} {cI cL cC : ClassId} {t : Nat → Nat} {H : Heap} {locs : List Loc} {ls : Array Slot} (hx : p.tables.exec = Jvm.exec) (hb : c.code = cL_law) (hml : c.maxLocals = 4) (hown : s.vm.findClass RL = some m.cls) (hts : ∀ w ∈ wsL_law, w.before #[Value.ref b] s = true) (hE : EV D cI cL cC s) (hbl : b < h0) (hG : tG D (fF cI cL cC 0 0) t H) (kt : t h0 = 1) (kt2 : t (h0 + 92) = 40) (ht0 : ∀ q : Nat, q < h0 → t q = 0) (uq_gC : ∀ b c : Nat, t b = 2 → t c = 2 → b = c) (uq_gR : ∀ b c : Nat, t b = 40 → t c = 40 → b = c) (hS : cF h0 s.heap H locs) (hX : va_X b 8 xs s H) (hl : lv_has ls 4 [(3, .int 0), (2, .ref (h0 + 92)), (1, .ref h0), (0, .ref b)]) (hcl : cells ≤ 600000) (hsl : slots ≤ 7302250) (kx : ∀ (H1 : Heap) (locs1 : List Loc), cF h0 s.heap H1 locs1 → va_X b 8 xs s H1 → W p l e room_1 s m #[Value.ref b] below meth c H1 locs1 cells slots Q (F0 m 1417 ls [])) : W p l e room_1 s m #[Value.ref b] below meth c H locs cells slots Q (F0 m 323 ls []) := by
  refine lv_aload_n hx hb dL_law_323 rfl (lv_at hl 2 rfl) ?_
  refine lv_aload_n hx hb dL_law_324 rfl (lv_at hl 3 rfl) ?_
  refine lv_iload_n hx hb dL_law_325 rfl (lv_at hl 0 rfl) ?_
  refine lv_iconst (v := 1) hx hb dL_law_326 (by decide) ?_
  refine lv_iadd hx hb dL_law_327 ?_
  refine lv_seti (y := 1) (by decide) ?_
  refine ty_sld hx hb hX (i := 1) (q_in (by decide) (by decide)) dL_law_328 ?_
  refine lv_seti (y := xs 1) rfl ?_
  refine lv_aload_n hx hb dL_law_329 rfl (lv_at hl 3 rfl) ?_
  refine lv_pc (pc2 := 330) rfl ?_
  refine lv_iload_n hx hb dL_law_330 rfl (lv_at hl 0 rfl) ?_
  refine lv_iconst (v := 2) hx hb dL_law_331 (by decide) ?_
  refine lv_iadd hx hb dL_law_332 ?_
  refine lv_seti (y := 2) (by decide) ?_
  refine ty_sld hx hb hX (i := 2) (q_in (by decide) (by decide)) dL_law_333 ?_
  refine lv_seti (y := xs 2) rfl ?_
  refine lv_aload_n hx hb dL_law_334 rfl (lv_at hl 3 rfl) ?_
  refine lv_iload_n hx hb dL_law_335 rfl (lv_at hl 0 rfl) ?_
  refine lv_iconst (v := 3) hx hb dL_law_336 (by decide) ?_
  refine lv_iadd hx hb dL_law_337 ?_
  refine lv_seti (y := 3) (by decide) ?_
  refine lv_pc (pc2 := 338) rfl ?_
  refine ty_sld hx hb hX (i := 3) (q_in (by decide) (by decide)) dL_law_338 ?_
  refine lv_seti (y := xs 3) rfl ?_
  refine lv_aload_n hx hb dL_law_339 rfl (lv_at hl 3 rfl) ?_
  refine lv_iload_n hx hb dL_law_340 rfl (lv_at hl 0 rfl) ?_
  refine lv_iconst (v := 4) hx hb dL_law_341 (by decide) ?_
  refine lv_iadd hx hb dL_law_342 ?_
  refine lv_seti (y := 4) (by decide) ?_
  refine ty_sld hx hb hX (i := 4) (q_in (by decide) (by decide)) dL_law_343 ?_
  refine lv_seti (y := xs 4) rfl ?_
  obtain ⟨_, at_1⟩ := rcv1 hG kt
  refine lw_calli (W.runV (As := [.int (xs 1), .int (xs 2), .int (xs 3), .int (xs 4)]) (rest := []) ⟨hx, hb, hml, hown, hts⟩ (c_X9_weather l D t cI cL cC h0 (xs 1) (xs 2) (xs 3) (xs 4) kt) (cwV 4 hts gu_L_X9_weather rfl rfl rfl (by decide +kernel) ⟨Nat.le_of_ble_eq_true rfl, Nat.le_of_ble_eq_true rfl⟩) (tP_V hG hE at_1 rfl) rfl rfl hl.1 rfl (lv_room (Nat.le_of_ble_eq_true rfl)) dL_law_344 ⟨hcl, hsl⟩) hS rfl ht0 (fun r_2 H locs hp_3 _ hS o_4 => ?_)
  replace hX := hX.kept (o_4 b (by rw [ht0 b hbl]; rfl))
  have hG2 := tG.keptW (tG.ref hG) o_4 (fun q h => tM2_w h)
  refine lv_aload_n hx hb dL_law_347 rfl (lv_at hl 1 rfl) ?_
  refine lv_pc (pc2 := 348) rfl ?_
  refine lv_aload_n hx hb dL_law_348 rfl (lv_at hl 3 rfl) ?_
  refine lv_iload_n hx hb dL_law_349 rfl (lv_at hl 0 rfl) ?_
  refine lv_iconst (v := 1) hx hb dL_law_350 (by decide) ?_
  refine lv_iadd hx hb dL_law_351 ?_
  refine lv_seti (y := 1) (by decide) ?_
  refine ty_sld hx hb hX (i := 1) (q_in (by decide) (by decide)) dL_law_352 ?_
  refine lv_seti (y := xs 1) rfl ?_
  refine lv_aload_n hx hb dL_law_353 rfl (lv_at hl 3 rfl) ?_
  refine lv_iload_n hx hb dL_law_354 rfl (lv_at hl 0 rfl) ?_
  refine lv_iconst (v := 2) hx hb dL_law_355 (by decide) ?_
  refine lv_pc (pc2 := 356) rfl ?_
  refine lv_iadd hx hb dL_law_356 ?_
  refine lv_seti (y := 2) (by decide) ?_
  refine ty_sld hx hb hX (i := 2) (q_in (by decide) (by decide)) dL_law_357 ?_
  refine lv_seti (y := xs 2) rfl ?_
  refine lv_aload_n hx hb dL_law_358 rfl (lv_at hl 3 rfl) ?_
  refine lv_iload_n hx hb dL_law_359 rfl (lv_at hl 0 rfl) ?_
  refine lv_iconst (v := 3) hx hb dL_law_360 (by decide) ?_
  refine lv_iadd hx hb dL_law_361 ?_
  refine lv_seti (y := 3) (by decide) ?_
  refine ty_sld hx hb hX (i := 3) (q_in (by decide) (by decide)) dL_law_362 ?_
  refine lv_seti (y := xs 3) rfl ?_
  refine lv_aload_n hx hb dL_law_363 rfl (lv_at hl 3 rfl) ?_
  refine lv_pc (pc2 := 364) rfl ?_
  refine lv_iload_n hx hb dL_law_364 rfl (lv_at hl 0 rfl) ?_
  refine lv_iconst (v := 4) hx hb dL_law_365 (by decide) ?_
  refine lv_iadd hx hb dL_law_366 ?_
  refine lv_seti (y := 4) (by decide) ?_
  refine ty_sld hx hb hX (i := 4) (q_in (by decide) (by decide)) dL_law_367 ?_
  refine lv_seti (y := xs 4) rfl ?_
  obtain ⟨_, at_5⟩ := rcv40 hG2 (tM2_40 kt2 (by decide))
  refine lw_calli (W.runV (As := [.int (xs 1), .int (xs 2), .int (xs 3), .int (xs 4)]) (rest := [.int r_2]) ⟨hx, hb, hml, hown, hts⟩ (c_X10_weather l D (tM2 t) cI cL cC (h0 + 92) (xs 1) (xs 2) (xs 3) (xs 4) (tM2_40 kt2 (by decide))) (cwV 4 hts gu_L_X10_weather rfl rfl rfl (by decide +kernel) ⟨Nat.le_of_ble_eq_true rfl, Nat.le_of_ble_eq_true rfl⟩) (tP_V hG2 hE at_5 rfl) rfl rfl hl.1 rfl (lv_room (Nat.le_of_ble_eq_true rfl)) dL_law_368 ⟨hcl, hsl⟩) hS rfl (fun q h => tM2_0 (ht0 q h)) (fun r_6 H locs hp_7 _ hS o_8 => ?_)
  replace hX := hX.kept (o_8 b (by rw [tM2_0 (ht0 b hbl)]; rfl))
  refine lv_icmp_eq (tgt := 1417) hx hb dL_law_371 (by decide) (fun _ => ?_) (fun q => absurd ((by rcases hp_3 with ⟨h1, g1⟩ | ⟨h1, g1⟩ <;> rcases hp_7 with ⟨h2, g2⟩ | ⟨h2, g2⟩ <;> first | exact h1.trans h2.symm | (exfalso; omega))) q)
  exact kx H locs hS hX

set_option maxRecDepth 20000 in
theorem gu_L_X9_anew : GoodIn wsL_law (wsV RL 43 RX9 yX9_anew uX9_anew) := goodIn_r _ [424, 425, 426, 2, 427, 23, 1064, 1065, 1066, 1067, 1068, 1069, 1070, 1071, 1072, 1073, 1074, 1075, 1076, 1077, 1078, 1079, 1080, 1081] (by decide +kernel) (by decide +kernel)
set_option maxRecDepth 20000 in
theorem gu_L_X10_anew : GoodIn wsL_law (wsV RL 46 RX10 yX10_anew uX10_anew) := goodIn_r _ [429, 430, 431, 5, 432, 370, 1082, 1083, 1084, 1085, 1086, 1087, 1088, 1089, 1090, 1091, 1092, 1093, 1094, 1095, 1096, 1097, 1098, 1099, 1100, 1101, 1102, 1103, 1104, 1105, 1106, 1107, 1108, 1109, 1110, 1111, 1112, 1113, 1114, 1115, 1116, 1117] (by decide +kernel) (by decide +kernel)
set_option maxHeartbeats 4000000 in
set_option maxRecDepth 100000 in
theorem lc_6 {p : Program} {l : Launch} {e : Env} {s : State} {m : MethodId} {below : List Frame} {meth : Method} {c : Code} {cells slots : Nat} {Q : State → Prop} {b h0 : Nat} {xs : Nat → Int32} {D : va_G} {cI cL cC : ClassId} {t : Nat → Nat} {H : Heap} {locs : List Loc} {ls : Array Slot} (hx : p.tables.exec = Jvm.exec) (hb : c.code = cL_law) (hml : c.maxLocals = 4) (hown : s.vm.findClass RL = some m.cls) (hts : ∀ w ∈ wsL_law, w.before #[Value.ref b] s = true) (hE : EV D cI cL cC s) (hbl : b < h0) (hG : tG D (fF cI cL cC 0 0) t H) (kt : t h0 = 1) (kt2 : t (h0 + 92) = 40) (ht0 : ∀ q : Nat, q < h0 → t q = 0) (uq_gC : ∀ b c : Nat, t b = 2 → t c = 2 → b = c) (uq_gR : ∀ b c : Nat, t b = 40 → t c = 40 → b = c) (hS : cF h0 s.heap H locs) (hX : va_X b 8 xs s H) (hl : lv_has ls 4 [(3, .int 0), (2, .ref (h0 + 92)), (1, .ref h0), (0, .ref b)]) (hcl : cells ≤ 600000) (hsl : slots ≤ 7302250) (kx : ∀ (H1 : Heap) (locs1 : List Loc), cF h0 s.heap H1 locs1 → va_X b 8 xs s H1 → W p l e room_1 s m #[Value.ref b] below meth c H1 locs1 cells slots Q (F0 m 1417 ls [])) : W p l e room_1 s m #[Value.ref b] below meth c H locs cells slots Q (F0 m 376 ls []) := by
  refine lv_aload_n hx hb dL_law_376 rfl (lv_at hl 2 rfl) ?_
  obtain ⟨_, at_1⟩ := rcv1 hG kt
  refine lw_calli (W.runV (As := []) (rest := []) ⟨hx, hb, hml, hown, hts⟩ (c_X9_anew l D t cI cL cC h0  kt) (cwV 0 hts gu_L_X9_anew rfl rfl rfl (by decide +kernel) ⟨Nat.le_of_ble_eq_true rfl, Nat.le_of_ble_eq_true rfl⟩) (tP_V hG hE at_1 rfl) rfl rfl hl.1 rfl (lv_room (Nat.le_of_ble_eq_true rfl)) dL_law_377 ⟨hcl, hsl⟩) hS rfl ht0 (fun r_2 H locs hp_3 _ hS o_4 => ?_)
  replace hX := hX.kept (o_4 b (by rw [ht0 b hbl]; rfl))
  have hG2 := tG.keptW (tG.ref hG) o_4 (fun q h => rfl)
  refine lv_aload_n hx hb dL_law_380 rfl (lv_at hl 1 rfl) ?_
  obtain ⟨_, at_5⟩ := rcv40 hG2 (tM2_40 kt2 (by decide))
  refine lw_calli (W.runV (As := []) (rest := [.int r_2]) ⟨hx, hb, hml, hown, hts⟩ (c_X10_anew l D (tM2 t) cI cL cC (h0 + 92)  (tM2_40 kt2 (by decide))) (cwV 0 hts gu_L_X10_anew rfl rfl rfl (by decide +kernel) ⟨Nat.le_of_ble_eq_true rfl, Nat.le_of_ble_eq_true rfl⟩) (tP_V hG2 hE at_5 rfl) rfl rfl hl.1 rfl (lv_room (Nat.le_of_ble_eq_true rfl)) dL_law_381 ⟨hcl, hsl⟩) hS rfl (fun q h => tM2_0 (ht0 q h)) (fun r_6 H locs hp_7 _ hS o_8 => ?_)
  replace hX := hX.kept (o_8 b (by rw [tM2_0 (ht0 b hbl)]; rfl))
  refine lv_icmp_eq (tgt := 1417) hx hb dL_law_384 (by decide) (fun _ => ?_) (fun q => absurd ((hp_3.trans hp_7.symm)) q)
  exact kx H locs hS hX

set_option maxRecDepth 20000 in
theorem gu_L_X9_run : GoodIn wsL_law (wsV RL 47 RX9 yX9_run uX9_run) := goodIn_r _ [433, 434, 435, 2, 436, 168, 169, 2, 23, 170, 1064, 1065, 1066, 1067, 1068, 1069, 1070, 1071, 1072, 1073, 1074, 1075, 1076, 1077, 1078, 1079, 1080, 1081] (by decide +kernel) (by decide +kernel)
set_option maxRecDepth 20000 in
theorem gu_L_X10_run : GoodIn wsL_law (wsV RL 51 RX10 yX10_run uX10_run) := goodIn_r _ [497, 498, 499, 5, 500, 501, 182, 183, 5, 370, 184, 1082, 1083, 1084, 1085, 1086, 1087, 1088, 1089, 1090, 1091, 1092, 1093, 1094, 1095, 1096, 1097, 1098, 1099, 1100, 1101, 1102, 1103, 1104, 1105, 1106, 1107, 1108, 1109, 1110, 1111, 1112, 1113, 1114, 1115, 1116, 1117] (by decide +kernel) (by decide +kernel)
set_option maxHeartbeats 4000000 in
set_option maxRecDepth 100000 in
theorem lc_7 {p : Program} {l : Launch} {e : Env} {s : State} {m : MethodId} {below : List Frame} {meth : Method} {c : Code} {cells slots : Nat} {Q : State → Prop} {b h0 : Nat} {xs : Nat → Int32} {D : va_G} {cI cL cC : ClassId} {t : Nat → Nat} {H : Heap} {locs : List Loc} {ls : Array Slot} (hx : p.tables.exec = Jvm.exec) (hb : c.code = cL_law) (hml : c.maxLocals = 4) (hown : s.vm.findClass RL = some m.cls) (hts : ∀ w ∈ wsL_law, w.before #[Value.ref b] s = true) (hE : EV D cI cL cC s) (hbl : b < h0) (hG : tG D (fF cI cL cC 0 0) t H) (kt : t h0 = 1) (kt2 : t (h0 + 92) = 40) (ht0 : ∀ q : Nat, q < h0 → t q = 0) (uq_gC : ∀ b c : Nat, t b = 2 → t c = 2 → b = c) (uq_gR : ∀ b c : Nat, t b = 40 → t c = 40 → b = c) (hS : cF h0 s.heap H locs) (hX : va_X b 8 xs s H) (hl : lv_has ls 4 [(3, .int 0), (2, .ref (h0 + 92)), (1, .ref h0), (0, .ref b)]) (hcl : cells ≤ 600000) (hsl : slots ≤ 7302250) (kx : ∀ (H1 : Heap) (locs1 : List Loc), cF h0 s.heap H1 locs1 → va_X b 8 xs s H1 → W p l e room_1 s m #[Value.ref b] below meth c H1 locs1 cells slots Q (F0 m 1417 ls [])) : W p l e room_1 s m #[Value.ref b] below meth c H locs cells slots Q (F0 m 389 ls []) := by
  refine lv_aload_n hx hb dL_law_389 rfl (lv_at hl 2 rfl) ?_
  refine lv_aload_n hx hb dL_law_390 rfl (lv_at hl 3 rfl) ?_
  refine lv_iload_n hx hb dL_law_391 rfl (lv_at hl 0 rfl) ?_
  refine lv_iconst (v := 1) hx hb dL_law_392 (by decide) ?_
  refine lv_iadd hx hb dL_law_393 ?_
  refine lv_seti (y := 1) (by decide) ?_
  refine ty_sld hx hb hX (i := 1) (q_in (by decide) (by decide)) dL_law_394 ?_
  refine lv_seti (y := xs 1) rfl ?_
  obtain ⟨_, at_1⟩ := rcv1 hG kt
  refine lw_calli (W.runV (As := [.int (xs 1)]) (rest := []) ⟨hx, hb, hml, hown, hts⟩ (c_X9_run l D t cI cL cC h0 (xs 1) kt) (cwV 1 hts gu_L_X9_run rfl rfl rfl (by decide +kernel) ⟨Nat.le_of_ble_eq_true rfl, Nat.le_of_ble_eq_true rfl⟩) (tP_V hG hE at_1 rfl) rfl rfl hl.1 rfl (lv_room (Nat.le_of_ble_eq_true rfl)) dL_law_395 ⟨hcl, hsl⟩) hS rfl ht0 (fun r_2 H locs hp_3 _ hS o_4 => ?_)
  replace hX := hX.kept (o_4 b (by rw [ht0 b hbl]; rfl))
  have hG2 := tG.keptW (tG.ref hG) o_4 (fun q h => rfl)
  refine lv_pc (pc2 := 398) rfl ?_
  refine lv_aload_n hx hb dL_law_398 rfl (lv_at hl 1 rfl) ?_
  refine lv_aload_n hx hb dL_law_399 rfl (lv_at hl 3 rfl) ?_
  refine lv_iload_n hx hb dL_law_400 rfl (lv_at hl 0 rfl) ?_
  refine lv_iconst (v := 1) hx hb dL_law_401 (by decide) ?_
  refine lv_iadd hx hb dL_law_402 ?_
  refine lv_seti (y := 1) (by decide) ?_
  refine ty_sld hx hb hX (i := 1) (q_in (by decide) (by decide)) dL_law_403 ?_
  refine lv_seti (y := xs 1) rfl ?_
  obtain ⟨_, at_5⟩ := rcv40 hG2 (tM2_40 kt2 (by decide))
  refine lw_calli (W.runV (As := [.int (xs 1)]) (rest := [.int r_2]) ⟨hx, hb, hml, hown, hts⟩ (c_X10_run l D (tM2 t) cI cL cC (h0 + 92) (xs 1) (tM2_40 kt2 (by decide))) (cwV 1 hts gu_L_X10_run rfl rfl rfl (by decide +kernel) ⟨Nat.le_of_ble_eq_true rfl, Nat.le_of_ble_eq_true rfl⟩) (tP_V hG2 hE at_5 rfl) rfl rfl hl.1 rfl (lv_room (Nat.le_of_ble_eq_true rfl)) dL_law_404 ⟨hcl, hsl⟩) hS rfl (fun q h => tM2_0 (ht0 q h)) (fun r_6 H locs hp_7 _ hS o_8 => ?_)
  replace hX := hX.kept (o_8 b (by rw [tM2_0 (ht0 b hbl)]; rfl))
  refine lv_icmp_eq (tgt := 1417) hx hb dL_law_407 (by decide) (fun _ => ?_) (fun q => absurd ((by rcases hp_3 with ⟨h1, g1⟩ | ⟨h1, g1⟩ <;> rcases hp_7 with ⟨h2, g2⟩ | ⟨h2, g2⟩ <;> first | exact h1.trans h2.symm | (exfalso; omega))) q)
  exact kx H locs hS hX

set_option maxRecDepth 20000 in
theorem gu_L_X9_has : GoodIn wsL_law (wsV RL 52 RX9 yX9_has uX9_has) := goodIn_r _ [523, 524, 525, 2, 526, 530, 223, 2, 527, 168, 169, 531, 532, 533, 528, 224, 170, 534, 23, 1064, 1065, 1066, 1067, 1068, 1069, 1070, 1071, 1072, 1073, 1074, 1075, 1076, 1077, 1078, 1079, 1080, 1081] (by decide +kernel) (by decide +kernel)
set_option maxRecDepth 20000 in
theorem gu_L_X10_has : GoodIn wsL_law (wsV RL 56 RX10 yX10_has uX10_has) := goodIn_r _ [540, 541, 542, 5, 543, 544, 182, 183, 5, 370, 546, 545, 184, 1082, 1083, 1084, 1085, 1086, 1087, 1088, 1089, 1090, 1091, 1092, 1093, 1094, 1095, 1096, 1097, 1098, 1099, 1100, 1101, 1102, 1103, 1104, 1105, 1106, 1107, 1108, 1109, 1110, 1111, 1112, 1113, 1114, 1115, 1116, 1117] (by decide +kernel) (by decide +kernel)
set_option maxHeartbeats 4000000 in
set_option maxRecDepth 100000 in
theorem lc_8 {p : Program} {l : Launch} {e : Env} {s : State} {m : MethodId} {below : List Frame} {meth : Method} {c : Code} {cells slots : Nat} {Q : State → Prop} {b h0 : Nat} {xs : Nat → Int32} {D : va_G} {cI cL cC : ClassId} {t : Nat → Nat} {H : Heap} {locs : List Loc} {ls : Array Slot} (hx : p.tables.exec = Jvm.exec) (hb : c.code = cL_law) (hml : c.maxLocals = 4) (hown : s.vm.findClass RL = some m.cls) (hts : ∀ w ∈ wsL_law, w.before #[Value.ref b] s = true) (hE : EV D cI cL cC s) (hbl : b < h0) (hG : tG D (fF cI cL cC 0 0) t H) (kt : t h0 = 1) (kt2 : t (h0 + 92) = 40) (ht0 : ∀ q : Nat, q < h0 → t q = 0) (uq_gC : ∀ b c : Nat, t b = 2 → t c = 2 → b = c) (uq_gR : ∀ b c : Nat, t b = 40 → t c = 40 → b = c) (hS : cF h0 s.heap H locs) (hX : va_X b 8 xs s H) (hl : lv_has ls 4 [(3, .int 0), (2, .ref (h0 + 92)), (1, .ref h0), (0, .ref b)]) (hcl : cells ≤ 600000) (hsl : slots ≤ 7302250) (kx : ∀ (H1 : Heap) (locs1 : List Loc), cF h0 s.heap H1 locs1 → va_X b 8 xs s H1 → W p l e room_1 s m #[Value.ref b] below meth c H1 locs1 cells slots Q (F0 m 1417 ls [])) : W p l e room_1 s m #[Value.ref b] below meth c H locs cells slots Q (F0 m 412 ls []) := by
  refine lv_aload_n hx hb dL_law_412 rfl (lv_at hl 2 rfl) ?_
  refine lv_aload_n hx hb dL_law_413 rfl (lv_at hl 3 rfl) ?_
  refine lv_iload_n hx hb dL_law_414 rfl (lv_at hl 0 rfl) ?_
  refine lv_iconst (v := 1) hx hb dL_law_415 (by decide) ?_
  refine lv_iadd hx hb dL_law_416 ?_
  refine lv_seti (y := 1) (by decide) ?_
  refine ty_sld hx hb hX (i := 1) (q_in (by decide) (by decide)) dL_law_417 ?_
  refine lv_seti (y := xs 1) rfl ?_
  refine lv_aload_n hx hb dL_law_418 rfl (lv_at hl 3 rfl) ?_
  refine lv_pc (pc2 := 419) rfl ?_
  refine lv_iload_n hx hb dL_law_419 rfl (lv_at hl 0 rfl) ?_
  refine lv_iconst (v := 2) hx hb dL_law_420 (by decide) ?_
  refine lv_iadd hx hb dL_law_421 ?_
  refine lv_seti (y := 2) (by decide) ?_
  refine ty_sld hx hb hX (i := 2) (q_in (by decide) (by decide)) dL_law_422 ?_
  refine lv_seti (y := xs 2) rfl ?_
  obtain ⟨_, at_1⟩ := rcv1 hG kt
  refine lw_calll (W.runV (As := [.int (xs 1), .int (xs 2)]) (rest := []) ⟨hx, hb, hml, hown, hts⟩ (c_X9_has l D t cI cL cC h0 (xs 1) (xs 2) kt) (cwV 2 hts gu_L_X9_has rfl rfl rfl (by decide +kernel) ⟨Nat.le_of_ble_eq_true rfl, Nat.le_of_ble_eq_true rfl⟩) (tP_V hG hE at_1 rfl) rfl rfl hl.1 rfl (lv_room (Nat.le_of_ble_eq_true rfl)) dL_law_423 ⟨hcl, hsl⟩) hS rfl ht0 (fun r_2 H locs hp_3 _ hS o_4 => ?_)
  replace hX := hX.kept (o_4 b (by rw [ht0 b hbl]; rfl))
  have hG2 := tG.keptW (tG.ref hG) o_4 (fun q h => rfl)
  refine lv_aload_n hx hb dL_law_426 rfl (lv_at hl 1 rfl) ?_
  refine lv_aload_n hx hb dL_law_427 rfl (lv_at hl 3 rfl) ?_
  refine lv_iload_n hx hb dL_law_428 rfl (lv_at hl 0 rfl) ?_
  refine lv_pc (pc2 := 429) rfl ?_
  refine lv_iconst (v := 1) hx hb dL_law_429 (by decide) ?_
  refine lv_iadd hx hb dL_law_430 ?_
  refine lv_seti (y := 1) (by decide) ?_
  refine ty_sld hx hb hX (i := 1) (q_in (by decide) (by decide)) dL_law_431 ?_
  refine lv_seti (y := xs 1) rfl ?_
  refine lv_aload_n hx hb dL_law_432 rfl (lv_at hl 3 rfl) ?_
  refine lv_iload_n hx hb dL_law_433 rfl (lv_at hl 0 rfl) ?_
  refine lv_iconst (v := 2) hx hb dL_law_434 (by decide) ?_
  refine lv_iadd hx hb dL_law_435 ?_
  refine lv_seti (y := 2) (by decide) ?_
  refine ty_sld hx hb hX (i := 2) (q_in (by decide) (by decide)) dL_law_436 ?_
  refine lv_seti (y := xs 2) rfl ?_
  refine lv_pc (pc2 := 437) rfl ?_
  obtain ⟨_, at_5⟩ := rcv40 hG2 (tM2_40 kt2 (by decide))
  refine lw_calll (W.runV (As := [.int (xs 1), .int (xs 2)]) (rest := [.long r_2]) ⟨hx, hb, hml, hown, hts⟩ (c_X10_has l D (tM2 t) cI cL cC (h0 + 92) (xs 1) (xs 2) (tM2_40 kt2 (by decide))) (cwV 2 hts gu_L_X10_has rfl rfl rfl (by decide +kernel) ⟨Nat.le_of_ble_eq_true rfl, Nat.le_of_ble_eq_true rfl⟩) (tP_V hG2 hE at_5 rfl) rfl rfl hl.1 rfl (lv_room (Nat.le_of_ble_eq_true rfl)) dL_law_437 ⟨hcl, hsl⟩) hS rfl (fun q h => tM2_0 (ht0 q h)) (fun r_6 H locs hp_7 _ hS o_8 => ?_)
  replace hX := hX.kept (o_8 b (by rw [tM2_0 (ht0 b hbl)]; rfl))
  refine W.lcmp hx hb dL_law_440 ?_
  refine lv_if_eq (tgt := 1417) hx hb dL_law_441 (by decide) (fun _ => ?_) (fun q => absurd ((lg_cmp_eq _ _).mpr (by rcases hp_3 with ⟨h1, g1⟩ | ⟨h1, g1⟩ <;> rcases hp_7 with ⟨h2, g2⟩ | ⟨h2, g2⟩ <;> first | exact h1.trans h2.symm | (exfalso; omega))) q)
  exact kx H locs hS hX

set_option maxRecDepth 20000 in
theorem gu_L_X9_flow : GoodIn wsL_law (wsV RL 57 RX9 yX9_flow uX9_flow) := goodIn_r _ [551, 552, 553, 2, 554, 400, 274, 2, 527, 401, 402, 403, 528, 275, 404, 23, 1064, 1065, 1066, 1067, 1068, 1069, 1070, 1071, 1072, 1073, 1074, 1075, 1076, 1077, 1078, 1079, 1080, 1081] (by decide +kernel) (by decide +kernel)
set_option maxRecDepth 20000 in
theorem gu_L_X10_flow : GoodIn wsL_law (wsV RL 61 RX10 yX10_flow uX10_flow) := goodIn_r _ [556, 557, 558, 5, 559, 410, 182, 183, 5, 370, 546, 545, 184, 1082, 1083, 1084, 1085, 1086, 1087, 1088, 1089, 1090, 1091, 1092, 1093, 1094, 1095, 1096, 1097, 1098, 1099, 1100, 1101, 1102, 1103, 1104, 1105, 1106, 1107, 1108, 1109, 1110, 1111, 1112, 1113, 1114, 1115, 1116, 1117] (by decide +kernel) (by decide +kernel)
set_option maxHeartbeats 4000000 in
set_option maxRecDepth 100000 in
theorem lc_9 {p : Program} {l : Launch} {e : Env} {s : State} {m : MethodId} {below : List Frame} {meth : Method} {c : Code} {cells slots : Nat} {Q : State → Prop} {b h0 : Nat} {xs : Nat → Int32} {D : va_G} {cI cL cC : ClassId} {t : Nat → Nat} {H : Heap} {locs : List Loc} {ls : Array Slot} (hx : p.tables.exec = Jvm.exec) (hb : c.code = cL_law) (hml : c.maxLocals = 4) (hown : s.vm.findClass RL = some m.cls) (hts : ∀ w ∈ wsL_law, w.before #[Value.ref b] s = true) (hE : EV D cI cL cC s) (hbl : b < h0) (hG : tG D (fF cI cL cC 0 0) t H) (kt : t h0 = 1) (kt2 : t (h0 + 92) = 40) (ht0 : ∀ q : Nat, q < h0 → t q = 0) (uq_gC : ∀ b c : Nat, t b = 2 → t c = 2 → b = c) (uq_gR : ∀ b c : Nat, t b = 40 → t c = 40 → b = c) (hS : cF h0 s.heap H locs) (hX : va_X b 8 xs s H) (hl : lv_has ls 4 [(3, .int 0), (2, .ref (h0 + 92)), (1, .ref h0), (0, .ref b)]) (hcl : cells ≤ 600000) (hsl : slots ≤ 7302250) (kx : ∀ (H1 : Heap) (locs1 : List Loc), cF h0 s.heap H1 locs1 → va_X b 8 xs s H1 → W p l e room_1 s m #[Value.ref b] below meth c H1 locs1 cells slots Q (F0 m 1417 ls [])) : W p l e room_1 s m #[Value.ref b] below meth c H locs cells slots Q (F0 m 446 ls []) := by
  refine lv_aload_n hx hb dL_law_446 rfl (lv_at hl 2 rfl) ?_
  refine lv_aload_n hx hb dL_law_447 rfl (lv_at hl 3 rfl) ?_
  refine lv_iload_n hx hb dL_law_448 rfl (lv_at hl 0 rfl) ?_
  refine lv_iconst (v := 1) hx hb dL_law_449 (by decide) ?_
  refine lv_iadd hx hb dL_law_450 ?_
  refine lv_seti (y := 1) (by decide) ?_
  refine ty_sld hx hb hX (i := 1) (q_in (by decide) (by decide)) dL_law_451 ?_
  refine lv_seti (y := xs 1) rfl ?_
  obtain ⟨_, at_1⟩ := rcv1 hG kt
  refine lw_calll (W.runV (As := [.int (xs 1)]) (rest := []) ⟨hx, hb, hml, hown, hts⟩ (c_X9_flow l D t cI cL cC h0 (xs 1) kt) (cwV 1 hts gu_L_X9_flow rfl rfl rfl (by decide +kernel) ⟨Nat.le_of_ble_eq_true rfl, Nat.le_of_ble_eq_true rfl⟩) (tP_V hG hE at_1 rfl) rfl rfl hl.1 rfl (lv_room (Nat.le_of_ble_eq_true rfl)) dL_law_452 ⟨hcl, hsl⟩) hS rfl ht0 (fun r_2 H locs hp_3 _ hS o_4 => ?_)
  replace hX := hX.kept (o_4 b (by rw [ht0 b hbl]; rfl))
  have hG2 := tG.keptW (tG.ref hG) o_4 (fun q h => rfl)
  refine lv_pc (pc2 := 455) rfl ?_
  refine lv_aload_n hx hb dL_law_455 rfl (lv_at hl 1 rfl) ?_
  refine lv_aload_n hx hb dL_law_456 rfl (lv_at hl 3 rfl) ?_
  refine lv_iload_n hx hb dL_law_457 rfl (lv_at hl 0 rfl) ?_
  refine lv_iconst (v := 1) hx hb dL_law_458 (by decide) ?_
  refine lv_iadd hx hb dL_law_459 ?_
  refine lv_seti (y := 1) (by decide) ?_
  refine ty_sld hx hb hX (i := 1) (q_in (by decide) (by decide)) dL_law_460 ?_
  refine lv_seti (y := xs 1) rfl ?_
  obtain ⟨_, at_5⟩ := rcv40 hG2 (tM2_40 kt2 (by decide))
  refine lw_calll (W.runV (As := [.int (xs 1)]) (rest := [.long r_2]) ⟨hx, hb, hml, hown, hts⟩ (c_X10_flow l D (tM2 t) cI cL cC (h0 + 92) (xs 1) (tM2_40 kt2 (by decide))) (cwV 1 hts gu_L_X10_flow rfl rfl rfl (by decide +kernel) ⟨Nat.le_of_ble_eq_true rfl, Nat.le_of_ble_eq_true rfl⟩) (tP_V hG2 hE at_5 rfl) rfl rfl hl.1 rfl (lv_room (Nat.le_of_ble_eq_true rfl)) dL_law_461 ⟨hcl, hsl⟩) hS rfl (fun q h => tM2_0 (ht0 q h)) (fun r_6 H locs hp_7 _ hS o_8 => ?_)
  replace hX := hX.kept (o_8 b (by rw [tM2_0 (ht0 b hbl)]; rfl))
  refine W.lcmp hx hb dL_law_464 ?_
  refine lv_pc (pc2 := 465) rfl ?_
  refine lv_if_eq (tgt := 1417) hx hb dL_law_465 (by decide) (fun _ => ?_) (fun q => absurd ((lg_cmp_eq _ _).mpr (by rcases hp_3 with ⟨h1, g1⟩ | ⟨h1, g1⟩ <;> rcases hp_7 with ⟨h2, g2⟩ | ⟨h2, g2⟩ <;> first | exact h1.trans h2.symm | (exfalso; omega))) q)
  exact kx H locs hS hX

set_option maxRecDepth 20000 in
theorem gu_L_X9_gate : GoodIn wsL_law (wsV RL 62 RX9 yX9_gate uX9_gate) := goodIn_r _ [560, 561, 562, 2, 563, 565, 487, 2, 168, 169, 566, 567, 568, 488, 170, 569, 23, 1064, 1065, 1066, 1067, 1068, 1069, 1070, 1071, 1072, 1073, 1074, 1075, 1076, 1077, 1078, 1079, 1080, 1081] (by decide +kernel) (by decide +kernel)
set_option maxRecDepth 20000 in
theorem gu_L_X10_gate : GoodIn wsL_law (wsV RL 65 RX10 yX10_gate uX10_gate) := goodIn_r _ [571, 572, 573, 5, 574, 575, 182, 183, 5, 514, 370, 184, 1082, 1083, 1084, 1085, 1086, 1087, 1088, 1089, 1090, 1091, 1092, 1093, 1094, 1095, 1096, 1097, 1098, 1099, 1100, 1101, 1102, 1103, 1104, 1105, 1106, 1107, 1108, 1109, 1110, 1111, 1112, 1113, 1114, 1115, 1116, 1117] (by decide +kernel) (by decide +kernel)
set_option maxHeartbeats 4000000 in
set_option maxRecDepth 100000 in
theorem lc_10 {p : Program} {l : Launch} {e : Env} {s : State} {m : MethodId} {below : List Frame} {meth : Method} {c : Code} {cells slots : Nat} {Q : State → Prop} {b h0 : Nat} {xs : Nat → Int32} {D : va_G} {cI cL cC : ClassId} {t : Nat → Nat} {H : Heap} {locs : List Loc} {ls : Array Slot} (hx : p.tables.exec = Jvm.exec) (hb : c.code = cL_law) (hml : c.maxLocals = 4) (hown : s.vm.findClass RL = some m.cls) (hts : ∀ w ∈ wsL_law, w.before #[Value.ref b] s = true) (hE : EV D cI cL cC s) (hbl : b < h0) (hG : tG D (fF cI cL cC 0 0) t H) (kt : t h0 = 1) (kt2 : t (h0 + 92) = 40) (ht0 : ∀ q : Nat, q < h0 → t q = 0) (uq_gC : ∀ b c : Nat, t b = 2 → t c = 2 → b = c) (uq_gR : ∀ b c : Nat, t b = 40 → t c = 40 → b = c) (hS : cF h0 s.heap H locs) (hX : va_X b 8 xs s H) (hl : lv_has ls 4 [(3, .int 0), (2, .ref (h0 + 92)), (1, .ref h0), (0, .ref b)]) (hcl : cells ≤ 600000) (hsl : slots ≤ 7302250) (kx : ∀ (H1 : Heap) (locs1 : List Loc), cF h0 s.heap H1 locs1 → va_X b 8 xs s H1 → W p l e room_1 s m #[Value.ref b] below meth c H1 locs1 cells slots Q (F0 m 1417 ls [])) : W p l e room_1 s m #[Value.ref b] below meth c H locs cells slots Q (F0 m 470 ls []) := by
  refine lv_aload_n hx hb dL_law_470 rfl (lv_at hl 2 rfl) ?_
  refine lv_aload_n hx hb dL_law_471 rfl (lv_at hl 3 rfl) ?_
  refine lv_iload_n hx hb dL_law_472 rfl (lv_at hl 0 rfl) ?_
  refine lv_iconst (v := 1) hx hb dL_law_473 (by decide) ?_
  refine lv_iadd hx hb dL_law_474 ?_
  refine lv_seti (y := 1) (by decide) ?_
  refine ty_sld hx hb hX (i := 1) (q_in (by decide) (by decide)) dL_law_475 ?_
  refine lv_seti (y := xs 1) rfl ?_
  refine lv_aload_n hx hb dL_law_476 rfl (lv_at hl 3 rfl) ?_
  refine lv_pc (pc2 := 477) rfl ?_
  refine lv_iload_n hx hb dL_law_477 rfl (lv_at hl 0 rfl) ?_
  refine lv_iconst (v := 2) hx hb dL_law_478 (by decide) ?_
  refine lv_iadd hx hb dL_law_479 ?_
  refine lv_seti (y := 2) (by decide) ?_
  refine ty_sld hx hb hX (i := 2) (q_in (by decide) (by decide)) dL_law_480 ?_
  refine lv_seti (y := xs 2) rfl ?_
  obtain ⟨_, at_1⟩ := rcv1 hG kt
  refine lw_calli (W.runV (As := [.int (xs 1), .int (xs 2)]) (rest := []) ⟨hx, hb, hml, hown, hts⟩ (c_X9_gate l D t cI cL cC h0 (xs 1) (xs 2) kt) (cwV 2 hts gu_L_X9_gate rfl rfl rfl (by decide +kernel) ⟨Nat.le_of_ble_eq_true rfl, Nat.le_of_ble_eq_true rfl⟩) (tP_V hG hE at_1 rfl) rfl rfl hl.1 rfl (lv_room (Nat.le_of_ble_eq_true rfl)) dL_law_481 ⟨hcl, hsl⟩) hS rfl ht0 (fun r_2 H locs hp_3 _ hS o_4 => ?_)
  replace hX := hX.kept (o_4 b (by rw [ht0 b hbl]; rfl))
  have hG2 := tG.keptW (tG.ref hG) o_4 (fun q h => rfl)
  refine lv_aload_n hx hb dL_law_484 rfl (lv_at hl 1 rfl) ?_
  refine lv_aload_n hx hb dL_law_485 rfl (lv_at hl 3 rfl) ?_
  refine lv_iload_n hx hb dL_law_486 rfl (lv_at hl 0 rfl) ?_
  refine lv_pc (pc2 := 487) rfl ?_
  refine lv_iconst (v := 1) hx hb dL_law_487 (by decide) ?_
  refine lv_iadd hx hb dL_law_488 ?_
  refine lv_seti (y := 1) (by decide) ?_
  refine ty_sld hx hb hX (i := 1) (q_in (by decide) (by decide)) dL_law_489 ?_
  refine lv_seti (y := xs 1) rfl ?_
  refine lv_aload_n hx hb dL_law_490 rfl (lv_at hl 3 rfl) ?_
  refine lv_iload_n hx hb dL_law_491 rfl (lv_at hl 0 rfl) ?_
  refine lv_iconst (v := 2) hx hb dL_law_492 (by decide) ?_
  refine lv_iadd hx hb dL_law_493 ?_
  refine lv_seti (y := 2) (by decide) ?_
  refine ty_sld hx hb hX (i := 2) (q_in (by decide) (by decide)) dL_law_494 ?_
  refine lv_seti (y := xs 2) rfl ?_
  refine lv_pc (pc2 := 495) rfl ?_
  obtain ⟨_, at_5⟩ := rcv40 hG2 (tM2_40 kt2 (by decide))
  refine lw_calli (W.runV (As := [.int (xs 1), .int (xs 2)]) (rest := [.int r_2]) ⟨hx, hb, hml, hown, hts⟩ (c_X10_gate l D (tM2 t) cI cL cC (h0 + 92) (xs 1) (xs 2) (tM2_40 kt2 (by decide))) (cwV 2 hts gu_L_X10_gate rfl rfl rfl (by decide +kernel) ⟨Nat.le_of_ble_eq_true rfl, Nat.le_of_ble_eq_true rfl⟩) (tP_V hG2 hE at_5 rfl) rfl rfl hl.1 rfl (lv_room (Nat.le_of_ble_eq_true rfl)) dL_law_495 ⟨hcl, hsl⟩) hS rfl (fun q h => tM2_0 (ht0 q h)) (fun r_6 H locs hp_7 _ hS o_8 => ?_)
  replace hX := hX.kept (o_8 b (by rw [tM2_0 (ht0 b hbl)]; rfl))
  refine lv_icmp_eq (tgt := 1417) hx hb dL_law_498 (by decide) (fun _ => ?_) (fun q => absurd ((by rcases hp_3 with ⟨h1, g1⟩ | ⟨h1, g1⟩ <;> rcases hp_7 with ⟨h2, g2⟩ | ⟨h2, g2⟩ <;> first | exact h1.trans h2.symm | (exfalso; omega))) q)
  exact kx H locs hS hX

set_option maxRecDepth 20000 in
theorem gu_L_X9_book : GoodIn wsL_law (wsV RL 66 RX9 yX9_book uX9_book) := goodIn_r _ [580, 581, 582, 2, 583, 168, 169, 2, 527, 23, 528, 170, 1064, 1065, 1066, 1067, 1068, 1069, 1070, 1071, 1072, 1073, 1074, 1075, 1076, 1077, 1078, 1079, 1080, 1081] (by decide +kernel) (by decide +kernel)
set_option maxRecDepth 20000 in
theorem gu_L_X10_book : GoodIn wsL_law (wsV RL 69 RX10 yX10_book uX10_book) := goodIn_r _ [600, 601, 602, 5, 603, 391, 182, 183, 5, 370, 546, 545, 184, 1082, 1083, 1084, 1085, 1086, 1087, 1088, 1089, 1090, 1091, 1092, 1093, 1094, 1095, 1096, 1097, 1098, 1099, 1100, 1101, 1102, 1103, 1104, 1105, 1106, 1107, 1108, 1109, 1110, 1111, 1112, 1113, 1114, 1115, 1116, 1117] (by decide +kernel) (by decide +kernel)
set_option maxHeartbeats 4000000 in
set_option maxRecDepth 100000 in
theorem lc_11 {p : Program} {l : Launch} {e : Env} {s : State} {m : MethodId} {below : List Frame} {meth : Method} {c : Code} {cells slots : Nat} {Q : State → Prop} {b h0 : Nat} {xs : Nat → Int32} {D : va_G} {cI cL cC : ClassId} {t : Nat → Nat} {H : Heap} {locs : List Loc} {ls : Array Slot} (hx : p.tables.exec = Jvm.exec) (hb : c.code = cL_law) (hml : c.maxLocals = 4) (hown : s.vm.findClass RL = some m.cls) (hts : ∀ w ∈ wsL_law, w.before #[Value.ref b] s = true) (hE : EV D cI cL cC s) (hbl : b < h0) (hG : tG D (fF cI cL cC 0 0) t H) (kt : t h0 = 1) (kt2 : t (h0 + 92) = 40) (ht0 : ∀ q : Nat, q < h0 → t q = 0) (uq_gC : ∀ b c : Nat, t b = 2 → t c = 2 → b = c) (uq_gR : ∀ b c : Nat, t b = 40 → t c = 40 → b = c) (hS : cF h0 s.heap H locs) (hX : va_X b 8 xs s H) (hl : lv_has ls 4 [(3, .int 0), (2, .ref (h0 + 92)), (1, .ref h0), (0, .ref b)]) (hcl : cells ≤ 600000) (hsl : slots ≤ 7302250) (kx : ∀ (H1 : Heap) (locs1 : List Loc), cF h0 s.heap H1 locs1 → va_X b 8 xs s H1 → W p l e room_1 s m #[Value.ref b] below meth c H1 locs1 cells slots Q (F0 m 1417 ls [])) : W p l e room_1 s m #[Value.ref b] below meth c H locs cells slots Q (F0 m 503 ls []) := by
  refine lv_aload_n hx hb dL_law_503 rfl (lv_at hl 2 rfl) ?_
  refine lv_aload_n hx hb dL_law_504 rfl (lv_at hl 3 rfl) ?_
  refine lv_iload_n hx hb dL_law_505 rfl (lv_at hl 0 rfl) ?_
  refine lv_iconst (v := 1) hx hb dL_law_506 (by decide) ?_
  refine lv_iadd hx hb dL_law_507 ?_
  refine lv_seti (y := 1) (by decide) ?_
  refine ty_sld hx hb hX (i := 1) (q_in (by decide) (by decide)) dL_law_508 ?_
  refine lv_seti (y := xs 1) rfl ?_
  obtain ⟨_, at_1⟩ := rcv1 hG kt
  refine lw_calll (W.runV (As := [.int (xs 1)]) (rest := []) ⟨hx, hb, hml, hown, hts⟩ (c_X9_book l D t cI cL cC h0 (xs 1) kt) (cwV 1 hts gu_L_X9_book rfl rfl rfl (by decide +kernel) ⟨Nat.le_of_ble_eq_true rfl, Nat.le_of_ble_eq_true rfl⟩) (tP_V hG hE at_1 rfl) rfl rfl hl.1 rfl (lv_room (Nat.le_of_ble_eq_true rfl)) dL_law_509 ⟨hcl, hsl⟩) hS rfl ht0 (fun r_2 H locs hp_3 _ hS o_4 => ?_)
  replace hX := hX.kept (o_4 b (by rw [ht0 b hbl]; rfl))
  have hG2 := tG.keptW (tG.ref hG) o_4 (fun q h => rfl)
  refine lv_pc (pc2 := 512) rfl ?_
  refine lv_aload_n hx hb dL_law_512 rfl (lv_at hl 1 rfl) ?_
  refine lv_aload_n hx hb dL_law_513 rfl (lv_at hl 3 rfl) ?_
  refine lv_iload_n hx hb dL_law_514 rfl (lv_at hl 0 rfl) ?_
  refine lv_iconst (v := 1) hx hb dL_law_515 (by decide) ?_
  refine lv_iadd hx hb dL_law_516 ?_
  refine lv_seti (y := 1) (by decide) ?_
  refine ty_sld hx hb hX (i := 1) (q_in (by decide) (by decide)) dL_law_517 ?_
  refine lv_seti (y := xs 1) rfl ?_
  obtain ⟨_, at_5⟩ := rcv40 hG2 (tM2_40 kt2 (by decide))
  refine lw_calll (W.runV (As := [.int (xs 1)]) (rest := [.long r_2]) ⟨hx, hb, hml, hown, hts⟩ (c_X10_book l D (tM2 t) cI cL cC (h0 + 92) (xs 1) (tM2_40 kt2 (by decide))) (cwV 1 hts gu_L_X10_book rfl rfl rfl (by decide +kernel) ⟨Nat.le_of_ble_eq_true rfl, Nat.le_of_ble_eq_true rfl⟩) (tP_V hG2 hE at_5 rfl) rfl rfl hl.1 rfl (lv_room (Nat.le_of_ble_eq_true rfl)) dL_law_518 ⟨hcl, hsl⟩) hS rfl (fun q h => tM2_0 (ht0 q h)) (fun r_6 H locs hp_7 _ hS o_8 => ?_)
  replace hX := hX.kept (o_8 b (by rw [tM2_0 (ht0 b hbl)]; rfl))
  refine W.lcmp hx hb dL_law_521 ?_
  refine lv_pc (pc2 := 522) rfl ?_
  refine lv_if_eq (tgt := 1417) hx hb dL_law_522 (by decide) (fun _ => ?_) (fun q => absurd ((lg_cmp_eq _ _).mpr (by rcases hp_3 with ⟨h1, g1⟩ | ⟨h1, g1⟩ <;> rcases hp_7 with ⟨h2, g2⟩ | ⟨h2, g2⟩ <;> first | exact h1.trans h2.symm | (exfalso; omega))) q)
  exact kx H locs hS hX
