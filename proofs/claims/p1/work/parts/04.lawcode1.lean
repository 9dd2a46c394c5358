theorem d_code_266 : decode code 266 = .ok (.iaload, 1) := by decide +kernel
theorem d_code_267 : decode code 267 = .ok (.invokevirtual 35, 3) := by decide +kernel
theorem d_code_270 : decode code 270 = .ok (.aload_n 2, 1) := by decide +kernel
theorem d_code_271 : decode code 271 = .ok (.aload_n 0, 1) := by decide +kernel
theorem d_code_272 : decode code 272 = .ok (.iload_n 3, 1) := by decide +kernel
theorem d_code_273 : decode code 273 = .ok (.iconst 1, 1) := by decide +kernel
theorem d_code_274 : decode code 274 = .ok (.iadd, 1) := by decide +kernel
theorem d_code_275 : decode code 275 = .ok (.iaload, 1) := by decide +kernel
theorem d_code_276 : decode code 276 = .ok (.invokevirtual 39, 3) := by decide +kernel
theorem d_code_279 : decode code 279 = .ok (.if_icmp .eq 479, 3) := by decide +kernel
theorem d_code_284 : decode code 284 = .ok (.aload_n 1, 1) := by decide +kernel
theorem d_code_285 : decode code 285 = .ok (.aload_n 0, 1) := by decide +kernel
theorem d_code_286 : decode code 286 = .ok (.iload_n 3, 1) := by decide +kernel
theorem d_code_287 : decode code 287 = .ok (.iconst 1, 1) := by decide +kernel
theorem d_code_288 : decode code 288 = .ok (.iadd, 1) := by decide +kernel
theorem d_code_289 : decode code 289 = .ok (.iaload, 1) := by decide +kernel
theorem d_code_290 : decode code 290 = .ok (.invokevirtual 40, 3) := by decide +kernel
theorem d_code_293 : decode code 293 = .ok (.aload_n 2, 1) := by decide +kernel
theorem d_code_294 : decode code 294 = .ok (.aload_n 0, 1) := by decide +kernel
theorem d_code_295 : decode code 295 = .ok (.iload_n 3, 1) := by decide +kernel
theorem d_code_296 : decode code 296 = .ok (.iconst 1, 1) := by decide +kernel
theorem d_code_297 : decode code 297 = .ok (.iadd, 1) := by decide +kernel
theorem d_code_298 : decode code 298 = .ok (.iaload, 1) := by decide +kernel
theorem d_code_299 : decode code 299 = .ok (.invokevirtual 43, 3) := by decide +kernel
theorem d_code_302 : decode code 302 = .ok (.if_icmp .eq 456, 3) := by decide +kernel
theorem d_code_307 : decode code 307 = .ok (.aload_n 1, 1) := by decide +kernel
theorem d_code_308 : decode code 308 = .ok (.aload_n 0, 1) := by decide +kernel
theorem d_code_309 : decode code 309 = .ok (.iload_n 3, 1) := by decide +kernel
theorem d_code_310 : decode code 310 = .ok (.iconst 1, 1) := by decide +kernel
theorem d_code_311 : decode code 311 = .ok (.iadd, 1) := by decide +kernel
theorem d_code_312 : decode code 312 = .ok (.iaload, 1) := by decide +kernel
theorem d_code_313 : decode code 313 = .ok (.invokevirtual 44, 3) := by decide +kernel
theorem d_code_316 : decode code 316 = .ok (.aload_n 2, 1) := by decide +kernel
theorem d_code_317 : decode code 317 = .ok (.aload_n 0, 1) := by decide +kernel
theorem d_code_318 : decode code 318 = .ok (.iload_n 3, 1) := by decide +kernel
theorem d_code_319 : decode code 319 = .ok (.iconst 1, 1) := by decide +kernel
theorem d_code_320 : decode code 320 = .ok (.iadd, 1) := by decide +kernel
theorem d_code_321 : decode code 321 = .ok (.iaload, 1) := by decide +kernel
theorem d_code_322 : decode code 322 = .ok (.invokevirtual 47, 3) := by decide +kernel
theorem d_code_325 : decode code 325 = .ok (.if_icmp .eq 433, 3) := by decide +kernel
theorem d_code_330 : decode code 330 = .ok (.aload_n 1, 1) := by decide +kernel
theorem d_code_331 : decode code 331 = .ok (.invokevirtual 48, 3) := by decide +kernel
theorem d_code_334 : decode code 334 = .ok (.aload_n 2, 1) := by decide +kernel
theorem d_code_335 : decode code 335 = .ok (.invokevirtual 52, 3) := by decide +kernel
theorem d_code_338 : decode code 338 = .ok (.lcmp, 1) := by decide +kernel
theorem d_code_339 : decode code 339 = .ok (.ifCond .eq 419, 3) := by decide +kernel
theorem d_code_344 : decode code 344 = .ok (.aload_n 1, 1) := by decide +kernel
theorem d_code_345 : decode code 345 = .ok (.invokevirtual 53, 3) := by decide +kernel
theorem d_code_348 : decode code 348 = .ok (.aload_n 2, 1) := by decide +kernel
theorem d_code_349 : decode code 349 = .ok (.invokevirtual 56, 3) := by decide +kernel
theorem d_code_352 : decode code 352 = .ok (.if_icmp .eq 406, 3) := by decide +kernel
theorem d_code_357 : decode code 357 = .ok (.aload_n 1, 1) := by decide +kernel
theorem d_code_358 : decode code 358 = .ok (.aload_n 0, 1) := by decide +kernel
theorem d_code_359 : decode code 359 = .ok (.iload_n 3, 1) := by decide +kernel
theorem d_code_360 : decode code 360 = .ok (.iconst 1, 1) := by decide +kernel
theorem d_code_361 : decode code 361 = .ok (.iadd, 1) := by decide +kernel
theorem d_code_362 : decode code 362 = .ok (.iaload, 1) := by decide +kernel
theorem d_code_363 : decode code 363 = .ok (.aload_n 0, 1) := by decide +kernel
theorem d_code_364 : decode code 364 = .ok (.iload_n 3, 1) := by decide +kernel
theorem d_code_365 : decode code 365 = .ok (.iconst 2, 1) := by decide +kernel
theorem d_code_366 : decode code 366 = .ok (.iadd, 1) := by decide +kernel
theorem d_code_367 : decode code 367 = .ok (.iaload, 1) := by decide +kernel
theorem d_code_368 : decode code 368 = .ok (.invokevirtual 57, 3) := by decide +kernel
theorem d_code_371 : decode code 371 = .ok (.aload_n 2, 1) := by decide +kernel
theorem d_code_372 : decode code 372 = .ok (.aload_n 0, 1) := by decide +kernel
theorem d_code_373 : decode code 373 = .ok (.iload_n 3, 1) := by decide +kernel
theorem d_code_374 : decode code 374 = .ok (.iconst 1, 1) := by decide +kernel
theorem d_code_375 : decode code 375 = .ok (.iadd, 1) := by decide +kernel
theorem d_code_376 : decode code 376 = .ok (.iaload, 1) := by decide +kernel
theorem d_code_377 : decode code 377 = .ok (.aload_n 0, 1) := by decide +kernel
theorem d_code_378 : decode code 378 = .ok (.iload_n 3, 1) := by decide +kernel
theorem d_code_379 : decode code 379 = .ok (.iconst 2, 1) := by decide +kernel
theorem d_code_380 : decode code 380 = .ok (.iadd, 1) := by decide +kernel
theorem d_code_381 : decode code 381 = .ok (.iaload, 1) := by decide +kernel
theorem d_code_382 : decode code 382 = .ok (.invokevirtual 60, 3) := by decide +kernel
theorem d_code_385 : decode code 385 = .ok (.if_icmp .eq 373, 3) := by decide +kernel
theorem d_code_390 : decode code 390 = .ok (.aload_n 1, 1) := by decide +kernel
theorem d_code_391 : decode code 391 = .ok (.aload_n 0, 1) := by decide +kernel
theorem d_code_392 : decode code 392 = .ok (.iload_n 3, 1) := by decide +kernel
theorem d_code_393 : decode code 393 = .ok (.iconst 1, 1) := by decide +kernel
