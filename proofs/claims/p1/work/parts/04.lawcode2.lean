theorem d_code_394 : decode code 394 = .ok (.iadd, 1) := by decide +kernel
theorem d_code_395 : decode code 395 = .ok (.iaload, 1) := by decide +kernel
theorem d_code_396 : decode code 396 = .ok (.aload_n 0, 1) := by decide +kernel
theorem d_code_397 : decode code 397 = .ok (.iload_n 3, 1) := by decide +kernel
theorem d_code_398 : decode code 398 = .ok (.iconst 2, 1) := by decide +kernel
theorem d_code_399 : decode code 399 = .ok (.iadd, 1) := by decide +kernel
theorem d_code_400 : decode code 400 = .ok (.iaload, 1) := by decide +kernel
theorem d_code_401 : decode code 401 = .ok (.aload_n 0, 1) := by decide +kernel
theorem d_code_402 : decode code 402 = .ok (.iload_n 3, 1) := by decide +kernel
theorem d_code_403 : decode code 403 = .ok (.iconst 3, 1) := by decide +kernel
theorem d_code_404 : decode code 404 = .ok (.iadd, 1) := by decide +kernel
theorem d_code_405 : decode code 405 = .ok (.iaload, 1) := by decide +kernel
theorem d_code_406 : decode code 406 = .ok (.invokevirtual 61, 3) := by decide +kernel
theorem d_code_409 : decode code 409 = .ok (.aload_n 2, 1) := by decide +kernel
theorem d_code_410 : decode code 410 = .ok (.aload_n 0, 1) := by decide +kernel
theorem d_code_411 : decode code 411 = .ok (.iload_n 3, 1) := by decide +kernel
theorem d_code_412 : decode code 412 = .ok (.iconst 1, 1) := by decide +kernel
theorem d_code_413 : decode code 413 = .ok (.iadd, 1) := by decide +kernel
theorem d_code_414 : decode code 414 = .ok (.iaload, 1) := by decide +kernel
theorem d_code_415 : decode code 415 = .ok (.aload_n 0, 1) := by decide +kernel
theorem d_code_416 : decode code 416 = .ok (.iload_n 3, 1) := by decide +kernel
theorem d_code_417 : decode code 417 = .ok (.iconst 2, 1) := by decide +kernel
theorem d_code_418 : decode code 418 = .ok (.iadd, 1) := by decide +kernel
theorem d_code_419 : decode code 419 = .ok (.iaload, 1) := by decide +kernel
theorem d_code_420 : decode code 420 = .ok (.aload_n 0, 1) := by decide +kernel
theorem d_code_421 : decode code 421 = .ok (.iload_n 3, 1) := by decide +kernel
theorem d_code_422 : decode code 422 = .ok (.iconst 3, 1) := by decide +kernel
theorem d_code_423 : decode code 423 = .ok (.iadd, 1) := by decide +kernel
theorem d_code_424 : decode code 424 = .ok (.iaload, 1) := by decide +kernel
theorem d_code_425 : decode code 425 = .ok (.invokevirtual 65, 3) := by decide +kernel
theorem d_code_428 : decode code 428 = .ok (.if_icmp .eq 330, 3) := by decide +kernel
theorem d_code_433 : decode code 433 = .ok (.aload_n 1, 1) := by decide +kernel
theorem d_code_434 : decode code 434 = .ok (.aload_n 0, 1) := by decide +kernel
theorem d_code_435 : decode code 435 = .ok (.iload_n 3, 1) := by decide +kernel
theorem d_code_436 : decode code 436 = .ok (.iconst 1, 1) := by decide +kernel
theorem d_code_437 : decode code 437 = .ok (.iadd, 1) := by decide +kernel
theorem d_code_438 : decode code 438 = .ok (.iaload, 1) := by decide +kernel
theorem d_code_439 : decode code 439 = .ok (.aload_n 0, 1) := by decide +kernel
theorem d_code_440 : decode code 440 = .ok (.iload_n 3, 1) := by decide +kernel
theorem d_code_441 : decode code 441 = .ok (.iconst 2, 1) := by decide +kernel
theorem d_code_442 : decode code 442 = .ok (.iadd, 1) := by decide +kernel
theorem d_code_443 : decode code 443 = .ok (.iaload, 1) := by decide +kernel
theorem d_code_444 : decode code 444 = .ok (.invokevirtual 66, 3) := by decide +kernel
theorem d_code_447 : decode code 447 = .ok (.aload_n 2, 1) := by decide +kernel
theorem d_code_448 : decode code 448 = .ok (.aload_n 0, 1) := by decide +kernel
theorem d_code_449 : decode code 449 = .ok (.iload_n 3, 1) := by decide +kernel
theorem d_code_450 : decode code 450 = .ok (.iconst 1, 1) := by decide +kernel
theorem d_code_451 : decode code 451 = .ok (.iadd, 1) := by decide +kernel
theorem d_code_452 : decode code 452 = .ok (.iaload, 1) := by decide +kernel
theorem d_code_453 : decode code 453 = .ok (.aload_n 0, 1) := by decide +kernel
theorem d_code_454 : decode code 454 = .ok (.iload_n 3, 1) := by decide +kernel
theorem d_code_455 : decode code 455 = .ok (.iconst 2, 1) := by decide +kernel
theorem d_code_456 : decode code 456 = .ok (.iadd, 1) := by decide +kernel
theorem d_code_457 : decode code 457 = .ok (.iaload, 1) := by decide +kernel
theorem d_code_458 : decode code 458 = .ok (.invokevirtual 69, 3) := by decide +kernel
theorem d_code_461 : decode code 461 = .ok (.if_icmp .eq 297, 3) := by decide +kernel
theorem d_code_466 : decode code 466 = .ok (.aload_n 1, 1) := by decide +kernel
theorem d_code_467 : decode code 467 = .ok (.aload_n 0, 1) := by decide +kernel
theorem d_code_468 : decode code 468 = .ok (.iload_n 3, 1) := by decide +kernel
theorem d_code_469 : decode code 469 = .ok (.iconst 1, 1) := by decide +kernel
theorem d_code_470 : decode code 470 = .ok (.iadd, 1) := by decide +kernel
theorem d_code_471 : decode code 471 = .ok (.iaload, 1) := by decide +kernel
theorem d_code_472 : decode code 472 = .ok (.invokevirtual 70, 3) := by decide +kernel
theorem d_code_475 : decode code 475 = .ok (.aload_n 2, 1) := by decide +kernel
theorem d_code_476 : decode code 476 = .ok (.aload_n 0, 1) := by decide +kernel
theorem d_code_477 : decode code 477 = .ok (.iload_n 3, 1) := by decide +kernel
theorem d_code_478 : decode code 478 = .ok (.iconst 1, 1) := by decide +kernel
theorem d_code_479 : decode code 479 = .ok (.iadd, 1) := by decide +kernel
theorem d_code_480 : decode code 480 = .ok (.iaload, 1) := by decide +kernel
theorem d_code_481 : decode code 481 = .ok (.invokevirtual 73, 3) := by decide +kernel
theorem d_code_484 : decode code 484 = .ok (.if_icmp .eq 274, 3) := by decide +kernel
theorem d_code_489 : decode code 489 = .ok (.aload_n 1, 1) := by decide +kernel
theorem d_code_490 : decode code 490 = .ok (.invokevirtual 74, 3) := by decide +kernel
theorem d_code_493 : decode code 493 = .ok (.aload_n 2, 1) := by decide +kernel
theorem d_code_494 : decode code 494 = .ok (.invokevirtual 77, 3) := by decide +kernel
theorem d_code_497 : decode code 497 = .ok (.if_icmp .eq 261, 3) := by decide +kernel
theorem d_code_502 : decode code 502 = .ok (.aload_n 1, 1) := by decide +kernel
theorem d_code_503 : decode code 503 = .ok (.aload_n 0, 1) := by decide +kernel
theorem d_code_504 : decode code 504 = .ok (.iload_n 3, 1) := by decide +kernel
theorem d_code_505 : decode code 505 = .ok (.iconst 1, 1) := by decide +kernel
