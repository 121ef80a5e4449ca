/-! the law, decoded -/
theorem dl_390 : decode code 390 = .ok (.aload_n 0, 1) := by decide +kernel
theorem dl_391 : decode code 391 = .ok (.iload_n 3, 1) := by decide +kernel
theorem dl_392 : decode code 392 = .ok (.iconst 4, 1) := by decide +kernel
theorem dl_393 : decode code 393 = .ok (.iadd, 1) := by decide +kernel
theorem dl_394 : decode code 394 = .ok (.iaload, 1) := by decide +kernel
theorem dl_395 : decode code 395 = .ok (.aload_n 0, 1) := by decide +kernel
theorem dl_396 : decode code 396 = .ok (.iload_n 3, 1) := by decide +kernel
theorem dl_397 : decode code 397 = .ok (.iconst 5, 1) := by decide +kernel
theorem dl_398 : decode code 398 = .ok (.iadd, 1) := by decide +kernel
theorem dl_399 : decode code 399 = .ok (.iaload, 1) := by decide +kernel
theorem dl_400 : decode code 400 = .ok (.invokevirtual 42, 3) := by decide +kernel
theorem dl_403 : decode code 403 = .ok (.aload_n 2, 1) := by decide +kernel
theorem dl_404 : decode code 404 = .ok (.aload_n 0, 1) := by decide +kernel
theorem dl_405 : decode code 405 = .ok (.iload_n 3, 1) := by decide +kernel
theorem dl_406 : decode code 406 = .ok (.iconst 1, 1) := by decide +kernel
theorem dl_407 : decode code 407 = .ok (.iadd, 1) := by decide +kernel
theorem dl_408 : decode code 408 = .ok (.iaload, 1) := by decide +kernel
theorem dl_409 : decode code 409 = .ok (.aload_n 0, 1) := by decide +kernel
theorem dl_410 : decode code 410 = .ok (.iload_n 3, 1) := by decide +kernel
theorem dl_411 : decode code 411 = .ok (.iconst 2, 1) := by decide +kernel
theorem dl_412 : decode code 412 = .ok (.iadd, 1) := by decide +kernel
theorem dl_413 : decode code 413 = .ok (.iaload, 1) := by decide +kernel
theorem dl_414 : decode code 414 = .ok (.aload_n 0, 1) := by decide +kernel
theorem dl_415 : decode code 415 = .ok (.iload_n 3, 1) := by decide +kernel
theorem dl_416 : decode code 416 = .ok (.iconst 3, 1) := by decide +kernel
theorem dl_417 : decode code 417 = .ok (.iadd, 1) := by decide +kernel
theorem dl_418 : decode code 418 = .ok (.iaload, 1) := by decide +kernel
theorem dl_419 : decode code 419 = .ok (.aload_n 0, 1) := by decide +kernel
theorem dl_420 : decode code 420 = .ok (.iload_n 3, 1) := by decide +kernel
theorem dl_421 : decode code 421 = .ok (.iconst 4, 1) := by decide +kernel
theorem dl_422 : decode code 422 = .ok (.iadd, 1) := by decide +kernel
theorem dl_423 : decode code 423 = .ok (.iaload, 1) := by decide +kernel
theorem dl_424 : decode code 424 = .ok (.aload_n 0, 1) := by decide +kernel
theorem dl_425 : decode code 425 = .ok (.iload_n 3, 1) := by decide +kernel
theorem dl_426 : decode code 426 = .ok (.iconst 5, 1) := by decide +kernel
theorem dl_427 : decode code 427 = .ok (.iadd, 1) := by decide +kernel
theorem dl_428 : decode code 428 = .ok (.iaload, 1) := by decide +kernel
theorem dl_429 : decode code 429 = .ok (.invokevirtual 46, 3) := by decide +kernel
theorem dl_432 : decode code 432 = .ok (.if_icmp .eq 398, 3) := by decide +kernel
theorem dl_435 : decode code 435 = .ok (.iconst 0, 1) := by decide +kernel
theorem dl_436 : decode code 436 = .ok (.ireturn, 1) := by decide +kernel
theorem dl_437 : decode code 437 = .ok (.aload_n 1, 1) := by decide +kernel
theorem dl_438 : decode code 438 = .ok (.aload_n 0, 1) := by decide +kernel
theorem dl_439 : decode code 439 = .ok (.iload_n 3, 1) := by decide +kernel
theorem dl_440 : decode code 440 = .ok (.iconst 1, 1) := by decide +kernel
theorem dl_441 : decode code 441 = .ok (.iadd, 1) := by decide +kernel
theorem dl_442 : decode code 442 = .ok (.iaload, 1) := by decide +kernel
theorem dl_443 : decode code 443 = .ok (.invokevirtual 47, 3) := by decide +kernel
theorem dl_446 : decode code 446 = .ok (.aload_n 2, 1) := by decide +kernel
theorem dl_447 : decode code 447 = .ok (.aload_n 0, 1) := by decide +kernel
theorem dl_448 : decode code 448 = .ok (.iload_n 3, 1) := by decide +kernel
theorem dl_449 : decode code 449 = .ok (.iconst 1, 1) := by decide +kernel
theorem dl_450 : decode code 450 = .ok (.iadd, 1) := by decide +kernel
theorem dl_451 : decode code 451 = .ok (.iaload, 1) := by decide +kernel
theorem dl_452 : decode code 452 = .ok (.invokevirtual 50, 3) := by decide +kernel
theorem dl_455 : decode code 455 = .ok (.if_icmp .eq 375, 3) := by decide +kernel
theorem dl_458 : decode code 458 = .ok (.iconst 0, 1) := by decide +kernel
theorem dl_459 : decode code 459 = .ok (.ireturn, 1) := by decide +kernel
theorem dl_460 : decode code 460 = .ok (.aload_n 1, 1) := by decide +kernel
theorem dl_461 : decode code 461 = .ok (.invokevirtual 51, 3) := by decide +kernel
theorem dl_464 : decode code 464 = .ok (.aload_n 2, 1) := by decide +kernel
theorem dl_465 : decode code 465 = .ok (.invokevirtual 54, 3) := by decide +kernel
theorem dl_468 : decode code 468 = .ok (.if_icmp .eq 362, 3) := by decide +kernel
theorem dl_471 : decode code 471 = .ok (.iconst 0, 1) := by decide +kernel
theorem dl_472 : decode code 472 = .ok (.ireturn, 1) := by decide +kernel
theorem dl_473 : decode code 473 = .ok (.aload_n 1, 1) := by decide +kernel
theorem dl_474 : decode code 474 = .ok (.invokevirtual 55, 3) := by decide +kernel
theorem dl_477 : decode code 477 = .ok (.aload_n 2, 1) := by decide +kernel
theorem dl_478 : decode code 478 = .ok (.invokevirtual 58, 3) := by decide +kernel
theorem dl_481 : decode code 481 = .ok (.if_icmp .eq 349, 3) := by decide +kernel
theorem dl_484 : decode code 484 = .ok (.iconst 0, 1) := by decide +kernel
theorem dl_485 : decode code 485 = .ok (.ireturn, 1) := by decide +kernel
theorem dl_486 : decode code 486 = .ok (.aload_n 1, 1) := by decide +kernel
theorem dl_487 : decode code 487 = .ok (.aload_n 0, 1) := by decide +kernel
theorem dl_488 : decode code 488 = .ok (.iload_n 3, 1) := by decide +kernel
theorem dl_489 : decode code 489 = .ok (.iconst 1, 1) := by decide +kernel
theorem dl_490 : decode code 490 = .ok (.iadd, 1) := by decide +kernel
theorem dl_491 : decode code 491 = .ok (.iaload, 1) := by decide +kernel
theorem dl_492 : decode code 492 = .ok (.aload_n 0, 1) := by decide +kernel
theorem dl_493 : decode code 493 = .ok (.iload_n 3, 1) := by decide +kernel
theorem dl_494 : decode code 494 = .ok (.iconst 2, 1) := by decide +kernel
theorem dl_495 : decode code 495 = .ok (.iadd, 1) := by decide +kernel
theorem dl_496 : decode code 496 = .ok (.iaload, 1) := by decide +kernel
theorem dl_497 : decode code 497 = .ok (.invokevirtual 59, 3) := by decide +kernel
theorem dl_500 : decode code 500 = .ok (.aload_n 2, 1) := by decide +kernel
theorem dl_501 : decode code 501 = .ok (.aload_n 0, 1) := by decide +kernel
theorem dl_502 : decode code 502 = .ok (.iload_n 3, 1) := by decide +kernel
theorem dl_503 : decode code 503 = .ok (.iconst 1, 1) := by decide +kernel
theorem dl_504 : decode code 504 = .ok (.iadd, 1) := by decide +kernel
theorem dl_505 : decode code 505 = .ok (.iaload, 1) := by decide +kernel
theorem dl_506 : decode code 506 = .ok (.aload_n 0, 1) := by decide +kernel
theorem dl_507 : decode code 507 = .ok (.iload_n 3, 1) := by decide +kernel
theorem dl_508 : decode code 508 = .ok (.iconst 2, 1) := by decide +kernel
theorem dl_509 : decode code 509 = .ok (.iadd, 1) := by decide +kernel
theorem dl_510 : decode code 510 = .ok (.iaload, 1) := by decide +kernel
theorem dl_511 : decode code 511 = .ok (.invokevirtual 63, 3) := by decide +kernel
theorem dl_514 : decode code 514 = .ok (.lcmp, 1) := by decide +kernel
theorem dl_515 : decode code 515 = .ok (.ifCond .eq 315, 3) := by decide +kernel
theorem dl_518 : decode code 518 = .ok (.iconst 0, 1) := by decide +kernel
theorem dl_519 : decode code 519 = .ok (.ireturn, 1) := by decide +kernel
theorem dl_520 : decode code 520 = .ok (.aload_n 1, 1) := by decide +kernel
theorem dl_521 : decode code 521 = .ok (.invokevirtual 64, 3) := by decide +kernel
theorem dl_524 : decode code 524 = .ok (.aload_n 2, 1) := by decide +kernel
theorem dl_525 : decode code 525 = .ok (.invokevirtual 67, 3) := by decide +kernel
theorem dl_528 : decode code 528 = .ok (.if_icmp .eq 302, 3) := by decide +kernel
theorem dl_531 : decode code 531 = .ok (.iconst 0, 1) := by decide +kernel
theorem dl_532 : decode code 532 = .ok (.ireturn, 1) := by decide +kernel
theorem dl_533 : decode code 533 = .ok (.aload_n 1, 1) := by decide +kernel
theorem dl_534 : decode code 534 = .ok (.invokevirtual 68, 3) := by decide +kernel
theorem dl_537 : decode code 537 = .ok (.aload_n 2, 1) := by decide +kernel
