theorem d_L_law_316 : decode c_L_law 316 = .ok (.invokevirtual 62, 3) := by decide +kernel
theorem d_L_law_319 : decode c_L_law 319 = .ok (.iload 5, 2) := by decide +kernel
theorem d_L_law_321 : decode c_L_law 321 = .ok (.if_icmp .eq 5, 3) := by decide +kernel
theorem d_L_law_324 : decode c_L_law 324 = .ok (.iconst 0, 1) := by decide +kernel
theorem d_L_law_325 : decode c_L_law 325 = .ok (.ireturn, 1) := by decide +kernel
theorem d_L_law_326 : decode c_L_law 326 = .ok (.iload 5, 2) := by decide +kernel
theorem d_L_law_328 : decode c_L_law 328 = .ok (.ifCond .ne 15, 3) := by decide +kernel
theorem d_L_law_331 : decode c_L_law 331 = .ok (.aload_n 3, 1) := by decide +kernel
theorem d_L_law_332 : decode c_L_law 332 = .ok (.iconst 0, 1) := by decide +kernel
theorem d_L_law_333 : decode c_L_law 333 = .ok (.laload, 1) := by decide +kernel
theorem d_L_law_334 : decode c_L_law 334 = .ok (.iload 6, 2) := by decide +kernel
theorem d_L_law_336 : decode c_L_law 336 = .ok (.i2l, 1) := by decide +kernel
theorem d_L_law_337 : decode c_L_law 337 = .ok (.lcmp, 1) := by decide +kernel
theorem d_L_law_338 : decode c_L_law 338 = .ok (.ifCond .eq 5, 3) := by decide +kernel
theorem d_L_law_341 : decode c_L_law 341 = .ok (.iconst 0, 1) := by decide +kernel
theorem d_L_law_342 : decode c_L_law 342 = .ok (.ireturn, 1) := by decide +kernel
theorem d_L_law_343 : decode c_L_law 343 = .ok (.goto 576, 3) := by decide +kernel
theorem d_L_law_346 : decode c_L_law 346 = .ok (.aload_n 1, 1) := by decide +kernel
theorem d_L_law_347 : decode c_L_law 347 = .ok (.aload_n 0, 1) := by decide +kernel
theorem d_L_law_348 : decode c_L_law 348 = .ok (.iload 4, 2) := by decide +kernel
theorem d_L_law_350 : decode c_L_law 350 = .ok (.iconst 1, 1) := by decide +kernel
theorem d_L_law_351 : decode c_L_law 351 = .ok (.iadd, 1) := by decide +kernel
theorem d_L_law_352 : decode c_L_law 352 = .ok (.iaload, 1) := by decide +kernel
theorem d_L_law_353 : decode c_L_law 353 = .ok (.aload_n 0, 1) := by decide +kernel
theorem d_L_law_354 : decode c_L_law 354 = .ok (.iload 4, 2) := by decide +kernel
theorem d_L_law_356 : decode c_L_law 356 = .ok (.iconst 2, 1) := by decide +kernel
theorem d_L_law_357 : decode c_L_law 357 = .ok (.iadd, 1) := by decide +kernel
theorem d_L_law_358 : decode c_L_law 358 = .ok (.iaload, 1) := by decide +kernel
theorem d_L_law_359 : decode c_L_law 359 = .ok (.aload_n 0, 1) := by decide +kernel
theorem d_L_law_360 : decode c_L_law 360 = .ok (.iload 4, 2) := by decide +kernel
theorem d_L_law_362 : decode c_L_law 362 = .ok (.iconst 3, 1) := by decide +kernel
theorem d_L_law_363 : decode c_L_law 363 = .ok (.iadd, 1) := by decide +kernel
theorem d_L_law_364 : decode c_L_law 364 = .ok (.iaload, 1) := by decide +kernel
theorem d_L_law_365 : decode c_L_law 365 = .ok (.aload_n 3, 1) := by decide +kernel
theorem d_L_law_366 : decode c_L_law 366 = .ok (.invokestatic 69, 3) := by decide +kernel
theorem d_L_law_369 : decode c_L_law 369 = .ok (.istore 5, 2) := by decide +kernel
theorem d_L_law_371 : decode c_L_law 371 = .ok (.aload_n 2, 1) := by decide +kernel
theorem d_L_law_372 : decode c_L_law 372 = .ok (.aload_n 0, 1) := by decide +kernel
theorem d_L_law_373 : decode c_L_law 373 = .ok (.iload 4, 2) := by decide +kernel
theorem d_L_law_375 : decode c_L_law 375 = .ok (.iconst 1, 1) := by decide +kernel
theorem d_L_law_376 : decode c_L_law 376 = .ok (.iadd, 1) := by decide +kernel
theorem d_L_law_377 : decode c_L_law 377 = .ok (.iaload, 1) := by decide +kernel
theorem d_L_law_378 : decode c_L_law 378 = .ok (.aload_n 0, 1) := by decide +kernel
theorem d_L_law_379 : decode c_L_law 379 = .ok (.iload 4, 2) := by decide +kernel
theorem d_L_law_381 : decode c_L_law 381 = .ok (.iconst 2, 1) := by decide +kernel
theorem d_L_law_382 : decode c_L_law 382 = .ok (.iadd, 1) := by decide +kernel
theorem d_L_law_383 : decode c_L_law 383 = .ok (.iaload, 1) := by decide +kernel
theorem d_L_law_384 : decode c_L_law 384 = .ok (.aload_n 0, 1) := by decide +kernel
theorem d_L_law_385 : decode c_L_law 385 = .ok (.iload 4, 2) := by decide +kernel
theorem d_L_law_387 : decode c_L_law 387 = .ok (.iconst 3, 1) := by decide +kernel
theorem d_L_law_388 : decode c_L_law 388 = .ok (.iadd, 1) := by decide +kernel
theorem d_L_law_389 : decode c_L_law 389 = .ok (.iaload, 1) := by decide +kernel
theorem d_L_law_390 : decode c_L_law 390 = .ok (.invokevirtual 71, 3) := by decide +kernel
theorem d_L_law_393 : decode c_L_law 393 = .ok (.istore 6, 2) := by decide +kernel
theorem d_L_law_395 : decode c_L_law 395 = .ok (.aload_n 2, 1) := by decide +kernel
theorem d_L_law_396 : decode c_L_law 396 = .ok (.invokevirtual 62, 3) := by decide +kernel
theorem d_L_law_399 : decode c_L_law 399 = .ok (.iload 5, 2) := by decide +kernel
theorem d_L_law_401 : decode c_L_law 401 = .ok (.if_icmp .eq 5, 3) := by decide +kernel
theorem d_L_law_404 : decode c_L_law 404 = .ok (.iconst 0, 1) := by decide +kernel
theorem d_L_law_405 : decode c_L_law 405 = .ok (.ireturn, 1) := by decide +kernel
theorem d_L_law_406 : decode c_L_law 406 = .ok (.iload 5, 2) := by decide +kernel
theorem d_L_law_408 : decode c_L_law 408 = .ok (.ifCond .ne 15, 3) := by decide +kernel
theorem d_L_law_411 : decode c_L_law 411 = .ok (.aload_n 3, 1) := by decide +kernel
theorem d_L_law_412 : decode c_L_law 412 = .ok (.iconst 0, 1) := by decide +kernel
theorem d_L_law_413 : decode c_L_law 413 = .ok (.laload, 1) := by decide +kernel
theorem d_L_law_414 : decode c_L_law 414 = .ok (.iload 6, 2) := by decide +kernel
theorem d_L_law_416 : decode c_L_law 416 = .ok (.i2l, 1) := by decide +kernel
theorem d_L_law_417 : decode c_L_law 417 = .ok (.lcmp, 1) := by decide +kernel
theorem d_L_law_418 : decode c_L_law 418 = .ok (.ifCond .eq 5, 3) := by decide +kernel
theorem d_L_law_421 : decode c_L_law 421 = .ok (.iconst 0, 1) := by decide +kernel
theorem d_L_law_422 : decode c_L_law 422 = .ok (.ireturn, 1) := by decide +kernel
theorem d_L_law_423 : decode c_L_law 423 = .ok (.goto 496, 3) := by decide +kernel
theorem d_L_law_426 : decode c_L_law 426 = .ok (.aload_n 1, 1) := by decide +kernel
theorem d_L_law_427 : decode c_L_law 427 = .ok (.aload_n 0, 1) := by decide +kernel
theorem d_L_law_428 : decode c_L_law 428 = .ok (.iload 4, 2) := by decide +kernel
theorem d_L_law_430 : decode c_L_law 430 = .ok (.iconst 1, 1) := by decide +kernel
theorem d_L_law_431 : decode c_L_law 431 = .ok (.iadd, 1) := by decide +kernel
theorem d_L_law_432 : decode c_L_law 432 = .ok (.iaload, 1) := by decide +kernel
theorem d_L_law_433 : decode c_L_law 433 = .ok (.aload_n 0, 1) := by decide +kernel
theorem d_L_law_434 : decode c_L_law 434 = .ok (.iload 4, 2) := by decide +kernel
theorem d_L_law_436 : decode c_L_law 436 = .ok (.iconst 2, 1) := by decide +kernel
theorem d_L_law_437 : decode c_L_law 437 = .ok (.iadd, 1) := by decide +kernel
theorem d_L_law_438 : decode c_L_law 438 = .ok (.iaload, 1) := by decide +kernel
theorem d_L_law_439 : decode c_L_law 439 = .ok (.aload_n 0, 1) := by decide +kernel
theorem d_L_law_440 : decode c_L_law 440 = .ok (.iload 4, 2) := by decide +kernel
theorem d_L_law_442 : decode c_L_law 442 = .ok (.iconst 3, 1) := by decide +kernel
theorem d_L_law_443 : decode c_L_law 443 = .ok (.iadd, 1) := by decide +kernel
theorem d_L_law_444 : decode c_L_law 444 = .ok (.iaload, 1) := by decide +kernel
theorem d_L_law_445 : decode c_L_law 445 = .ok (.aload_n 3, 1) := by decide +kernel
theorem d_L_law_446 : decode c_L_law 446 = .ok (.invokestatic 72, 3) := by decide +kernel
theorem d_L_law_449 : decode c_L_law 449 = .ok (.istore 5, 2) := by decide +kernel
theorem d_L_law_451 : decode c_L_law 451 = .ok (.aload_n 2, 1) := by decide +kernel
theorem d_L_law_452 : decode c_L_law 452 = .ok (.aload_n 0, 1) := by decide +kernel
theorem d_L_law_453 : decode c_L_law 453 = .ok (.iload 4, 2) := by decide +kernel
theorem d_L_law_455 : decode c_L_law 455 = .ok (.iconst 1, 1) := by decide +kernel
theorem d_L_law_456 : decode c_L_law 456 = .ok (.iadd, 1) := by decide +kernel
theorem d_L_law_457 : decode c_L_law 457 = .ok (.iaload, 1) := by decide +kernel
theorem d_L_law_458 : decode c_L_law 458 = .ok (.aload_n 0, 1) := by decide +kernel
theorem d_L_law_459 : decode c_L_law 459 = .ok (.iload 4, 2) := by decide +kernel
theorem d_L_law_461 : decode c_L_law 461 = .ok (.iconst 2, 1) := by decide +kernel
theorem d_L_law_462 : decode c_L_law 462 = .ok (.iadd, 1) := by decide +kernel
theorem d_L_law_463 : decode c_L_law 463 = .ok (.iaload, 1) := by decide +kernel
theorem d_L_law_464 : decode c_L_law 464 = .ok (.aload_n 0, 1) := by decide +kernel
theorem d_L_law_465 : decode c_L_law 465 = .ok (.iload 4, 2) := by decide +kernel
theorem d_L_law_467 : decode c_L_law 467 = .ok (.iconst 3, 1) := by decide +kernel
theorem d_L_law_468 : decode c_L_law 468 = .ok (.iadd, 1) := by decide +kernel
theorem d_L_law_469 : decode c_L_law 469 = .ok (.iaload, 1) := by decide +kernel
theorem d_L_law_470 : decode c_L_law 470 = .ok (.invokevirtual 74, 3) := by decide +kernel
theorem d_L_law_473 : decode c_L_law 473 = .ok (.istore 6, 2) := by decide +kernel
theorem d_L_law_475 : decode c_L_law 475 = .ok (.aload_n 2, 1) := by decide +kernel
theorem d_L_law_476 : decode c_L_law 476 = .ok (.invokevirtual 62, 3) := by decide +kernel
theorem d_L_law_479 : decode c_L_law 479 = .ok (.iload 5, 2) := by decide +kernel
theorem d_L_law_481 : decode c_L_law 481 = .ok (.if_icmp .eq 5, 3) := by decide +kernel
theorem d_L_law_484 : decode c_L_law 484 = .ok (.iconst 0, 1) := by decide +kernel
theorem d_L_law_485 : decode c_L_law 485 = .ok (.ireturn, 1) := by decide +kernel
theorem d_L_law_486 : decode c_L_law 486 = .ok (.iload 5, 2) := by decide +kernel
theorem d_L_law_488 : decode c_L_law 488 = .ok (.ifCond .ne 15, 3) := by decide +kernel
theorem d_L_law_491 : decode c_L_law 491 = .ok (.aload_n 3, 1) := by decide +kernel
theorem d_L_law_492 : decode c_L_law 492 = .ok (.iconst 0, 1) := by decide +kernel
theorem d_L_law_493 : decode c_L_law 493 = .ok (.laload, 1) := by decide +kernel
theorem d_L_law_494 : decode c_L_law 494 = .ok (.iload 6, 2) := by decide +kernel
theorem d_L_law_496 : decode c_L_law 496 = .ok (.i2l, 1) := by decide +kernel
theorem d_L_law_497 : decode c_L_law 497 = .ok (.lcmp, 1) := by decide +kernel
theorem d_L_law_498 : decode c_L_law 498 = .ok (.ifCond .eq 5, 3) := by decide +kernel
theorem d_L_law_501 : decode c_L_law 501 = .ok (.iconst 0, 1) := by decide +kernel
theorem d_L_law_502 : decode c_L_law 502 = .ok (.ireturn, 1) := by decide +kernel
theorem d_L_law_503 : decode c_L_law 503 = .ok (.goto 416, 3) := by decide +kernel
theorem d_L_law_506 : decode c_L_law 506 = .ok (.aload_n 1, 1) := by decide +kernel
theorem d_L_law_507 : decode c_L_law 507 = .ok (.aload_n 0, 1) := by decide +kernel
theorem d_L_law_508 : decode c_L_law 508 = .ok (.iload 4, 2) := by decide +kernel
theorem d_L_law_510 : decode c_L_law 510 = .ok (.iconst 1, 1) := by decide +kernel
theorem d_L_law_511 : decode c_L_law 511 = .ok (.iadd, 1) := by decide +kernel
theorem d_L_law_512 : decode c_L_law 512 = .ok (.iaload, 1) := by decide +kernel
theorem d_L_law_513 : decode c_L_law 513 = .ok (.aload_n 0, 1) := by decide +kernel
theorem d_L_law_514 : decode c_L_law 514 = .ok (.iload 4, 2) := by decide +kernel
theorem d_L_law_516 : decode c_L_law 516 = .ok (.iconst 2, 1) := by decide +kernel
theorem d_L_law_517 : decode c_L_law 517 = .ok (.iadd, 1) := by decide +kernel
theorem d_L_law_518 : decode c_L_law 518 = .ok (.iaload, 1) := by decide +kernel
theorem d_L_law_519 : decode c_L_law 519 = .ok (.aload_n 0, 1) := by decide +kernel
theorem d_L_law_520 : decode c_L_law 520 = .ok (.iload 4, 2) := by decide +kernel
theorem d_L_law_522 : decode c_L_law 522 = .ok (.iconst 3, 1) := by decide +kernel
theorem d_L_law_523 : decode c_L_law 523 = .ok (.iadd, 1) := by decide +kernel
theorem d_L_law_524 : decode c_L_law 524 = .ok (.iaload, 1) := by decide +kernel
theorem d_L_law_525 : decode c_L_law 525 = .ok (.aload_n 3, 1) := by decide +kernel
theorem d_L_law_526 : decode c_L_law 526 = .ok (.invokestatic 75, 3) := by decide +kernel
theorem d_L_law_529 : decode c_L_law 529 = .ok (.istore 5, 2) := by decide +kernel
theorem d_L_law_531 : decode c_L_law 531 = .ok (.aload_n 2, 1) := by decide +kernel
theorem d_L_law_532 : decode c_L_law 532 = .ok (.aload_n 0, 1) := by decide +kernel
theorem d_L_law_533 : decode c_L_law 533 = .ok (.iload 4, 2) := by decide +kernel
theorem d_L_law_535 : decode c_L_law 535 = .ok (.iconst 1, 1) := by decide +kernel
theorem d_L_law_536 : decode c_L_law 536 = .ok (.iadd, 1) := by decide +kernel
theorem d_L_law_537 : decode c_L_law 537 = .ok (.iaload, 1) := by decide +kernel
theorem d_L_law_538 : decode c_L_law 538 = .ok (.aload_n 0, 1) := by decide +kernel
theorem d_L_law_539 : decode c_L_law 539 = .ok (.iload 4, 2) := by decide +kernel
theorem d_L_law_541 : decode c_L_law 541 = .ok (.iconst 2, 1) := by decide +kernel
theorem d_L_law_542 : decode c_L_law 542 = .ok (.iadd, 1) := by decide +kernel
theorem d_L_law_543 : decode c_L_law 543 = .ok (.iaload, 1) := by decide +kernel
theorem d_L_law_544 : decode c_L_law 544 = .ok (.aload_n 0, 1) := by decide +kernel
theorem d_L_law_545 : decode c_L_law 545 = .ok (.iload 4, 2) := by decide +kernel
theorem d_L_law_547 : decode c_L_law 547 = .ok (.iconst 3, 1) := by decide +kernel
theorem d_L_law_548 : decode c_L_law 548 = .ok (.iadd, 1) := by decide +kernel
theorem d_L_law_549 : decode c_L_law 549 = .ok (.iaload, 1) := by decide +kernel
theorem d_L_law_550 : decode c_L_law 550 = .ok (.invokevirtual 77, 3) := by decide +kernel
theorem d_L_law_553 : decode c_L_law 553 = .ok (.istore 6, 2) := by decide +kernel
theorem d_L_law_555 : decode c_L_law 555 = .ok (.aload_n 2, 1) := by decide +kernel
theorem d_L_law_556 : decode c_L_law 556 = .ok (.invokevirtual 62, 3) := by decide +kernel
theorem d_L_law_559 : decode c_L_law 559 = .ok (.iload 5, 2) := by decide +kernel
theorem d_L_law_561 : decode c_L_law 561 = .ok (.if_icmp .eq 5, 3) := by decide +kernel
theorem d_L_law_564 : decode c_L_law 564 = .ok (.iconst 0, 1) := by decide +kernel
theorem d_L_law_565 : decode c_L_law 565 = .ok (.ireturn, 1) := by decide +kernel
theorem d_L_law_566 : decode c_L_law 566 = .ok (.iload 5, 2) := by decide +kernel
theorem d_L_law_568 : decode c_L_law 568 = .ok (.ifCond .ne 15, 3) := by decide +kernel
theorem d_L_law_571 : decode c_L_law 571 = .ok (.aload_n 3, 1) := by decide +kernel
theorem d_L_law_572 : decode c_L_law 572 = .ok (.iconst 0, 1) := by decide +kernel
theorem d_L_law_573 : decode c_L_law 573 = .ok (.laload, 1) := by decide +kernel
theorem d_L_law_574 : decode c_L_law 574 = .ok (.iload 6, 2) := by decide +kernel
theorem d_L_law_576 : decode c_L_law 576 = .ok (.i2l, 1) := by decide +kernel
theorem d_L_law_577 : decode c_L_law 577 = .ok (.lcmp, 1) := by decide +kernel
theorem d_L_law_578 : decode c_L_law 578 = .ok (.ifCond .eq 5, 3) := by decide +kernel
theorem d_L_law_581 : decode c_L_law 581 = .ok (.iconst 0, 1) := by decide +kernel
theorem d_L_law_582 : decode c_L_law 582 = .ok (.ireturn, 1) := by decide +kernel
theorem d_L_law_583 : decode c_L_law 583 = .ok (.goto 336, 3) := by decide +kernel
theorem d_L_law_586 : decode c_L_law 586 = .ok (.aload_n 1, 1) := by decide +kernel
theorem d_L_law_587 : decode c_L_law 587 = .ok (.aload_n 0, 1) := by decide +kernel
theorem d_L_law_588 : decode c_L_law 588 = .ok (.iload 4, 2) := by decide +kernel
theorem d_L_law_590 : decode c_L_law 590 = .ok (.iconst 1, 1) := by decide +kernel
theorem d_L_law_591 : decode c_L_law 591 = .ok (.iadd, 1) := by decide +kernel
theorem d_L_law_592 : decode c_L_law 592 = .ok (.iaload, 1) := by decide +kernel
theorem d_L_law_593 : decode c_L_law 593 = .ok (.aload_n 0, 1) := by decide +kernel
theorem d_L_law_594 : decode c_L_law 594 = .ok (.iload 4, 2) := by decide +kernel
theorem d_L_law_596 : decode c_L_law 596 = .ok (.iconst 2, 1) := by decide +kernel
theorem d_L_law_597 : decode c_L_law 597 = .ok (.iadd, 1) := by decide +kernel
theorem d_L_law_598 : decode c_L_law 598 = .ok (.iaload, 1) := by decide +kernel
theorem d_L_law_599 : decode c_L_law 599 = .ok (.aload_n 0, 1) := by decide +kernel
theorem d_L_law_600 : decode c_L_law 600 = .ok (.iload 4, 2) := by decide +kernel
theorem d_L_law_602 : decode c_L_law 602 = .ok (.iconst 3, 1) := by decide +kernel
theorem d_L_law_603 : decode c_L_law 603 = .ok (.iadd, 1) := by decide +kernel
theorem d_L_law_604 : decode c_L_law 604 = .ok (.iaload, 1) := by decide +kernel
theorem d_L_law_605 : decode c_L_law 605 = .ok (.aload_n 0, 1) := by decide +kernel
theorem d_L_law_606 : decode c_L_law 606 = .ok (.iload 4, 2) := by decide +kernel
theorem d_L_law_608 : decode c_L_law 608 = .ok (.iconst 4, 1) := by decide +kernel
theorem d_L_law_609 : decode c_L_law 609 = .ok (.iadd, 1) := by decide +kernel
theorem d_L_law_610 : decode c_L_law 610 = .ok (.iaload, 1) := by decide +kernel
theorem d_L_law_611 : decode c_L_law 611 = .ok (.aload_n 3, 1) := by decide +kernel
theorem d_L_law_612 : decode c_L_law 612 = .ok (.invokestatic 78, 3) := by decide +kernel
theorem d_L_law_615 : decode c_L_law 615 = .ok (.istore 5, 2) := by decide +kernel
theorem d_L_law_617 : decode c_L_law 617 = .ok (.aload_n 2, 1) := by decide +kernel
theorem d_L_law_618 : decode c_L_law 618 = .ok (.aload_n 0, 1) := by decide +kernel
theorem d_L_law_619 : decode c_L_law 619 = .ok (.iload 4, 2) := by decide +kernel
theorem d_L_law_621 : decode c_L_law 621 = .ok (.iconst 1, 1) := by decide +kernel
theorem d_L_law_622 : decode c_L_law 622 = .ok (.iadd, 1) := by decide +kernel
theorem d_L_law_623 : decode c_L_law 623 = .ok (.iaload, 1) := by decide +kernel
theorem d_L_law_624 : decode c_L_law 624 = .ok (.aload_n 0, 1) := by decide +kernel
theorem d_L_law_625 : decode c_L_law 625 = .ok (.iload 4, 2) := by decide +kernel
theorem d_L_law_627 : decode c_L_law 627 = .ok (.iconst 2, 1) := by decide +kernel
theorem d_L_law_628 : decode c_L_law 628 = .ok (.iadd, 1) := by decide +kernel
theorem d_L_law_629 : decode c_L_law 629 = .ok (.iaload, 1) := by decide +kernel
theorem d_L_law_630 : decode c_L_law 630 = .ok (.aload_n 0, 1) := by decide +kernel
theorem d_L_law_631 : decode c_L_law 631 = .ok (.iload 4, 2) := by decide +kernel
theorem d_L_law_633 : decode c_L_law 633 = .ok (.iconst 3, 1) := by decide +kernel
theorem d_L_law_634 : decode c_L_law 634 = .ok (.iadd, 1) := by decide +kernel
theorem d_L_law_635 : decode c_L_law 635 = .ok (.iaload, 1) := by decide +kernel
theorem d_L_law_636 : decode c_L_law 636 = .ok (.aload_n 0, 1) := by decide +kernel
theorem d_L_law_637 : decode c_L_law 637 = .ok (.iload 4, 2) := by decide +kernel
theorem d_L_law_639 : decode c_L_law 639 = .ok (.iconst 4, 1) := by decide +kernel
theorem d_L_law_640 : decode c_L_law 640 = .ok (.iadd, 1) := by decide +kernel
theorem d_L_law_641 : decode c_L_law 641 = .ok (.iaload, 1) := by decide +kernel
theorem d_L_law_642 : decode c_L_law 642 = .ok (.invokevirtual 81, 3) := by decide +kernel
theorem d_L_law_645 : decode c_L_law 645 = .ok (.istore 6, 2) := by decide +kernel
theorem d_L_law_647 : decode c_L_law 647 = .ok (.aload_n 2, 1) := by decide +kernel
theorem d_L_law_648 : decode c_L_law 648 = .ok (.invokevirtual 62, 3) := by decide +kernel
theorem d_L_law_651 : decode c_L_law 651 = .ok (.iload 5, 2) := by decide +kernel
theorem d_L_law_653 : decode c_L_law 653 = .ok (.if_icmp .eq 5, 3) := by decide +kernel
theorem d_L_law_656 : decode c_L_law 656 = .ok (.iconst 0, 1) := by decide +kernel
theorem d_L_law_657 : decode c_L_law 657 = .ok (.ireturn, 1) := by decide +kernel
theorem d_L_law_658 : decode c_L_law 658 = .ok (.iload 5, 2) := by decide +kernel
theorem d_L_law_660 : decode c_L_law 660 = .ok (.ifCond .ne 15, 3) := by decide +kernel
theorem d_L_law_663 : decode c_L_law 663 = .ok (.aload_n 3, 1) := by decide +kernel
theorem d_L_law_664 : decode c_L_law 664 = .ok (.iconst 0, 1) := by decide +kernel
theorem d_L_law_665 : decode c_L_law 665 = .ok (.laload, 1) := by decide +kernel
theorem d_L_law_666 : decode c_L_law 666 = .ok (.iload 6, 2) := by decide +kernel
theorem d_L_law_668 : decode c_L_law 668 = .ok (.i2l, 1) := by decide +kernel
theorem d_L_law_669 : decode c_L_law 669 = .ok (.lcmp, 1) := by decide +kernel
theorem d_L_law_670 : decode c_L_law 670 = .ok (.ifCond .eq 5, 3) := by decide +kernel
theorem d_L_law_673 : decode c_L_law 673 = .ok (.iconst 0, 1) := by decide +kernel
theorem d_L_law_674 : decode c_L_law 674 = .ok (.ireturn, 1) := by decide +kernel
theorem d_L_law_675 : decode c_L_law 675 = .ok (.goto 244, 3) := by decide +kernel
theorem d_L_law_678 : decode c_L_law 678 = .ok (.aload_n 1, 1) := by decide +kernel
theorem d_L_law_679 : decode c_L_law 679 = .ok (.aload_n 0, 1) := by decide +kernel
theorem d_L_law_680 : decode c_L_law 680 = .ok (.iload 4, 2) := by decide +kernel
theorem d_L_law_682 : decode c_L_law 682 = .ok (.iconst 1, 1) := by decide +kernel
theorem d_L_law_683 : decode c_L_law 683 = .ok (.iadd, 1) := by decide +kernel
theorem d_L_law_684 : decode c_L_law 684 = .ok (.iaload, 1) := by decide +kernel
theorem d_L_law_685 : decode c_L_law 685 = .ok (.aload_n 0, 1) := by decide +kernel
theorem d_L_law_686 : decode c_L_law 686 = .ok (.iload 4, 2) := by decide +kernel
theorem d_L_law_688 : decode c_L_law 688 = .ok (.iconst 2, 1) := by decide +kernel
theorem d_L_law_689 : decode c_L_law 689 = .ok (.iadd, 1) := by decide +kernel
theorem d_L_law_690 : decode c_L_law 690 = .ok (.iaload, 1) := by decide +kernel
theorem d_L_law_691 : decode c_L_law 691 = .ok (.aload_n 3, 1) := by decide +kernel
theorem d_L_law_692 : decode c_L_law 692 = .ok (.invokestatic 82, 3) := by decide +kernel
theorem d_L_law_695 : decode c_L_law 695 = .ok (.istore 5, 2) := by decide +kernel
theorem d_L_law_697 : decode c_L_law 697 = .ok (.aload_n 2, 1) := by decide +kernel
theorem d_L_law_698 : decode c_L_law 698 = .ok (.aload_n 0, 1) := by decide +kernel
theorem d_L_law_699 : decode c_L_law 699 = .ok (.iload 4, 2) := by decide +kernel
theorem d_L_law_701 : decode c_L_law 701 = .ok (.iconst 1, 1) := by decide +kernel
theorem d_L_law_702 : decode c_L_law 702 = .ok (.iadd, 1) := by decide +kernel
theorem d_L_law_703 : decode c_L_law 703 = .ok (.iaload, 1) := by decide +kernel
theorem d_L_law_704 : decode c_L_law 704 = .ok (.aload_n 0, 1) := by decide +kernel
theorem d_L_law_705 : decode c_L_law 705 = .ok (.iload 4, 2) := by decide +kernel
theorem d_L_law_707 : decode c_L_law 707 = .ok (.iconst 2, 1) := by decide +kernel
theorem d_L_law_708 : decode c_L_law 708 = .ok (.iadd, 1) := by decide +kernel
theorem d_L_law_709 : decode c_L_law 709 = .ok (.iaload, 1) := by decide +kernel
theorem d_L_law_710 : decode c_L_law 710 = .ok (.invokevirtual 85, 3) := by decide +kernel
theorem d_L_law_713 : decode c_L_law 713 = .ok (.istore 6, 2) := by decide +kernel
theorem d_L_law_715 : decode c_L_law 715 = .ok (.aload_n 2, 1) := by decide +kernel
theorem d_L_law_716 : decode c_L_law 716 = .ok (.invokevirtual 62, 3) := by decide +kernel
theorem d_L_law_719 : decode c_L_law 719 = .ok (.iload 5, 2) := by decide +kernel
theorem d_L_law_721 : decode c_L_law 721 = .ok (.if_icmp .eq 5, 3) := by decide +kernel
theorem d_L_law_724 : decode c_L_law 724 = .ok (.iconst 0, 1) := by decide +kernel
theorem d_L_law_725 : decode c_L_law 725 = .ok (.ireturn, 1) := by decide +kernel
theorem d_L_law_726 : decode c_L_law 726 = .ok (.iload 5, 2) := by decide +kernel
theorem d_L_law_728 : decode c_L_law 728 = .ok (.ifCond .ne 15, 3) := by decide +kernel
theorem d_L_law_731 : decode c_L_law 731 = .ok (.aload_n 3, 1) := by decide +kernel
theorem d_L_law_732 : decode c_L_law 732 = .ok (.iconst 0, 1) := by decide +kernel
theorem d_L_law_733 : decode c_L_law 733 = .ok (.laload, 1) := by decide +kernel
theorem d_L_law_734 : decode c_L_law 734 = .ok (.iload 6, 2) := by decide +kernel
theorem d_L_law_736 : decode c_L_law 736 = .ok (.i2l, 1) := by decide +kernel
theorem d_L_law_737 : decode c_L_law 737 = .ok (.lcmp, 1) := by decide +kernel
theorem d_L_law_738 : decode c_L_law 738 = .ok (.ifCond .eq 5, 3) := by decide +kernel
theorem d_L_law_741 : decode c_L_law 741 = .ok (.iconst 0, 1) := by decide +kernel
theorem d_L_law_742 : decode c_L_law 742 = .ok (.ireturn, 1) := by decide +kernel
theorem d_L_law_743 : decode c_L_law 743 = .ok (.goto 176, 3) := by decide +kernel
theorem d_L_law_746 : decode c_L_law 746 = .ok (.aload_n 1, 1) := by decide +kernel
theorem d_L_law_747 : decode c_L_law 747 = .ok (.aload_n 0, 1) := by decide +kernel
theorem d_L_law_748 : decode c_L_law 748 = .ok (.iload 4, 2) := by decide +kernel
theorem d_L_law_750 : decode c_L_law 750 = .ok (.iconst 1, 1) := by decide +kernel
theorem d_L_law_751 : decode c_L_law 751 = .ok (.iadd, 1) := by decide +kernel
theorem d_L_law_752 : decode c_L_law 752 = .ok (.iaload, 1) := by decide +kernel
theorem d_L_law_753 : decode c_L_law 753 = .ok (.aload_n 0, 1) := by decide +kernel
theorem d_L_law_754 : decode c_L_law 754 = .ok (.iload 4, 2) := by decide +kernel
theorem d_L_law_756 : decode c_L_law 756 = .ok (.iconst 2, 1) := by decide +kernel
theorem d_L_law_757 : decode c_L_law 757 = .ok (.iadd, 1) := by decide +kernel
theorem d_L_law_758 : decode c_L_law 758 = .ok (.iaload, 1) := by decide +kernel
theorem d_L_law_759 : decode c_L_law 759 = .ok (.aload_n 3, 1) := by decide +kernel
theorem d_L_law_760 : decode c_L_law 760 = .ok (.invokestatic 86, 3) := by decide +kernel
theorem d_L_law_763 : decode c_L_law 763 = .ok (.istore 5, 2) := by decide +kernel
theorem d_L_law_765 : decode c_L_law 765 = .ok (.aload_n 2, 1) := by decide +kernel
theorem d_L_law_766 : decode c_L_law 766 = .ok (.aload_n 0, 1) := by decide +kernel
theorem d_L_law_767 : decode c_L_law 767 = .ok (.iload 4, 2) := by decide +kernel
theorem d_L_law_769 : decode c_L_law 769 = .ok (.iconst 1, 1) := by decide +kernel
theorem d_L_law_770 : decode c_L_law 770 = .ok (.iadd, 1) := by decide +kernel
theorem d_L_law_771 : decode c_L_law 771 = .ok (.iaload, 1) := by decide +kernel
theorem d_L_law_772 : decode c_L_law 772 = .ok (.aload_n 0, 1) := by decide +kernel
theorem d_L_law_773 : decode c_L_law 773 = .ok (.iload 4, 2) := by decide +kernel
theorem d_L_law_775 : decode c_L_law 775 = .ok (.iconst 2, 1) := by decide +kernel
theorem d_L_law_776 : decode c_L_law 776 = .ok (.iadd, 1) := by decide +kernel
theorem d_L_law_777 : decode c_L_law 777 = .ok (.iaload, 1) := by decide +kernel
theorem d_L_law_778 : decode c_L_law 778 = .ok (.invokevirtual 88, 3) := by decide +kernel
theorem d_L_law_781 : decode c_L_law 781 = .ok (.istore 6, 2) := by decide +kernel
theorem d_L_law_783 : decode c_L_law 783 = .ok (.aload_n 2, 1) := by decide +kernel
theorem d_L_law_784 : decode c_L_law 784 = .ok (.invokevirtual 62, 3) := by decide +kernel
theorem d_L_law_787 : decode c_L_law 787 = .ok (.iload 5, 2) := by decide +kernel
theorem d_L_law_789 : decode c_L_law 789 = .ok (.if_icmp .eq 5, 3) := by decide +kernel
theorem d_L_law_792 : decode c_L_law 792 = .ok (.iconst 0, 1) := by decide +kernel
theorem d_L_law_793 : decode c_L_law 793 = .ok (.ireturn, 1) := by decide +kernel
theorem d_L_law_794 : decode c_L_law 794 = .ok (.iload 5, 2) := by decide +kernel
theorem d_L_law_796 : decode c_L_law 796 = .ok (.ifCond .ne 15, 3) := by decide +kernel
theorem d_L_law_799 : decode c_L_law 799 = .ok (.aload_n 3, 1) := by decide +kernel
theorem d_L_law_800 : decode c_L_law 800 = .ok (.iconst 0, 1) := by decide +kernel
theorem d_L_law_801 : decode c_L_law 801 = .ok (.laload, 1) := by decide +kernel
theorem d_L_law_802 : decode c_L_law 802 = .ok (.iload 6, 2) := by decide +kernel
theorem d_L_law_804 : decode c_L_law 804 = .ok (.i2l, 1) := by decide +kernel
theorem d_L_law_805 : decode c_L_law 805 = .ok (.lcmp, 1) := by decide +kernel
theorem d_L_law_806 : decode c_L_law 806 = .ok (.ifCond .eq 5, 3) := by decide +kernel
theorem d_L_law_809 : decode c_L_law 809 = .ok (.iconst 0, 1) := by decide +kernel
theorem d_L_law_810 : decode c_L_law 810 = .ok (.ireturn, 1) := by decide +kernel
theorem d_L_law_811 : decode c_L_law 811 = .ok (.goto 108, 3) := by decide +kernel
theorem d_L_law_814 : decode c_L_law 814 = .ok (.aload_n 1, 1) := by decide +kernel
theorem d_L_law_815 : decode c_L_law 815 = .ok (.aload_n 0, 1) := by decide +kernel
theorem d_L_law_816 : decode c_L_law 816 = .ok (.iload 4, 2) := by decide +kernel
theorem d_L_law_818 : decode c_L_law 818 = .ok (.iconst 1, 1) := by decide +kernel
theorem d_L_law_819 : decode c_L_law 819 = .ok (.iadd, 1) := by decide +kernel
theorem d_L_law_820 : decode c_L_law 820 = .ok (.iaload, 1) := by decide +kernel
theorem d_L_law_821 : decode c_L_law 821 = .ok (.aload_n 0, 1) := by decide +kernel
theorem d_L_law_822 : decode c_L_law 822 = .ok (.iload 4, 2) := by decide +kernel
theorem d_L_law_824 : decode c_L_law 824 = .ok (.iconst 2, 1) := by decide +kernel
theorem d_L_law_825 : decode c_L_law 825 = .ok (.iadd, 1) := by decide +kernel
theorem d_L_law_826 : decode c_L_law 826 = .ok (.iaload, 1) := by decide +kernel
theorem d_L_law_827 : decode c_L_law 827 = .ok (.aload_n 0, 1) := by decide +kernel
theorem d_L_law_828 : decode c_L_law 828 = .ok (.iload 4, 2) := by decide +kernel
theorem d_L_law_830 : decode c_L_law 830 = .ok (.iconst 3, 1) := by decide +kernel
theorem d_L_law_831 : decode c_L_law 831 = .ok (.iadd, 1) := by decide +kernel
theorem d_L_law_832 : decode c_L_law 832 = .ok (.iaload, 1) := by decide +kernel
theorem d_L_law_833 : decode c_L_law 833 = .ok (.aload_n 3, 1) := by decide +kernel
theorem d_L_law_834 : decode c_L_law 834 = .ok (.invokestatic 89, 3) := by decide +kernel
theorem d_L_law_837 : decode c_L_law 837 = .ok (.istore 5, 2) := by decide +kernel
theorem d_L_law_839 : decode c_L_law 839 = .ok (.aload_n 2, 1) := by decide +kernel
theorem d_L_law_840 : decode c_L_law 840 = .ok (.aload_n 0, 1) := by decide +kernel
theorem d_L_law_841 : decode c_L_law 841 = .ok (.iload 4, 2) := by decide +kernel
theorem d_L_law_843 : decode c_L_law 843 = .ok (.iconst 1, 1) := by decide +kernel
theorem d_L_law_844 : decode c_L_law 844 = .ok (.iadd, 1) := by decide +kernel
theorem d_L_law_845 : decode c_L_law 845 = .ok (.iaload, 1) := by decide +kernel
theorem d_L_law_846 : decode c_L_law 846 = .ok (.aload_n 0, 1) := by decide +kernel
theorem d_L_law_847 : decode c_L_law 847 = .ok (.iload 4, 2) := by decide +kernel
theorem d_L_law_849 : decode c_L_law 849 = .ok (.iconst 2, 1) := by decide +kernel
theorem d_L_law_850 : decode c_L_law 850 = .ok (.iadd, 1) := by decide +kernel
theorem d_L_law_851 : decode c_L_law 851 = .ok (.iaload, 1) := by decide +kernel
theorem d_L_law_852 : decode c_L_law 852 = .ok (.aload_n 0, 1) := by decide +kernel
theorem d_L_law_853 : decode c_L_law 853 = .ok (.iload 4, 2) := by decide +kernel
theorem d_L_law_855 : decode c_L_law 855 = .ok (.iconst 3, 1) := by decide +kernel
theorem d_L_law_856 : decode c_L_law 856 = .ok (.iadd, 1) := by decide +kernel
theorem d_L_law_857 : decode c_L_law 857 = .ok (.iaload, 1) := by decide +kernel
theorem d_L_law_858 : decode c_L_law 858 = .ok (.invokevirtual 91, 3) := by decide +kernel
theorem d_L_law_861 : decode c_L_law 861 = .ok (.istore 6, 2) := by decide +kernel
theorem d_L_law_863 : decode c_L_law 863 = .ok (.aload_n 2, 1) := by decide +kernel
theorem d_L_law_864 : decode c_L_law 864 = .ok (.invokevirtual 62, 3) := by decide +kernel
theorem d_L_law_867 : decode c_L_law 867 = .ok (.iload 5, 2) := by decide +kernel
theorem d_L_law_869 : decode c_L_law 869 = .ok (.if_icmp .eq 5, 3) := by decide +kernel
theorem d_L_law_872 : decode c_L_law 872 = .ok (.iconst 0, 1) := by decide +kernel
theorem d_L_law_873 : decode c_L_law 873 = .ok (.ireturn, 1) := by decide +kernel
theorem d_L_law_874 : decode c_L_law 874 = .ok (.iload 5, 2) := by decide +kernel
theorem d_L_law_876 : decode c_L_law 876 = .ok (.ifCond .ne 15, 3) := by decide +kernel
theorem d_L_law_879 : decode c_L_law 879 = .ok (.aload_n 3, 1) := by decide +kernel
theorem d_L_law_880 : decode c_L_law 880 = .ok (.iconst 0, 1) := by decide +kernel
theorem d_L_law_881 : decode c_L_law 881 = .ok (.laload, 1) := by decide +kernel
theorem d_L_law_882 : decode c_L_law 882 = .ok (.iload 6, 2) := by decide +kernel
theorem d_L_law_884 : decode c_L_law 884 = .ok (.i2l, 1) := by decide +kernel
theorem d_L_law_885 : decode c_L_law 885 = .ok (.lcmp, 1) := by decide +kernel
theorem d_L_law_886 : decode c_L_law 886 = .ok (.ifCond .eq 5, 3) := by decide +kernel
theorem d_L_law_889 : decode c_L_law 889 = .ok (.iconst 0, 1) := by decide +kernel
theorem d_L_law_890 : decode c_L_law 890 = .ok (.ireturn, 1) := by decide +kernel
theorem d_L_law_891 : decode c_L_law 891 = .ok (.goto 28, 3) := by decide +kernel
theorem d_L_law_894 : decode c_L_law 894 = .ok (.aload_n 1, 1) := by decide +kernel
theorem d_L_law_895 : decode c_L_law 895 = .ok (.aload_n 0, 1) := by decide +kernel
theorem d_L_law_896 : decode c_L_law 896 = .ok (.iload 4, 2) := by decide +kernel
theorem d_L_law_898 : decode c_L_law 898 = .ok (.iconst 1, 1) := by decide +kernel
theorem d_L_law_899 : decode c_L_law 899 = .ok (.iadd, 1) := by decide +kernel
theorem d_L_law_900 : decode c_L_law 900 = .ok (.iaload, 1) := by decide +kernel
theorem d_L_law_901 : decode c_L_law 901 = .ok (.invokevirtual 92, 3) := by decide +kernel
theorem d_L_law_904 : decode c_L_law 904 = .ok (.aload_n 2, 1) := by decide +kernel
theorem d_L_law_905 : decode c_L_law 905 = .ok (.aload_n 0, 1) := by decide +kernel
theorem d_L_law_906 : decode c_L_law 906 = .ok (.iload 4, 2) := by decide +kernel
theorem d_L_law_908 : decode c_L_law 908 = .ok (.iconst 1, 1) := by decide +kernel
theorem d_L_law_909 : decode c_L_law 909 = .ok (.iadd, 1) := by decide +kernel
theorem d_L_law_910 : decode c_L_law 910 = .ok (.iaload, 1) := by decide +kernel
theorem d_L_law_911 : decode c_L_law 911 = .ok (.invokevirtual 96, 3) := by decide +kernel
theorem d_L_law_914 : decode c_L_law 914 = .ok (.if_icmp .eq 5, 3) := by decide +kernel
theorem d_L_law_917 : decode c_L_law 917 = .ok (.iconst 0, 1) := by decide +kernel
theorem d_L_law_918 : decode c_L_law 918 = .ok (.ireturn, 1) := by decide +kernel
theorem d_L_law_919 : decode c_L_law 919 = .ok (.iinc 4 5, 3) := by decide +kernel
theorem d_L_law_922 : decode c_L_law 922 = .ok (.goto (-899), 3) := by decide +kernel
theorem d_L_law_925 : decode c_L_law 925 = .ok (.iconst 1, 1) := by decide +kernel
theorem d_L_law_926 : decode c_L_law 926 = .ok (.ireturn, 1) := by decide +kernel
