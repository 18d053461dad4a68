theorem d_Law_law_328 : decode b_Law_law 328 = .ok (.iaload, 1) := by decide +kernel
theorem d_Law_law_329 : decode b_Law_law 329 = .ok (.aload_n 3, 1) := by decide +kernel
theorem d_Law_law_330 : decode b_Law_law 330 = .ok (.invokestatic 98, 3) := by decide +kernel
theorem d_Law_law_333 : decode b_Law_law 333 = .ok (.istore 5, 2) := by decide +kernel
theorem d_Law_law_335 : decode b_Law_law 335 = .ok (.aload_n 2, 1) := by decide +kernel
theorem d_Law_law_336 : decode b_Law_law 336 = .ok (.aload_n 0, 1) := by decide +kernel
theorem d_Law_law_337 : decode b_Law_law 337 = .ok (.iload 4, 2) := by decide +kernel
theorem d_Law_law_339 : decode b_Law_law 339 = .ok (.iconst 1, 1) := by decide +kernel
theorem d_Law_law_340 : decode b_Law_law 340 = .ok (.iadd, 1) := by decide +kernel
theorem d_Law_law_341 : decode b_Law_law 341 = .ok (.iaload, 1) := by decide +kernel
theorem d_Law_law_342 : decode b_Law_law 342 = .ok (.aload_n 0, 1) := by decide +kernel
theorem d_Law_law_343 : decode b_Law_law 343 = .ok (.iload 4, 2) := by decide +kernel
theorem d_Law_law_345 : decode b_Law_law 345 = .ok (.iconst 2, 1) := by decide +kernel
theorem d_Law_law_346 : decode b_Law_law 346 = .ok (.iadd, 1) := by decide +kernel
theorem d_Law_law_347 : decode b_Law_law 347 = .ok (.iaload, 1) := by decide +kernel
theorem d_Law_law_348 : decode b_Law_law 348 = .ok (.invokevirtual 101, 3) := by decide +kernel
theorem d_Law_law_351 : decode b_Law_law 351 = .ok (.istore 6, 2) := by decide +kernel
theorem d_Law_law_353 : decode b_Law_law 353 = .ok (.aload_n 2, 1) := by decide +kernel
theorem d_Law_law_354 : decode b_Law_law 354 = .ok (.invokevirtual 87, 3) := by decide +kernel
theorem d_Law_law_357 : decode b_Law_law 357 = .ok (.iload 5, 2) := by decide +kernel
theorem d_Law_law_359 : decode b_Law_law 359 = .ok (.if_icmp .eq 5, 3) := by decide +kernel
theorem d_Law_law_362 : decode b_Law_law 362 = .ok (.iconst 0, 1) := by decide +kernel
theorem d_Law_law_363 : decode b_Law_law 363 = .ok (.ireturn, 1) := by decide +kernel
theorem d_Law_law_364 : decode b_Law_law 364 = .ok (.iload 5, 2) := by decide +kernel
theorem d_Law_law_366 : decode b_Law_law 366 = .ok (.ifCond .ne 15, 3) := by decide +kernel
theorem d_Law_law_369 : decode b_Law_law 369 = .ok (.aload_n 3, 1) := by decide +kernel
theorem d_Law_law_370 : decode b_Law_law 370 = .ok (.iconst 0, 1) := by decide +kernel
theorem d_Law_law_371 : decode b_Law_law 371 = .ok (.laload, 1) := by decide +kernel
theorem d_Law_law_372 : decode b_Law_law 372 = .ok (.iload 6, 2) := by decide +kernel
theorem d_Law_law_374 : decode b_Law_law 374 = .ok (.i2l, 1) := by decide +kernel
theorem d_Law_law_375 : decode b_Law_law 375 = .ok (.lcmp, 1) := by decide +kernel
theorem d_Law_law_376 : decode b_Law_law 376 = .ok (.ifCond .eq 5, 3) := by decide +kernel
theorem d_Law_law_379 : decode b_Law_law 379 = .ok (.iconst 0, 1) := by decide +kernel
theorem d_Law_law_380 : decode b_Law_law 380 = .ok (.ireturn, 1) := by decide +kernel
theorem d_Law_law_381 : decode b_Law_law 381 = .ok (.goto 818, 3) := by decide +kernel
theorem d_Law_law_384 : decode b_Law_law 384 = .ok (.aload_n 1, 1) := by decide +kernel
theorem d_Law_law_385 : decode b_Law_law 385 = .ok (.aload_n 0, 1) := by decide +kernel
theorem d_Law_law_386 : decode b_Law_law 386 = .ok (.iload 4, 2) := by decide +kernel
theorem d_Law_law_388 : decode b_Law_law 388 = .ok (.iconst 1, 1) := by decide +kernel
theorem d_Law_law_389 : decode b_Law_law 389 = .ok (.iadd, 1) := by decide +kernel
theorem d_Law_law_390 : decode b_Law_law 390 = .ok (.iaload, 1) := by decide +kernel
theorem d_Law_law_391 : decode b_Law_law 391 = .ok (.aload_n 0, 1) := by decide +kernel
theorem d_Law_law_392 : decode b_Law_law 392 = .ok (.iload 4, 2) := by decide +kernel
theorem d_Law_law_394 : decode b_Law_law 394 = .ok (.iconst 2, 1) := by decide +kernel
theorem d_Law_law_395 : decode b_Law_law 395 = .ok (.iadd, 1) := by decide +kernel
theorem d_Law_law_396 : decode b_Law_law 396 = .ok (.iaload, 1) := by decide +kernel
theorem d_Law_law_397 : decode b_Law_law 397 = .ok (.aload_n 3, 1) := by decide +kernel
theorem d_Law_law_398 : decode b_Law_law 398 = .ok (.invokestatic 102, 3) := by decide +kernel
theorem d_Law_law_401 : decode b_Law_law 401 = .ok (.istore 5, 2) := by decide +kernel
theorem d_Law_law_403 : decode b_Law_law 403 = .ok (.aload_n 2, 1) := by decide +kernel
theorem d_Law_law_404 : decode b_Law_law 404 = .ok (.aload_n 0, 1) := by decide +kernel
theorem d_Law_law_405 : decode b_Law_law 405 = .ok (.iload 4, 2) := by decide +kernel
theorem d_Law_law_407 : decode b_Law_law 407 = .ok (.iconst 1, 1) := by decide +kernel
theorem d_Law_law_408 : decode b_Law_law 408 = .ok (.iadd, 1) := by decide +kernel
theorem d_Law_law_409 : decode b_Law_law 409 = .ok (.iaload, 1) := by decide +kernel
theorem d_Law_law_410 : decode b_Law_law 410 = .ok (.aload_n 0, 1) := by decide +kernel
theorem d_Law_law_411 : decode b_Law_law 411 = .ok (.iload 4, 2) := by decide +kernel
theorem d_Law_law_413 : decode b_Law_law 413 = .ok (.iconst 2, 1) := by decide +kernel
theorem d_Law_law_414 : decode b_Law_law 414 = .ok (.iadd, 1) := by decide +kernel
theorem d_Law_law_415 : decode b_Law_law 415 = .ok (.iaload, 1) := by decide +kernel
theorem d_Law_law_416 : decode b_Law_law 416 = .ok (.invokevirtual 104, 3) := by decide +kernel
theorem d_Law_law_419 : decode b_Law_law 419 = .ok (.istore 6, 2) := by decide +kernel
theorem d_Law_law_421 : decode b_Law_law 421 = .ok (.aload_n 2, 1) := by decide +kernel
theorem d_Law_law_422 : decode b_Law_law 422 = .ok (.invokevirtual 87, 3) := by decide +kernel
theorem d_Law_law_425 : decode b_Law_law 425 = .ok (.iload 5, 2) := by decide +kernel
theorem d_Law_law_427 : decode b_Law_law 427 = .ok (.if_icmp .eq 5, 3) := by decide +kernel
theorem d_Law_law_430 : decode b_Law_law 430 = .ok (.iconst 0, 1) := by decide +kernel
theorem d_Law_law_431 : decode b_Law_law 431 = .ok (.ireturn, 1) := by decide +kernel
theorem d_Law_law_432 : decode b_Law_law 432 = .ok (.iload 5, 2) := by decide +kernel
theorem d_Law_law_434 : decode b_Law_law 434 = .ok (.ifCond .ne 15, 3) := by decide +kernel
theorem d_Law_law_437 : decode b_Law_law 437 = .ok (.aload_n 3, 1) := by decide +kernel
theorem d_Law_law_438 : decode b_Law_law 438 = .ok (.iconst 0, 1) := by decide +kernel
theorem d_Law_law_439 : decode b_Law_law 439 = .ok (.laload, 1) := by decide +kernel
theorem d_Law_law_440 : decode b_Law_law 440 = .ok (.iload 6, 2) := by decide +kernel
theorem d_Law_law_442 : decode b_Law_law 442 = .ok (.i2l, 1) := by decide +kernel
theorem d_Law_law_443 : decode b_Law_law 443 = .ok (.lcmp, 1) := by decide +kernel
theorem d_Law_law_444 : decode b_Law_law 444 = .ok (.ifCond .eq 5, 3) := by decide +kernel
theorem d_Law_law_447 : decode b_Law_law 447 = .ok (.iconst 0, 1) := by decide +kernel
theorem d_Law_law_448 : decode b_Law_law 448 = .ok (.ireturn, 1) := by decide +kernel
theorem d_Law_law_449 : decode b_Law_law 449 = .ok (.goto 750, 3) := by decide +kernel
theorem d_Law_law_452 : decode b_Law_law 452 = .ok (.aload_n 1, 1) := by decide +kernel
theorem d_Law_law_453 : decode b_Law_law 453 = .ok (.aload_n 0, 1) := by decide +kernel
theorem d_Law_law_454 : decode b_Law_law 454 = .ok (.iload 4, 2) := by decide +kernel
theorem d_Law_law_456 : decode b_Law_law 456 = .ok (.iconst 1, 1) := by decide +kernel
theorem d_Law_law_457 : decode b_Law_law 457 = .ok (.iadd, 1) := by decide +kernel
theorem d_Law_law_458 : decode b_Law_law 458 = .ok (.iaload, 1) := by decide +kernel
theorem d_Law_law_459 : decode b_Law_law 459 = .ok (.aload_n 0, 1) := by decide +kernel
theorem d_Law_law_460 : decode b_Law_law 460 = .ok (.iload 4, 2) := by decide +kernel
theorem d_Law_law_462 : decode b_Law_law 462 = .ok (.iconst 2, 1) := by decide +kernel
theorem d_Law_law_463 : decode b_Law_law 463 = .ok (.iadd, 1) := by decide +kernel
theorem d_Law_law_464 : decode b_Law_law 464 = .ok (.iaload, 1) := by decide +kernel
theorem d_Law_law_465 : decode b_Law_law 465 = .ok (.ifCond .eq 7, 3) := by decide +kernel
theorem d_Law_law_468 : decode b_Law_law 468 = .ok (.iconst 1, 1) := by decide +kernel
theorem d_Law_law_469 : decode b_Law_law 469 = .ok (.goto 4, 3) := by decide +kernel
theorem d_Law_law_472 : decode b_Law_law 472 = .ok (.iconst 0, 1) := by decide +kernel
theorem d_Law_law_473 : decode b_Law_law 473 = .ok (.aload_n 3, 1) := by decide +kernel
theorem d_Law_law_474 : decode b_Law_law 474 = .ok (.invokestatic 105, 3) := by decide +kernel
theorem d_Law_law_477 : decode b_Law_law 477 = .ok (.istore 5, 2) := by decide +kernel
theorem d_Law_law_479 : decode b_Law_law 479 = .ok (.aload_n 2, 1) := by decide +kernel
theorem d_Law_law_480 : decode b_Law_law 480 = .ok (.aload_n 0, 1) := by decide +kernel
theorem d_Law_law_481 : decode b_Law_law 481 = .ok (.iload 4, 2) := by decide +kernel
theorem d_Law_law_483 : decode b_Law_law 483 = .ok (.iconst 1, 1) := by decide +kernel
theorem d_Law_law_484 : decode b_Law_law 484 = .ok (.iadd, 1) := by decide +kernel
theorem d_Law_law_485 : decode b_Law_law 485 = .ok (.iaload, 1) := by decide +kernel
theorem d_Law_law_486 : decode b_Law_law 486 = .ok (.aload_n 0, 1) := by decide +kernel
theorem d_Law_law_487 : decode b_Law_law 487 = .ok (.iload 4, 2) := by decide +kernel
theorem d_Law_law_489 : decode b_Law_law 489 = .ok (.iconst 2, 1) := by decide +kernel
theorem d_Law_law_490 : decode b_Law_law 490 = .ok (.iadd, 1) := by decide +kernel
theorem d_Law_law_491 : decode b_Law_law 491 = .ok (.iaload, 1) := by decide +kernel
theorem d_Law_law_492 : decode b_Law_law 492 = .ok (.ifCond .eq 7, 3) := by decide +kernel
theorem d_Law_law_495 : decode b_Law_law 495 = .ok (.iconst 1, 1) := by decide +kernel
theorem d_Law_law_496 : decode b_Law_law 496 = .ok (.goto 4, 3) := by decide +kernel
theorem d_Law_law_499 : decode b_Law_law 499 = .ok (.iconst 0, 1) := by decide +kernel
theorem d_Law_law_500 : decode b_Law_law 500 = .ok (.invokevirtual 108, 3) := by decide +kernel
theorem d_Law_law_503 : decode b_Law_law 503 = .ok (.istore 6, 2) := by decide +kernel
theorem d_Law_law_505 : decode b_Law_law 505 = .ok (.aload_n 2, 1) := by decide +kernel
theorem d_Law_law_506 : decode b_Law_law 506 = .ok (.invokevirtual 87, 3) := by decide +kernel
theorem d_Law_law_509 : decode b_Law_law 509 = .ok (.iload 5, 2) := by decide +kernel
theorem d_Law_law_511 : decode b_Law_law 511 = .ok (.if_icmp .eq 5, 3) := by decide +kernel
theorem d_Law_law_514 : decode b_Law_law 514 = .ok (.iconst 0, 1) := by decide +kernel
theorem d_Law_law_515 : decode b_Law_law 515 = .ok (.ireturn, 1) := by decide +kernel
theorem d_Law_law_516 : decode b_Law_law 516 = .ok (.iload 5, 2) := by decide +kernel
theorem d_Law_law_518 : decode b_Law_law 518 = .ok (.ifCond .ne 15, 3) := by decide +kernel
theorem d_Law_law_521 : decode b_Law_law 521 = .ok (.aload_n 3, 1) := by decide +kernel
theorem d_Law_law_522 : decode b_Law_law 522 = .ok (.iconst 0, 1) := by decide +kernel
theorem d_Law_law_523 : decode b_Law_law 523 = .ok (.laload, 1) := by decide +kernel
theorem d_Law_law_524 : decode b_Law_law 524 = .ok (.iload 6, 2) := by decide +kernel
theorem d_Law_law_526 : decode b_Law_law 526 = .ok (.i2l, 1) := by decide +kernel
theorem d_Law_law_527 : decode b_Law_law 527 = .ok (.lcmp, 1) := by decide +kernel
theorem d_Law_law_528 : decode b_Law_law 528 = .ok (.ifCond .eq 5, 3) := by decide +kernel
theorem d_Law_law_531 : decode b_Law_law 531 = .ok (.iconst 0, 1) := by decide +kernel
theorem d_Law_law_532 : decode b_Law_law 532 = .ok (.ireturn, 1) := by decide +kernel
theorem d_Law_law_533 : decode b_Law_law 533 = .ok (.goto 666, 3) := by decide +kernel
theorem d_Law_law_536 : decode b_Law_law 536 = .ok (.aload_n 1, 1) := by decide +kernel
theorem d_Law_law_537 : decode b_Law_law 537 = .ok (.aload_n 0, 1) := by decide +kernel
theorem d_Law_law_538 : decode b_Law_law 538 = .ok (.iload 4, 2) := by decide +kernel
theorem d_Law_law_540 : decode b_Law_law 540 = .ok (.iconst 1, 1) := by decide +kernel
theorem d_Law_law_541 : decode b_Law_law 541 = .ok (.iadd, 1) := by decide +kernel
theorem d_Law_law_542 : decode b_Law_law 542 = .ok (.iaload, 1) := by decide +kernel
theorem d_Law_law_543 : decode b_Law_law 543 = .ok (.aload_n 3, 1) := by decide +kernel
theorem d_Law_law_544 : decode b_Law_law 544 = .ok (.invokestatic 109, 3) := by decide +kernel
theorem d_Law_law_547 : decode b_Law_law 547 = .ok (.istore 5, 2) := by decide +kernel
theorem d_Law_law_549 : decode b_Law_law 549 = .ok (.aload_n 2, 1) := by decide +kernel
theorem d_Law_law_550 : decode b_Law_law 550 = .ok (.aload_n 0, 1) := by decide +kernel
theorem d_Law_law_551 : decode b_Law_law 551 = .ok (.iload 4, 2) := by decide +kernel
theorem d_Law_law_553 : decode b_Law_law 553 = .ok (.iconst 1, 1) := by decide +kernel
theorem d_Law_law_554 : decode b_Law_law 554 = .ok (.iadd, 1) := by decide +kernel
theorem d_Law_law_555 : decode b_Law_law 555 = .ok (.iaload, 1) := by decide +kernel
theorem d_Law_law_556 : decode b_Law_law 556 = .ok (.invokevirtual 111, 3) := by decide +kernel
theorem d_Law_law_559 : decode b_Law_law 559 = .ok (.istore 6, 2) := by decide +kernel
theorem d_Law_law_561 : decode b_Law_law 561 = .ok (.aload_n 2, 1) := by decide +kernel
theorem d_Law_law_562 : decode b_Law_law 562 = .ok (.invokevirtual 87, 3) := by decide +kernel
theorem d_Law_law_565 : decode b_Law_law 565 = .ok (.iload 5, 2) := by decide +kernel
theorem d_Law_law_567 : decode b_Law_law 567 = .ok (.if_icmp .eq 5, 3) := by decide +kernel
theorem d_Law_law_570 : decode b_Law_law 570 = .ok (.iconst 0, 1) := by decide +kernel
theorem d_Law_law_571 : decode b_Law_law 571 = .ok (.ireturn, 1) := by decide +kernel
theorem d_Law_law_572 : decode b_Law_law 572 = .ok (.iload 5, 2) := by decide +kernel
theorem d_Law_law_574 : decode b_Law_law 574 = .ok (.ifCond .ne 15, 3) := by decide +kernel
theorem d_Law_law_577 : decode b_Law_law 577 = .ok (.aload_n 3, 1) := by decide +kernel
theorem d_Law_law_578 : decode b_Law_law 578 = .ok (.iconst 0, 1) := by decide +kernel
theorem d_Law_law_579 : decode b_Law_law 579 = .ok (.laload, 1) := by decide +kernel
theorem d_Law_law_580 : decode b_Law_law 580 = .ok (.iload 6, 2) := by decide +kernel
theorem d_Law_law_582 : decode b_Law_law 582 = .ok (.i2l, 1) := by decide +kernel
theorem d_Law_law_583 : decode b_Law_law 583 = .ok (.lcmp, 1) := by decide +kernel
theorem d_Law_law_584 : decode b_Law_law 584 = .ok (.ifCond .eq 5, 3) := by decide +kernel
theorem d_Law_law_587 : decode b_Law_law 587 = .ok (.iconst 0, 1) := by decide +kernel
theorem d_Law_law_588 : decode b_Law_law 588 = .ok (.ireturn, 1) := by decide +kernel
theorem d_Law_law_589 : decode b_Law_law 589 = .ok (.goto 610, 3) := by decide +kernel
theorem d_Law_law_592 : decode b_Law_law 592 = .ok (.aload_n 1, 1) := by decide +kernel
theorem d_Law_law_593 : decode b_Law_law 593 = .ok (.aload_n 0, 1) := by decide +kernel
theorem d_Law_law_594 : decode b_Law_law 594 = .ok (.iload 4, 2) := by decide +kernel
theorem d_Law_law_596 : decode b_Law_law 596 = .ok (.iconst 1, 1) := by decide +kernel
theorem d_Law_law_597 : decode b_Law_law 597 = .ok (.iadd, 1) := by decide +kernel
theorem d_Law_law_598 : decode b_Law_law 598 = .ok (.iaload, 1) := by decide +kernel
theorem d_Law_law_599 : decode b_Law_law 599 = .ok (.aload_n 0, 1) := by decide +kernel
theorem d_Law_law_600 : decode b_Law_law 600 = .ok (.iload 4, 2) := by decide +kernel
theorem d_Law_law_602 : decode b_Law_law 602 = .ok (.iconst 2, 1) := by decide +kernel
theorem d_Law_law_603 : decode b_Law_law 603 = .ok (.iadd, 1) := by decide +kernel
theorem d_Law_law_604 : decode b_Law_law 604 = .ok (.iaload, 1) := by decide +kernel
theorem d_Law_law_605 : decode b_Law_law 605 = .ok (.aload_n 0, 1) := by decide +kernel
theorem d_Law_law_606 : decode b_Law_law 606 = .ok (.iload 4, 2) := by decide +kernel
theorem d_Law_law_608 : decode b_Law_law 608 = .ok (.iconst 3, 1) := by decide +kernel
theorem d_Law_law_609 : decode b_Law_law 609 = .ok (.iadd, 1) := by decide +kernel
theorem d_Law_law_610 : decode b_Law_law 610 = .ok (.iaload, 1) := by decide +kernel
theorem d_Law_law_611 : decode b_Law_law 611 = .ok (.ifCond .eq 7, 3) := by decide +kernel
theorem d_Law_law_614 : decode b_Law_law 614 = .ok (.iconst 1, 1) := by decide +kernel
theorem d_Law_law_615 : decode b_Law_law 615 = .ok (.goto 4, 3) := by decide +kernel
theorem d_Law_law_618 : decode b_Law_law 618 = .ok (.iconst 0, 1) := by decide +kernel
theorem d_Law_law_619 : decode b_Law_law 619 = .ok (.aload_n 3, 1) := by decide +kernel
theorem d_Law_law_620 : decode b_Law_law 620 = .ok (.invokestatic 112, 3) := by decide +kernel
theorem d_Law_law_623 : decode b_Law_law 623 = .ok (.istore 5, 2) := by decide +kernel
theorem d_Law_law_625 : decode b_Law_law 625 = .ok (.aload_n 2, 1) := by decide +kernel
theorem d_Law_law_626 : decode b_Law_law 626 = .ok (.aload_n 0, 1) := by decide +kernel
theorem d_Law_law_627 : decode b_Law_law 627 = .ok (.iload 4, 2) := by decide +kernel
theorem d_Law_law_629 : decode b_Law_law 629 = .ok (.iconst 1, 1) := by decide +kernel
theorem d_Law_law_630 : decode b_Law_law 630 = .ok (.iadd, 1) := by decide +kernel
theorem d_Law_law_631 : decode b_Law_law 631 = .ok (.iaload, 1) := by decide +kernel
theorem d_Law_law_632 : decode b_Law_law 632 = .ok (.aload_n 0, 1) := by decide +kernel
theorem d_Law_law_633 : decode b_Law_law 633 = .ok (.iload 4, 2) := by decide +kernel
theorem d_Law_law_635 : decode b_Law_law 635 = .ok (.iconst 2, 1) := by decide +kernel
theorem d_Law_law_636 : decode b_Law_law 636 = .ok (.iadd, 1) := by decide +kernel
theorem d_Law_law_637 : decode b_Law_law 637 = .ok (.iaload, 1) := by decide +kernel
theorem d_Law_law_638 : decode b_Law_law 638 = .ok (.aload_n 0, 1) := by decide +kernel
theorem d_Law_law_639 : decode b_Law_law 639 = .ok (.iload 4, 2) := by decide +kernel
theorem d_Law_law_641 : decode b_Law_law 641 = .ok (.iconst 3, 1) := by decide +kernel
theorem d_Law_law_642 : decode b_Law_law 642 = .ok (.iadd, 1) := by decide +kernel
theorem d_Law_law_643 : decode b_Law_law 643 = .ok (.iaload, 1) := by decide +kernel
theorem d_Law_law_644 : decode b_Law_law 644 = .ok (.ifCond .eq 7, 3) := by decide +kernel
theorem d_Law_law_647 : decode b_Law_law 647 = .ok (.iconst 1, 1) := by decide +kernel
theorem d_Law_law_648 : decode b_Law_law 648 = .ok (.goto 4, 3) := by decide +kernel
theorem d_Law_law_651 : decode b_Law_law 651 = .ok (.iconst 0, 1) := by decide +kernel
theorem d_Law_law_652 : decode b_Law_law 652 = .ok (.invokevirtual 115, 3) := by decide +kernel
theorem d_Law_law_655 : decode b_Law_law 655 = .ok (.istore 6, 2) := by decide +kernel
theorem d_Law_law_657 : decode b_Law_law 657 = .ok (.aload_n 2, 1) := by decide +kernel
theorem d_Law_law_658 : decode b_Law_law 658 = .ok (.invokevirtual 87, 3) := by decide +kernel
theorem d_Law_law_661 : decode b_Law_law 661 = .ok (.iload 5, 2) := by decide +kernel
theorem d_Law_law_663 : decode b_Law_law 663 = .ok (.if_icmp .eq 5, 3) := by decide +kernel
theorem d_Law_law_666 : decode b_Law_law 666 = .ok (.iconst 0, 1) := by decide +kernel
theorem d_Law_law_667 : decode b_Law_law 667 = .ok (.ireturn, 1) := by decide +kernel
theorem d_Law_law_668 : decode b_Law_law 668 = .ok (.iload 5, 2) := by decide +kernel
theorem d_Law_law_670 : decode b_Law_law 670 = .ok (.ifCond .ne 22, 3) := by decide +kernel
theorem d_Law_law_673 : decode b_Law_law 673 = .ok (.aload_n 3, 1) := by decide +kernel
theorem d_Law_law_674 : decode b_Law_law 674 = .ok (.iconst 0, 1) := by decide +kernel
theorem d_Law_law_675 : decode b_Law_law 675 = .ok (.laload, 1) := by decide +kernel
theorem d_Law_law_676 : decode b_Law_law 676 = .ok (.iload 6, 2) := by decide +kernel
theorem d_Law_law_678 : decode b_Law_law 678 = .ok (.ifCond .eq 7, 3) := by decide +kernel
theorem d_Law_law_681 : decode b_Law_law 681 = .ok (.lconst 1, 1) := by decide +kernel
theorem d_Law_law_682 : decode b_Law_law 682 = .ok (.goto 4, 3) := by decide +kernel
theorem d_Law_law_685 : decode b_Law_law 685 = .ok (.lconst 0, 1) := by decide +kernel
theorem d_Law_law_686 : decode b_Law_law 686 = .ok (.lcmp, 1) := by decide +kernel
theorem d_Law_law_687 : decode b_Law_law 687 = .ok (.ifCond .eq 5, 3) := by decide +kernel
theorem d_Law_law_690 : decode b_Law_law 690 = .ok (.iconst 0, 1) := by decide +kernel
theorem d_Law_law_691 : decode b_Law_law 691 = .ok (.ireturn, 1) := by decide +kernel
theorem d_Law_law_692 : decode b_Law_law 692 = .ok (.goto 507, 3) := by decide +kernel
theorem d_Law_law_695 : decode b_Law_law 695 = .ok (.aload_n 1, 1) := by decide +kernel
theorem d_Law_law_696 : decode b_Law_law 696 = .ok (.aload_n 0, 1) := by decide +kernel
theorem d_Law_law_697 : decode b_Law_law 697 = .ok (.iload 4, 2) := by decide +kernel
theorem d_Law_law_699 : decode b_Law_law 699 = .ok (.iconst 1, 1) := by decide +kernel
theorem d_Law_law_700 : decode b_Law_law 700 = .ok (.iadd, 1) := by decide +kernel
theorem d_Law_law_701 : decode b_Law_law 701 = .ok (.iaload, 1) := by decide +kernel
theorem d_Law_law_702 : decode b_Law_law 702 = .ok (.aload_n 0, 1) := by decide +kernel
theorem d_Law_law_703 : decode b_Law_law 703 = .ok (.iload 4, 2) := by decide +kernel
theorem d_Law_law_705 : decode b_Law_law 705 = .ok (.iconst 2, 1) := by decide +kernel
theorem d_Law_law_706 : decode b_Law_law 706 = .ok (.iadd, 1) := by decide +kernel
theorem d_Law_law_707 : decode b_Law_law 707 = .ok (.iaload, 1) := by decide +kernel
theorem d_Law_law_708 : decode b_Law_law 708 = .ok (.aload_n 3, 1) := by decide +kernel
theorem d_Law_law_709 : decode b_Law_law 709 = .ok (.invokestatic 116, 3) := by decide +kernel
theorem d_Law_law_712 : decode b_Law_law 712 = .ok (.istore 5, 2) := by decide +kernel
theorem d_Law_law_714 : decode b_Law_law 714 = .ok (.aload_n 2, 1) := by decide +kernel
theorem d_Law_law_715 : decode b_Law_law 715 = .ok (.aload_n 0, 1) := by decide +kernel
theorem d_Law_law_716 : decode b_Law_law 716 = .ok (.iload 4, 2) := by decide +kernel
theorem d_Law_law_718 : decode b_Law_law 718 = .ok (.iconst 1, 1) := by decide +kernel
theorem d_Law_law_719 : decode b_Law_law 719 = .ok (.iadd, 1) := by decide +kernel
theorem d_Law_law_720 : decode b_Law_law 720 = .ok (.iaload, 1) := by decide +kernel
theorem d_Law_law_721 : decode b_Law_law 721 = .ok (.aload_n 0, 1) := by decide +kernel
theorem d_Law_law_722 : decode b_Law_law 722 = .ok (.iload 4, 2) := by decide +kernel
theorem d_Law_law_724 : decode b_Law_law 724 = .ok (.iconst 2, 1) := by decide +kernel
theorem d_Law_law_725 : decode b_Law_law 725 = .ok (.iadd, 1) := by decide +kernel
theorem d_Law_law_726 : decode b_Law_law 726 = .ok (.iaload, 1) := by decide +kernel
theorem d_Law_law_727 : decode b_Law_law 727 = .ok (.invokevirtual 118, 3) := by decide +kernel
theorem d_Law_law_730 : decode b_Law_law 730 = .ok (.istore 6, 2) := by decide +kernel
theorem d_Law_law_732 : decode b_Law_law 732 = .ok (.aload_n 2, 1) := by decide +kernel
theorem d_Law_law_733 : decode b_Law_law 733 = .ok (.invokevirtual 87, 3) := by decide +kernel
theorem d_Law_law_736 : decode b_Law_law 736 = .ok (.iload 5, 2) := by decide +kernel
theorem d_Law_law_738 : decode b_Law_law 738 = .ok (.if_icmp .eq 5, 3) := by decide +kernel
theorem d_Law_law_741 : decode b_Law_law 741 = .ok (.iconst 0, 1) := by decide +kernel
theorem d_Law_law_742 : decode b_Law_law 742 = .ok (.ireturn, 1) := by decide +kernel
theorem d_Law_law_743 : decode b_Law_law 743 = .ok (.iload 5, 2) := by decide +kernel
theorem d_Law_law_745 : decode b_Law_law 745 = .ok (.ifCond .ne 15, 3) := by decide +kernel
theorem d_Law_law_748 : decode b_Law_law 748 = .ok (.aload_n 3, 1) := by decide +kernel
theorem d_Law_law_749 : decode b_Law_law 749 = .ok (.iconst 0, 1) := by decide +kernel
theorem d_Law_law_750 : decode b_Law_law 750 = .ok (.laload, 1) := by decide +kernel
theorem d_Law_law_751 : decode b_Law_law 751 = .ok (.iload 6, 2) := by decide +kernel
theorem d_Law_law_753 : decode b_Law_law 753 = .ok (.i2l, 1) := by decide +kernel
theorem d_Law_law_754 : decode b_Law_law 754 = .ok (.lcmp, 1) := by decide +kernel
theorem d_Law_law_755 : decode b_Law_law 755 = .ok (.ifCond .eq 5, 3) := by decide +kernel
theorem d_Law_law_758 : decode b_Law_law 758 = .ok (.iconst 0, 1) := by decide +kernel
theorem d_Law_law_759 : decode b_Law_law 759 = .ok (.ireturn, 1) := by decide +kernel
theorem d_Law_law_760 : decode b_Law_law 760 = .ok (.goto 439, 3) := by decide +kernel
theorem d_Law_law_763 : decode b_Law_law 763 = .ok (.aload_n 1, 1) := by decide +kernel
theorem d_Law_law_764 : decode b_Law_law 764 = .ok (.aload_n 0, 1) := by decide +kernel
theorem d_Law_law_765 : decode b_Law_law 765 = .ok (.iload 4, 2) := by decide +kernel
theorem d_Law_law_767 : decode b_Law_law 767 = .ok (.iconst 1, 1) := by decide +kernel
theorem d_Law_law_768 : decode b_Law_law 768 = .ok (.iadd, 1) := by decide +kernel
theorem d_Law_law_769 : decode b_Law_law 769 = .ok (.iaload, 1) := by decide +kernel
theorem d_Law_law_770 : decode b_Law_law 770 = .ok (.aload_n 0, 1) := by decide +kernel
theorem d_Law_law_771 : decode b_Law_law 771 = .ok (.iload 4, 2) := by decide +kernel
theorem d_Law_law_773 : decode b_Law_law 773 = .ok (.iconst 2, 1) := by decide +kernel
theorem d_Law_law_774 : decode b_Law_law 774 = .ok (.iadd, 1) := by decide +kernel
theorem d_Law_law_775 : decode b_Law_law 775 = .ok (.iaload, 1) := by decide +kernel
theorem d_Law_law_776 : decode b_Law_law 776 = .ok (.aload_n 3, 1) := by decide +kernel
theorem d_Law_law_777 : decode b_Law_law 777 = .ok (.invokestatic 119, 3) := by decide +kernel
theorem d_Law_law_780 : decode b_Law_law 780 = .ok (.istore 5, 2) := by decide +kernel
theorem d_Law_law_782 : decode b_Law_law 782 = .ok (.aload_n 2, 1) := by decide +kernel
theorem d_Law_law_783 : decode b_Law_law 783 = .ok (.aload_n 0, 1) := by decide +kernel
theorem d_Law_law_784 : decode b_Law_law 784 = .ok (.iload 4, 2) := by decide +kernel
theorem d_Law_law_786 : decode b_Law_law 786 = .ok (.iconst 1, 1) := by decide +kernel
theorem d_Law_law_787 : decode b_Law_law 787 = .ok (.iadd, 1) := by decide +kernel
theorem d_Law_law_788 : decode b_Law_law 788 = .ok (.iaload, 1) := by decide +kernel
theorem d_Law_law_789 : decode b_Law_law 789 = .ok (.aload_n 0, 1) := by decide +kernel
theorem d_Law_law_790 : decode b_Law_law 790 = .ok (.iload 4, 2) := by decide +kernel
theorem d_Law_law_792 : decode b_Law_law 792 = .ok (.iconst 2, 1) := by decide +kernel
theorem d_Law_law_793 : decode b_Law_law 793 = .ok (.iadd, 1) := by decide +kernel
theorem d_Law_law_794 : decode b_Law_law 794 = .ok (.iaload, 1) := by decide +kernel
theorem d_Law_law_795 : decode b_Law_law 795 = .ok (.invokevirtual 121, 3) := by decide +kernel
theorem d_Law_law_798 : decode b_Law_law 798 = .ok (.istore 6, 2) := by decide +kernel
theorem d_Law_law_800 : decode b_Law_law 800 = .ok (.aload_n 2, 1) := by decide +kernel
theorem d_Law_law_801 : decode b_Law_law 801 = .ok (.invokevirtual 87, 3) := by decide +kernel
theorem d_Law_law_804 : decode b_Law_law 804 = .ok (.iload 5, 2) := by decide +kernel
theorem d_Law_law_806 : decode b_Law_law 806 = .ok (.if_icmp .eq 5, 3) := by decide +kernel
theorem d_Law_law_809 : decode b_Law_law 809 = .ok (.iconst 0, 1) := by decide +kernel
theorem d_Law_law_810 : decode b_Law_law 810 = .ok (.ireturn, 1) := by decide +kernel
theorem d_Law_law_811 : decode b_Law_law 811 = .ok (.iload 5, 2) := by decide +kernel
theorem d_Law_law_813 : decode b_Law_law 813 = .ok (.ifCond .ne 15, 3) := by decide +kernel
theorem d_Law_law_816 : decode b_Law_law 816 = .ok (.aload_n 3, 1) := by decide +kernel
theorem d_Law_law_817 : decode b_Law_law 817 = .ok (.iconst 0, 1) := by decide +kernel
theorem d_Law_law_818 : decode b_Law_law 818 = .ok (.laload, 1) := by decide +kernel
theorem d_Law_law_819 : decode b_Law_law 819 = .ok (.iload 6, 2) := by decide +kernel
theorem d_Law_law_821 : decode b_Law_law 821 = .ok (.i2l, 1) := by decide +kernel
theorem d_Law_law_822 : decode b_Law_law 822 = .ok (.lcmp, 1) := by decide +kernel
theorem d_Law_law_823 : decode b_Law_law 823 = .ok (.ifCond .eq 5, 3) := by decide +kernel
theorem d_Law_law_826 : decode b_Law_law 826 = .ok (.iconst 0, 1) := by decide +kernel
theorem d_Law_law_827 : decode b_Law_law 827 = .ok (.ireturn, 1) := by decide +kernel
theorem d_Law_law_828 : decode b_Law_law 828 = .ok (.goto 371, 3) := by decide +kernel
theorem d_Law_law_831 : decode b_Law_law 831 = .ok (.aload_n 1, 1) := by decide +kernel
theorem d_Law_law_832 : decode b_Law_law 832 = .ok (.aload_n 0, 1) := by decide +kernel
theorem d_Law_law_833 : decode b_Law_law 833 = .ok (.iload 4, 2) := by decide +kernel
theorem d_Law_law_835 : decode b_Law_law 835 = .ok (.iconst 1, 1) := by decide +kernel
theorem d_Law_law_836 : decode b_Law_law 836 = .ok (.iadd, 1) := by decide +kernel
theorem d_Law_law_837 : decode b_Law_law 837 = .ok (.iaload, 1) := by decide +kernel
theorem d_Law_law_838 : decode b_Law_law 838 = .ok (.aload_n 0, 1) := by decide +kernel
theorem d_Law_law_839 : decode b_Law_law 839 = .ok (.iload 4, 2) := by decide +kernel
theorem d_Law_law_841 : decode b_Law_law 841 = .ok (.iconst 2, 1) := by decide +kernel
theorem d_Law_law_842 : decode b_Law_law 842 = .ok (.iadd, 1) := by decide +kernel
theorem d_Law_law_843 : decode b_Law_law 843 = .ok (.iaload, 1) := by decide +kernel
theorem d_Law_law_844 : decode b_Law_law 844 = .ok (.aload_n 3, 1) := by decide +kernel
theorem d_Law_law_845 : decode b_Law_law 845 = .ok (.invokestatic 122, 3) := by decide +kernel
theorem d_Law_law_848 : decode b_Law_law 848 = .ok (.istore 5, 2) := by decide +kernel
theorem d_Law_law_850 : decode b_Law_law 850 = .ok (.aload_n 2, 1) := by decide +kernel
theorem d_Law_law_851 : decode b_Law_law 851 = .ok (.aload_n 0, 1) := by decide +kernel
theorem d_Law_law_852 : decode b_Law_law 852 = .ok (.iload 4, 2) := by decide +kernel
theorem d_Law_law_854 : decode b_Law_law 854 = .ok (.iconst 1, 1) := by decide +kernel
theorem d_Law_law_855 : decode b_Law_law 855 = .ok (.iadd, 1) := by decide +kernel
theorem d_Law_law_856 : decode b_Law_law 856 = .ok (.iaload, 1) := by decide +kernel
theorem d_Law_law_857 : decode b_Law_law 857 = .ok (.aload_n 0, 1) := by decide +kernel
theorem d_Law_law_858 : decode b_Law_law 858 = .ok (.iload 4, 2) := by decide +kernel
theorem d_Law_law_860 : decode b_Law_law 860 = .ok (.iconst 2, 1) := by decide +kernel
theorem d_Law_law_861 : decode b_Law_law 861 = .ok (.iadd, 1) := by decide +kernel
theorem d_Law_law_862 : decode b_Law_law 862 = .ok (.iaload, 1) := by decide +kernel
theorem d_Law_law_863 : decode b_Law_law 863 = .ok (.invokevirtual 124, 3) := by decide +kernel
theorem d_Law_law_866 : decode b_Law_law 866 = .ok (.istore 6, 2) := by decide +kernel
theorem d_Law_law_868 : decode b_Law_law 868 = .ok (.aload_n 2, 1) := by decide +kernel
theorem d_Law_law_869 : decode b_Law_law 869 = .ok (.invokevirtual 87, 3) := by decide +kernel
theorem d_Law_law_872 : decode b_Law_law 872 = .ok (.iload 5, 2) := by decide +kernel
theorem d_Law_law_874 : decode b_Law_law 874 = .ok (.if_icmp .eq 5, 3) := by decide +kernel
theorem d_Law_law_877 : decode b_Law_law 877 = .ok (.iconst 0, 1) := by decide +kernel
theorem d_Law_law_878 : decode b_Law_law 878 = .ok (.ireturn, 1) := by decide +kernel
theorem d_Law_law_879 : decode b_Law_law 879 = .ok (.iload 5, 2) := by decide +kernel
theorem d_Law_law_881 : decode b_Law_law 881 = .ok (.ifCond .ne 15, 3) := by decide +kernel
theorem d_Law_law_884 : decode b_Law_law 884 = .ok (.aload_n 3, 1) := by decide +kernel
theorem d_Law_law_885 : decode b_Law_law 885 = .ok (.iconst 0, 1) := by decide +kernel
theorem d_Law_law_886 : decode b_Law_law 886 = .ok (.laload, 1) := by decide +kernel
theorem d_Law_law_887 : decode b_Law_law 887 = .ok (.iload 6, 2) := by decide +kernel
theorem d_Law_law_889 : decode b_Law_law 889 = .ok (.i2l, 1) := by decide +kernel
theorem d_Law_law_890 : decode b_Law_law 890 = .ok (.lcmp, 1) := by decide +kernel
theorem d_Law_law_891 : decode b_Law_law 891 = .ok (.ifCond .eq 5, 3) := by decide +kernel
theorem d_Law_law_894 : decode b_Law_law 894 = .ok (.iconst 0, 1) := by decide +kernel
theorem d_Law_law_895 : decode b_Law_law 895 = .ok (.ireturn, 1) := by decide +kernel
theorem d_Law_law_896 : decode b_Law_law 896 = .ok (.goto 303, 3) := by decide +kernel
theorem d_Law_law_899 : decode b_Law_law 899 = .ok (.aload_n 1, 1) := by decide +kernel
theorem d_Law_law_900 : decode b_Law_law 900 = .ok (.aload_n 0, 1) := by decide +kernel
theorem d_Law_law_901 : decode b_Law_law 901 = .ok (.iload 4, 2) := by decide +kernel
theorem d_Law_law_903 : decode b_Law_law 903 = .ok (.iconst 1, 1) := by decide +kernel
theorem d_Law_law_904 : decode b_Law_law 904 = .ok (.iadd, 1) := by decide +kernel
theorem d_Law_law_905 : decode b_Law_law 905 = .ok (.iaload, 1) := by decide +kernel
theorem d_Law_law_906 : decode b_Law_law 906 = .ok (.aload_n 0, 1) := by decide +kernel
theorem d_Law_law_907 : decode b_Law_law 907 = .ok (.iload 4, 2) := by decide +kernel
theorem d_Law_law_909 : decode b_Law_law 909 = .ok (.iconst 2, 1) := by decide +kernel
theorem d_Law_law_910 : decode b_Law_law 910 = .ok (.iadd, 1) := by decide +kernel
theorem d_Law_law_911 : decode b_Law_law 911 = .ok (.iaload, 1) := by decide +kernel
theorem d_Law_law_912 : decode b_Law_law 912 = .ok (.aload_n 3, 1) := by decide +kernel
theorem d_Law_law_913 : decode b_Law_law 913 = .ok (.invokestatic 125, 3) := by decide +kernel
theorem d_Law_law_916 : decode b_Law_law 916 = .ok (.istore 5, 2) := by decide +kernel
theorem d_Law_law_918 : decode b_Law_law 918 = .ok (.aload_n 2, 1) := by decide +kernel
theorem d_Law_law_919 : decode b_Law_law 919 = .ok (.aload_n 0, 1) := by decide +kernel
theorem d_Law_law_920 : decode b_Law_law 920 = .ok (.iload 4, 2) := by decide +kernel
theorem d_Law_law_922 : decode b_Law_law 922 = .ok (.iconst 1, 1) := by decide +kernel
theorem d_Law_law_923 : decode b_Law_law 923 = .ok (.iadd, 1) := by decide +kernel
theorem d_Law_law_924 : decode b_Law_law 924 = .ok (.iaload, 1) := by decide +kernel
theorem d_Law_law_925 : decode b_Law_law 925 = .ok (.aload_n 0, 1) := by decide +kernel
theorem d_Law_law_926 : decode b_Law_law 926 = .ok (.iload 4, 2) := by decide +kernel
theorem d_Law_law_928 : decode b_Law_law 928 = .ok (.iconst 2, 1) := by decide +kernel
theorem d_Law_law_929 : decode b_Law_law 929 = .ok (.iadd, 1) := by decide +kernel
theorem d_Law_law_930 : decode b_Law_law 930 = .ok (.iaload, 1) := by decide +kernel
theorem d_Law_law_931 : decode b_Law_law 931 = .ok (.invokevirtual 127, 3) := by decide +kernel
theorem d_Law_law_934 : decode b_Law_law 934 = .ok (.istore 6, 2) := by decide +kernel
theorem d_Law_law_936 : decode b_Law_law 936 = .ok (.aload_n 2, 1) := by decide +kernel
theorem d_Law_law_937 : decode b_Law_law 937 = .ok (.invokevirtual 87, 3) := by decide +kernel
theorem d_Law_law_940 : decode b_Law_law 940 = .ok (.iload 5, 2) := by decide +kernel
theorem d_Law_law_942 : decode b_Law_law 942 = .ok (.if_icmp .eq 5, 3) := by decide +kernel
theorem d_Law_law_945 : decode b_Law_law 945 = .ok (.iconst 0, 1) := by decide +kernel
theorem d_Law_law_946 : decode b_Law_law 946 = .ok (.ireturn, 1) := by decide +kernel
theorem d_Law_law_947 : decode b_Law_law 947 = .ok (.iload 5, 2) := by decide +kernel
theorem d_Law_law_949 : decode b_Law_law 949 = .ok (.ifCond .ne 15, 3) := by decide +kernel
theorem d_Law_law_952 : decode b_Law_law 952 = .ok (.aload_n 3, 1) := by decide +kernel
theorem d_Law_law_953 : decode b_Law_law 953 = .ok (.iconst 0, 1) := by decide +kernel
theorem d_Law_law_954 : decode b_Law_law 954 = .ok (.laload, 1) := by decide +kernel
theorem d_Law_law_955 : decode b_Law_law 955 = .ok (.iload 6, 2) := by decide +kernel
theorem d_Law_law_957 : decode b_Law_law 957 = .ok (.i2l, 1) := by decide +kernel
theorem d_Law_law_958 : decode b_Law_law 958 = .ok (.lcmp, 1) := by decide +kernel
theorem d_Law_law_959 : decode b_Law_law 959 = .ok (.ifCond .eq 5, 3) := by decide +kernel
theorem d_Law_law_962 : decode b_Law_law 962 = .ok (.iconst 0, 1) := by decide +kernel
theorem d_Law_law_963 : decode b_Law_law 963 = .ok (.ireturn, 1) := by decide +kernel
theorem d_Law_law_964 : decode b_Law_law 964 = .ok (.goto 235, 3) := by decide +kernel
theorem d_Law_law_967 : decode b_Law_law 967 = .ok (.aload_n 1, 1) := by decide +kernel
theorem d_Law_law_968 : decode b_Law_law 968 = .ok (.aload_n 0, 1) := by decide +kernel
theorem d_Law_law_969 : decode b_Law_law 969 = .ok (.iload 4, 2) := by decide +kernel
theorem d_Law_law_971 : decode b_Law_law 971 = .ok (.iconst 1, 1) := by decide +kernel
theorem d_Law_law_972 : decode b_Law_law 972 = .ok (.iadd, 1) := by decide +kernel
theorem d_Law_law_973 : decode b_Law_law 973 = .ok (.iaload, 1) := by decide +kernel
theorem d_Law_law_974 : decode b_Law_law 974 = .ok (.aload_n 0, 1) := by decide +kernel
theorem d_Law_law_975 : decode b_Law_law 975 = .ok (.iload 4, 2) := by decide +kernel
theorem d_Law_law_977 : decode b_Law_law 977 = .ok (.iconst 2, 1) := by decide +kernel
theorem d_Law_law_978 : decode b_Law_law 978 = .ok (.iadd, 1) := by decide +kernel
theorem d_Law_law_979 : decode b_Law_law 979 = .ok (.iaload, 1) := by decide +kernel
theorem d_Law_law_980 : decode b_Law_law 980 = .ok (.aload_n 3, 1) := by decide +kernel
theorem d_Law_law_981 : decode b_Law_law 981 = .ok (.invokestatic 128, 3) := by decide +kernel
theorem d_Law_law_984 : decode b_Law_law 984 = .ok (.istore 5, 2) := by decide +kernel
theorem d_Law_law_986 : decode b_Law_law 986 = .ok (.aload_n 2, 1) := by decide +kernel
theorem d_Law_law_987 : decode b_Law_law 987 = .ok (.aload_n 0, 1) := by decide +kernel
theorem d_Law_law_988 : decode b_Law_law 988 = .ok (.iload 4, 2) := by decide +kernel
theorem d_Law_law_990 : decode b_Law_law 990 = .ok (.iconst 1, 1) := by decide +kernel
theorem d_Law_law_991 : decode b_Law_law 991 = .ok (.iadd, 1) := by decide +kernel
theorem d_Law_law_992 : decode b_Law_law 992 = .ok (.iaload, 1) := by decide +kernel
theorem d_Law_law_993 : decode b_Law_law 993 = .ok (.aload_n 0, 1) := by decide +kernel
theorem d_Law_law_994 : decode b_Law_law 994 = .ok (.iload 4, 2) := by decide +kernel
theorem d_Law_law_996 : decode b_Law_law 996 = .ok (.iconst 2, 1) := by decide +kernel
theorem d_Law_law_997 : decode b_Law_law 997 = .ok (.iadd, 1) := by decide +kernel
theorem d_Law_law_998 : decode b_Law_law 998 = .ok (.iaload, 1) := by decide +kernel
theorem d_Law_law_999 : decode b_Law_law 999 = .ok (.invokevirtual 130, 3) := by decide +kernel
theorem d_Law_law_1002 : decode b_Law_law 1002 = .ok (.istore 6, 2) := by decide +kernel
theorem d_Law_law_1004 : decode b_Law_law 1004 = .ok (.aload_n 2, 1) := by decide +kernel
theorem d_Law_law_1005 : decode b_Law_law 1005 = .ok (.invokevirtual 87, 3) := by decide +kernel
theorem d_Law_law_1008 : decode b_Law_law 1008 = .ok (.iload 5, 2) := by decide +kernel
theorem d_Law_law_1010 : decode b_Law_law 1010 = .ok (.if_icmp .eq 5, 3) := by decide +kernel
theorem d_Law_law_1013 : decode b_Law_law 1013 = .ok (.iconst 0, 1) := by decide +kernel
theorem d_Law_law_1014 : decode b_Law_law 1014 = .ok (.ireturn, 1) := by decide +kernel
theorem d_Law_law_1015 : decode b_Law_law 1015 = .ok (.iload 5, 2) := by decide +kernel
theorem d_Law_law_1017 : decode b_Law_law 1017 = .ok (.ifCond .ne 15, 3) := by decide +kernel
theorem d_Law_law_1020 : decode b_Law_law 1020 = .ok (.aload_n 3, 1) := by decide +kernel
theorem d_Law_law_1021 : decode b_Law_law 1021 = .ok (.iconst 0, 1) := by decide +kernel
theorem d_Law_law_1022 : decode b_Law_law 1022 = .ok (.laload, 1) := by decide +kernel
theorem d_Law_law_1023 : decode b_Law_law 1023 = .ok (.iload 6, 2) := by decide +kernel
theorem d_Law_law_1025 : decode b_Law_law 1025 = .ok (.i2l, 1) := by decide +kernel
theorem d_Law_law_1026 : decode b_Law_law 1026 = .ok (.lcmp, 1) := by decide +kernel
theorem d_Law_law_1027 : decode b_Law_law 1027 = .ok (.ifCond .eq 5, 3) := by decide +kernel
theorem d_Law_law_1030 : decode b_Law_law 1030 = .ok (.iconst 0, 1) := by decide +kernel
theorem d_Law_law_1031 : decode b_Law_law 1031 = .ok (.ireturn, 1) := by decide +kernel
theorem d_Law_law_1032 : decode b_Law_law 1032 = .ok (.goto 167, 3) := by decide +kernel
theorem d_Law_law_1035 : decode b_Law_law 1035 = .ok (.aload_n 1, 1) := by decide +kernel
theorem d_Law_law_1036 : decode b_Law_law 1036 = .ok (.aload_n 0, 1) := by decide +kernel
theorem d_Law_law_1037 : decode b_Law_law 1037 = .ok (.iload 4, 2) := by decide +kernel
theorem d_Law_law_1039 : decode b_Law_law 1039 = .ok (.iconst 1, 1) := by decide +kernel
theorem d_Law_law_1040 : decode b_Law_law 1040 = .ok (.iadd, 1) := by decide +kernel
theorem d_Law_law_1041 : decode b_Law_law 1041 = .ok (.iaload, 1) := by decide +kernel
theorem d_Law_law_1042 : decode b_Law_law 1042 = .ok (.aload_n 0, 1) := by decide +kernel
theorem d_Law_law_1043 : decode b_Law_law 1043 = .ok (.iload 4, 2) := by decide +kernel
theorem d_Law_law_1045 : decode b_Law_law 1045 = .ok (.iconst 2, 1) := by decide +kernel
theorem d_Law_law_1046 : decode b_Law_law 1046 = .ok (.iadd, 1) := by decide +kernel
theorem d_Law_law_1047 : decode b_Law_law 1047 = .ok (.iaload, 1) := by decide +kernel
theorem d_Law_law_1048 : decode b_Law_law 1048 = .ok (.aload_n 0, 1) := by decide +kernel
theorem d_Law_law_1049 : decode b_Law_law 1049 = .ok (.iload 4, 2) := by decide +kernel
theorem d_Law_law_1051 : decode b_Law_law 1051 = .ok (.iconst 3, 1) := by decide +kernel
theorem d_Law_law_1052 : decode b_Law_law 1052 = .ok (.iadd, 1) := by decide +kernel
theorem d_Law_law_1053 : decode b_Law_law 1053 = .ok (.iaload, 1) := by decide +kernel
theorem d_Law_law_1054 : decode b_Law_law 1054 = .ok (.aload_n 0, 1) := by decide +kernel
theorem d_Law_law_1055 : decode b_Law_law 1055 = .ok (.iload 4, 2) := by decide +kernel
theorem d_Law_law_1057 : decode b_Law_law 1057 = .ok (.iconst 4, 1) := by decide +kernel
theorem d_Law_law_1058 : decode b_Law_law 1058 = .ok (.iadd, 1) := by decide +kernel
theorem d_Law_law_1059 : decode b_Law_law 1059 = .ok (.iaload, 1) := by decide +kernel
theorem d_Law_law_1060 : decode b_Law_law 1060 = .ok (.ifCond .eq 7, 3) := by decide +kernel
theorem d_Law_law_1063 : decode b_Law_law 1063 = .ok (.iconst 1, 1) := by decide +kernel
theorem d_Law_law_1064 : decode b_Law_law 1064 = .ok (.goto 4, 3) := by decide +kernel
theorem d_Law_law_1067 : decode b_Law_law 1067 = .ok (.iconst 0, 1) := by decide +kernel
theorem d_Law_law_1068 : decode b_Law_law 1068 = .ok (.aload_n 3, 1) := by decide +kernel
theorem d_Law_law_1069 : decode b_Law_law 1069 = .ok (.invokestatic 131, 3) := by decide +kernel
theorem d_Law_law_1072 : decode b_Law_law 1072 = .ok (.istore 5, 2) := by decide +kernel
theorem d_Law_law_1074 : decode b_Law_law 1074 = .ok (.aload_n 2, 1) := by decide +kernel
theorem d_Law_law_1075 : decode b_Law_law 1075 = .ok (.aload_n 0, 1) := by decide +kernel
theorem d_Law_law_1076 : decode b_Law_law 1076 = .ok (.iload 4, 2) := by decide +kernel
theorem d_Law_law_1078 : decode b_Law_law 1078 = .ok (.iconst 1, 1) := by decide +kernel
theorem d_Law_law_1079 : decode b_Law_law 1079 = .ok (.iadd, 1) := by decide +kernel
theorem d_Law_law_1080 : decode b_Law_law 1080 = .ok (.iaload, 1) := by decide +kernel
theorem d_Law_law_1081 : decode b_Law_law 1081 = .ok (.aload_n 0, 1) := by decide +kernel
theorem d_Law_law_1082 : decode b_Law_law 1082 = .ok (.iload 4, 2) := by decide +kernel
theorem d_Law_law_1084 : decode b_Law_law 1084 = .ok (.iconst 2, 1) := by decide +kernel
theorem d_Law_law_1085 : decode b_Law_law 1085 = .ok (.iadd, 1) := by decide +kernel
theorem d_Law_law_1086 : decode b_Law_law 1086 = .ok (.iaload, 1) := by decide +kernel
theorem d_Law_law_1087 : decode b_Law_law 1087 = .ok (.aload_n 0, 1) := by decide +kernel
theorem d_Law_law_1088 : decode b_Law_law 1088 = .ok (.iload 4, 2) := by decide +kernel
theorem d_Law_law_1090 : decode b_Law_law 1090 = .ok (.iconst 3, 1) := by decide +kernel
theorem d_Law_law_1091 : decode b_Law_law 1091 = .ok (.iadd, 1) := by decide +kernel
theorem d_Law_law_1092 : decode b_Law_law 1092 = .ok (.iaload, 1) := by decide +kernel
theorem d_Law_law_1093 : decode b_Law_law 1093 = .ok (.aload_n 0, 1) := by decide +kernel
theorem d_Law_law_1094 : decode b_Law_law 1094 = .ok (.iload 4, 2) := by decide +kernel
theorem d_Law_law_1096 : decode b_Law_law 1096 = .ok (.iconst 4, 1) := by decide +kernel
theorem d_Law_law_1097 : decode b_Law_law 1097 = .ok (.iadd, 1) := by decide +kernel
theorem d_Law_law_1098 : decode b_Law_law 1098 = .ok (.iaload, 1) := by decide +kernel
theorem d_Law_law_1099 : decode b_Law_law 1099 = .ok (.ifCond .eq 7, 3) := by decide +kernel
theorem d_Law_law_1102 : decode b_Law_law 1102 = .ok (.iconst 1, 1) := by decide +kernel
theorem d_Law_law_1103 : decode b_Law_law 1103 = .ok (.goto 4, 3) := by decide +kernel
theorem d_Law_law_1106 : decode b_Law_law 1106 = .ok (.iconst 0, 1) := by decide +kernel
theorem d_Law_law_1107 : decode b_Law_law 1107 = .ok (.invokevirtual 134, 3) := by decide +kernel
theorem d_Law_law_1110 : decode b_Law_law 1110 = .ok (.istore 6, 2) := by decide +kernel
theorem d_Law_law_1112 : decode b_Law_law 1112 = .ok (.aload_n 2, 1) := by decide +kernel
theorem d_Law_law_1113 : decode b_Law_law 1113 = .ok (.invokevirtual 87, 3) := by decide +kernel
theorem d_Law_law_1116 : decode b_Law_law 1116 = .ok (.iload 5, 2) := by decide +kernel
theorem d_Law_law_1118 : decode b_Law_law 1118 = .ok (.if_icmp .eq 5, 3) := by decide +kernel
theorem d_Law_law_1121 : decode b_Law_law 1121 = .ok (.iconst 0, 1) := by decide +kernel
theorem d_Law_law_1122 : decode b_Law_law 1122 = .ok (.ireturn, 1) := by decide +kernel
theorem d_Law_law_1123 : decode b_Law_law 1123 = .ok (.iload 5, 2) := by decide +kernel
theorem d_Law_law_1125 : decode b_Law_law 1125 = .ok (.ifCond .ne 15, 3) := by decide +kernel
theorem d_Law_law_1128 : decode b_Law_law 1128 = .ok (.aload_n 3, 1) := by decide +kernel
theorem d_Law_law_1129 : decode b_Law_law 1129 = .ok (.iconst 0, 1) := by decide +kernel
theorem d_Law_law_1130 : decode b_Law_law 1130 = .ok (.laload, 1) := by decide +kernel
theorem d_Law_law_1131 : decode b_Law_law 1131 = .ok (.iload 6, 2) := by decide +kernel
theorem d_Law_law_1133 : decode b_Law_law 1133 = .ok (.i2l, 1) := by decide +kernel
theorem d_Law_law_1134 : decode b_Law_law 1134 = .ok (.lcmp, 1) := by decide +kernel
theorem d_Law_law_1135 : decode b_Law_law 1135 = .ok (.ifCond .eq 5, 3) := by decide +kernel
theorem d_Law_law_1138 : decode b_Law_law 1138 = .ok (.iconst 0, 1) := by decide +kernel
theorem d_Law_law_1139 : decode b_Law_law 1139 = .ok (.ireturn, 1) := by decide +kernel
theorem d_Law_law_1140 : decode b_Law_law 1140 = .ok (.goto 59, 3) := by decide +kernel
theorem d_Law_law_1143 : decode b_Law_law 1143 = .ok (.aload_n 1, 1) := by decide +kernel
theorem d_Law_law_1144 : decode b_Law_law 1144 = .ok (.aload_n 0, 1) := by decide +kernel
theorem d_Law_law_1145 : decode b_Law_law 1145 = .ok (.iload 4, 2) := by decide +kernel
theorem d_Law_law_1147 : decode b_Law_law 1147 = .ok (.iconst 1, 1) := by decide +kernel
theorem d_Law_law_1148 : decode b_Law_law 1148 = .ok (.iadd, 1) := by decide +kernel
theorem d_Law_law_1149 : decode b_Law_law 1149 = .ok (.iaload, 1) := by decide +kernel
theorem d_Law_law_1150 : decode b_Law_law 1150 = .ok (.aload_n 3, 1) := by decide +kernel
theorem d_Law_law_1151 : decode b_Law_law 1151 = .ok (.invokestatic 135, 3) := by decide +kernel
theorem d_Law_law_1154 : decode b_Law_law 1154 = .ok (.istore 5, 2) := by decide +kernel
theorem d_Law_law_1156 : decode b_Law_law 1156 = .ok (.aload_n 2, 1) := by decide +kernel
theorem d_Law_law_1157 : decode b_Law_law 1157 = .ok (.aload_n 0, 1) := by decide +kernel
theorem d_Law_law_1158 : decode b_Law_law 1158 = .ok (.iload 4, 2) := by decide +kernel
theorem d_Law_law_1160 : decode b_Law_law 1160 = .ok (.iconst 1, 1) := by decide +kernel
theorem d_Law_law_1161 : decode b_Law_law 1161 = .ok (.iadd, 1) := by decide +kernel
theorem d_Law_law_1162 : decode b_Law_law 1162 = .ok (.iaload, 1) := by decide +kernel
theorem d_Law_law_1163 : decode b_Law_law 1163 = .ok (.invokevirtual 137, 3) := by decide +kernel
theorem d_Law_law_1166 : decode b_Law_law 1166 = .ok (.istore 6, 2) := by decide +kernel
theorem d_Law_law_1168 : decode b_Law_law 1168 = .ok (.aload_n 2, 1) := by decide +kernel
theorem d_Law_law_1169 : decode b_Law_law 1169 = .ok (.invokevirtual 87, 3) := by decide +kernel
theorem d_Law_law_1172 : decode b_Law_law 1172 = .ok (.iload 5, 2) := by decide +kernel
theorem d_Law_law_1174 : decode b_Law_law 1174 = .ok (.if_icmp .eq 5, 3) := by decide +kernel
theorem d_Law_law_1177 : decode b_Law_law 1177 = .ok (.iconst 0, 1) := by decide +kernel
theorem d_Law_law_1178 : decode b_Law_law 1178 = .ok (.ireturn, 1) := by decide +kernel
theorem d_Law_law_1179 : decode b_Law_law 1179 = .ok (.iload 5, 2) := by decide +kernel
theorem d_Law_law_1181 : decode b_Law_law 1181 = .ok (.ifCond .ne 15, 3) := by decide +kernel
theorem d_Law_law_1184 : decode b_Law_law 1184 = .ok (.aload_n 3, 1) := by decide +kernel
theorem d_Law_law_1185 : decode b_Law_law 1185 = .ok (.iconst 0, 1) := by decide +kernel
theorem d_Law_law_1186 : decode b_Law_law 1186 = .ok (.laload, 1) := by decide +kernel
theorem d_Law_law_1187 : decode b_Law_law 1187 = .ok (.iload 6, 2) := by decide +kernel
theorem d_Law_law_1189 : decode b_Law_law 1189 = .ok (.i2l, 1) := by decide +kernel
theorem d_Law_law_1190 : decode b_Law_law 1190 = .ok (.lcmp, 1) := by decide +kernel
theorem d_Law_law_1191 : decode b_Law_law 1191 = .ok (.ifCond .eq 5, 3) := by decide +kernel
theorem d_Law_law_1194 : decode b_Law_law 1194 = .ok (.iconst 0, 1) := by decide +kernel
theorem d_Law_law_1195 : decode b_Law_law 1195 = .ok (.ireturn, 1) := by decide +kernel
theorem d_Law_law_1196 : decode b_Law_law 1196 = .ok (.goto 3, 3) := by decide +kernel
theorem d_Law_law_1199 : decode b_Law_law 1199 = .ok (.iinc 4 5, 3) := by decide +kernel
theorem d_Law_law_1202 : decode b_Law_law 1202 = .ok (.goto (-1169), 3) := by decide +kernel
theorem d_Law_law_1205 : decode b_Law_law 1205 = .ok (.iconst 1, 1) := by decide +kernel
theorem d_Law_law_1206 : decode b_Law_law 1206 = .ok (.ireturn, 1) := by decide +kernel
theorem d_Law_lock_0 : decode b_Law_lock 0 = .ok (.aload_n 3, 1) := by decide +kernel
theorem d_Law_lock_1 : decode b_Law_lock 1 = .ok (.iconst 0, 1) := by decide +kernel
theorem d_Law_lock_2 : decode b_Law_lock 2 = .ok (.aload_n 0, 1) := by decide +kernel
theorem d_Law_lock_3 : decode b_Law_lock 3 = .ok (.iload_n 1, 1) := by decide +kernel
theorem d_Law_lock_4 : decode b_Law_lock 4 = .ok (.iload_n 2, 1) := by decide +kernel
theorem d_Law_lock_5 : decode b_Law_lock 5 = .ok (.invokevirtual 55, 3) := by decide +kernel
theorem d_Law_lock_8 : decode b_Law_lock 8 = .ok (.i2l, 1) := by decide +kernel
theorem d_Law_lock_9 : decode b_Law_lock 9 = .ok (.lastore, 1) := by decide +kernel
theorem d_Law_lock_10 : decode b_Law_lock 10 = .ok (.goto 7, 3) := by decide +kernel
theorem d_Law_lock_13 : decode b_Law_lock 13 = .ok (.astore 4, 2) := by decide +kernel
theorem d_Law_lock_15 : decode b_Law_lock 15 = .ok (.iconst 1, 1) := by decide +kernel
theorem d_Law_lock_16 : decode b_Law_lock 16 = .ok (.ireturn, 1) := by decide +kernel
theorem d_Law_lock_17 : decode b_Law_lock 17 = .ok (.iconst 0, 1) := by decide +kernel
theorem d_Law_lock_18 : decode b_Law_lock 18 = .ok (.ireturn, 1) := by decide +kernel
theorem d_Law_lose_0 : decode b_Law_lose 0 = .ok (.aload_n 2, 1) := by decide +kernel
theorem d_Law_lose_1 : decode b_Law_lose 1 = .ok (.iconst 0, 1) := by decide +kernel
theorem d_Law_lose_2 : decode b_Law_lose 2 = .ok (.aload_n 0, 1) := by decide +kernel
theorem d_Law_lose_3 : decode b_Law_lose 3 = .ok (.iload_n 1, 1) := by decide +kernel
theorem d_Law_lose_4 : decode b_Law_lose 4 = .ok (.invokevirtual 42, 3) := by decide +kernel
theorem d_Law_lose_7 : decode b_Law_lose 7 = .ok (.i2l, 1) := by decide +kernel
theorem d_Law_lose_8 : decode b_Law_lose 8 = .ok (.lastore, 1) := by decide +kernel
theorem d_Law_lose_9 : decode b_Law_lose 9 = .ok (.goto 6, 3) := by decide +kernel
theorem d_Law_lose_12 : decode b_Law_lose 12 = .ok (.astore_n 3, 1) := by decide +kernel
theorem d_Law_lose_13 : decode b_Law_lose 13 = .ok (.iconst 1, 1) := by decide +kernel
theorem d_Law_lose_14 : decode b_Law_lose 14 = .ok (.ireturn, 1) := by decide +kernel
theorem d_Law_lose_15 : decode b_Law_lose 15 = .ok (.iconst 0, 1) := by decide +kernel
theorem d_Law_lose_16 : decode b_Law_lose 16 = .ok (.ireturn, 1) := by decide +kernel
theorem d_Law_outcome_0 : decode b_Law_outcome 0 = .ok (.aload_n 3, 1) := by decide +kernel
theorem d_Law_outcome_1 : decode b_Law_outcome 1 = .ok (.iconst 0, 1) := by decide +kernel
theorem d_Law_outcome_2 : decode b_Law_outcome 2 = .ok (.aload_n 0, 1) := by decide +kernel
theorem d_Law_outcome_3 : decode b_Law_outcome 3 = .ok (.iload_n 1, 1) := by decide +kernel
theorem d_Law_outcome_4 : decode b_Law_outcome 4 = .ok (.iload_n 2, 1) := by decide +kernel
theorem d_Law_outcome_5 : decode b_Law_outcome 5 = .ok (.invokevirtual 61, 3) := by decide +kernel
theorem d_Law_outcome_8 : decode b_Law_outcome 8 = .ok (.i2l, 1) := by decide +kernel
theorem d_Law_outcome_9 : decode b_Law_outcome 9 = .ok (.lastore, 1) := by decide +kernel
theorem d_Law_outcome_10 : decode b_Law_outcome 10 = .ok (.goto 15, 3) := by decide +kernel
theorem d_Law_outcome_13 : decode b_Law_outcome 13 = .ok (.astore 4, 2) := by decide +kernel
theorem d_Law_outcome_15 : decode b_Law_outcome 15 = .ok (.iconst 1, 1) := by decide +kernel
theorem d_Law_outcome_16 : decode b_Law_outcome 16 = .ok (.ireturn, 1) := by decide +kernel
theorem d_Law_outcome_17 : decode b_Law_outcome 17 = .ok (.astore 4, 2) := by decide +kernel
theorem d_Law_outcome_19 : decode b_Law_outcome 19 = .ok (.iconst 2, 1) := by decide +kernel
theorem d_Law_outcome_20 : decode b_Law_outcome 20 = .ok (.ireturn, 1) := by decide +kernel
theorem d_Law_outcome_21 : decode b_Law_outcome 21 = .ok (.astore 4, 2) := by decide +kernel
theorem d_Law_outcome_23 : decode b_Law_outcome 23 = .ok (.iconst 3, 1) := by decide +kernel
theorem d_Law_outcome_24 : decode b_Law_outcome 24 = .ok (.ireturn, 1) := by decide +kernel
theorem d_Law_outcome_25 : decode b_Law_outcome 25 = .ok (.iconst 0, 1) := by decide +kernel
theorem d_Law_outcome_26 : decode b_Law_outcome 26 = .ok (.ireturn, 1) := by decide +kernel
theorem d_Law_refuse_0 : decode b_Law_refuse 0 = .ok (.aload_n 3, 1) := by decide +kernel
theorem d_Law_refuse_1 : decode b_Law_refuse 1 = .ok (.iconst 0, 1) := by decide +kernel
theorem d_Law_refuse_2 : decode b_Law_refuse 2 = .ok (.aload_n 0, 1) := by decide +kernel
theorem d_Law_refuse_3 : decode b_Law_refuse 3 = .ok (.iload_n 1, 1) := by decide +kernel
theorem d_Law_refuse_4 : decode b_Law_refuse 4 = .ok (.iload_n 2, 1) := by decide +kernel
theorem d_Law_refuse_5 : decode b_Law_refuse 5 = .ok (.invokevirtual 29, 3) := by decide +kernel
theorem d_Law_refuse_8 : decode b_Law_refuse 8 = .ok (.i2l, 1) := by decide +kernel
theorem d_Law_refuse_9 : decode b_Law_refuse 9 = .ok (.lastore, 1) := by decide +kernel
theorem d_Law_refuse_10 : decode b_Law_refuse 10 = .ok (.goto 19, 3) := by decide +kernel
theorem d_Law_refuse_13 : decode b_Law_refuse 13 = .ok (.astore 4, 2) := by decide +kernel
theorem d_Law_refuse_15 : decode b_Law_refuse 15 = .ok (.iconst 1, 1) := by decide +kernel
theorem d_Law_refuse_16 : decode b_Law_refuse 16 = .ok (.ireturn, 1) := by decide +kernel
theorem d_Law_refuse_17 : decode b_Law_refuse 17 = .ok (.astore 4, 2) := by decide +kernel
theorem d_Law_refuse_19 : decode b_Law_refuse 19 = .ok (.iconst 2, 1) := by decide +kernel
theorem d_Law_refuse_20 : decode b_Law_refuse 20 = .ok (.ireturn, 1) := by decide +kernel
theorem d_Law_refuse_21 : decode b_Law_refuse 21 = .ok (.astore 4, 2) := by decide +kernel
theorem d_Law_refuse_23 : decode b_Law_refuse 23 = .ok (.iconst 3, 1) := by decide +kernel
theorem d_Law_refuse_24 : decode b_Law_refuse 24 = .ok (.ireturn, 1) := by decide +kernel
theorem d_Law_refuse_25 : decode b_Law_refuse 25 = .ok (.astore 4, 2) := by decide +kernel
theorem d_Law_refuse_27 : decode b_Law_refuse 27 = .ok (.iconst 4, 1) := by decide +kernel
theorem d_Law_refuse_28 : decode b_Law_refuse 28 = .ok (.ireturn, 1) := by decide +kernel
theorem d_Law_refuse_29 : decode b_Law_refuse 29 = .ok (.iconst 0, 1) := by decide +kernel
theorem d_Law_refuse_30 : decode b_Law_refuse 30 = .ok (.ireturn, 1) := by decide +kernel
theorem d_Law_request_0 : decode b_Law_request 0 = .ok (.aload_n 2, 1) := by decide +kernel
theorem d_Law_request_1 : decode b_Law_request 1 = .ok (.iconst 0, 1) := by decide +kernel
theorem d_Law_request_2 : decode b_Law_request 2 = .ok (.aload_n 0, 1) := by decide +kernel
theorem d_Law_request_3 : decode b_Law_request 3 = .ok (.iload_n 1, 1) := by decide +kernel
theorem d_Law_request_4 : decode b_Law_request 4 = .ok (.invokevirtual 25, 3) := by decide +kernel
theorem d_Law_request_7 : decode b_Law_request 7 = .ok (.i2l, 1) := by decide +kernel
theorem d_Law_request_8 : decode b_Law_request 8 = .ok (.lastore, 1) := by decide +kernel
theorem d_Law_request_9 : decode b_Law_request 9 = .ok (.goto 15, 3) := by decide +kernel
theorem d_Law_request_12 : decode b_Law_request 12 = .ok (.astore_n 3, 1) := by decide +kernel
theorem d_Law_request_13 : decode b_Law_request 13 = .ok (.iconst 1, 1) := by decide +kernel
theorem d_Law_request_14 : decode b_Law_request 14 = .ok (.ireturn, 1) := by decide +kernel
theorem d_Law_request_15 : decode b_Law_request 15 = .ok (.astore_n 3, 1) := by decide +kernel
theorem d_Law_request_16 : decode b_Law_request 16 = .ok (.iconst 2, 1) := by decide +kernel
theorem d_Law_request_17 : decode b_Law_request 17 = .ok (.ireturn, 1) := by decide +kernel
theorem d_Law_request_18 : decode b_Law_request 18 = .ok (.astore_n 3, 1) := by decide +kernel
theorem d_Law_request_19 : decode b_Law_request 19 = .ok (.iconst 3, 1) := by decide +kernel
theorem d_Law_request_20 : decode b_Law_request 20 = .ok (.ireturn, 1) := by decide +kernel
theorem d_Law_request_21 : decode b_Law_request 21 = .ok (.astore_n 3, 1) := by decide +kernel
theorem d_Law_request_22 : decode b_Law_request 22 = .ok (.iconst 4, 1) := by decide +kernel
theorem d_Law_request_23 : decode b_Law_request 23 = .ok (.ireturn, 1) := by decide +kernel
theorem d_Law_request_24 : decode b_Law_request 24 = .ok (.iconst 0, 1) := by decide +kernel
theorem d_Law_request_25 : decode b_Law_request 25 = .ok (.ireturn, 1) := by decide +kernel
theorem d_Law_state_0 : decode b_Law_state 0 = .ok (.aload_n 3, 1) := by decide +kernel
theorem d_Law_state_1 : decode b_Law_state 1 = .ok (.iconst 0, 1) := by decide +kernel
theorem d_Law_state_2 : decode b_Law_state 2 = .ok (.aload_n 0, 1) := by decide +kernel
theorem d_Law_state_3 : decode b_Law_state 3 = .ok (.iload_n 1, 1) := by decide +kernel
theorem d_Law_state_4 : decode b_Law_state 4 = .ok (.iload_n 2, 1) := by decide +kernel
theorem d_Law_state_5 : decode b_Law_state 5 = .ok (.invokevirtual 58, 3) := by decide +kernel
theorem d_Law_state_8 : decode b_Law_state 8 = .ok (.i2l, 1) := by decide +kernel
theorem d_Law_state_9 : decode b_Law_state 9 = .ok (.lastore, 1) := by decide +kernel
theorem d_Law_state_10 : decode b_Law_state 10 = .ok (.goto 11, 3) := by decide +kernel
theorem d_Law_state_13 : decode b_Law_state 13 = .ok (.astore 4, 2) := by decide +kernel
theorem d_Law_state_15 : decode b_Law_state 15 = .ok (.iconst 1, 1) := by decide +kernel
theorem d_Law_state_16 : decode b_Law_state 16 = .ok (.ireturn, 1) := by decide +kernel
theorem d_Law_state_17 : decode b_Law_state 17 = .ok (.astore 4, 2) := by decide +kernel
theorem d_Law_state_19 : decode b_Law_state 19 = .ok (.iconst 2, 1) := by decide +kernel
theorem d_Law_state_20 : decode b_Law_state 20 = .ok (.ireturn, 1) := by decide +kernel
theorem d_Law_state_21 : decode b_Law_state 21 = .ok (.iconst 0, 1) := by decide +kernel
theorem d_Law_state_22 : decode b_Law_state 22 = .ok (.ireturn, 1) := by decide +kernel
theorem d_Law_take_0 : decode b_Law_take 0 = .ok (.aload_n 3, 1) := by decide +kernel
theorem d_Law_take_1 : decode b_Law_take 1 = .ok (.iconst 0, 1) := by decide +kernel
theorem d_Law_take_2 : decode b_Law_take 2 = .ok (.aload_n 0, 1) := by decide +kernel
theorem d_Law_take_3 : decode b_Law_take 3 = .ok (.iload_n 1, 1) := by decide +kernel
theorem d_Law_take_4 : decode b_Law_take 4 = .ok (.iload_n 2, 1) := by decide +kernel
theorem d_Law_take_5 : decode b_Law_take 5 = .ok (.invokevirtual 33, 3) := by decide +kernel
theorem d_Law_take_8 : decode b_Law_take 8 = .ok (.i2l, 1) := by decide +kernel
theorem d_Law_take_9 : decode b_Law_take 9 = .ok (.lastore, 1) := by decide +kernel
theorem d_Law_take_10 : decode b_Law_take 10 = .ok (.goto 19, 3) := by decide +kernel
theorem d_Law_take_13 : decode b_Law_take 13 = .ok (.astore 4, 2) := by decide +kernel
theorem d_Law_take_15 : decode b_Law_take 15 = .ok (.iconst 1, 1) := by decide +kernel
theorem d_Law_take_16 : decode b_Law_take 16 = .ok (.ireturn, 1) := by decide +kernel
theorem d_Law_take_17 : decode b_Law_take 17 = .ok (.astore 4, 2) := by decide +kernel
theorem d_Law_take_19 : decode b_Law_take 19 = .ok (.iconst 2, 1) := by decide +kernel
theorem d_Law_take_20 : decode b_Law_take 20 = .ok (.ireturn, 1) := by decide +kernel
theorem d_Law_take_21 : decode b_Law_take 21 = .ok (.astore 4, 2) := by decide +kernel
theorem d_Law_take_23 : decode b_Law_take 23 = .ok (.iconst 3, 1) := by decide +kernel
theorem d_Law_take_24 : decode b_Law_take 24 = .ok (.ireturn, 1) := by decide +kernel
theorem d_Law_take_25 : decode b_Law_take 25 = .ok (.astore 4, 2) := by decide +kernel
theorem d_Law_take_27 : decode b_Law_take 27 = .ok (.iconst 4, 1) := by decide +kernel
