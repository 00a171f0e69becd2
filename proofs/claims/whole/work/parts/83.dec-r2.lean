/-! decode rows of the law -/
theorem d_Law_law_451 : decode c_Law_law 451 = .ok (.i2l, 1) := by decide +kernel
theorem d_Law_law_452 : decode c_Law_law 452 = .ok (.ldc2_w 68, 3) := by decide +kernel
theorem d_Law_law_455 : decode c_Law_law 455 = .ok (.land, 1) := by decide +kernel
theorem d_Law_law_456 : decode c_Law_law 456 = .ok (.lor, 1) := by decide +kernel
theorem d_Law_law_457 : decode c_Law_law 457 = .ok (.aload_n 0, 1) := by decide +kernel
theorem d_Law_law_458 : decode c_Law_law 458 = .ok (.iload 4, 2) := by decide +kernel
theorem d_Law_law_460 : decode c_Law_law 460 = .ok (.iconst 3, 1) := by decide +kernel
theorem d_Law_law_461 : decode c_Law_law 461 = .ok (.iadd, 1) := by decide +kernel
theorem d_Law_law_462 : decode c_Law_law 462 = .ok (.iaload, 1) := by decide +kernel
theorem d_Law_law_463 : decode c_Law_law 463 = .ok (.aload_n 3, 1) := by decide +kernel
theorem d_Law_law_464 : decode c_Law_law 464 = .ok (.invokestatic 70, 3) := by decide +kernel
theorem d_Law_law_467 : decode c_Law_law 467 = .ok (.istore 5, 2) := by decide +kernel
theorem d_Law_law_469 : decode c_Law_law 469 = .ok (.aload_n 2, 1) := by decide +kernel
theorem d_Law_law_470 : decode c_Law_law 470 = .ok (.aload_n 0, 1) := by decide +kernel
theorem d_Law_law_471 : decode c_Law_law 471 = .ok (.iload 4, 2) := by decide +kernel
theorem d_Law_law_473 : decode c_Law_law 473 = .ok (.iconst 1, 1) := by decide +kernel
theorem d_Law_law_474 : decode c_Law_law 474 = .ok (.iadd, 1) := by decide +kernel
theorem d_Law_law_475 : decode c_Law_law 475 = .ok (.iaload, 1) := by decide +kernel
theorem d_Law_law_476 : decode c_Law_law 476 = .ok (.i2l, 1) := by decide +kernel
theorem d_Law_law_477 : decode c_Law_law 477 = .ok (.bipush 32, 2) := by decide +kernel
theorem d_Law_law_479 : decode c_Law_law 479 = .ok (.lshl, 1) := by decide +kernel
theorem d_Law_law_480 : decode c_Law_law 480 = .ok (.aload_n 0, 1) := by decide +kernel
theorem d_Law_law_481 : decode c_Law_law 481 = .ok (.iload 4, 2) := by decide +kernel
theorem d_Law_law_483 : decode c_Law_law 483 = .ok (.iconst 2, 1) := by decide +kernel
theorem d_Law_law_484 : decode c_Law_law 484 = .ok (.iadd, 1) := by decide +kernel
theorem d_Law_law_485 : decode c_Law_law 485 = .ok (.iaload, 1) := by decide +kernel
theorem d_Law_law_486 : decode c_Law_law 486 = .ok (.i2l, 1) := by decide +kernel
theorem d_Law_law_487 : decode c_Law_law 487 = .ok (.ldc2_w 68, 3) := by decide +kernel
theorem d_Law_law_490 : decode c_Law_law 490 = .ok (.land, 1) := by decide +kernel
theorem d_Law_law_491 : decode c_Law_law 491 = .ok (.lor, 1) := by decide +kernel
theorem d_Law_law_492 : decode c_Law_law 492 = .ok (.aload_n 0, 1) := by decide +kernel
theorem d_Law_law_493 : decode c_Law_law 493 = .ok (.iload 4, 2) := by decide +kernel
theorem d_Law_law_495 : decode c_Law_law 495 = .ok (.iconst 3, 1) := by decide +kernel
theorem d_Law_law_496 : decode c_Law_law 496 = .ok (.iadd, 1) := by decide +kernel
theorem d_Law_law_497 : decode c_Law_law 497 = .ok (.iaload, 1) := by decide +kernel
theorem d_Law_law_498 : decode c_Law_law 498 = .ok (.invokevirtual 73, 3) := by decide +kernel
theorem d_Law_law_501 : decode c_Law_law 501 = .ok (.istore 6, 2) := by decide +kernel
theorem d_Law_law_503 : decode c_Law_law 503 = .ok (.aload_n 2, 1) := by decide +kernel
theorem d_Law_law_504 : decode c_Law_law 504 = .ok (.invokevirtual 57, 3) := by decide +kernel
theorem d_Law_law_507 : decode c_Law_law 507 = .ok (.iload 5, 2) := by decide +kernel
theorem d_Law_law_509 : decode c_Law_law 509 = .ok (.if_icmp .eq 5, 3) := by decide +kernel
theorem d_Law_law_512 : decode c_Law_law 512 = .ok (.iconst 0, 1) := by decide +kernel
theorem d_Law_law_513 : decode c_Law_law 513 = .ok (.ireturn, 1) := by decide +kernel
theorem d_Law_law_514 : decode c_Law_law 514 = .ok (.iload 5, 2) := by decide +kernel
theorem d_Law_law_516 : decode c_Law_law 516 = .ok (.ifCond .ne 15, 3) := by decide +kernel
theorem d_Law_law_519 : decode c_Law_law 519 = .ok (.aload_n 3, 1) := by decide +kernel
theorem d_Law_law_520 : decode c_Law_law 520 = .ok (.iconst 0, 1) := by decide +kernel
theorem d_Law_law_521 : decode c_Law_law 521 = .ok (.laload, 1) := by decide +kernel
theorem d_Law_law_522 : decode c_Law_law 522 = .ok (.iload 6, 2) := by decide +kernel
theorem d_Law_law_524 : decode c_Law_law 524 = .ok (.i2l, 1) := by decide +kernel
theorem d_Law_law_525 : decode c_Law_law 525 = .ok (.lcmp, 1) := by decide +kernel
theorem d_Law_law_526 : decode c_Law_law 526 = .ok (.ifCond .eq 5, 3) := by decide +kernel
theorem d_Law_law_529 : decode c_Law_law 529 = .ok (.iconst 0, 1) := by decide +kernel
theorem d_Law_law_530 : decode c_Law_law 530 = .ok (.ireturn, 1) := by decide +kernel
theorem d_Law_law_531 : decode c_Law_law 531 = .ok (.goto 683, 3) := by decide +kernel
theorem d_Law_law_534 : decode c_Law_law 534 = .ok (.aload_n 1, 1) := by decide +kernel
theorem d_Law_law_535 : decode c_Law_law 535 = .ok (.aload_n 0, 1) := by decide +kernel
theorem d_Law_law_536 : decode c_Law_law 536 = .ok (.iload 4, 2) := by decide +kernel
theorem d_Law_law_538 : decode c_Law_law 538 = .ok (.iconst 1, 1) := by decide +kernel
theorem d_Law_law_539 : decode c_Law_law 539 = .ok (.iadd, 1) := by decide +kernel
theorem d_Law_law_540 : decode c_Law_law 540 = .ok (.iaload, 1) := by decide +kernel
theorem d_Law_law_541 : decode c_Law_law 541 = .ok (.aload_n 0, 1) := by decide +kernel
theorem d_Law_law_542 : decode c_Law_law 542 = .ok (.iload 4, 2) := by decide +kernel
theorem d_Law_law_544 : decode c_Law_law 544 = .ok (.iconst 2, 1) := by decide +kernel
theorem d_Law_law_545 : decode c_Law_law 545 = .ok (.iadd, 1) := by decide +kernel
theorem d_Law_law_546 : decode c_Law_law 546 = .ok (.iaload, 1) := by decide +kernel
theorem d_Law_law_547 : decode c_Law_law 547 = .ok (.invokevirtual 74, 3) := by decide +kernel
theorem d_Law_law_550 : decode c_Law_law 550 = .ok (.aload_n 2, 1) := by decide +kernel
theorem d_Law_law_551 : decode c_Law_law 551 = .ok (.aload_n 0, 1) := by decide +kernel
theorem d_Law_law_552 : decode c_Law_law 552 = .ok (.iload 4, 2) := by decide +kernel
theorem d_Law_law_554 : decode c_Law_law 554 = .ok (.iconst 1, 1) := by decide +kernel
theorem d_Law_law_555 : decode c_Law_law 555 = .ok (.iadd, 1) := by decide +kernel
theorem d_Law_law_556 : decode c_Law_law 556 = .ok (.iaload, 1) := by decide +kernel
theorem d_Law_law_557 : decode c_Law_law 557 = .ok (.aload_n 0, 1) := by decide +kernel
theorem d_Law_law_558 : decode c_Law_law 558 = .ok (.iload 4, 2) := by decide +kernel
theorem d_Law_law_560 : decode c_Law_law 560 = .ok (.iconst 2, 1) := by decide +kernel
theorem d_Law_law_561 : decode c_Law_law 561 = .ok (.iadd, 1) := by decide +kernel
theorem d_Law_law_562 : decode c_Law_law 562 = .ok (.iaload, 1) := by decide +kernel
theorem d_Law_law_563 : decode c_Law_law 563 = .ok (.invokevirtual 78, 3) := by decide +kernel
theorem d_Law_law_566 : decode c_Law_law 566 = .ok (.if_icmp .eq 648, 3) := by decide +kernel
theorem d_Law_law_569 : decode c_Law_law 569 = .ok (.iconst 0, 1) := by decide +kernel
theorem d_Law_law_570 : decode c_Law_law 570 = .ok (.ireturn, 1) := by decide +kernel
theorem d_Law_law_571 : decode c_Law_law 571 = .ok (.aload_n 1, 1) := by decide +kernel
theorem d_Law_law_572 : decode c_Law_law 572 = .ok (.aload_n 0, 1) := by decide +kernel
theorem d_Law_law_573 : decode c_Law_law 573 = .ok (.iload 4, 2) := by decide +kernel
theorem d_Law_law_575 : decode c_Law_law 575 = .ok (.iconst 1, 1) := by decide +kernel
theorem d_Law_law_576 : decode c_Law_law 576 = .ok (.iadd, 1) := by decide +kernel
theorem d_Law_law_577 : decode c_Law_law 577 = .ok (.iaload, 1) := by decide +kernel
theorem d_Law_law_578 : decode c_Law_law 578 = .ok (.aload_n 0, 1) := by decide +kernel
theorem d_Law_law_579 : decode c_Law_law 579 = .ok (.iload 4, 2) := by decide +kernel
theorem d_Law_law_581 : decode c_Law_law 581 = .ok (.iconst 2, 1) := by decide +kernel
theorem d_Law_law_582 : decode c_Law_law 582 = .ok (.iadd, 1) := by decide +kernel
theorem d_Law_law_583 : decode c_Law_law 583 = .ok (.iaload, 1) := by decide +kernel
theorem d_Law_law_584 : decode c_Law_law 584 = .ok (.invokevirtual 79, 3) := by decide +kernel
theorem d_Law_law_587 : decode c_Law_law 587 = .ok (.aload_n 2, 1) := by decide +kernel
theorem d_Law_law_588 : decode c_Law_law 588 = .ok (.aload_n 0, 1) := by decide +kernel
theorem d_Law_law_589 : decode c_Law_law 589 = .ok (.iload 4, 2) := by decide +kernel
theorem d_Law_law_591 : decode c_Law_law 591 = .ok (.iconst 1, 1) := by decide +kernel
theorem d_Law_law_592 : decode c_Law_law 592 = .ok (.iadd, 1) := by decide +kernel
theorem d_Law_law_593 : decode c_Law_law 593 = .ok (.iaload, 1) := by decide +kernel
theorem d_Law_law_594 : decode c_Law_law 594 = .ok (.aload_n 0, 1) := by decide +kernel
theorem d_Law_law_595 : decode c_Law_law 595 = .ok (.iload 4, 2) := by decide +kernel
theorem d_Law_law_597 : decode c_Law_law 597 = .ok (.iconst 2, 1) := by decide +kernel
theorem d_Law_law_598 : decode c_Law_law 598 = .ok (.iadd, 1) := by decide +kernel
theorem d_Law_law_599 : decode c_Law_law 599 = .ok (.iaload, 1) := by decide +kernel
theorem d_Law_law_600 : decode c_Law_law 600 = .ok (.invokevirtual 82, 3) := by decide +kernel
theorem d_Law_law_603 : decode c_Law_law 603 = .ok (.if_icmp .eq 611, 3) := by decide +kernel
theorem d_Law_law_606 : decode c_Law_law 606 = .ok (.iconst 0, 1) := by decide +kernel
theorem d_Law_law_607 : decode c_Law_law 607 = .ok (.ireturn, 1) := by decide +kernel
theorem d_Law_law_608 : decode c_Law_law 608 = .ok (.aload_n 1, 1) := by decide +kernel
theorem d_Law_law_609 : decode c_Law_law 609 = .ok (.aload_n 0, 1) := by decide +kernel
theorem d_Law_law_610 : decode c_Law_law 610 = .ok (.iload 4, 2) := by decide +kernel
theorem d_Law_law_612 : decode c_Law_law 612 = .ok (.iconst 1, 1) := by decide +kernel
theorem d_Law_law_613 : decode c_Law_law 613 = .ok (.iadd, 1) := by decide +kernel
theorem d_Law_law_614 : decode c_Law_law 614 = .ok (.iaload, 1) := by decide +kernel
theorem d_Law_law_615 : decode c_Law_law 615 = .ok (.invokevirtual 83, 3) := by decide +kernel
theorem d_Law_law_618 : decode c_Law_law 618 = .ok (.aload_n 2, 1) := by decide +kernel
theorem d_Law_law_619 : decode c_Law_law 619 = .ok (.aload_n 0, 1) := by decide +kernel
theorem d_Law_law_620 : decode c_Law_law 620 = .ok (.iload 4, 2) := by decide +kernel
theorem d_Law_law_622 : decode c_Law_law 622 = .ok (.iconst 1, 1) := by decide +kernel
