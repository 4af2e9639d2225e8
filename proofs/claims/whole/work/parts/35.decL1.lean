theorem d_Lw_law_394 : decode code 394 = .ok (.iconst 0, 1) := by decide +kernel
theorem d_Lw_law_395 : decode code 395 = .ok (.ireturn, 1) := by decide +kernel
theorem d_Lw_law_396 : decode code 396 = .ok (.iload 5, 2) := by decide +kernel
theorem d_Lw_law_398 : decode code 398 = .ok (.ifCond .ne (15), 3) := by decide +kernel
theorem d_Lw_law_401 : decode code 401 = .ok (.aload_n 3, 1) := by decide +kernel
theorem d_Lw_law_402 : decode code 402 = .ok (.iconst 0, 1) := by decide +kernel
theorem d_Lw_law_403 : decode code 403 = .ok (.laload, 1) := by decide +kernel
theorem d_Lw_law_404 : decode code 404 = .ok (.iload 6, 2) := by decide +kernel
theorem d_Lw_law_406 : decode code 406 = .ok (.i2l, 1) := by decide +kernel
theorem d_Lw_law_407 : decode code 407 = .ok (.lcmp, 1) := by decide +kernel
theorem d_Lw_law_408 : decode code 408 = .ok (.ifCond .eq (5), 3) := by decide +kernel
theorem d_Lw_law_411 : decode code 411 = .ok (.iconst 0, 1) := by decide +kernel
theorem d_Lw_law_412 : decode code 412 = .ok (.ireturn, 1) := by decide +kernel
theorem d_Lw_law_413 : decode code 413 = .ok (.goto (903), 3) := by decide +kernel
theorem d_Lw_law_416 : decode code 416 = .ok (.aload_n 1, 1) := by decide +kernel
theorem d_Lw_law_417 : decode code 417 = .ok (.aload_n 0, 1) := by decide +kernel
theorem d_Lw_law_418 : decode code 418 = .ok (.iload 4, 2) := by decide +kernel
theorem d_Lw_law_420 : decode code 420 = .ok (.iconst 1, 1) := by decide +kernel
theorem d_Lw_law_421 : decode code 421 = .ok (.iadd, 1) := by decide +kernel
theorem d_Lw_law_422 : decode code 422 = .ok (.iaload, 1) := by decide +kernel
theorem d_Lw_law_423 : decode code 423 = .ok (.aload_n 3, 1) := by decide +kernel
theorem d_Lw_law_424 : decode code 424 = .ok (.invokestatic 106, 3) := by decide +kernel
theorem d_Lw_law_427 : decode code 427 = .ok (.istore 5, 2) := by decide +kernel
theorem d_Lw_law_429 : decode code 429 = .ok (.aload_n 2, 1) := by decide +kernel
theorem d_Lw_law_430 : decode code 430 = .ok (.aload_n 0, 1) := by decide +kernel
theorem d_Lw_law_431 : decode code 431 = .ok (.iload 4, 2) := by decide +kernel
theorem d_Lw_law_433 : decode code 433 = .ok (.iconst 1, 1) := by decide +kernel
theorem d_Lw_law_434 : decode code 434 = .ok (.iadd, 1) := by decide +kernel
theorem d_Lw_law_435 : decode code 435 = .ok (.iaload, 1) := by decide +kernel
theorem d_Lw_law_436 : decode code 436 = .ok (.invokevirtual 109, 3) := by decide +kernel
theorem d_Lw_law_439 : decode code 439 = .ok (.istore 6, 2) := by decide +kernel
theorem d_Lw_law_441 : decode code 441 = .ok (.aload_n 2, 1) := by decide +kernel
theorem d_Lw_law_442 : decode code 442 = .ok (.invokevirtual 91, 3) := by decide +kernel
theorem d_Lw_law_445 : decode code 445 = .ok (.iload 5, 2) := by decide +kernel
theorem d_Lw_law_447 : decode code 447 = .ok (.if_icmp .eq (5), 3) := by decide +kernel
theorem d_Lw_law_450 : decode code 450 = .ok (.iconst 0, 1) := by decide +kernel
theorem d_Lw_law_451 : decode code 451 = .ok (.ireturn, 1) := by decide +kernel
theorem d_Lw_law_452 : decode code 452 = .ok (.iload 5, 2) := by decide +kernel
theorem d_Lw_law_454 : decode code 454 = .ok (.ifCond .ne (15), 3) := by decide +kernel
theorem d_Lw_law_457 : decode code 457 = .ok (.aload_n 3, 1) := by decide +kernel
theorem d_Lw_law_458 : decode code 458 = .ok (.iconst 0, 1) := by decide +kernel
theorem d_Lw_law_459 : decode code 459 = .ok (.laload, 1) := by decide +kernel
theorem d_Lw_law_460 : decode code 460 = .ok (.iload 6, 2) := by decide +kernel
theorem d_Lw_law_462 : decode code 462 = .ok (.i2l, 1) := by decide +kernel
theorem d_Lw_law_463 : decode code 463 = .ok (.lcmp, 1) := by decide +kernel
theorem d_Lw_law_464 : decode code 464 = .ok (.ifCond .eq (5), 3) := by decide +kernel
theorem d_Lw_law_467 : decode code 467 = .ok (.iconst 0, 1) := by decide +kernel
theorem d_Lw_law_468 : decode code 468 = .ok (.ireturn, 1) := by decide +kernel
theorem d_Lw_law_469 : decode code 469 = .ok (.goto (847), 3) := by decide +kernel
theorem d_Lw_law_472 : decode code 472 = .ok (.aload_n 1, 1) := by decide +kernel
theorem d_Lw_law_473 : decode code 473 = .ok (.aload_n 0, 1) := by decide +kernel
theorem d_Lw_law_474 : decode code 474 = .ok (.iload 4, 2) := by decide +kernel
theorem d_Lw_law_476 : decode code 476 = .ok (.iconst 1, 1) := by decide +kernel
theorem d_Lw_law_477 : decode code 477 = .ok (.iadd, 1) := by decide +kernel
theorem d_Lw_law_478 : decode code 478 = .ok (.iaload, 1) := by decide +kernel
theorem d_Lw_law_479 : decode code 479 = .ok (.aload_n 3, 1) := by decide +kernel
theorem d_Lw_law_480 : decode code 480 = .ok (.invokestatic 110, 3) := by decide +kernel
theorem d_Lw_law_483 : decode code 483 = .ok (.istore 5, 2) := by decide +kernel
theorem d_Lw_law_485 : decode code 485 = .ok (.aload_n 2, 1) := by decide +kernel
theorem d_Lw_law_486 : decode code 486 = .ok (.aload_n 0, 1) := by decide +kernel
theorem d_Lw_law_487 : decode code 487 = .ok (.iload 4, 2) := by decide +kernel
theorem d_Lw_law_489 : decode code 489 = .ok (.iconst 1, 1) := by decide +kernel
theorem d_Lw_law_490 : decode code 490 = .ok (.iadd, 1) := by decide +kernel
theorem d_Lw_law_491 : decode code 491 = .ok (.iaload, 1) := by decide +kernel
theorem d_Lw_law_492 : decode code 492 = .ok (.invokevirtual 112, 3) := by decide +kernel
theorem d_Lw_law_495 : decode code 495 = .ok (.istore 6, 2) := by decide +kernel
theorem d_Lw_law_497 : decode code 497 = .ok (.aload_n 2, 1) := by decide +kernel
theorem d_Lw_law_498 : decode code 498 = .ok (.invokevirtual 91, 3) := by decide +kernel
theorem d_Lw_law_501 : decode code 501 = .ok (.iload 5, 2) := by decide +kernel
theorem d_Lw_law_503 : decode code 503 = .ok (.if_icmp .eq (5), 3) := by decide +kernel
theorem d_Lw_law_506 : decode code 506 = .ok (.iconst 0, 1) := by decide +kernel
theorem d_Lw_law_507 : decode code 507 = .ok (.ireturn, 1) := by decide +kernel
theorem d_Lw_law_508 : decode code 508 = .ok (.iload 5, 2) := by decide +kernel
theorem d_Lw_law_510 : decode code 510 = .ok (.ifCond .ne (15), 3) := by decide +kernel
theorem d_Lw_law_513 : decode code 513 = .ok (.aload_n 3, 1) := by decide +kernel
theorem d_Lw_law_514 : decode code 514 = .ok (.iconst 0, 1) := by decide +kernel
theorem d_Lw_law_515 : decode code 515 = .ok (.laload, 1) := by decide +kernel
theorem d_Lw_law_516 : decode code 516 = .ok (.iload 6, 2) := by decide +kernel
theorem d_Lw_law_518 : decode code 518 = .ok (.i2l, 1) := by decide +kernel
theorem d_Lw_law_519 : decode code 519 = .ok (.lcmp, 1) := by decide +kernel
theorem d_Lw_law_520 : decode code 520 = .ok (.ifCond .eq (5), 3) := by decide +kernel
theorem d_Lw_law_523 : decode code 523 = .ok (.iconst 0, 1) := by decide +kernel
theorem d_Lw_law_524 : decode code 524 = .ok (.ireturn, 1) := by decide +kernel
theorem d_Lw_law_525 : decode code 525 = .ok (.goto (791), 3) := by decide +kernel
theorem d_Lw_law_528 : decode code 528 = .ok (.aload_n 1, 1) := by decide +kernel
theorem d_Lw_law_529 : decode code 529 = .ok (.invokevirtual 113, 3) := by decide +kernel
theorem d_Lw_law_532 : decode code 532 = .ok (.aload_n 2, 1) := by decide +kernel
theorem d_Lw_law_533 : decode code 533 = .ok (.invokevirtual 116, 3) := by decide +kernel
theorem d_Lw_law_536 : decode code 536 = .ok (.if_icmp .eq (780), 3) := by decide +kernel
theorem d_Lw_law_539 : decode code 539 = .ok (.iconst 0, 1) := by decide +kernel
theorem d_Lw_law_540 : decode code 540 = .ok (.ireturn, 1) := by decide +kernel
theorem d_Lw_law_541 : decode code 541 = .ok (.aload_n 1, 1) := by decide +kernel
theorem d_Lw_law_542 : decode code 542 = .ok (.aload_n 0, 1) := by decide +kernel
theorem d_Lw_law_543 : decode code 543 = .ok (.iload 4, 2) := by decide +kernel
theorem d_Lw_law_545 : decode code 545 = .ok (.iconst 1, 1) := by decide +kernel
theorem d_Lw_law_546 : decode code 546 = .ok (.iadd, 1) := by decide +kernel
theorem d_Lw_law_547 : decode code 547 = .ok (.iaload, 1) := by decide +kernel
theorem d_Lw_law_548 : decode code 548 = .ok (.aload_n 0, 1) := by decide +kernel
theorem d_Lw_law_549 : decode code 549 = .ok (.iload 4, 2) := by decide +kernel
theorem d_Lw_law_551 : decode code 551 = .ok (.iconst 2, 1) := by decide +kernel
theorem d_Lw_law_552 : decode code 552 = .ok (.iadd, 1) := by decide +kernel
theorem d_Lw_law_553 : decode code 553 = .ok (.iaload, 1) := by decide +kernel
theorem d_Lw_law_554 : decode code 554 = .ok (.aload_n 3, 1) := by decide +kernel
theorem d_Lw_law_555 : decode code 555 = .ok (.invokestatic 117, 3) := by decide +kernel
theorem d_Lw_law_558 : decode code 558 = .ok (.istore 5, 2) := by decide +kernel
theorem d_Lw_law_560 : decode code 560 = .ok (.aload_n 2, 1) := by decide +kernel
theorem d_Lw_law_561 : decode code 561 = .ok (.aload_n 0, 1) := by decide +kernel
theorem d_Lw_law_562 : decode code 562 = .ok (.iload 4, 2) := by decide +kernel
theorem d_Lw_law_564 : decode code 564 = .ok (.iconst 1, 1) := by decide +kernel
theorem d_Lw_law_565 : decode code 565 = .ok (.iadd, 1) := by decide +kernel
theorem d_Lw_law_566 : decode code 566 = .ok (.iaload, 1) := by decide +kernel
theorem d_Lw_law_567 : decode code 567 = .ok (.aload_n 0, 1) := by decide +kernel
theorem d_Lw_law_568 : decode code 568 = .ok (.iload 4, 2) := by decide +kernel
theorem d_Lw_law_570 : decode code 570 = .ok (.iconst 2, 1) := by decide +kernel
theorem d_Lw_law_571 : decode code 571 = .ok (.iadd, 1) := by decide +kernel
theorem d_Lw_law_572 : decode code 572 = .ok (.iaload, 1) := by decide +kernel
theorem d_Lw_law_573 : decode code 573 = .ok (.invokevirtual 119, 3) := by decide +kernel
theorem d_Lw_law_576 : decode code 576 = .ok (.istore 6, 2) := by decide +kernel
theorem d_Lw_law_578 : decode code 578 = .ok (.aload_n 2, 1) := by decide +kernel
theorem d_Lw_law_579 : decode code 579 = .ok (.invokevirtual 91, 3) := by decide +kernel
theorem d_Lw_law_582 : decode code 582 = .ok (.iload 5, 2) := by decide +kernel
theorem d_Lw_law_584 : decode code 584 = .ok (.if_icmp .eq (5), 3) := by decide +kernel
theorem d_Lw_law_587 : decode code 587 = .ok (.iconst 0, 1) := by decide +kernel
theorem d_Lw_law_588 : decode code 588 = .ok (.ireturn, 1) := by decide +kernel
theorem d_Lw_law_589 : decode code 589 = .ok (.iload 5, 2) := by decide +kernel
theorem d_Lw_law_591 : decode code 591 = .ok (.ifCond .ne (15), 3) := by decide +kernel
theorem d_Lw_law_594 : decode code 594 = .ok (.aload_n 3, 1) := by decide +kernel
theorem d_Lw_law_595 : decode code 595 = .ok (.iconst 0, 1) := by decide +kernel
theorem d_Lw_law_596 : decode code 596 = .ok (.laload, 1) := by decide +kernel
theorem d_Lw_law_597 : decode code 597 = .ok (.iload 6, 2) := by decide +kernel
theorem d_Lw_law_599 : decode code 599 = .ok (.i2l, 1) := by decide +kernel
theorem d_Lw_law_600 : decode code 600 = .ok (.lcmp, 1) := by decide +kernel
theorem d_Lw_law_601 : decode code 601 = .ok (.ifCond .eq (5), 3) := by decide +kernel
theorem d_Lw_law_604 : decode code 604 = .ok (.iconst 0, 1) := by decide +kernel
theorem d_Lw_law_605 : decode code 605 = .ok (.ireturn, 1) := by decide +kernel
theorem d_Lw_law_606 : decode code 606 = .ok (.goto (710), 3) := by decide +kernel
theorem d_Lw_law_609 : decode code 609 = .ok (.aload_n 1, 1) := by decide +kernel
theorem d_Lw_law_610 : decode code 610 = .ok (.aload_n 0, 1) := by decide +kernel
theorem d_Lw_law_611 : decode code 611 = .ok (.iload 4, 2) := by decide +kernel
theorem d_Lw_law_613 : decode code 613 = .ok (.iconst 1, 1) := by decide +kernel
theorem d_Lw_law_614 : decode code 614 = .ok (.iadd, 1) := by decide +kernel
theorem d_Lw_law_615 : decode code 615 = .ok (.iaload, 1) := by decide +kernel
theorem d_Lw_law_616 : decode code 616 = .ok (.aload_n 3, 1) := by decide +kernel
theorem d_Lw_law_617 : decode code 617 = .ok (.invokestatic 120, 3) := by decide +kernel
theorem d_Lw_law_620 : decode code 620 = .ok (.istore 5, 2) := by decide +kernel
theorem d_Lw_law_622 : decode code 622 = .ok (.aload_n 2, 1) := by decide +kernel
theorem d_Lw_law_623 : decode code 623 = .ok (.aload_n 0, 1) := by decide +kernel
theorem d_Lw_law_624 : decode code 624 = .ok (.iload 4, 2) := by decide +kernel
theorem d_Lw_law_626 : decode code 626 = .ok (.iconst 1, 1) := by decide +kernel
theorem d_Lw_law_627 : decode code 627 = .ok (.iadd, 1) := by decide +kernel
theorem d_Lw_law_628 : decode code 628 = .ok (.iaload, 1) := by decide +kernel
theorem d_Lw_law_629 : decode code 629 = .ok (.invokevirtual 122, 3) := by decide +kernel
theorem d_Lw_law_632 : decode code 632 = .ok (.istore 6, 2) := by decide +kernel
theorem d_Lw_law_634 : decode code 634 = .ok (.aload_n 2, 1) := by decide +kernel
theorem d_Lw_law_635 : decode code 635 = .ok (.invokevirtual 91, 3) := by decide +kernel
theorem d_Lw_law_638 : decode code 638 = .ok (.iload 5, 2) := by decide +kernel
theorem d_Lw_law_640 : decode code 640 = .ok (.if_icmp .eq (5), 3) := by decide +kernel
theorem d_Lw_law_643 : decode code 643 = .ok (.iconst 0, 1) := by decide +kernel
theorem d_Lw_law_644 : decode code 644 = .ok (.ireturn, 1) := by decide +kernel
theorem d_Lw_law_645 : decode code 645 = .ok (.iload 5, 2) := by decide +kernel
theorem d_Lw_law_647 : decode code 647 = .ok (.ifCond .ne (15), 3) := by decide +kernel
theorem d_Lw_law_650 : decode code 650 = .ok (.aload_n 3, 1) := by decide +kernel
theorem d_Lw_law_651 : decode code 651 = .ok (.iconst 0, 1) := by decide +kernel
theorem d_Lw_law_652 : decode code 652 = .ok (.laload, 1) := by decide +kernel
theorem d_Lw_law_653 : decode code 653 = .ok (.iload 6, 2) := by decide +kernel
theorem d_Lw_law_655 : decode code 655 = .ok (.i2l, 1) := by decide +kernel
theorem d_Lw_law_656 : decode code 656 = .ok (.lcmp, 1) := by decide +kernel
theorem d_Lw_law_657 : decode code 657 = .ok (.ifCond .eq (5), 3) := by decide +kernel
theorem d_Lw_law_660 : decode code 660 = .ok (.iconst 0, 1) := by decide +kernel
theorem d_Lw_law_661 : decode code 661 = .ok (.ireturn, 1) := by decide +kernel
theorem d_Lw_law_662 : decode code 662 = .ok (.goto (654), 3) := by decide +kernel
theorem d_Lw_law_665 : decode code 665 = .ok (.aload_n 1, 1) := by decide +kernel
theorem d_Lw_law_666 : decode code 666 = .ok (.aload_n 0, 1) := by decide +kernel
theorem d_Lw_law_667 : decode code 667 = .ok (.iload 4, 2) := by decide +kernel
theorem d_Lw_law_669 : decode code 669 = .ok (.iconst 1, 1) := by decide +kernel
theorem d_Lw_law_670 : decode code 670 = .ok (.iadd, 1) := by decide +kernel
theorem d_Lw_law_671 : decode code 671 = .ok (.iaload, 1) := by decide +kernel
theorem d_Lw_law_672 : decode code 672 = .ok (.aload_n 3, 1) := by decide +kernel
theorem d_Lw_law_673 : decode code 673 = .ok (.invokestatic 123, 3) := by decide +kernel
theorem d_Lw_law_676 : decode code 676 = .ok (.istore 5, 2) := by decide +kernel
theorem d_Lw_law_678 : decode code 678 = .ok (.aload_n 2, 1) := by decide +kernel
theorem d_Lw_law_679 : decode code 679 = .ok (.aload_n 0, 1) := by decide +kernel
theorem d_Lw_law_680 : decode code 680 = .ok (.iload 4, 2) := by decide +kernel
theorem d_Lw_law_682 : decode code 682 = .ok (.iconst 1, 1) := by decide +kernel
theorem d_Lw_law_683 : decode code 683 = .ok (.iadd, 1) := by decide +kernel
theorem d_Lw_law_684 : decode code 684 = .ok (.iaload, 1) := by decide +kernel
theorem d_Lw_law_685 : decode code 685 = .ok (.invokevirtual 125, 3) := by decide +kernel
theorem d_Lw_law_688 : decode code 688 = .ok (.istore 6, 2) := by decide +kernel
theorem d_Lw_law_690 : decode code 690 = .ok (.aload_n 2, 1) := by decide +kernel
theorem d_Lw_law_691 : decode code 691 = .ok (.invokevirtual 91, 3) := by decide +kernel
theorem d_Lw_law_694 : decode code 694 = .ok (.iload 5, 2) := by decide +kernel
theorem d_Lw_law_696 : decode code 696 = .ok (.if_icmp .eq (5), 3) := by decide +kernel
theorem d_Lw_law_699 : decode code 699 = .ok (.iconst 0, 1) := by decide +kernel
theorem d_Lw_law_700 : decode code 700 = .ok (.ireturn, 1) := by decide +kernel
theorem d_Lw_law_701 : decode code 701 = .ok (.iload 5, 2) := by decide +kernel
theorem d_Lw_law_703 : decode code 703 = .ok (.ifCond .ne (15), 3) := by decide +kernel
theorem d_Lw_law_706 : decode code 706 = .ok (.aload_n 3, 1) := by decide +kernel
theorem d_Lw_law_707 : decode code 707 = .ok (.iconst 0, 1) := by decide +kernel
theorem d_Lw_law_708 : decode code 708 = .ok (.laload, 1) := by decide +kernel
theorem d_Lw_law_709 : decode code 709 = .ok (.iload 6, 2) := by decide +kernel
