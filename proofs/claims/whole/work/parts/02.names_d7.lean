theorem dL_law_422 : decode cL_law 422 = .ok (.iadd, 1) := by decide +kernel
theorem dL_law_423 : decode cL_law 423 = .ok (.iaload, 1) := by decide +kernel
theorem dL_law_424 : decode cL_law 424 = .ok (.aload_n 0, 1) := by decide +kernel
theorem dL_law_425 : decode cL_law 425 = .ok (.iload_n 3, 1) := by decide +kernel
theorem dL_law_426 : decode cL_law 426 = .ok (.iconst 3, 1) := by decide +kernel
theorem dL_law_427 : decode cL_law 427 = .ok (.iadd, 1) := by decide +kernel
theorem dL_law_428 : decode cL_law 428 = .ok (.iaload, 1) := by decide +kernel
theorem dL_law_429 : decode cL_law 429 = .ok (.aload_n 0, 1) := by decide +kernel
theorem dL_law_430 : decode cL_law 430 = .ok (.iload_n 3, 1) := by decide +kernel
theorem dL_law_431 : decode cL_law 431 = .ok (.iconst 4, 1) := by decide +kernel
theorem dL_law_432 : decode cL_law 432 = .ok (.iadd, 1) := by decide +kernel
theorem dL_law_433 : decode cL_law 433 = .ok (.iaload, 1) := by decide +kernel
theorem dL_law_434 : decode cL_law 434 = .ok (.invokevirtual 65, 3) := by decide +kernel
theorem dL_law_437 : decode cL_law 437 = .ok (.if_icmp .eq 243, 3) := by decide +kernel
theorem dL_law_440 : decode cL_law 440 = .ok (.iconst 0, 1) := by decide +kernel
theorem dL_law_441 : decode cL_law 441 = .ok (.ireturn, 1) := by decide +kernel
theorem dL_law_442 : decode cL_law 442 = .ok (.aload_n 1, 1) := by decide +kernel
theorem dL_law_443 : decode cL_law 443 = .ok (.invokevirtual 66, 3) := by decide +kernel
theorem dL_law_446 : decode cL_law 446 = .ok (.aload_n 2, 1) := by decide +kernel
theorem dL_law_447 : decode cL_law 447 = .ok (.invokevirtual 70, 3) := by decide +kernel
theorem dL_law_450 : decode cL_law 450 = .ok (.lcmp, 1) := by decide +kernel
theorem dL_law_451 : decode cL_law 451 = .ok (.ifCond .eq 229, 3) := by decide +kernel
theorem dL_law_454 : decode cL_law 454 = .ok (.iconst 0, 1) := by decide +kernel
theorem dL_law_455 : decode cL_law 455 = .ok (.ireturn, 1) := by decide +kernel
theorem dL_law_456 : decode cL_law 456 = .ok (.aload_n 1, 1) := by decide +kernel
theorem dL_law_457 : decode cL_law 457 = .ok (.aload_n 0, 1) := by decide +kernel
theorem dL_law_458 : decode cL_law 458 = .ok (.iload_n 3, 1) := by decide +kernel
theorem dL_law_459 : decode cL_law 459 = .ok (.iconst 1, 1) := by decide +kernel
theorem dL_law_460 : decode cL_law 460 = .ok (.iadd, 1) := by decide +kernel
theorem dL_law_461 : decode cL_law 461 = .ok (.iaload, 1) := by decide +kernel
theorem dL_law_462 : decode cL_law 462 = .ok (.invokevirtual 71, 3) := by decide +kernel
theorem dL_law_465 : decode cL_law 465 = .ok (.aload_n 2, 1) := by decide +kernel
theorem dL_law_466 : decode cL_law 466 = .ok (.aload_n 0, 1) := by decide +kernel
theorem dL_law_467 : decode cL_law 467 = .ok (.iload_n 3, 1) := by decide +kernel
theorem dL_law_468 : decode cL_law 468 = .ok (.iconst 1, 1) := by decide +kernel
theorem dL_law_469 : decode cL_law 469 = .ok (.iadd, 1) := by decide +kernel
theorem dL_law_470 : decode cL_law 470 = .ok (.iaload, 1) := by decide +kernel
theorem dL_law_471 : decode cL_law 471 = .ok (.invokevirtual 74, 3) := by decide +kernel
theorem dL_law_474 : decode cL_law 474 = .ok (.if_icmp .eq 206, 3) := by decide +kernel
theorem dL_law_477 : decode cL_law 477 = .ok (.iconst 0, 1) := by decide +kernel
theorem dL_law_478 : decode cL_law 478 = .ok (.ireturn, 1) := by decide +kernel
theorem dL_law_479 : decode cL_law 479 = .ok (.aload_n 1, 1) := by decide +kernel
theorem dL_law_480 : decode cL_law 480 = .ok (.aload_n 0, 1) := by decide +kernel
theorem dL_law_481 : decode cL_law 481 = .ok (.iload_n 3, 1) := by decide +kernel
theorem dL_law_482 : decode cL_law 482 = .ok (.iconst 1, 1) := by decide +kernel
theorem dL_law_483 : decode cL_law 483 = .ok (.iadd, 1) := by decide +kernel
theorem dL_law_484 : decode cL_law 484 = .ok (.iaload, 1) := by decide +kernel
theorem dL_law_485 : decode cL_law 485 = .ok (.invokevirtual 75, 3) := by decide +kernel
theorem dL_law_488 : decode cL_law 488 = .ok (.aload_n 2, 1) := by decide +kernel
theorem dL_law_489 : decode cL_law 489 = .ok (.aload_n 0, 1) := by decide +kernel
theorem dL_law_490 : decode cL_law 490 = .ok (.iload_n 3, 1) := by decide +kernel
theorem dL_law_491 : decode cL_law 491 = .ok (.iconst 1, 1) := by decide +kernel
theorem dL_law_492 : decode cL_law 492 = .ok (.iadd, 1) := by decide +kernel
theorem dL_law_493 : decode cL_law 493 = .ok (.iaload, 1) := by decide +kernel
theorem dL_law_494 : decode cL_law 494 = .ok (.invokevirtual 78, 3) := by decide +kernel
theorem dL_law_497 : decode cL_law 497 = .ok (.if_icmp .eq 183, 3) := by decide +kernel
theorem dL_law_500 : decode cL_law 500 = .ok (.iconst 0, 1) := by decide +kernel
theorem dL_law_501 : decode cL_law 501 = .ok (.ireturn, 1) := by decide +kernel
theorem dL_law_502 : decode cL_law 502 = .ok (.aload_n 1, 1) := by decide +kernel
theorem dL_law_503 : decode cL_law 503 = .ok (.aload_n 0, 1) := by decide +kernel
theorem dL_law_504 : decode cL_law 504 = .ok (.iload_n 3, 1) := by decide +kernel
theorem dL_law_505 : decode cL_law 505 = .ok (.iconst 1, 1) := by decide +kernel
theorem dL_law_506 : decode cL_law 506 = .ok (.iadd, 1) := by decide +kernel
theorem dL_law_507 : decode cL_law 507 = .ok (.iaload, 1) := by decide +kernel
theorem dL_law_508 : decode cL_law 508 = .ok (.aload_n 0, 1) := by decide +kernel
theorem dL_law_509 : decode cL_law 509 = .ok (.iload_n 3, 1) := by decide +kernel
theorem dL_law_510 : decode cL_law 510 = .ok (.iconst 2, 1) := by decide +kernel
theorem dL_law_511 : decode cL_law 511 = .ok (.iadd, 1) := by decide +kernel
theorem dL_law_512 : decode cL_law 512 = .ok (.iaload, 1) := by decide +kernel
theorem dL_law_513 : decode cL_law 513 = .ok (.invokevirtual 79, 3) := by decide +kernel
theorem dL_law_516 : decode cL_law 516 = .ok (.aload_n 2, 1) := by decide +kernel
theorem dL_law_517 : decode cL_law 517 = .ok (.aload_n 0, 1) := by decide +kernel
theorem dL_law_518 : decode cL_law 518 = .ok (.iload_n 3, 1) := by decide +kernel
theorem dL_law_519 : decode cL_law 519 = .ok (.iconst 1, 1) := by decide +kernel
theorem dL_law_520 : decode cL_law 520 = .ok (.iadd, 1) := by decide +kernel
theorem dL_law_521 : decode cL_law 521 = .ok (.iaload, 1) := by decide +kernel
theorem dL_law_522 : decode cL_law 522 = .ok (.aload_n 0, 1) := by decide +kernel
theorem dL_law_523 : decode cL_law 523 = .ok (.iload_n 3, 1) := by decide +kernel
theorem dL_law_524 : decode cL_law 524 = .ok (.iconst 2, 1) := by decide +kernel
theorem dL_law_525 : decode cL_law 525 = .ok (.iadd, 1) := by decide +kernel
theorem dL_law_526 : decode cL_law 526 = .ok (.iaload, 1) := by decide +kernel
theorem dL_law_527 : decode cL_law 527 = .ok (.invokevirtual 82, 3) := by decide +kernel
theorem dL_law_530 : decode cL_law 530 = .ok (.if_icmp .eq 150, 3) := by decide +kernel
theorem dL_law_533 : decode cL_law 533 = .ok (.iconst 0, 1) := by decide +kernel
theorem dL_law_534 : decode cL_law 534 = .ok (.ireturn, 1) := by decide +kernel
theorem dL_law_535 : decode cL_law 535 = .ok (.aload_n 1, 1) := by decide +kernel
theorem dL_law_536 : decode cL_law 536 = .ok (.aload_n 0, 1) := by decide +kernel
theorem dL_law_537 : decode cL_law 537 = .ok (.iload_n 3, 1) := by decide +kernel
theorem dL_law_538 : decode cL_law 538 = .ok (.iconst 1, 1) := by decide +kernel
theorem dL_law_539 : decode cL_law 539 = .ok (.iadd, 1) := by decide +kernel
theorem dL_law_540 : decode cL_law 540 = .ok (.iaload, 1) := by decide +kernel
theorem dL_law_541 : decode cL_law 541 = .ok (.aload_n 0, 1) := by decide +kernel
theorem dL_law_542 : decode cL_law 542 = .ok (.iload_n 3, 1) := by decide +kernel
theorem dL_law_543 : decode cL_law 543 = .ok (.iconst 2, 1) := by decide +kernel
theorem dL_law_544 : decode cL_law 544 = .ok (.iadd, 1) := by decide +kernel
theorem dL_law_545 : decode cL_law 545 = .ok (.iaload, 1) := by decide +kernel
theorem dL_law_546 : decode cL_law 546 = .ok (.invokevirtual 83, 3) := by decide +kernel
theorem dL_law_549 : decode cL_law 549 = .ok (.aload_n 2, 1) := by decide +kernel
theorem dL_law_550 : decode cL_law 550 = .ok (.aload_n 0, 1) := by decide +kernel
theorem dL_law_551 : decode cL_law 551 = .ok (.iload_n 3, 1) := by decide +kernel
theorem dL_law_552 : decode cL_law 552 = .ok (.iconst 1, 1) := by decide +kernel
theorem dL_law_553 : decode cL_law 553 = .ok (.iadd, 1) := by decide +kernel
theorem dL_law_554 : decode cL_law 554 = .ok (.iaload, 1) := by decide +kernel
theorem dL_law_555 : decode cL_law 555 = .ok (.aload_n 0, 1) := by decide +kernel
theorem dL_law_556 : decode cL_law 556 = .ok (.iload_n 3, 1) := by decide +kernel
theorem dL_law_557 : decode cL_law 557 = .ok (.iconst 2, 1) := by decide +kernel
theorem dL_law_558 : decode cL_law 558 = .ok (.iadd, 1) := by decide +kernel
theorem dL_law_559 : decode cL_law 559 = .ok (.iaload, 1) := by decide +kernel
theorem dL_law_560 : decode cL_law 560 = .ok (.invokevirtual 86, 3) := by decide +kernel
theorem dL_law_563 : decode cL_law 563 = .ok (.if_icmp .eq 117, 3) := by decide +kernel
theorem dL_law_566 : decode cL_law 566 = .ok (.iconst 0, 1) := by decide +kernel
theorem dL_law_567 : decode cL_law 567 = .ok (.ireturn, 1) := by decide +kernel
theorem dL_law_568 : decode cL_law 568 = .ok (.aload_n 1, 1) := by decide +kernel
theorem dL_law_569 : decode cL_law 569 = .ok (.aload_n 0, 1) := by decide +kernel
theorem dL_law_570 : decode cL_law 570 = .ok (.iload_n 3, 1) := by decide +kernel
theorem dL_law_571 : decode cL_law 571 = .ok (.iconst 1, 1) := by decide +kernel
theorem dL_law_572 : decode cL_law 572 = .ok (.iadd, 1) := by decide +kernel
theorem dL_law_573 : decode cL_law 573 = .ok (.iaload, 1) := by decide +kernel
theorem dL_law_574 : decode cL_law 574 = .ok (.aload_n 0, 1) := by decide +kernel
theorem dL_law_575 : decode cL_law 575 = .ok (.iload_n 3, 1) := by decide +kernel
theorem dL_law_576 : decode cL_law 576 = .ok (.iconst 2, 1) := by decide +kernel
theorem dL_law_577 : decode cL_law 577 = .ok (.iadd, 1) := by decide +kernel
theorem dL_law_578 : decode cL_law 578 = .ok (.iaload, 1) := by decide +kernel
theorem dL_law_579 : decode cL_law 579 = .ok (.invokevirtual 87, 3) := by decide +kernel
theorem dL_law_582 : decode cL_law 582 = .ok (.aload_n 2, 1) := by decide +kernel
theorem dL_law_583 : decode cL_law 583 = .ok (.aload_n 0, 1) := by decide +kernel
theorem dL_law_584 : decode cL_law 584 = .ok (.iload_n 3, 1) := by decide +kernel
theorem dL_law_585 : decode cL_law 585 = .ok (.iconst 1, 1) := by decide +kernel
theorem dL_law_586 : decode cL_law 586 = .ok (.iadd, 1) := by decide +kernel
theorem dL_law_587 : decode cL_law 587 = .ok (.iaload, 1) := by decide +kernel
theorem dL_law_588 : decode cL_law 588 = .ok (.aload_n 0, 1) := by decide +kernel
theorem dL_law_589 : decode cL_law 589 = .ok (.iload_n 3, 1) := by decide +kernel
theorem dL_law_590 : decode cL_law 590 = .ok (.iconst 2, 1) := by decide +kernel
theorem dL_law_591 : decode cL_law 591 = .ok (.iadd, 1) := by decide +kernel
theorem dL_law_592 : decode cL_law 592 = .ok (.iaload, 1) := by decide +kernel
theorem dL_law_593 : decode cL_law 593 = .ok (.invokevirtual 90, 3) := by decide +kernel
theorem dL_law_596 : decode cL_law 596 = .ok (.if_icmp .eq 84, 3) := by decide +kernel
theorem dL_law_599 : decode cL_law 599 = .ok (.iconst 0, 1) := by decide +kernel
theorem dL_law_600 : decode cL_law 600 = .ok (.ireturn, 1) := by decide +kernel
theorem dL_law_601 : decode cL_law 601 = .ok (.aload_n 1, 1) := by decide +kernel
theorem dL_law_602 : decode cL_law 602 = .ok (.aload_n 0, 1) := by decide +kernel
theorem dL_law_603 : decode cL_law 603 = .ok (.iload_n 3, 1) := by decide +kernel
theorem dL_law_604 : decode cL_law 604 = .ok (.iconst 1, 1) := by decide +kernel
theorem dL_law_605 : decode cL_law 605 = .ok (.iadd, 1) := by decide +kernel
theorem dL_law_606 : decode cL_law 606 = .ok (.iaload, 1) := by decide +kernel
theorem dL_law_607 : decode cL_law 607 = .ok (.invokevirtual 91, 3) := by decide +kernel
theorem dL_law_610 : decode cL_law 610 = .ok (.aload_n 2, 1) := by decide +kernel
theorem dL_law_611 : decode cL_law 611 = .ok (.aload_n 0, 1) := by decide +kernel
theorem dL_law_612 : decode cL_law 612 = .ok (.iload_n 3, 1) := by decide +kernel
theorem dL_law_613 : decode cL_law 613 = .ok (.iconst 1, 1) := by decide +kernel
theorem dL_law_614 : decode cL_law 614 = .ok (.iadd, 1) := by decide +kernel
theorem dL_law_615 : decode cL_law 615 = .ok (.iaload, 1) := by decide +kernel
theorem dL_law_616 : decode cL_law 616 = .ok (.invokevirtual 94, 3) := by decide +kernel
theorem dL_law_619 : decode cL_law 619 = .ok (.if_icmp .eq 61, 3) := by decide +kernel
theorem dL_law_622 : decode cL_law 622 = .ok (.iconst 0, 1) := by decide +kernel
theorem dL_law_623 : decode cL_law 623 = .ok (.ireturn, 1) := by decide +kernel
theorem dL_law_624 : decode cL_law 624 = .ok (.aload_n 1, 1) := by decide +kernel
theorem dL_law_625 : decode cL_law 625 = .ok (.aload_n 0, 1) := by decide +kernel
theorem dL_law_626 : decode cL_law 626 = .ok (.iload_n 3, 1) := by decide +kernel
theorem dL_law_627 : decode cL_law 627 = .ok (.iconst 1, 1) := by decide +kernel
theorem dL_law_628 : decode cL_law 628 = .ok (.iadd, 1) := by decide +kernel
theorem dL_law_629 : decode cL_law 629 = .ok (.iaload, 1) := by decide +kernel
theorem dL_law_630 : decode cL_law 630 = .ok (.aload_n 0, 1) := by decide +kernel
theorem dL_law_631 : decode cL_law 631 = .ok (.iload_n 3, 1) := by decide +kernel
theorem dL_law_632 : decode cL_law 632 = .ok (.iconst 2, 1) := by decide +kernel
theorem dL_law_633 : decode cL_law 633 = .ok (.iadd, 1) := by decide +kernel
theorem dL_law_634 : decode cL_law 634 = .ok (.iaload, 1) := by decide +kernel
theorem dL_law_635 : decode cL_law 635 = .ok (.invokevirtual 95, 3) := by decide +kernel
theorem dL_law_638 : decode cL_law 638 = .ok (.aload_n 2, 1) := by decide +kernel
theorem dL_law_639 : decode cL_law 639 = .ok (.aload_n 0, 1) := by decide +kernel
theorem dL_law_640 : decode cL_law 640 = .ok (.iload_n 3, 1) := by decide +kernel
theorem dL_law_641 : decode cL_law 641 = .ok (.iconst 1, 1) := by decide +kernel
theorem dL_law_642 : decode cL_law 642 = .ok (.iadd, 1) := by decide +kernel
theorem dL_law_643 : decode cL_law 643 = .ok (.iaload, 1) := by decide +kernel
theorem dL_law_644 : decode cL_law 644 = .ok (.aload_n 0, 1) := by decide +kernel
theorem dL_law_645 : decode cL_law 645 = .ok (.iload_n 3, 1) := by decide +kernel
theorem dL_law_646 : decode cL_law 646 = .ok (.iconst 2, 1) := by decide +kernel
theorem dL_law_647 : decode cL_law 647 = .ok (.iadd, 1) := by decide +kernel
theorem dL_law_648 : decode cL_law 648 = .ok (.iaload, 1) := by decide +kernel
theorem dL_law_649 : decode cL_law 649 = .ok (.invokevirtual 98, 3) := by decide +kernel
theorem dL_law_652 : decode cL_law 652 = .ok (.if_icmp .eq 28, 3) := by decide +kernel
theorem dL_law_655 : decode cL_law 655 = .ok (.iconst 0, 1) := by decide +kernel
theorem dL_law_656 : decode cL_law 656 = .ok (.ireturn, 1) := by decide +kernel
theorem dL_law_657 : decode cL_law 657 = .ok (.aload_n 1, 1) := by decide +kernel
theorem dL_law_658 : decode cL_law 658 = .ok (.aload_n 0, 1) := by decide +kernel
theorem dL_law_659 : decode cL_law 659 = .ok (.iload_n 3, 1) := by decide +kernel
theorem dL_law_660 : decode cL_law 660 = .ok (.iconst 1, 1) := by decide +kernel
theorem dL_law_661 : decode cL_law 661 = .ok (.iadd, 1) := by decide +kernel
theorem dL_law_662 : decode cL_law 662 = .ok (.iaload, 1) := by decide +kernel
theorem dL_law_663 : decode cL_law 663 = .ok (.invokevirtual 99, 3) := by decide +kernel
theorem dL_law_666 : decode cL_law 666 = .ok (.aload_n 2, 1) := by decide +kernel
theorem dL_law_667 : decode cL_law 667 = .ok (.aload_n 0, 1) := by decide +kernel
theorem dL_law_668 : decode cL_law 668 = .ok (.iload_n 3, 1) := by decide +kernel
theorem dL_law_669 : decode cL_law 669 = .ok (.iconst 1, 1) := by decide +kernel
theorem dL_law_670 : decode cL_law 670 = .ok (.iadd, 1) := by decide +kernel
theorem dL_law_671 : decode cL_law 671 = .ok (.iaload, 1) := by decide +kernel
theorem dL_law_672 : decode cL_law 672 = .ok (.invokevirtual 102, 3) := by decide +kernel
theorem dL_law_675 : decode cL_law 675 = .ok (.if_icmp .eq 5, 3) := by decide +kernel
theorem dL_law_678 : decode cL_law 678 = .ok (.iconst 0, 1) := by decide +kernel
theorem dL_law_679 : decode cL_law 679 = .ok (.ireturn, 1) := by decide +kernel
theorem dL_law_680 : decode cL_law 680 = .ok (.iinc 3 5, 3) := by decide +kernel
theorem dL_law_683 : decode cL_law 683 = .ok (.goto (-665), 3) := by decide +kernel
theorem dL_law_686 : decode cL_law 686 = .ok (.iconst 1, 1) := by decide +kernel
theorem dL_law_687 : decode cL_law 687 = .ok (.ireturn, 1) := by decide +kernel
