theorem dL_law_415 : decode mL_law.2.1 415 = .ok (.aload_n 3, 1) := by decide +kernel
theorem dL_law_416 : decode mL_law.2.1 416 = .ok (.invokestatic 82, 3) := by decide +kernel
theorem dL_law_419 : decode mL_law.2.1 419 = .ok (.istore 5, 2) := by decide +kernel
theorem dL_law_421 : decode mL_law.2.1 421 = .ok (.aload_n 2, 1) := by decide +kernel
theorem dL_law_422 : decode mL_law.2.1 422 = .ok (.aload_n 0, 1) := by decide +kernel
theorem dL_law_423 : decode mL_law.2.1 423 = .ok (.iload 4, 2) := by decide +kernel
theorem dL_law_425 : decode mL_law.2.1 425 = .ok (.iconst 1, 1) := by decide +kernel
theorem dL_law_426 : decode mL_law.2.1 426 = .ok (.iadd, 1) := by decide +kernel
theorem dL_law_427 : decode mL_law.2.1 427 = .ok (.iaload, 1) := by decide +kernel
theorem dL_law_428 : decode mL_law.2.1 428 = .ok (.aload_n 0, 1) := by decide +kernel
theorem dL_law_429 : decode mL_law.2.1 429 = .ok (.iload 4, 2) := by decide +kernel
theorem dL_law_431 : decode mL_law.2.1 431 = .ok (.iconst 2, 1) := by decide +kernel
theorem dL_law_432 : decode mL_law.2.1 432 = .ok (.iadd, 1) := by decide +kernel
theorem dL_law_433 : decode mL_law.2.1 433 = .ok (.iaload, 1) := by decide +kernel
theorem dL_law_434 : decode mL_law.2.1 434 = .ok (.ifCond .eq 7, 3) := by decide +kernel
theorem dL_law_437 : decode mL_law.2.1 437 = .ok (.iconst 1, 1) := by decide +kernel
theorem dL_law_438 : decode mL_law.2.1 438 = .ok (.goto 4, 3) := by decide +kernel
theorem dL_law_441 : decode mL_law.2.1 441 = .ok (.iconst 0, 1) := by decide +kernel
theorem dL_law_442 : decode mL_law.2.1 442 = .ok (.invokevirtual 85, 3) := by decide +kernel
theorem dL_law_445 : decode mL_law.2.1 445 = .ok (.istore 6, 2) := by decide +kernel
theorem dL_law_447 : decode mL_law.2.1 447 = .ok (.aload_n 2, 1) := by decide +kernel
theorem dL_law_448 : decode mL_law.2.1 448 = .ok (.invokevirtual 65, 3) := by decide +kernel
theorem dL_law_451 : decode mL_law.2.1 451 = .ok (.iload 5, 2) := by decide +kernel
theorem dL_law_453 : decode mL_law.2.1 453 = .ok (.if_icmp .eq 5, 3) := by decide +kernel
theorem dL_law_456 : decode mL_law.2.1 456 = .ok (.iconst 0, 1) := by decide +kernel
theorem dL_law_457 : decode mL_law.2.1 457 = .ok (.ireturn, 1) := by decide +kernel
theorem dL_law_458 : decode mL_law.2.1 458 = .ok (.iload 5, 2) := by decide +kernel
theorem dL_law_460 : decode mL_law.2.1 460 = .ok (.ifCond .ne 15, 3) := by decide +kernel
theorem dL_law_463 : decode mL_law.2.1 463 = .ok (.aload_n 3, 1) := by decide +kernel
theorem dL_law_464 : decode mL_law.2.1 464 = .ok (.iconst 0, 1) := by decide +kernel
theorem dL_law_465 : decode mL_law.2.1 465 = .ok (.laload, 1) := by decide +kernel
theorem dL_law_466 : decode mL_law.2.1 466 = .ok (.iload 6, 2) := by decide +kernel
theorem dL_law_468 : decode mL_law.2.1 468 = .ok (.i2l, 1) := by decide +kernel
theorem dL_law_469 : decode mL_law.2.1 469 = .ok (.lcmp, 1) := by decide +kernel
theorem dL_law_470 : decode mL_law.2.1 470 = .ok (.ifCond .eq 5, 3) := by decide +kernel
theorem dL_law_473 : decode mL_law.2.1 473 = .ok (.iconst 0, 1) := by decide +kernel
theorem dL_law_474 : decode mL_law.2.1 474 = .ok (.ireturn, 1) := by decide +kernel
theorem dL_law_475 : decode mL_law.2.1 475 = .ok (.goto 426, 3) := by decide +kernel
theorem dL_law_478 : decode mL_law.2.1 478 = .ok (.aload_n 1, 1) := by decide +kernel
theorem dL_law_479 : decode mL_law.2.1 479 = .ok (.aload_n 0, 1) := by decide +kernel
theorem dL_law_480 : decode mL_law.2.1 480 = .ok (.iload 4, 2) := by decide +kernel
theorem dL_law_482 : decode mL_law.2.1 482 = .ok (.iconst 1, 1) := by decide +kernel
theorem dL_law_483 : decode mL_law.2.1 483 = .ok (.iadd, 1) := by decide +kernel
theorem dL_law_484 : decode mL_law.2.1 484 = .ok (.iaload, 1) := by decide +kernel
theorem dL_law_485 : decode mL_law.2.1 485 = .ok (.aload_n 3, 1) := by decide +kernel
theorem dL_law_486 : decode mL_law.2.1 486 = .ok (.invokestatic 86, 3) := by decide +kernel
theorem dL_law_489 : decode mL_law.2.1 489 = .ok (.istore 5, 2) := by decide +kernel
theorem dL_law_491 : decode mL_law.2.1 491 = .ok (.aload_n 2, 1) := by decide +kernel
theorem dL_law_492 : decode mL_law.2.1 492 = .ok (.aload_n 0, 1) := by decide +kernel
theorem dL_law_493 : decode mL_law.2.1 493 = .ok (.iload 4, 2) := by decide +kernel
theorem dL_law_495 : decode mL_law.2.1 495 = .ok (.iconst 1, 1) := by decide +kernel
theorem dL_law_496 : decode mL_law.2.1 496 = .ok (.iadd, 1) := by decide +kernel
theorem dL_law_497 : decode mL_law.2.1 497 = .ok (.iaload, 1) := by decide +kernel
theorem dL_law_498 : decode mL_law.2.1 498 = .ok (.invokevirtual 88, 3) := by decide +kernel
theorem dL_law_501 : decode mL_law.2.1 501 = .ok (.istore 6, 2) := by decide +kernel
theorem dL_law_503 : decode mL_law.2.1 503 = .ok (.aload_n 2, 1) := by decide +kernel
theorem dL_law_504 : decode mL_law.2.1 504 = .ok (.invokevirtual 65, 3) := by decide +kernel
theorem dL_law_507 : decode mL_law.2.1 507 = .ok (.iload 5, 2) := by decide +kernel
theorem dL_law_509 : decode mL_law.2.1 509 = .ok (.if_icmp .eq 5, 3) := by decide +kernel
theorem dL_law_512 : decode mL_law.2.1 512 = .ok (.iconst 0, 1) := by decide +kernel
theorem dL_law_513 : decode mL_law.2.1 513 = .ok (.ireturn, 1) := by decide +kernel
theorem dL_law_514 : decode mL_law.2.1 514 = .ok (.iload 5, 2) := by decide +kernel
theorem dL_law_516 : decode mL_law.2.1 516 = .ok (.ifCond .ne 15, 3) := by decide +kernel
theorem dL_law_519 : decode mL_law.2.1 519 = .ok (.aload_n 3, 1) := by decide +kernel
theorem dL_law_520 : decode mL_law.2.1 520 = .ok (.iconst 0, 1) := by decide +kernel
theorem dL_law_521 : decode mL_law.2.1 521 = .ok (.laload, 1) := by decide +kernel
theorem dL_law_522 : decode mL_law.2.1 522 = .ok (.iload 6, 2) := by decide +kernel
theorem dL_law_524 : decode mL_law.2.1 524 = .ok (.i2l, 1) := by decide +kernel
theorem dL_law_525 : decode mL_law.2.1 525 = .ok (.lcmp, 1) := by decide +kernel
theorem dL_law_526 : decode mL_law.2.1 526 = .ok (.ifCond .eq 5, 3) := by decide +kernel
theorem dL_law_529 : decode mL_law.2.1 529 = .ok (.iconst 0, 1) := by decide +kernel
theorem dL_law_530 : decode mL_law.2.1 530 = .ok (.ireturn, 1) := by decide +kernel
theorem dL_law_531 : decode mL_law.2.1 531 = .ok (.goto 370, 3) := by decide +kernel
theorem dL_law_534 : decode mL_law.2.1 534 = .ok (.aload_n 1, 1) := by decide +kernel
theorem dL_law_535 : decode mL_law.2.1 535 = .ok (.aload_n 0, 1) := by decide +kernel
theorem dL_law_536 : decode mL_law.2.1 536 = .ok (.iload 4, 2) := by decide +kernel
theorem dL_law_538 : decode mL_law.2.1 538 = .ok (.iconst 1, 1) := by decide +kernel
theorem dL_law_539 : decode mL_law.2.1 539 = .ok (.iadd, 1) := by decide +kernel
theorem dL_law_540 : decode mL_law.2.1 540 = .ok (.iaload, 1) := by decide +kernel
theorem dL_law_541 : decode mL_law.2.1 541 = .ok (.aload_n 3, 1) := by decide +kernel
theorem dL_law_542 : decode mL_law.2.1 542 = .ok (.invokestatic 89, 3) := by decide +kernel
theorem dL_law_545 : decode mL_law.2.1 545 = .ok (.istore 5, 2) := by decide +kernel
theorem dL_law_547 : decode mL_law.2.1 547 = .ok (.aload_n 2, 1) := by decide +kernel
theorem dL_law_548 : decode mL_law.2.1 548 = .ok (.aload_n 0, 1) := by decide +kernel
theorem dL_law_549 : decode mL_law.2.1 549 = .ok (.iload 4, 2) := by decide +kernel
theorem dL_law_551 : decode mL_law.2.1 551 = .ok (.iconst 1, 1) := by decide +kernel
theorem dL_law_552 : decode mL_law.2.1 552 = .ok (.iadd, 1) := by decide +kernel
theorem dL_law_553 : decode mL_law.2.1 553 = .ok (.iaload, 1) := by decide +kernel
theorem dL_law_554 : decode mL_law.2.1 554 = .ok (.invokevirtual 91, 3) := by decide +kernel
theorem dL_law_557 : decode mL_law.2.1 557 = .ok (.istore 6, 2) := by decide +kernel
theorem dL_law_559 : decode mL_law.2.1 559 = .ok (.aload_n 2, 1) := by decide +kernel
theorem dL_law_560 : decode mL_law.2.1 560 = .ok (.invokevirtual 65, 3) := by decide +kernel
theorem dL_law_563 : decode mL_law.2.1 563 = .ok (.iload 5, 2) := by decide +kernel
theorem dL_law_565 : decode mL_law.2.1 565 = .ok (.if_icmp .eq 5, 3) := by decide +kernel
theorem dL_law_568 : decode mL_law.2.1 568 = .ok (.iconst 0, 1) := by decide +kernel
theorem dL_law_569 : decode mL_law.2.1 569 = .ok (.ireturn, 1) := by decide +kernel
theorem dL_law_570 : decode mL_law.2.1 570 = .ok (.iload 5, 2) := by decide +kernel
theorem dL_law_572 : decode mL_law.2.1 572 = .ok (.ifCond .ne 15, 3) := by decide +kernel
theorem dL_law_575 : decode mL_law.2.1 575 = .ok (.aload_n 3, 1) := by decide +kernel
theorem dL_law_576 : decode mL_law.2.1 576 = .ok (.iconst 0, 1) := by decide +kernel
theorem dL_law_577 : decode mL_law.2.1 577 = .ok (.laload, 1) := by decide +kernel
theorem dL_law_578 : decode mL_law.2.1 578 = .ok (.iload 6, 2) := by decide +kernel
theorem dL_law_580 : decode mL_law.2.1 580 = .ok (.i2l, 1) := by decide +kernel
theorem dL_law_581 : decode mL_law.2.1 581 = .ok (.lcmp, 1) := by decide +kernel
theorem dL_law_582 : decode mL_law.2.1 582 = .ok (.ifCond .eq 5, 3) := by decide +kernel
theorem dL_law_585 : decode mL_law.2.1 585 = .ok (.iconst 0, 1) := by decide +kernel
theorem dL_law_586 : decode mL_law.2.1 586 = .ok (.ireturn, 1) := by decide +kernel
theorem dL_law_587 : decode mL_law.2.1 587 = .ok (.goto 314, 3) := by decide +kernel
theorem dL_law_590 : decode mL_law.2.1 590 = .ok (.aload_n 1, 1) := by decide +kernel
theorem dL_law_591 : decode mL_law.2.1 591 = .ok (.aload_n 0, 1) := by decide +kernel
theorem dL_law_592 : decode mL_law.2.1 592 = .ok (.iload 4, 2) := by decide +kernel
theorem dL_law_594 : decode mL_law.2.1 594 = .ok (.iconst 1, 1) := by decide +kernel
theorem dL_law_595 : decode mL_law.2.1 595 = .ok (.iadd, 1) := by decide +kernel
theorem dL_law_596 : decode mL_law.2.1 596 = .ok (.iaload, 1) := by decide +kernel
theorem dL_law_597 : decode mL_law.2.1 597 = .ok (.aload_n 3, 1) := by decide +kernel
theorem dL_law_598 : decode mL_law.2.1 598 = .ok (.invokestatic 92, 3) := by decide +kernel
theorem dL_law_601 : decode mL_law.2.1 601 = .ok (.istore 5, 2) := by decide +kernel
theorem dL_law_603 : decode mL_law.2.1 603 = .ok (.aload_n 2, 1) := by decide +kernel
theorem dL_law_604 : decode mL_law.2.1 604 = .ok (.aload_n 0, 1) := by decide +kernel
theorem dL_law_605 : decode mL_law.2.1 605 = .ok (.iload 4, 2) := by decide +kernel
theorem dL_law_607 : decode mL_law.2.1 607 = .ok (.iconst 1, 1) := by decide +kernel
theorem dL_law_608 : decode mL_law.2.1 608 = .ok (.iadd, 1) := by decide +kernel
theorem dL_law_609 : decode mL_law.2.1 609 = .ok (.iaload, 1) := by decide +kernel
theorem dL_law_610 : decode mL_law.2.1 610 = .ok (.invokevirtual 94, 3) := by decide +kernel
theorem dL_law_613 : decode mL_law.2.1 613 = .ok (.istore 6, 2) := by decide +kernel
theorem dL_law_615 : decode mL_law.2.1 615 = .ok (.aload_n 2, 1) := by decide +kernel
theorem dL_law_616 : decode mL_law.2.1 616 = .ok (.invokevirtual 65, 3) := by decide +kernel
theorem dL_law_619 : decode mL_law.2.1 619 = .ok (.iload 5, 2) := by decide +kernel
theorem dL_law_621 : decode mL_law.2.1 621 = .ok (.if_icmp .eq 5, 3) := by decide +kernel
theorem dL_law_624 : decode mL_law.2.1 624 = .ok (.iconst 0, 1) := by decide +kernel
theorem dL_law_625 : decode mL_law.2.1 625 = .ok (.ireturn, 1) := by decide +kernel
theorem dL_law_626 : decode mL_law.2.1 626 = .ok (.iload 5, 2) := by decide +kernel
theorem dL_law_628 : decode mL_law.2.1 628 = .ok (.ifCond .ne 22, 3) := by decide +kernel
theorem dL_law_631 : decode mL_law.2.1 631 = .ok (.aload_n 3, 1) := by decide +kernel
theorem dL_law_632 : decode mL_law.2.1 632 = .ok (.iconst 0, 1) := by decide +kernel
theorem dL_law_633 : decode mL_law.2.1 633 = .ok (.laload, 1) := by decide +kernel
theorem dL_law_634 : decode mL_law.2.1 634 = .ok (.iload 6, 2) := by decide +kernel
theorem dL_law_636 : decode mL_law.2.1 636 = .ok (.ifCond .eq 7, 3) := by decide +kernel
theorem dL_law_639 : decode mL_law.2.1 639 = .ok (.lconst 1, 1) := by decide +kernel
theorem dL_law_640 : decode mL_law.2.1 640 = .ok (.goto 4, 3) := by decide +kernel
theorem dL_law_643 : decode mL_law.2.1 643 = .ok (.lconst 0, 1) := by decide +kernel
theorem dL_law_644 : decode mL_law.2.1 644 = .ok (.lcmp, 1) := by decide +kernel
theorem dL_law_645 : decode mL_law.2.1 645 = .ok (.ifCond .eq 5, 3) := by decide +kernel
theorem dL_law_648 : decode mL_law.2.1 648 = .ok (.iconst 0, 1) := by decide +kernel
theorem dL_law_649 : decode mL_law.2.1 649 = .ok (.ireturn, 1) := by decide +kernel
theorem dL_law_650 : decode mL_law.2.1 650 = .ok (.goto 251, 3) := by decide +kernel
theorem dL_law_653 : decode mL_law.2.1 653 = .ok (.aload_n 1, 1) := by decide +kernel
theorem dL_law_654 : decode mL_law.2.1 654 = .ok (.aload_n 0, 1) := by decide +kernel
theorem dL_law_655 : decode mL_law.2.1 655 = .ok (.iload 4, 2) := by decide +kernel
theorem dL_law_657 : decode mL_law.2.1 657 = .ok (.iconst 1, 1) := by decide +kernel
theorem dL_law_658 : decode mL_law.2.1 658 = .ok (.iadd, 1) := by decide +kernel
theorem dL_law_659 : decode mL_law.2.1 659 = .ok (.iaload, 1) := by decide +kernel
theorem dL_law_660 : decode mL_law.2.1 660 = .ok (.aload_n 0, 1) := by decide +kernel
theorem dL_law_661 : decode mL_law.2.1 661 = .ok (.iload 4, 2) := by decide +kernel
theorem dL_law_663 : decode mL_law.2.1 663 = .ok (.iconst 2, 1) := by decide +kernel
theorem dL_law_664 : decode mL_law.2.1 664 = .ok (.iadd, 1) := by decide +kernel
theorem dL_law_665 : decode mL_law.2.1 665 = .ok (.iaload, 1) := by decide +kernel
theorem dL_law_666 : decode mL_law.2.1 666 = .ok (.aload_n 3, 1) := by decide +kernel
theorem dL_law_667 : decode mL_law.2.1 667 = .ok (.invokestatic 95, 3) := by decide +kernel
theorem dL_law_670 : decode mL_law.2.1 670 = .ok (.istore 5, 2) := by decide +kernel
theorem dL_law_672 : decode mL_law.2.1 672 = .ok (.aload_n 2, 1) := by decide +kernel
theorem dL_law_673 : decode mL_law.2.1 673 = .ok (.aload_n 0, 1) := by decide +kernel
theorem dL_law_674 : decode mL_law.2.1 674 = .ok (.iload 4, 2) := by decide +kernel
theorem dL_law_676 : decode mL_law.2.1 676 = .ok (.iconst 1, 1) := by decide +kernel
theorem dL_law_677 : decode mL_law.2.1 677 = .ok (.iadd, 1) := by decide +kernel
theorem dL_law_678 : decode mL_law.2.1 678 = .ok (.iaload, 1) := by decide +kernel
theorem dL_law_679 : decode mL_law.2.1 679 = .ok (.aload_n 0, 1) := by decide +kernel
theorem dL_law_680 : decode mL_law.2.1 680 = .ok (.iload 4, 2) := by decide +kernel
theorem dL_law_682 : decode mL_law.2.1 682 = .ok (.iconst 2, 1) := by decide +kernel
theorem dL_law_683 : decode mL_law.2.1 683 = .ok (.iadd, 1) := by decide +kernel
theorem dL_law_684 : decode mL_law.2.1 684 = .ok (.iaload, 1) := by decide +kernel
theorem dL_law_685 : decode mL_law.2.1 685 = .ok (.invokevirtual 97, 3) := by decide +kernel
theorem dL_law_688 : decode mL_law.2.1 688 = .ok (.istore 6, 2) := by decide +kernel
theorem dL_law_690 : decode mL_law.2.1 690 = .ok (.aload_n 2, 1) := by decide +kernel
theorem dL_law_691 : decode mL_law.2.1 691 = .ok (.invokevirtual 65, 3) := by decide +kernel
theorem dL_law_694 : decode mL_law.2.1 694 = .ok (.iload 5, 2) := by decide +kernel
theorem dL_law_696 : decode mL_law.2.1 696 = .ok (.if_icmp .eq 5, 3) := by decide +kernel
theorem dL_law_699 : decode mL_law.2.1 699 = .ok (.iconst 0, 1) := by decide +kernel
theorem dL_law_700 : decode mL_law.2.1 700 = .ok (.ireturn, 1) := by decide +kernel
theorem dL_law_701 : decode mL_law.2.1 701 = .ok (.iload 5, 2) := by decide +kernel
theorem dL_law_703 : decode mL_law.2.1 703 = .ok (.ifCond .ne 22, 3) := by decide +kernel
theorem dL_law_706 : decode mL_law.2.1 706 = .ok (.aload_n 3, 1) := by decide +kernel
theorem dL_law_707 : decode mL_law.2.1 707 = .ok (.iconst 0, 1) := by decide +kernel
theorem dL_law_708 : decode mL_law.2.1 708 = .ok (.laload, 1) := by decide +kernel
theorem dL_law_709 : decode mL_law.2.1 709 = .ok (.iload 6, 2) := by decide +kernel
theorem dL_law_711 : decode mL_law.2.1 711 = .ok (.ifCond .eq 7, 3) := by decide +kernel
theorem dL_law_714 : decode mL_law.2.1 714 = .ok (.lconst 1, 1) := by decide +kernel
theorem dL_law_715 : decode mL_law.2.1 715 = .ok (.goto 4, 3) := by decide +kernel
theorem dL_law_718 : decode mL_law.2.1 718 = .ok (.lconst 0, 1) := by decide +kernel
theorem dL_law_719 : decode mL_law.2.1 719 = .ok (.lcmp, 1) := by decide +kernel
theorem dL_law_720 : decode mL_law.2.1 720 = .ok (.ifCond .eq 5, 3) := by decide +kernel
theorem dL_law_723 : decode mL_law.2.1 723 = .ok (.iconst 0, 1) := by decide +kernel
theorem dL_law_724 : decode mL_law.2.1 724 = .ok (.ireturn, 1) := by decide +kernel
theorem dL_law_725 : decode mL_law.2.1 725 = .ok (.goto 176, 3) := by decide +kernel
theorem dL_law_728 : decode mL_law.2.1 728 = .ok (.aload_n 1, 1) := by decide +kernel
theorem dL_law_729 : decode mL_law.2.1 729 = .ok (.aload_n 0, 1) := by decide +kernel
theorem dL_law_730 : decode mL_law.2.1 730 = .ok (.iload 4, 2) := by decide +kernel
theorem dL_law_732 : decode mL_law.2.1 732 = .ok (.iconst 1, 1) := by decide +kernel
theorem dL_law_733 : decode mL_law.2.1 733 = .ok (.iadd, 1) := by decide +kernel
theorem dL_law_734 : decode mL_law.2.1 734 = .ok (.iaload, 1) := by decide +kernel
theorem dL_law_735 : decode mL_law.2.1 735 = .ok (.aload_n 0, 1) := by decide +kernel
theorem dL_law_736 : decode mL_law.2.1 736 = .ok (.iload 4, 2) := by decide +kernel
theorem dL_law_738 : decode mL_law.2.1 738 = .ok (.iconst 2, 1) := by decide +kernel
theorem dL_law_739 : decode mL_law.2.1 739 = .ok (.iadd, 1) := by decide +kernel
theorem dL_law_740 : decode mL_law.2.1 740 = .ok (.iaload, 1) := by decide +kernel
theorem dL_law_741 : decode mL_law.2.1 741 = .ok (.aload_n 3, 1) := by decide +kernel
theorem dL_law_742 : decode mL_law.2.1 742 = .ok (.invokestatic 98, 3) := by decide +kernel
theorem dL_law_745 : decode mL_law.2.1 745 = .ok (.istore 5, 2) := by decide +kernel
theorem dL_law_747 : decode mL_law.2.1 747 = .ok (.aload_n 2, 1) := by decide +kernel
theorem dL_law_748 : decode mL_law.2.1 748 = .ok (.aload_n 0, 1) := by decide +kernel
theorem dL_law_749 : decode mL_law.2.1 749 = .ok (.iload 4, 2) := by decide +kernel
theorem dL_law_751 : decode mL_law.2.1 751 = .ok (.iconst 1, 1) := by decide +kernel
theorem dL_law_752 : decode mL_law.2.1 752 = .ok (.iadd, 1) := by decide +kernel
theorem dL_law_753 : decode mL_law.2.1 753 = .ok (.iaload, 1) := by decide +kernel
theorem dL_law_754 : decode mL_law.2.1 754 = .ok (.aload_n 0, 1) := by decide +kernel
theorem dL_law_755 : decode mL_law.2.1 755 = .ok (.iload 4, 2) := by decide +kernel
theorem dL_law_757 : decode mL_law.2.1 757 = .ok (.iconst 2, 1) := by decide +kernel
theorem dL_law_758 : decode mL_law.2.1 758 = .ok (.iadd, 1) := by decide +kernel
theorem dL_law_759 : decode mL_law.2.1 759 = .ok (.iaload, 1) := by decide +kernel
theorem dL_law_760 : decode mL_law.2.1 760 = .ok (.invokevirtual 100, 3) := by decide +kernel
theorem dL_law_763 : decode mL_law.2.1 763 = .ok (.lstore 6, 2) := by decide +kernel
theorem dL_law_765 : decode mL_law.2.1 765 = .ok (.aload_n 2, 1) := by decide +kernel
theorem dL_law_766 : decode mL_law.2.1 766 = .ok (.invokevirtual 65, 3) := by decide +kernel
theorem dL_law_769 : decode mL_law.2.1 769 = .ok (.iload 5, 2) := by decide +kernel
theorem dL_law_771 : decode mL_law.2.1 771 = .ok (.if_icmp .eq 5, 3) := by decide +kernel
theorem dL_law_774 : decode mL_law.2.1 774 = .ok (.iconst 0, 1) := by decide +kernel
theorem dL_law_775 : decode mL_law.2.1 775 = .ok (.ireturn, 1) := by decide +kernel
theorem dL_law_776 : decode mL_law.2.1 776 = .ok (.iload 5, 2) := by decide +kernel
theorem dL_law_778 : decode mL_law.2.1 778 = .ok (.ifCond .ne 14, 3) := by decide +kernel
theorem dL_law_781 : decode mL_law.2.1 781 = .ok (.aload_n 3, 1) := by decide +kernel
theorem dL_law_782 : decode mL_law.2.1 782 = .ok (.iconst 0, 1) := by decide +kernel
theorem dL_law_783 : decode mL_law.2.1 783 = .ok (.laload, 1) := by decide +kernel
theorem dL_law_784 : decode mL_law.2.1 784 = .ok (.lload 6, 2) := by decide +kernel
theorem dL_law_786 : decode mL_law.2.1 786 = .ok (.lcmp, 1) := by decide +kernel
theorem dL_law_787 : decode mL_law.2.1 787 = .ok (.ifCond .eq 5, 3) := by decide +kernel
theorem dL_law_790 : decode mL_law.2.1 790 = .ok (.iconst 0, 1) := by decide +kernel
theorem dL_law_791 : decode mL_law.2.1 791 = .ok (.ireturn, 1) := by decide +kernel
theorem dL_law_792 : decode mL_law.2.1 792 = .ok (.goto 109, 3) := by decide +kernel
theorem dL_law_795 : decode mL_law.2.1 795 = .ok (.aload_n 1, 1) := by decide +kernel
theorem dL_law_796 : decode mL_law.2.1 796 = .ok (.invokevirtual 101, 3) := by decide +kernel
theorem dL_law_799 : decode mL_law.2.1 799 = .ok (.aload_n 2, 1) := by decide +kernel
theorem dL_law_800 : decode mL_law.2.1 800 = .ok (.invokevirtual 104, 3) := by decide +kernel
theorem dL_law_803 : decode mL_law.2.1 803 = .ok (.if_icmp .eq 98, 3) := by decide +kernel
theorem dL_law_806 : decode mL_law.2.1 806 = .ok (.iconst 0, 1) := by decide +kernel
theorem dL_law_807 : decode mL_law.2.1 807 = .ok (.ireturn, 1) := by decide +kernel
theorem dL_law_808 : decode mL_law.2.1 808 = .ok (.aload_n 1, 1) := by decide +kernel
theorem dL_law_809 : decode mL_law.2.1 809 = .ok (.aload_n 0, 1) := by decide +kernel
theorem dL_law_810 : decode mL_law.2.1 810 = .ok (.iload 4, 2) := by decide +kernel
theorem dL_law_812 : decode mL_law.2.1 812 = .ok (.iconst 1, 1) := by decide +kernel
theorem dL_law_813 : decode mL_law.2.1 813 = .ok (.iadd, 1) := by decide +kernel
theorem dL_law_814 : decode mL_law.2.1 814 = .ok (.iaload, 1) := by decide +kernel
theorem dL_law_815 : decode mL_law.2.1 815 = .ok (.aload_n 0, 1) := by decide +kernel
theorem dL_law_816 : decode mL_law.2.1 816 = .ok (.iload 4, 2) := by decide +kernel
theorem dL_law_818 : decode mL_law.2.1 818 = .ok (.iconst 2, 1) := by decide +kernel
theorem dL_law_819 : decode mL_law.2.1 819 = .ok (.iadd, 1) := by decide +kernel
theorem dL_law_820 : decode mL_law.2.1 820 = .ok (.iaload, 1) := by decide +kernel
theorem dL_law_821 : decode mL_law.2.1 821 = .ok (.aload_n 3, 1) := by decide +kernel
theorem dL_law_822 : decode mL_law.2.1 822 = .ok (.invokestatic 105, 3) := by decide +kernel
theorem dL_law_825 : decode mL_law.2.1 825 = .ok (.istore 5, 2) := by decide +kernel
theorem dL_law_827 : decode mL_law.2.1 827 = .ok (.aload_n 2, 1) := by decide +kernel
theorem dL_law_828 : decode mL_law.2.1 828 = .ok (.aload_n 0, 1) := by decide +kernel
theorem dL_law_829 : decode mL_law.2.1 829 = .ok (.iload 4, 2) := by decide +kernel
theorem dL_law_831 : decode mL_law.2.1 831 = .ok (.iconst 1, 1) := by decide +kernel
theorem dL_law_832 : decode mL_law.2.1 832 = .ok (.iadd, 1) := by decide +kernel
theorem dL_law_833 : decode mL_law.2.1 833 = .ok (.iaload, 1) := by decide +kernel
theorem dL_law_834 : decode mL_law.2.1 834 = .ok (.aload_n 0, 1) := by decide +kernel
theorem dL_law_835 : decode mL_law.2.1 835 = .ok (.iload 4, 2) := by decide +kernel
theorem dL_law_837 : decode mL_law.2.1 837 = .ok (.iconst 2, 1) := by decide +kernel
theorem dL_law_838 : decode mL_law.2.1 838 = .ok (.iadd, 1) := by decide +kernel
theorem dL_law_839 : decode mL_law.2.1 839 = .ok (.iaload, 1) := by decide +kernel
theorem dL_law_840 : decode mL_law.2.1 840 = .ok (.invokevirtual 107, 3) := by decide +kernel
theorem dL_law_843 : decode mL_law.2.1 843 = .ok (.istore 6, 2) := by decide +kernel
theorem dL_law_845 : decode mL_law.2.1 845 = .ok (.aload_n 2, 1) := by decide +kernel
theorem dL_law_846 : decode mL_law.2.1 846 = .ok (.invokevirtual 65, 3) := by decide +kernel
theorem dL_law_849 : decode mL_law.2.1 849 = .ok (.iload 5, 2) := by decide +kernel
theorem dL_law_851 : decode mL_law.2.1 851 = .ok (.if_icmp .eq 5, 3) := by decide +kernel
theorem dL_law_854 : decode mL_law.2.1 854 = .ok (.iconst 0, 1) := by decide +kernel
theorem dL_law_855 : decode mL_law.2.1 855 = .ok (.ireturn, 1) := by decide +kernel
theorem dL_law_856 : decode mL_law.2.1 856 = .ok (.iload 5, 2) := by decide +kernel
theorem dL_law_858 : decode mL_law.2.1 858 = .ok (.ifCond .ne 15, 3) := by decide +kernel
theorem dL_law_861 : decode mL_law.2.1 861 = .ok (.aload_n 3, 1) := by decide +kernel
theorem dL_law_862 : decode mL_law.2.1 862 = .ok (.iconst 0, 1) := by decide +kernel
theorem dL_law_863 : decode mL_law.2.1 863 = .ok (.laload, 1) := by decide +kernel
theorem dL_law_864 : decode mL_law.2.1 864 = .ok (.iload 6, 2) := by decide +kernel
theorem dL_law_866 : decode mL_law.2.1 866 = .ok (.i2l, 1) := by decide +kernel
theorem dL_law_867 : decode mL_law.2.1 867 = .ok (.lcmp, 1) := by decide +kernel
theorem dL_law_868 : decode mL_law.2.1 868 = .ok (.ifCond .eq 5, 3) := by decide +kernel
theorem dL_law_871 : decode mL_law.2.1 871 = .ok (.iconst 0, 1) := by decide +kernel
theorem dL_law_872 : decode mL_law.2.1 872 = .ok (.ireturn, 1) := by decide +kernel
theorem dL_law_873 : decode mL_law.2.1 873 = .ok (.goto 28, 3) := by decide +kernel
theorem dL_law_876 : decode mL_law.2.1 876 = .ok (.aload_n 1, 1) := by decide +kernel
theorem dL_law_877 : decode mL_law.2.1 877 = .ok (.aload_n 0, 1) := by decide +kernel
theorem dL_law_878 : decode mL_law.2.1 878 = .ok (.iload 4, 2) := by decide +kernel
theorem dL_law_880 : decode mL_law.2.1 880 = .ok (.iconst 1, 1) := by decide +kernel
theorem dL_law_881 : decode mL_law.2.1 881 = .ok (.iadd, 1) := by decide +kernel
theorem dL_law_882 : decode mL_law.2.1 882 = .ok (.iaload, 1) := by decide +kernel
theorem dL_law_883 : decode mL_law.2.1 883 = .ok (.invokevirtual 108, 3) := by decide +kernel
theorem dL_law_886 : decode mL_law.2.1 886 = .ok (.aload_n 2, 1) := by decide +kernel
theorem dL_law_887 : decode mL_law.2.1 887 = .ok (.aload_n 0, 1) := by decide +kernel
theorem dL_law_888 : decode mL_law.2.1 888 = .ok (.iload 4, 2) := by decide +kernel
theorem dL_law_890 : decode mL_law.2.1 890 = .ok (.iconst 1, 1) := by decide +kernel
theorem dL_law_891 : decode mL_law.2.1 891 = .ok (.iadd, 1) := by decide +kernel
theorem dL_law_892 : decode mL_law.2.1 892 = .ok (.iaload, 1) := by decide +kernel
theorem dL_law_893 : decode mL_law.2.1 893 = .ok (.invokevirtual 111, 3) := by decide +kernel
theorem dL_law_896 : decode mL_law.2.1 896 = .ok (.if_icmp .eq 5, 3) := by decide +kernel
theorem dL_law_899 : decode mL_law.2.1 899 = .ok (.iconst 0, 1) := by decide +kernel
theorem dL_law_900 : decode mL_law.2.1 900 = .ok (.ireturn, 1) := by decide +kernel
theorem dL_law_901 : decode mL_law.2.1 901 = .ok (.iinc 4 5, 3) := by decide +kernel
theorem dL_law_904 : decode mL_law.2.1 904 = .ok (.goto (-881), 3) := by decide +kernel
theorem dL_law_907 : decode mL_law.2.1 907 = .ok (.iconst 1, 1) := by decide +kernel
theorem dL_law_908 : decode mL_law.2.1 908 = .ok (.ireturn, 1) := by decide +kernel
