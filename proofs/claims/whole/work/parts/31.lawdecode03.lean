theorem d_L_law_502 : decode code 502 = .ok (.invokevirtual 33, 3) := by decide +kernel
theorem d_L_law_505 : decode code 505 = .ok (.if_icmp .eq 697, 3) := by decide +kernel
theorem d_L_law_508 : decode code 508 = .ok (.iconst 0, 1) := by decide +kernel
theorem d_L_law_509 : decode code 509 = .ok (.ireturn, 1) := by decide +kernel
theorem d_L_law_510 : decode code 510 = .ok (.aload_n 1, 1) := by decide +kernel
theorem d_L_law_511 : decode code 511 = .ok (.aload_n 0, 1) := by decide +kernel
theorem d_L_law_512 : decode code 512 = .ok (.iload_n 3, 1) := by decide +kernel
theorem d_L_law_513 : decode code 513 = .ok (.iconst 1, 1) := by decide +kernel
theorem d_L_law_514 : decode code 514 = .ok (.iadd, 1) := by decide +kernel
theorem d_L_law_515 : decode code 515 = .ok (.iaload, 1) := by decide +kernel
theorem d_L_law_516 : decode code 516 = .ok (.invokevirtual 34, 3) := by decide +kernel
theorem d_L_law_519 : decode code 519 = .ok (.aload_n 2, 1) := by decide +kernel
theorem d_L_law_520 : decode code 520 = .ok (.aload_n 0, 1) := by decide +kernel
theorem d_L_law_521 : decode code 521 = .ok (.iload_n 3, 1) := by decide +kernel
theorem d_L_law_522 : decode code 522 = .ok (.iconst 1, 1) := by decide +kernel
theorem d_L_law_523 : decode code 523 = .ok (.iadd, 1) := by decide +kernel
theorem d_L_law_524 : decode code 524 = .ok (.iaload, 1) := by decide +kernel
theorem d_L_law_525 : decode code 525 = .ok (.invokevirtual 38, 3) := by decide +kernel
theorem d_L_law_528 : decode code 528 = .ok (.if_icmp .eq 674, 3) := by decide +kernel
theorem d_L_law_531 : decode code 531 = .ok (.iconst 0, 1) := by decide +kernel
theorem d_L_law_532 : decode code 532 = .ok (.ireturn, 1) := by decide +kernel
theorem d_L_law_533 : decode code 533 = .ok (.aload_n 1, 1) := by decide +kernel
theorem d_L_law_534 : decode code 534 = .ok (.aload_n 0, 1) := by decide +kernel
theorem d_L_law_535 : decode code 535 = .ok (.iload_n 3, 1) := by decide +kernel
theorem d_L_law_536 : decode code 536 = .ok (.iconst 1, 1) := by decide +kernel
theorem d_L_law_537 : decode code 537 = .ok (.iadd, 1) := by decide +kernel
theorem d_L_law_538 : decode code 538 = .ok (.iaload, 1) := by decide +kernel
theorem d_L_law_539 : decode code 539 = .ok (.invokevirtual 39, 3) := by decide +kernel
theorem d_L_law_542 : decode code 542 = .ok (.aload_n 2, 1) := by decide +kernel
theorem d_L_law_543 : decode code 543 = .ok (.aload_n 0, 1) := by decide +kernel
theorem d_L_law_544 : decode code 544 = .ok (.iload_n 3, 1) := by decide +kernel
theorem d_L_law_545 : decode code 545 = .ok (.iconst 1, 1) := by decide +kernel
theorem d_L_law_546 : decode code 546 = .ok (.iadd, 1) := by decide +kernel
theorem d_L_law_547 : decode code 547 = .ok (.iaload, 1) := by decide +kernel
theorem d_L_law_548 : decode code 548 = .ok (.invokevirtual 42, 3) := by decide +kernel
theorem d_L_law_551 : decode code 551 = .ok (.if_icmp .eq 651, 3) := by decide +kernel
theorem d_L_law_554 : decode code 554 = .ok (.iconst 0, 1) := by decide +kernel
theorem d_L_law_555 : decode code 555 = .ok (.ireturn, 1) := by decide +kernel
theorem d_L_law_556 : decode code 556 = .ok (.aload_n 1, 1) := by decide +kernel
theorem d_L_law_557 : decode code 557 = .ok (.aload_n 0, 1) := by decide +kernel
theorem d_L_law_558 : decode code 558 = .ok (.iload_n 3, 1) := by decide +kernel
theorem d_L_law_559 : decode code 559 = .ok (.iconst 1, 1) := by decide +kernel
theorem d_L_law_560 : decode code 560 = .ok (.iadd, 1) := by decide +kernel
theorem d_L_law_561 : decode code 561 = .ok (.iaload, 1) := by decide +kernel
theorem d_L_law_562 : decode code 562 = .ok (.i2l, 1) := by decide +kernel
theorem d_L_law_563 : decode code 563 = .ok (.bipush 32, 2) := by decide +kernel
theorem d_L_law_565 : decode code 565 = .ok (.lshl, 1) := by decide +kernel
theorem d_L_law_566 : decode code 566 = .ok (.aload_n 0, 1) := by decide +kernel
theorem d_L_law_567 : decode code 567 = .ok (.iload_n 3, 1) := by decide +kernel
theorem d_L_law_568 : decode code 568 = .ok (.iconst 2, 1) := by decide +kernel
theorem d_L_law_569 : decode code 569 = .ok (.iadd, 1) := by decide +kernel
theorem d_L_law_570 : decode code 570 = .ok (.iaload, 1) := by decide +kernel
theorem d_L_law_571 : decode code 571 = .ok (.i2l, 1) := by decide +kernel
theorem d_L_law_572 : decode code 572 = .ok (.ldc2_w 13, 3) := by decide +kernel
theorem d_L_law_575 : decode code 575 = .ok (.land, 1) := by decide +kernel
theorem d_L_law_576 : decode code 576 = .ok (.lor, 1) := by decide +kernel
theorem d_L_law_577 : decode code 577 = .ok (.aload_n 0, 1) := by decide +kernel
theorem d_L_law_578 : decode code 578 = .ok (.iload_n 3, 1) := by decide +kernel
theorem d_L_law_579 : decode code 579 = .ok (.iconst 3, 1) := by decide +kernel
theorem d_L_law_580 : decode code 580 = .ok (.iadd, 1) := by decide +kernel
theorem d_L_law_581 : decode code 581 = .ok (.iaload, 1) := by decide +kernel
theorem d_L_law_582 : decode code 582 = .ok (.i2l, 1) := by decide +kernel
theorem d_L_law_583 : decode code 583 = .ok (.bipush 32, 2) := by decide +kernel
theorem d_L_law_585 : decode code 585 = .ok (.lshl, 1) := by decide +kernel
theorem d_L_law_586 : decode code 586 = .ok (.aload_n 0, 1) := by decide +kernel
theorem d_L_law_587 : decode code 587 = .ok (.iload_n 3, 1) := by decide +kernel
theorem d_L_law_588 : decode code 588 = .ok (.iconst 4, 1) := by decide +kernel
theorem d_L_law_589 : decode code 589 = .ok (.iadd, 1) := by decide +kernel
theorem d_L_law_590 : decode code 590 = .ok (.iaload, 1) := by decide +kernel
theorem d_L_law_591 : decode code 591 = .ok (.i2l, 1) := by decide +kernel
theorem d_L_law_592 : decode code 592 = .ok (.ldc2_w 13, 3) := by decide +kernel
theorem d_L_law_595 : decode code 595 = .ok (.land, 1) := by decide +kernel
theorem d_L_law_596 : decode code 596 = .ok (.lor, 1) := by decide +kernel
theorem d_L_law_597 : decode code 597 = .ok (.invokevirtual 43, 3) := by decide +kernel
theorem d_L_law_600 : decode code 600 = .ok (.aload_n 2, 1) := by decide +kernel
theorem d_L_law_601 : decode code 601 = .ok (.aload_n 0, 1) := by decide +kernel
theorem d_L_law_602 : decode code 602 = .ok (.iload_n 3, 1) := by decide +kernel
theorem d_L_law_603 : decode code 603 = .ok (.iconst 1, 1) := by decide +kernel
theorem d_L_law_604 : decode code 604 = .ok (.iadd, 1) := by decide +kernel
theorem d_L_law_605 : decode code 605 = .ok (.iaload, 1) := by decide +kernel
theorem d_L_law_606 : decode code 606 = .ok (.i2l, 1) := by decide +kernel
theorem d_L_law_607 : decode code 607 = .ok (.bipush 32, 2) := by decide +kernel
theorem d_L_law_609 : decode code 609 = .ok (.lshl, 1) := by decide +kernel
theorem d_L_law_610 : decode code 610 = .ok (.aload_n 0, 1) := by decide +kernel
theorem d_L_law_611 : decode code 611 = .ok (.iload_n 3, 1) := by decide +kernel
theorem d_L_law_612 : decode code 612 = .ok (.iconst 2, 1) := by decide +kernel
theorem d_L_law_613 : decode code 613 = .ok (.iadd, 1) := by decide +kernel
theorem d_L_law_614 : decode code 614 = .ok (.iaload, 1) := by decide +kernel
theorem d_L_law_615 : decode code 615 = .ok (.i2l, 1) := by decide +kernel
theorem d_L_law_616 : decode code 616 = .ok (.ldc2_w 13, 3) := by decide +kernel
theorem d_L_law_619 : decode code 619 = .ok (.land, 1) := by decide +kernel
theorem d_L_law_620 : decode code 620 = .ok (.lor, 1) := by decide +kernel
theorem d_L_law_621 : decode code 621 = .ok (.aload_n 0, 1) := by decide +kernel
theorem d_L_law_622 : decode code 622 = .ok (.iload_n 3, 1) := by decide +kernel
theorem d_L_law_623 : decode code 623 = .ok (.iconst 3, 1) := by decide +kernel
theorem d_L_law_624 : decode code 624 = .ok (.iadd, 1) := by decide +kernel
theorem d_L_law_625 : decode code 625 = .ok (.iaload, 1) := by decide +kernel
theorem d_L_law_626 : decode code 626 = .ok (.i2l, 1) := by decide +kernel
theorem d_L_law_627 : decode code 627 = .ok (.bipush 32, 2) := by decide +kernel
theorem d_L_law_629 : decode code 629 = .ok (.lshl, 1) := by decide +kernel
theorem d_L_law_630 : decode code 630 = .ok (.aload_n 0, 1) := by decide +kernel
theorem d_L_law_631 : decode code 631 = .ok (.iload_n 3, 1) := by decide +kernel
theorem d_L_law_632 : decode code 632 = .ok (.iconst 4, 1) := by decide +kernel
theorem d_L_law_633 : decode code 633 = .ok (.iadd, 1) := by decide +kernel
theorem d_L_law_634 : decode code 634 = .ok (.iaload, 1) := by decide +kernel
theorem d_L_law_635 : decode code 635 = .ok (.i2l, 1) := by decide +kernel
theorem d_L_law_636 : decode code 636 = .ok (.ldc2_w 13, 3) := by decide +kernel
theorem d_L_law_639 : decode code 639 = .ok (.land, 1) := by decide +kernel
theorem d_L_law_640 : decode code 640 = .ok (.lor, 1) := by decide +kernel
theorem d_L_law_641 : decode code 641 = .ok (.invokevirtual 47, 3) := by decide +kernel
theorem d_L_law_644 : decode code 644 = .ok (.if_icmp .eq 558, 3) := by decide +kernel
theorem d_L_law_647 : decode code 647 = .ok (.iconst 0, 1) := by decide +kernel
theorem d_L_law_648 : decode code 648 = .ok (.ireturn, 1) := by decide +kernel
theorem d_L_law_649 : decode code 649 = .ok (.aload_n 1, 1) := by decide +kernel
theorem d_L_law_650 : decode code 650 = .ok (.aload_n 0, 1) := by decide +kernel
theorem d_L_law_651 : decode code 651 = .ok (.iload_n 3, 1) := by decide +kernel
theorem d_L_law_652 : decode code 652 = .ok (.iconst 1, 1) := by decide +kernel
theorem d_L_law_653 : decode code 653 = .ok (.iadd, 1) := by decide +kernel
theorem d_L_law_654 : decode code 654 = .ok (.iaload, 1) := by decide +kernel
theorem d_L_law_655 : decode code 655 = .ok (.i2l, 1) := by decide +kernel
theorem d_L_law_656 : decode code 656 = .ok (.bipush 32, 2) := by decide +kernel
theorem d_L_law_658 : decode code 658 = .ok (.lshl, 1) := by decide +kernel
theorem d_L_law_659 : decode code 659 = .ok (.aload_n 0, 1) := by decide +kernel
theorem d_L_law_660 : decode code 660 = .ok (.iload_n 3, 1) := by decide +kernel
theorem d_L_law_661 : decode code 661 = .ok (.iconst 2, 1) := by decide +kernel
theorem d_L_law_662 : decode code 662 = .ok (.iadd, 1) := by decide +kernel
theorem d_L_law_663 : decode code 663 = .ok (.iaload, 1) := by decide +kernel
theorem d_L_law_664 : decode code 664 = .ok (.i2l, 1) := by decide +kernel
theorem d_L_law_665 : decode code 665 = .ok (.ldc2_w 13, 3) := by decide +kernel
theorem d_L_law_668 : decode code 668 = .ok (.land, 1) := by decide +kernel
theorem d_L_law_669 : decode code 669 = .ok (.lor, 1) := by decide +kernel
theorem d_L_law_670 : decode code 670 = .ok (.invokevirtual 48, 3) := by decide +kernel
theorem d_L_law_673 : decode code 673 = .ok (.aload_n 2, 1) := by decide +kernel
theorem d_L_law_674 : decode code 674 = .ok (.aload_n 0, 1) := by decide +kernel
theorem d_L_law_675 : decode code 675 = .ok (.iload_n 3, 1) := by decide +kernel
theorem d_L_law_676 : decode code 676 = .ok (.iconst 1, 1) := by decide +kernel
theorem d_L_law_677 : decode code 677 = .ok (.iadd, 1) := by decide +kernel
theorem d_L_law_678 : decode code 678 = .ok (.iaload, 1) := by decide +kernel
theorem d_L_law_679 : decode code 679 = .ok (.i2l, 1) := by decide +kernel
theorem d_L_law_680 : decode code 680 = .ok (.bipush 32, 2) := by decide +kernel
theorem d_L_law_682 : decode code 682 = .ok (.lshl, 1) := by decide +kernel
theorem d_L_law_683 : decode code 683 = .ok (.aload_n 0, 1) := by decide +kernel
theorem d_L_law_684 : decode code 684 = .ok (.iload_n 3, 1) := by decide +kernel
theorem d_L_law_685 : decode code 685 = .ok (.iconst 2, 1) := by decide +kernel
theorem d_L_law_686 : decode code 686 = .ok (.iadd, 1) := by decide +kernel
theorem d_L_law_687 : decode code 687 = .ok (.iaload, 1) := by decide +kernel
theorem d_L_law_688 : decode code 688 = .ok (.i2l, 1) := by decide +kernel
theorem d_L_law_689 : decode code 689 = .ok (.ldc2_w 13, 3) := by decide +kernel
theorem d_L_law_692 : decode code 692 = .ok (.land, 1) := by decide +kernel
theorem d_L_law_693 : decode code 693 = .ok (.lor, 1) := by decide +kernel
theorem d_L_law_694 : decode code 694 = .ok (.invokevirtual 52, 3) := by decide +kernel
theorem d_L_law_697 : decode code 697 = .ok (.lcmp, 1) := by decide +kernel
theorem d_L_law_698 : decode code 698 = .ok (.ifCond .eq 504, 3) := by decide +kernel
theorem d_L_law_701 : decode code 701 = .ok (.iconst 0, 1) := by decide +kernel
theorem d_L_law_702 : decode code 702 = .ok (.ireturn, 1) := by decide +kernel
theorem d_L_law_703 : decode code 703 = .ok (.aload_n 1, 1) := by decide +kernel
theorem d_L_law_704 : decode code 704 = .ok (.aload_n 0, 1) := by decide +kernel
theorem d_L_law_705 : decode code 705 = .ok (.iload_n 3, 1) := by decide +kernel
theorem d_L_law_706 : decode code 706 = .ok (.iconst 1, 1) := by decide +kernel
theorem d_L_law_707 : decode code 707 = .ok (.iadd, 1) := by decide +kernel
theorem d_L_law_708 : decode code 708 = .ok (.iaload, 1) := by decide +kernel
theorem d_L_law_709 : decode code 709 = .ok (.i2l, 1) := by decide +kernel
theorem d_L_law_710 : decode code 710 = .ok (.bipush 32, 2) := by decide +kernel
theorem d_L_law_712 : decode code 712 = .ok (.lshl, 1) := by decide +kernel
theorem d_L_law_713 : decode code 713 = .ok (.aload_n 0, 1) := by decide +kernel
theorem d_L_law_714 : decode code 714 = .ok (.iload_n 3, 1) := by decide +kernel
theorem d_L_law_715 : decode code 715 = .ok (.iconst 2, 1) := by decide +kernel
theorem d_L_law_716 : decode code 716 = .ok (.iadd, 1) := by decide +kernel
theorem d_L_law_717 : decode code 717 = .ok (.iaload, 1) := by decide +kernel
theorem d_L_law_718 : decode code 718 = .ok (.i2l, 1) := by decide +kernel
