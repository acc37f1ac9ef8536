/-! decode rows of the law (written by program) -/
theorem d_lw_519 : decode code 519 = .ok (.aload_n 2, 1) := by decide +kernel
theorem d_lw_520 : decode code 520 = .ok (.invokevirtual 85, 3) := by decide +kernel
theorem d_lw_523 : decode code 523 = .ok (.iload 5, 2) := by decide +kernel
theorem d_lw_525 : decode code 525 = .ok (.if_icmp .eq 5, 3) := by decide +kernel
theorem d_lw_528 : decode code 528 = .ok (.iconst 0, 1) := by decide +kernel
theorem d_lw_529 : decode code 529 = .ok (.ireturn, 1) := by decide +kernel
theorem d_lw_530 : decode code 530 = .ok (.iload 5, 2) := by decide +kernel
theorem d_lw_532 : decode code 532 = .ok (.ifCond .ne 15, 3) := by decide +kernel
theorem d_lw_535 : decode code 535 = .ok (.aload_n 3, 1) := by decide +kernel
theorem d_lw_536 : decode code 536 = .ok (.iconst 0, 1) := by decide +kernel
theorem d_lw_537 : decode code 537 = .ok (.laload, 1) := by decide +kernel
theorem d_lw_538 : decode code 538 = .ok (.iload 6, 2) := by decide +kernel
theorem d_lw_540 : decode code 540 = .ok (.i2l, 1) := by decide +kernel
theorem d_lw_541 : decode code 541 = .ok (.lcmp, 1) := by decide +kernel
theorem d_lw_542 : decode code 542 = .ok (.ifCond .eq 5, 3) := by decide +kernel
theorem d_lw_545 : decode code 545 = .ok (.iconst 0, 1) := by decide +kernel
theorem d_lw_546 : decode code 546 = .ok (.ireturn, 1) := by decide +kernel
theorem d_lw_547 : decode code 547 = .ok (.goto 606, 3) := by decide +kernel
theorem d_lw_550 : decode code 550 = .ok (.aload_n 1, 1) := by decide +kernel
theorem d_lw_551 : decode code 551 = .ok (.aload_n 0, 1) := by decide +kernel
theorem d_lw_552 : decode code 552 = .ok (.iload 4, 2) := by decide +kernel
theorem d_lw_554 : decode code 554 = .ok (.iconst 1, 1) := by decide +kernel
theorem d_lw_555 : decode code 555 = .ok (.iadd, 1) := by decide +kernel
theorem d_lw_556 : decode code 556 = .ok (.iaload, 1) := by decide +kernel
theorem d_lw_557 : decode code 557 = .ok (.aload_n 0, 1) := by decide +kernel
theorem d_lw_558 : decode code 558 = .ok (.iload 4, 2) := by decide +kernel
theorem d_lw_560 : decode code 560 = .ok (.iconst 2, 1) := by decide +kernel
theorem d_lw_561 : decode code 561 = .ok (.iadd, 1) := by decide +kernel
theorem d_lw_562 : decode code 562 = .ok (.iaload, 1) := by decide +kernel
theorem d_lw_563 : decode code 563 = .ok (.ifCond .eq 7, 3) := by decide +kernel
theorem d_lw_566 : decode code 566 = .ok (.iconst 1, 1) := by decide +kernel
theorem d_lw_567 : decode code 567 = .ok (.goto 4, 3) := by decide +kernel
theorem d_lw_570 : decode code 570 = .ok (.iconst 0, 1) := by decide +kernel
theorem d_lw_571 : decode code 571 = .ok (.aload_n 3, 1) := by decide +kernel
theorem d_lw_572 : decode code 572 = .ok (.invokestatic 113, 3) := by decide +kernel
theorem d_lw_575 : decode code 575 = .ok (.istore 5, 2) := by decide +kernel
theorem d_lw_577 : decode code 577 = .ok (.aload_n 2, 1) := by decide +kernel
theorem d_lw_578 : decode code 578 = .ok (.aload_n 0, 1) := by decide +kernel
theorem d_lw_579 : decode code 579 = .ok (.iload 4, 2) := by decide +kernel
theorem d_lw_581 : decode code 581 = .ok (.iconst 1, 1) := by decide +kernel
theorem d_lw_582 : decode code 582 = .ok (.iadd, 1) := by decide +kernel
theorem d_lw_583 : decode code 583 = .ok (.iaload, 1) := by decide +kernel
theorem d_lw_584 : decode code 584 = .ok (.aload_n 0, 1) := by decide +kernel
theorem d_lw_585 : decode code 585 = .ok (.iload 4, 2) := by decide +kernel
theorem d_lw_587 : decode code 587 = .ok (.iconst 2, 1) := by decide +kernel
theorem d_lw_588 : decode code 588 = .ok (.iadd, 1) := by decide +kernel
theorem d_lw_589 : decode code 589 = .ok (.iaload, 1) := by decide +kernel
theorem d_lw_590 : decode code 590 = .ok (.ifCond .eq 7, 3) := by decide +kernel
theorem d_lw_593 : decode code 593 = .ok (.iconst 1, 1) := by decide +kernel
theorem d_lw_594 : decode code 594 = .ok (.goto 4, 3) := by decide +kernel
theorem d_lw_597 : decode code 597 = .ok (.iconst 0, 1) := by decide +kernel
theorem d_lw_598 : decode code 598 = .ok (.invokevirtual 116, 3) := by decide +kernel
theorem d_lw_601 : decode code 601 = .ok (.istore 6, 2) := by decide +kernel
theorem d_lw_603 : decode code 603 = .ok (.aload_n 2, 1) := by decide +kernel
theorem d_lw_604 : decode code 604 = .ok (.invokevirtual 85, 3) := by decide +kernel
theorem d_lw_607 : decode code 607 = .ok (.iload 5, 2) := by decide +kernel
theorem d_lw_609 : decode code 609 = .ok (.if_icmp .eq 5, 3) := by decide +kernel
theorem d_lw_612 : decode code 612 = .ok (.iconst 0, 1) := by decide +kernel
theorem d_lw_613 : decode code 613 = .ok (.ireturn, 1) := by decide +kernel
theorem d_lw_614 : decode code 614 = .ok (.iload 5, 2) := by decide +kernel
theorem d_lw_616 : decode code 616 = .ok (.ifCond .ne 22, 3) := by decide +kernel
theorem d_lw_619 : decode code 619 = .ok (.aload_n 3, 1) := by decide +kernel
theorem d_lw_620 : decode code 620 = .ok (.iconst 0, 1) := by decide +kernel
theorem d_lw_621 : decode code 621 = .ok (.laload, 1) := by decide +kernel
theorem d_lw_622 : decode code 622 = .ok (.iload 6, 2) := by decide +kernel
theorem d_lw_624 : decode code 624 = .ok (.ifCond .eq 7, 3) := by decide +kernel
theorem d_lw_627 : decode code 627 = .ok (.lconst 1, 1) := by decide +kernel
theorem d_lw_628 : decode code 628 = .ok (.goto 4, 3) := by decide +kernel
theorem d_lw_631 : decode code 631 = .ok (.lconst 0, 1) := by decide +kernel
theorem d_lw_632 : decode code 632 = .ok (.lcmp, 1) := by decide +kernel
theorem d_lw_633 : decode code 633 = .ok (.ifCond .eq 5, 3) := by decide +kernel
theorem d_lw_636 : decode code 636 = .ok (.iconst 0, 1) := by decide +kernel
theorem d_lw_637 : decode code 637 = .ok (.ireturn, 1) := by decide +kernel
theorem d_lw_638 : decode code 638 = .ok (.goto 515, 3) := by decide +kernel
theorem d_lw_641 : decode code 641 = .ok (.aload_n 1, 1) := by decide +kernel
theorem d_lw_642 : decode code 642 = .ok (.aload_n 0, 1) := by decide +kernel
theorem d_lw_643 : decode code 643 = .ok (.iload 4, 2) := by decide +kernel
theorem d_lw_645 : decode code 645 = .ok (.iconst 1, 1) := by decide +kernel
theorem d_lw_646 : decode code 646 = .ok (.iadd, 1) := by decide +kernel
theorem d_lw_647 : decode code 647 = .ok (.iaload, 1) := by decide +kernel
theorem d_lw_648 : decode code 648 = .ok (.invokestatic 117, 3) := by decide +kernel
theorem d_lw_651 : decode code 651 = .ok (.istore 5, 2) := by decide +kernel
theorem d_lw_653 : decode code 653 = .ok (.aload_n 2, 1) := by decide +kernel
theorem d_lw_654 : decode code 654 = .ok (.aload_n 0, 1) := by decide +kernel
theorem d_lw_655 : decode code 655 = .ok (.iload 4, 2) := by decide +kernel
theorem d_lw_657 : decode code 657 = .ok (.iconst 1, 1) := by decide +kernel
theorem d_lw_658 : decode code 658 = .ok (.iadd, 1) := by decide +kernel
theorem d_lw_659 : decode code 659 = .ok (.iaload, 1) := by decide +kernel
theorem d_lw_660 : decode code 660 = .ok (.invokevirtual 119, 3) := by decide +kernel
theorem d_lw_663 : decode code 663 = .ok (.aload_n 2, 1) := by decide +kernel
theorem d_lw_664 : decode code 664 = .ok (.invokevirtual 85, 3) := by decide +kernel
theorem d_lw_667 : decode code 667 = .ok (.iload 5, 2) := by decide +kernel
theorem d_lw_669 : decode code 669 = .ok (.if_icmp .eq 5, 3) := by decide +kernel
theorem d_lw_672 : decode code 672 = .ok (.iconst 0, 1) := by decide +kernel
theorem d_lw_673 : decode code 673 = .ok (.ireturn, 1) := by decide +kernel
theorem d_lw_674 : decode code 674 = .ok (.goto 479, 3) := by decide +kernel
theorem d_lw_677 : decode code 677 = .ok (.aload_n 1, 1) := by decide +kernel
theorem d_lw_678 : decode code 678 = .ok (.aload_n 0, 1) := by decide +kernel
theorem d_lw_679 : decode code 679 = .ok (.iload 4, 2) := by decide +kernel
theorem d_lw_681 : decode code 681 = .ok (.iconst 1, 1) := by decide +kernel
theorem d_lw_682 : decode code 682 = .ok (.iadd, 1) := by decide +kernel
theorem d_lw_683 : decode code 683 = .ok (.iaload, 1) := by decide +kernel
theorem d_lw_684 : decode code 684 = .ok (.aload_n 0, 1) := by decide +kernel
theorem d_lw_685 : decode code 685 = .ok (.iload 4, 2) := by decide +kernel
theorem d_lw_687 : decode code 687 = .ok (.iconst 2, 1) := by decide +kernel
theorem d_lw_688 : decode code 688 = .ok (.iadd, 1) := by decide +kernel
theorem d_lw_689 : decode code 689 = .ok (.iaload, 1) := by decide +kernel
theorem d_lw_690 : decode code 690 = .ok (.aload_n 3, 1) := by decide +kernel
theorem d_lw_691 : decode code 691 = .ok (.invokestatic 120, 3) := by decide +kernel
theorem d_lw_694 : decode code 694 = .ok (.istore 5, 2) := by decide +kernel
theorem d_lw_696 : decode code 696 = .ok (.aload_n 2, 1) := by decide +kernel
theorem d_lw_697 : decode code 697 = .ok (.aload_n 0, 1) := by decide +kernel
theorem d_lw_698 : decode code 698 = .ok (.iload 4, 2) := by decide +kernel
theorem d_lw_700 : decode code 700 = .ok (.iconst 1, 1) := by decide +kernel
theorem d_lw_701 : decode code 701 = .ok (.iadd, 1) := by decide +kernel
theorem d_lw_702 : decode code 702 = .ok (.iaload, 1) := by decide +kernel
theorem d_lw_703 : decode code 703 = .ok (.aload_n 0, 1) := by decide +kernel
theorem d_lw_704 : decode code 704 = .ok (.iload 4, 2) := by decide +kernel
theorem d_lw_706 : decode code 706 = .ok (.iconst 2, 1) := by decide +kernel
theorem d_lw_707 : decode code 707 = .ok (.iadd, 1) := by decide +kernel
theorem d_lw_708 : decode code 708 = .ok (.iaload, 1) := by decide +kernel
theorem d_lw_709 : decode code 709 = .ok (.invokevirtual 122, 3) := by decide +kernel
theorem d_lw_712 : decode code 712 = .ok (.istore 6, 2) := by decide +kernel
theorem d_lw_714 : decode code 714 = .ok (.aload_n 2, 1) := by decide +kernel
theorem d_lw_715 : decode code 715 = .ok (.invokevirtual 85, 3) := by decide +kernel
theorem d_lw_718 : decode code 718 = .ok (.iload 5, 2) := by decide +kernel
theorem d_lw_720 : decode code 720 = .ok (.if_icmp .eq 5, 3) := by decide +kernel
theorem d_lw_723 : decode code 723 = .ok (.iconst 0, 1) := by decide +kernel
theorem d_lw_724 : decode code 724 = .ok (.ireturn, 1) := by decide +kernel
theorem d_lw_725 : decode code 725 = .ok (.iload 5, 2) := by decide +kernel
theorem d_lw_727 : decode code 727 = .ok (.ifCond .ne 15, 3) := by decide +kernel
theorem d_lw_730 : decode code 730 = .ok (.aload_n 3, 1) := by decide +kernel
theorem d_lw_731 : decode code 731 = .ok (.iconst 0, 1) := by decide +kernel
theorem d_lw_732 : decode code 732 = .ok (.laload, 1) := by decide +kernel
theorem d_lw_733 : decode code 733 = .ok (.iload 6, 2) := by decide +kernel
theorem d_lw_735 : decode code 735 = .ok (.i2l, 1) := by decide +kernel
theorem d_lw_736 : decode code 736 = .ok (.lcmp, 1) := by decide +kernel
theorem d_lw_737 : decode code 737 = .ok (.ifCond .eq 5, 3) := by decide +kernel
theorem d_lw_740 : decode code 740 = .ok (.iconst 0, 1) := by decide +kernel
theorem d_lw_741 : decode code 741 = .ok (.ireturn, 1) := by decide +kernel
