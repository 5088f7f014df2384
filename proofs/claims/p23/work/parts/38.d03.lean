section
theorem dL_law_536 : decode cL_law 536 = .ok (.aload_n 0, 1) := od_42  (by decide +kernel)
theorem dL_law_537 : decode cL_law 537 = .ok (.iload_n 3, 1) := od_29  (by decide +kernel)
theorem dL_law_538 : decode cL_law 538 = .ok (.iconst 1, 1) := od_4  (by decide +kernel)
theorem dL_law_539 : decode cL_law 539 = .ok (.iadd, 1) := od_96  (by decide +kernel)
theorem dL_law_540 : decode cL_law 540 = .ok (.iaload, 1) := od_46  (by decide +kernel)
theorem dL_law_541 : decode cL_law 541 = .ok (.aload_n 0, 1) := od_42  (by decide +kernel)
theorem dL_law_542 : decode cL_law 542 = .ok (.iload_n 3, 1) := od_29  (by decide +kernel)
theorem dL_law_543 : decode cL_law 543 = .ok (.iconst 2, 1) := od_5  (by decide +kernel)
theorem dL_law_544 : decode cL_law 544 = .ok (.iadd, 1) := od_96  (by decide +kernel)
theorem dL_law_545 : decode cL_law 545 = .ok (.iaload, 1) := od_46  (by decide +kernel)
theorem dL_law_546 : decode cL_law 546 = .ok (.invokevirtual 45, 3) := od_182 (a := 0) (b := 45) (by decide +kernel) (by decide)
theorem dL_law_549 : decode cL_law 549 = .ok (.pop, 1) := od_87  (by decide +kernel)
theorem dL_law_550 : decode cL_law 550 = .ok (.aload_n 2, 1) := od_44  (by decide +kernel)
theorem dL_law_551 : decode cL_law 551 = .ok (.aload_n 0, 1) := od_42  (by decide +kernel)
theorem dL_law_552 : decode cL_law 552 = .ok (.iload_n 3, 1) := od_29  (by decide +kernel)
theorem dL_law_553 : decode cL_law 553 = .ok (.iconst 1, 1) := od_4  (by decide +kernel)
theorem dL_law_554 : decode cL_law 554 = .ok (.iadd, 1) := od_96  (by decide +kernel)
theorem dL_law_555 : decode cL_law 555 = .ok (.iaload, 1) := od_46  (by decide +kernel)
theorem dL_law_556 : decode cL_law 556 = .ok (.aload_n 0, 1) := od_42  (by decide +kernel)
theorem dL_law_557 : decode cL_law 557 = .ok (.iload_n 3, 1) := od_29  (by decide +kernel)
theorem dL_law_558 : decode cL_law 558 = .ok (.iconst 2, 1) := od_5  (by decide +kernel)
theorem dL_law_559 : decode cL_law 559 = .ok (.iadd, 1) := od_96  (by decide +kernel)
theorem dL_law_560 : decode cL_law 560 = .ok (.iaload, 1) := od_46  (by decide +kernel)
theorem dL_law_561 : decode cL_law 561 = .ok (.invokevirtual 48, 3) := od_182 (a := 0) (b := 48) (by decide +kernel) (by decide)
theorem dL_law_564 : decode cL_law 564 = .ok (.pop, 1) := od_87  (by decide +kernel)
theorem dL_law_565 : decode cL_law 565 = .ok (.goto 1145, 3) := od_167 (a := 4) (b := 121) (by decide +kernel) (by decide +kernel)
theorem dL_law_568 : decode cL_law 568 = .ok (.aload_n 1, 1) := od_43  (by decide +kernel)
theorem dL_law_569 : decode cL_law 569 = .ok (.aload_n 0, 1) := od_42  (by decide +kernel)
theorem dL_law_570 : decode cL_law 570 = .ok (.iload_n 3, 1) := od_29  (by decide +kernel)
theorem dL_law_571 : decode cL_law 571 = .ok (.iconst 1, 1) := od_4  (by decide +kernel)
theorem dL_law_572 : decode cL_law 572 = .ok (.iadd, 1) := od_96  (by decide +kernel)
theorem dL_law_573 : decode cL_law 573 = .ok (.iaload, 1) := od_46  (by decide +kernel)
theorem dL_law_574 : decode cL_law 574 = .ok (.aload_n 0, 1) := od_42  (by decide +kernel)
theorem dL_law_575 : decode cL_law 575 = .ok (.iload_n 3, 1) := od_29  (by decide +kernel)
theorem dL_law_576 : decode cL_law 576 = .ok (.iconst 2, 1) := od_5  (by decide +kernel)
theorem dL_law_577 : decode cL_law 577 = .ok (.iadd, 1) := od_96  (by decide +kernel)
theorem dL_law_578 : decode cL_law 578 = .ok (.iaload, 1) := od_46  (by decide +kernel)
theorem dL_law_579 : decode cL_law 579 = .ok (.aload_n 0, 1) := od_42  (by decide +kernel)
theorem dL_law_580 : decode cL_law 580 = .ok (.iload_n 3, 1) := od_29  (by decide +kernel)
theorem dL_law_581 : decode cL_law 581 = .ok (.iconst 3, 1) := od_6  (by decide +kernel)
theorem dL_law_582 : decode cL_law 582 = .ok (.iadd, 1) := od_96  (by decide +kernel)
theorem dL_law_583 : decode cL_law 583 = .ok (.iaload, 1) := od_46  (by decide +kernel)
theorem dL_law_584 : decode cL_law 584 = .ok (.invokevirtual 49, 3) := od_182 (a := 0) (b := 49) (by decide +kernel) (by decide)
theorem dL_law_587 : decode cL_law 587 = .ok (.pop, 1) := od_87  (by decide +kernel)
theorem dL_law_588 : decode cL_law 588 = .ok (.aload_n 2, 1) := od_44  (by decide +kernel)
theorem dL_law_589 : decode cL_law 589 = .ok (.aload_n 0, 1) := od_42  (by decide +kernel)
theorem dL_law_590 : decode cL_law 590 = .ok (.iload_n 3, 1) := od_29  (by decide +kernel)
theorem dL_law_591 : decode cL_law 591 = .ok (.iconst 1, 1) := od_4  (by decide +kernel)
theorem dL_law_592 : decode cL_law 592 = .ok (.iadd, 1) := od_96  (by decide +kernel)
theorem dL_law_593 : decode cL_law 593 = .ok (.iaload, 1) := od_46  (by decide +kernel)
theorem dL_law_594 : decode cL_law 594 = .ok (.aload_n 0, 1) := od_42  (by decide +kernel)
theorem dL_law_595 : decode cL_law 595 = .ok (.iload_n 3, 1) := od_29  (by decide +kernel)
theorem dL_law_596 : decode cL_law 596 = .ok (.iconst 2, 1) := od_5  (by decide +kernel)
theorem dL_law_597 : decode cL_law 597 = .ok (.iadd, 1) := od_96  (by decide +kernel)
theorem dL_law_598 : decode cL_law 598 = .ok (.iaload, 1) := od_46  (by decide +kernel)
theorem dL_law_599 : decode cL_law 599 = .ok (.aload_n 0, 1) := od_42  (by decide +kernel)
theorem dL_law_600 : decode cL_law 600 = .ok (.iload_n 3, 1) := od_29  (by decide +kernel)
theorem dL_law_601 : decode cL_law 601 = .ok (.iconst 3, 1) := od_6  (by decide +kernel)
theorem dL_law_602 : decode cL_law 602 = .ok (.iadd, 1) := od_96  (by decide +kernel)
theorem dL_law_603 : decode cL_law 603 = .ok (.iaload, 1) := od_46  (by decide +kernel)
theorem dL_law_604 : decode cL_law 604 = .ok (.invokevirtual 52, 3) := od_182 (a := 0) (b := 52) (by decide +kernel) (by decide)
theorem dL_law_607 : decode cL_law 607 = .ok (.pop, 1) := od_87  (by decide +kernel)
theorem dL_law_608 : decode cL_law 608 = .ok (.goto 1102, 3) := od_167 (a := 4) (b := 78) (by decide +kernel) (by decide +kernel)
theorem dL_law_611 : decode cL_law 611 = .ok (.aload_n 1, 1) := od_43  (by decide +kernel)
theorem dL_law_612 : decode cL_law 612 = .ok (.aload_n 0, 1) := od_42  (by decide +kernel)
theorem dL_law_613 : decode cL_law 613 = .ok (.iload_n 3, 1) := od_29  (by decide +kernel)
theorem dL_law_614 : decode cL_law 614 = .ok (.iconst 1, 1) := od_4  (by decide +kernel)
theorem dL_law_615 : decode cL_law 615 = .ok (.iadd, 1) := od_96  (by decide +kernel)
theorem dL_law_616 : decode cL_law 616 = .ok (.iaload, 1) := od_46  (by decide +kernel)
theorem dL_law_617 : decode cL_law 617 = .ok (.invokevirtual 53, 3) := od_182 (a := 0) (b := 53) (by decide +kernel) (by decide)
theorem dL_law_620 : decode cL_law 620 = .ok (.pop, 1) := od_87  (by decide +kernel)
theorem dL_law_621 : decode cL_law 621 = .ok (.aload_n 2, 1) := od_44  (by decide +kernel)
theorem dL_law_622 : decode cL_law 622 = .ok (.aload_n 0, 1) := od_42  (by decide +kernel)
theorem dL_law_623 : decode cL_law 623 = .ok (.iload_n 3, 1) := od_29  (by decide +kernel)
theorem dL_law_624 : decode cL_law 624 = .ok (.iconst 1, 1) := od_4  (by decide +kernel)
theorem dL_law_625 : decode cL_law 625 = .ok (.iadd, 1) := od_96  (by decide +kernel)
theorem dL_law_626 : decode cL_law 626 = .ok (.iaload, 1) := od_46  (by decide +kernel)
theorem dL_law_627 : decode cL_law 627 = .ok (.invokevirtual 57, 3) := od_182 (a := 0) (b := 57) (by decide +kernel) (by decide)
theorem dL_law_630 : decode cL_law 630 = .ok (.pop, 1) := od_87  (by decide +kernel)
theorem dL_law_631 : decode cL_law 631 = .ok (.goto 1079, 3) := od_167 (a := 4) (b := 55) (by decide +kernel) (by decide +kernel)
theorem dL_law_634 : decode cL_law 634 = .ok (.aload_n 1, 1) := od_43  (by decide +kernel)
theorem dL_law_635 : decode cL_law 635 = .ok (.aload_n 0, 1) := od_42  (by decide +kernel)
theorem dL_law_636 : decode cL_law 636 = .ok (.iload_n 3, 1) := od_29  (by decide +kernel)
theorem dL_law_637 : decode cL_law 637 = .ok (.iconst 1, 1) := od_4  (by decide +kernel)
theorem dL_law_638 : decode cL_law 638 = .ok (.iadd, 1) := od_96  (by decide +kernel)
theorem dL_law_639 : decode cL_law 639 = .ok (.iaload, 1) := od_46  (by decide +kernel)
theorem dL_law_640 : decode cL_law 640 = .ok (.aload_n 0, 1) := od_42  (by decide +kernel)
theorem dL_law_641 : decode cL_law 641 = .ok (.iload_n 3, 1) := od_29  (by decide +kernel)
theorem dL_law_642 : decode cL_law 642 = .ok (.iconst 2, 1) := od_5  (by decide +kernel)
theorem dL_law_643 : decode cL_law 643 = .ok (.iadd, 1) := od_96  (by decide +kernel)
theorem dL_law_644 : decode cL_law 644 = .ok (.iaload, 1) := od_46  (by decide +kernel)
theorem dL_law_645 : decode cL_law 645 = .ok (.invokevirtual 58, 3) := od_182 (a := 0) (b := 58) (by decide +kernel) (by decide)
theorem dL_law_648 : decode cL_law 648 = .ok (.pop, 1) := od_87  (by decide +kernel)
theorem dL_law_649 : decode cL_law 649 = .ok (.aload_n 2, 1) := od_44  (by decide +kernel)
theorem dL_law_650 : decode cL_law 650 = .ok (.aload_n 0, 1) := od_42  (by decide +kernel)
theorem dL_law_651 : decode cL_law 651 = .ok (.iload_n 3, 1) := od_29  (by decide +kernel)
theorem dL_law_652 : decode cL_law 652 = .ok (.iconst 1, 1) := od_4  (by decide +kernel)
theorem dL_law_653 : decode cL_law 653 = .ok (.iadd, 1) := od_96  (by decide +kernel)
theorem dL_law_654 : decode cL_law 654 = .ok (.iaload, 1) := od_46  (by decide +kernel)
theorem dL_law_655 : decode cL_law 655 = .ok (.aload_n 0, 1) := od_42  (by decide +kernel)
end
section
theorem dL_law_656 : decode cL_law 656 = .ok (.iload_n 3, 1) := od_29  (by decide +kernel)
theorem dL_law_657 : decode cL_law 657 = .ok (.iconst 2, 1) := od_5  (by decide +kernel)
theorem dL_law_658 : decode cL_law 658 = .ok (.iadd, 1) := od_96  (by decide +kernel)
theorem dL_law_659 : decode cL_law 659 = .ok (.iaload, 1) := od_46  (by decide +kernel)
theorem dL_law_660 : decode cL_law 660 = .ok (.invokevirtual 61, 3) := od_182 (a := 0) (b := 61) (by decide +kernel) (by decide)
theorem dL_law_663 : decode cL_law 663 = .ok (.pop, 1) := od_87  (by decide +kernel)
theorem dL_law_664 : decode cL_law 664 = .ok (.goto 1046, 3) := od_167 (a := 4) (b := 22) (by decide +kernel) (by decide +kernel)
theorem dL_law_667 : decode cL_law 667 = .ok (.aload_n 1, 1) := od_43  (by decide +kernel)
theorem dL_law_668 : decode cL_law 668 = .ok (.aload_n 0, 1) := od_42  (by decide +kernel)
theorem dL_law_669 : decode cL_law 669 = .ok (.iload_n 3, 1) := od_29  (by decide +kernel)
theorem dL_law_670 : decode cL_law 670 = .ok (.iconst 1, 1) := od_4  (by decide +kernel)
theorem dL_law_671 : decode cL_law 671 = .ok (.iadd, 1) := od_96  (by decide +kernel)
theorem dL_law_672 : decode cL_law 672 = .ok (.iaload, 1) := od_46  (by decide +kernel)
theorem dL_law_673 : decode cL_law 673 = .ok (.aload_n 0, 1) := od_42  (by decide +kernel)
theorem dL_law_674 : decode cL_law 674 = .ok (.iload_n 3, 1) := od_29  (by decide +kernel)
theorem dL_law_675 : decode cL_law 675 = .ok (.iconst 2, 1) := od_5  (by decide +kernel)
theorem dL_law_676 : decode cL_law 676 = .ok (.iadd, 1) := od_96  (by decide +kernel)
theorem dL_law_677 : decode cL_law 677 = .ok (.iaload, 1) := od_46  (by decide +kernel)
theorem dL_law_678 : decode cL_law 678 = .ok (.invokevirtual 62, 3) := od_182 (a := 0) (b := 62) (by decide +kernel) (by decide)
theorem dL_law_681 : decode cL_law 681 = .ok (.pop, 1) := od_87  (by decide +kernel)
theorem dL_law_682 : decode cL_law 682 = .ok (.aload_n 2, 1) := od_44  (by decide +kernel)
theorem dL_law_683 : decode cL_law 683 = .ok (.aload_n 0, 1) := od_42  (by decide +kernel)
theorem dL_law_684 : decode cL_law 684 = .ok (.iload_n 3, 1) := od_29  (by decide +kernel)
theorem dL_law_685 : decode cL_law 685 = .ok (.iconst 1, 1) := od_4  (by decide +kernel)
theorem dL_law_686 : decode cL_law 686 = .ok (.iadd, 1) := od_96  (by decide +kernel)
theorem dL_law_687 : decode cL_law 687 = .ok (.iaload, 1) := od_46  (by decide +kernel)
theorem dL_law_688 : decode cL_law 688 = .ok (.aload_n 0, 1) := od_42  (by decide +kernel)
theorem dL_law_689 : decode cL_law 689 = .ok (.iload_n 3, 1) := od_29  (by decide +kernel)
theorem dL_law_690 : decode cL_law 690 = .ok (.iconst 2, 1) := od_5  (by decide +kernel)
theorem dL_law_691 : decode cL_law 691 = .ok (.iadd, 1) := od_96  (by decide +kernel)
theorem dL_law_692 : decode cL_law 692 = .ok (.iaload, 1) := od_46  (by decide +kernel)
theorem dL_law_693 : decode cL_law 693 = .ok (.invokevirtual 65, 3) := od_182 (a := 0) (b := 65) (by decide +kernel) (by decide)
theorem dL_law_696 : decode cL_law 696 = .ok (.pop, 1) := od_87  (by decide +kernel)
theorem dL_law_697 : decode cL_law 697 = .ok (.goto 1013, 3) := od_167 (a := 3) (b := 245) (by decide +kernel) (by decide +kernel)
theorem dL_law_700 : decode cL_law 700 = .ok (.aload_n 1, 1) := od_43  (by decide +kernel)
theorem dL_law_701 : decode cL_law 701 = .ok (.aload_n 0, 1) := od_42  (by decide +kernel)
theorem dL_law_702 : decode cL_law 702 = .ok (.iload_n 3, 1) := od_29  (by decide +kernel)
theorem dL_law_703 : decode cL_law 703 = .ok (.iconst 1, 1) := od_4  (by decide +kernel)
theorem dL_law_704 : decode cL_law 704 = .ok (.iadd, 1) := od_96  (by decide +kernel)
theorem dL_law_705 : decode cL_law 705 = .ok (.iaload, 1) := od_46  (by decide +kernel)
theorem dL_law_706 : decode cL_law 706 = .ok (.aload_n 0, 1) := od_42  (by decide +kernel)
theorem dL_law_707 : decode cL_law 707 = .ok (.iload_n 3, 1) := od_29  (by decide +kernel)
theorem dL_law_708 : decode cL_law 708 = .ok (.iconst 2, 1) := od_5  (by decide +kernel)
theorem dL_law_709 : decode cL_law 709 = .ok (.iadd, 1) := od_96  (by decide +kernel)
theorem dL_law_710 : decode cL_law 710 = .ok (.iaload, 1) := od_46  (by decide +kernel)
theorem dL_law_711 : decode cL_law 711 = .ok (.invokevirtual 66, 3) := od_182 (a := 0) (b := 66) (by decide +kernel) (by decide)
theorem dL_law_714 : decode cL_law 714 = .ok (.pop2, 1) := od_88  (by decide +kernel)
theorem dL_law_715 : decode cL_law 715 = .ok (.aload_n 2, 1) := od_44  (by decide +kernel)
theorem dL_law_716 : decode cL_law 716 = .ok (.aload_n 0, 1) := od_42  (by decide +kernel)
theorem dL_law_717 : decode cL_law 717 = .ok (.iload_n 3, 1) := od_29  (by decide +kernel)
theorem dL_law_718 : decode cL_law 718 = .ok (.iconst 1, 1) := od_4  (by decide +kernel)
theorem dL_law_719 : decode cL_law 719 = .ok (.iadd, 1) := od_96  (by decide +kernel)
theorem dL_law_720 : decode cL_law 720 = .ok (.iaload, 1) := od_46  (by decide +kernel)
theorem dL_law_721 : decode cL_law 721 = .ok (.aload_n 0, 1) := od_42  (by decide +kernel)
theorem dL_law_722 : decode cL_law 722 = .ok (.iload_n 3, 1) := od_29  (by decide +kernel)
theorem dL_law_723 : decode cL_law 723 = .ok (.iconst 2, 1) := od_5  (by decide +kernel)
theorem dL_law_724 : decode cL_law 724 = .ok (.iadd, 1) := od_96  (by decide +kernel)
theorem dL_law_725 : decode cL_law 725 = .ok (.iaload, 1) := od_46  (by decide +kernel)
theorem dL_law_726 : decode cL_law 726 = .ok (.invokevirtual 70, 3) := od_182 (a := 0) (b := 70) (by decide +kernel) (by decide)
theorem dL_law_729 : decode cL_law 729 = .ok (.pop2, 1) := od_88  (by decide +kernel)
theorem dL_law_730 : decode cL_law 730 = .ok (.goto 980, 3) := od_167 (a := 3) (b := 212) (by decide +kernel) (by decide +kernel)
theorem dL_law_733 : decode cL_law 733 = .ok (.aload_n 1, 1) := od_43  (by decide +kernel)
theorem dL_law_734 : decode cL_law 734 = .ok (.aload_n 0, 1) := od_42  (by decide +kernel)
theorem dL_law_735 : decode cL_law 735 = .ok (.iload_n 3, 1) := od_29  (by decide +kernel)
theorem dL_law_736 : decode cL_law 736 = .ok (.iconst 1, 1) := od_4  (by decide +kernel)
theorem dL_law_737 : decode cL_law 737 = .ok (.iadd, 1) := od_96  (by decide +kernel)
theorem dL_law_738 : decode cL_law 738 = .ok (.iaload, 1) := od_46  (by decide +kernel)
theorem dL_law_739 : decode cL_law 739 = .ok (.invokevirtual 71, 3) := od_182 (a := 0) (b := 71) (by decide +kernel) (by decide)
theorem dL_law_742 : decode cL_law 742 = .ok (.pop, 1) := od_87  (by decide +kernel)
theorem dL_law_743 : decode cL_law 743 = .ok (.aload_n 2, 1) := od_44  (by decide +kernel)
theorem dL_law_744 : decode cL_law 744 = .ok (.aload_n 0, 1) := od_42  (by decide +kernel)
theorem dL_law_745 : decode cL_law 745 = .ok (.iload_n 3, 1) := od_29  (by decide +kernel)
theorem dL_law_746 : decode cL_law 746 = .ok (.iconst 1, 1) := od_4  (by decide +kernel)
theorem dL_law_747 : decode cL_law 747 = .ok (.iadd, 1) := od_96  (by decide +kernel)
theorem dL_law_748 : decode cL_law 748 = .ok (.iaload, 1) := od_46  (by decide +kernel)
theorem dL_law_749 : decode cL_law 749 = .ok (.invokevirtual 74, 3) := od_182 (a := 0) (b := 74) (by decide +kernel) (by decide)
theorem dL_law_752 : decode cL_law 752 = .ok (.pop, 1) := od_87  (by decide +kernel)
theorem dL_law_753 : decode cL_law 753 = .ok (.goto 957, 3) := od_167 (a := 3) (b := 189) (by decide +kernel) (by decide +kernel)
theorem dL_law_756 : decode cL_law 756 = .ok (.aload_n 1, 1) := od_43  (by decide +kernel)
theorem dL_law_757 : decode cL_law 757 = .ok (.aload_n 0, 1) := od_42  (by decide +kernel)
theorem dL_law_758 : decode cL_law 758 = .ok (.iload_n 3, 1) := od_29  (by decide +kernel)
theorem dL_law_759 : decode cL_law 759 = .ok (.iconst 1, 1) := od_4  (by decide +kernel)
theorem dL_law_760 : decode cL_law 760 = .ok (.iadd, 1) := od_96  (by decide +kernel)
theorem dL_law_761 : decode cL_law 761 = .ok (.iaload, 1) := od_46  (by decide +kernel)
theorem dL_law_762 : decode cL_law 762 = .ok (.aload_n 0, 1) := od_42  (by decide +kernel)
theorem dL_law_763 : decode cL_law 763 = .ok (.iload_n 3, 1) := od_29  (by decide +kernel)
theorem dL_law_764 : decode cL_law 764 = .ok (.iconst 2, 1) := od_5  (by decide +kernel)
theorem dL_law_765 : decode cL_law 765 = .ok (.iadd, 1) := od_96  (by decide +kernel)
theorem dL_law_766 : decode cL_law 766 = .ok (.iaload, 1) := od_46  (by decide +kernel)
theorem dL_law_767 : decode cL_law 767 = .ok (.invokevirtual 75, 3) := od_182 (a := 0) (b := 75) (by decide +kernel) (by decide)
theorem dL_law_770 : decode cL_law 770 = .ok (.pop, 1) := od_87  (by decide +kernel)
theorem dL_law_771 : decode cL_law 771 = .ok (.aload_n 2, 1) := od_44  (by decide +kernel)
theorem dL_law_772 : decode cL_law 772 = .ok (.aload_n 0, 1) := od_42  (by decide +kernel)
theorem dL_law_773 : decode cL_law 773 = .ok (.iload_n 3, 1) := od_29  (by decide +kernel)
theorem dL_law_774 : decode cL_law 774 = .ok (.iconst 1, 1) := od_4  (by decide +kernel)
theorem dL_law_775 : decode cL_law 775 = .ok (.iadd, 1) := od_96  (by decide +kernel)
theorem dL_law_776 : decode cL_law 776 = .ok (.iaload, 1) := od_46  (by decide +kernel)
theorem dL_law_777 : decode cL_law 777 = .ok (.aload_n 0, 1) := od_42  (by decide +kernel)
theorem dL_law_778 : decode cL_law 778 = .ok (.iload_n 3, 1) := od_29  (by decide +kernel)
theorem dL_law_779 : decode cL_law 779 = .ok (.iconst 2, 1) := od_5  (by decide +kernel)
end
section
theorem dL_law_780 : decode cL_law 780 = .ok (.iadd, 1) := od_96  (by decide +kernel)
theorem dL_law_781 : decode cL_law 781 = .ok (.iaload, 1) := od_46  (by decide +kernel)
theorem dL_law_782 : decode cL_law 782 = .ok (.invokevirtual 78, 3) := od_182 (a := 0) (b := 78) (by decide +kernel) (by decide)
theorem dL_law_785 : decode cL_law 785 = .ok (.pop, 1) := od_87  (by decide +kernel)
theorem dL_law_786 : decode cL_law 786 = .ok (.goto 924, 3) := od_167 (a := 3) (b := 156) (by decide +kernel) (by decide +kernel)
theorem dL_law_789 : decode cL_law 789 = .ok (.aload_n 1, 1) := od_43  (by decide +kernel)
theorem dL_law_790 : decode cL_law 790 = .ok (.aload_n 0, 1) := od_42  (by decide +kernel)
theorem dL_law_791 : decode cL_law 791 = .ok (.iload_n 3, 1) := od_29  (by decide +kernel)
theorem dL_law_792 : decode cL_law 792 = .ok (.iconst 1, 1) := od_4  (by decide +kernel)
theorem dL_law_793 : decode cL_law 793 = .ok (.iadd, 1) := od_96  (by decide +kernel)
theorem dL_law_794 : decode cL_law 794 = .ok (.iaload, 1) := od_46  (by decide +kernel)
theorem dL_law_795 : decode cL_law 795 = .ok (.aload_n 0, 1) := od_42  (by decide +kernel)
theorem dL_law_796 : decode cL_law 796 = .ok (.iload_n 3, 1) := od_29  (by decide +kernel)
theorem dL_law_797 : decode cL_law 797 = .ok (.iconst 2, 1) := od_5  (by decide +kernel)
theorem dL_law_798 : decode cL_law 798 = .ok (.iadd, 1) := od_96  (by decide +kernel)
theorem dL_law_799 : decode cL_law 799 = .ok (.iaload, 1) := od_46  (by decide +kernel)
theorem dL_law_800 : decode cL_law 800 = .ok (.invokevirtual 79, 3) := od_182 (a := 0) (b := 79) (by decide +kernel) (by decide)
theorem dL_law_803 : decode cL_law 803 = .ok (.pop, 1) := od_87  (by decide +kernel)
theorem dL_law_804 : decode cL_law 804 = .ok (.aload_n 2, 1) := od_44  (by decide +kernel)
theorem dL_law_805 : decode cL_law 805 = .ok (.aload_n 0, 1) := od_42  (by decide +kernel)
theorem dL_law_806 : decode cL_law 806 = .ok (.iload_n 3, 1) := od_29  (by decide +kernel)
theorem dL_law_807 : decode cL_law 807 = .ok (.iconst 1, 1) := od_4  (by decide +kernel)
theorem dL_law_808 : decode cL_law 808 = .ok (.iadd, 1) := od_96  (by decide +kernel)
theorem dL_law_809 : decode cL_law 809 = .ok (.iaload, 1) := od_46  (by decide +kernel)
theorem dL_law_810 : decode cL_law 810 = .ok (.aload_n 0, 1) := od_42  (by decide +kernel)
theorem dL_law_811 : decode cL_law 811 = .ok (.iload_n 3, 1) := od_29  (by decide +kernel)
theorem dL_law_812 : decode cL_law 812 = .ok (.iconst 2, 1) := od_5  (by decide +kernel)
theorem dL_law_813 : decode cL_law 813 = .ok (.iadd, 1) := od_96  (by decide +kernel)
theorem dL_law_814 : decode cL_law 814 = .ok (.iaload, 1) := od_46  (by decide +kernel)
theorem dL_law_815 : decode cL_law 815 = .ok (.invokevirtual 82, 3) := od_182 (a := 0) (b := 82) (by decide +kernel) (by decide)
theorem dL_law_818 : decode cL_law 818 = .ok (.pop, 1) := od_87  (by decide +kernel)
theorem dL_law_819 : decode cL_law 819 = .ok (.goto 891, 3) := od_167 (a := 3) (b := 123) (by decide +kernel) (by decide +kernel)
theorem dL_law_822 : decode cL_law 822 = .ok (.aload_n 1, 1) := od_43  (by decide +kernel)
theorem dL_law_823 : decode cL_law 823 = .ok (.aload_n 0, 1) := od_42  (by decide +kernel)
theorem dL_law_824 : decode cL_law 824 = .ok (.iload_n 3, 1) := od_29  (by decide +kernel)
theorem dL_law_825 : decode cL_law 825 = .ok (.iconst 1, 1) := od_4  (by decide +kernel)
theorem dL_law_826 : decode cL_law 826 = .ok (.iadd, 1) := od_96  (by decide +kernel)
theorem dL_law_827 : decode cL_law 827 = .ok (.iaload, 1) := od_46  (by decide +kernel)
theorem dL_law_828 : decode cL_law 828 = .ok (.aload_n 0, 1) := od_42  (by decide +kernel)
theorem dL_law_829 : decode cL_law 829 = .ok (.iload_n 3, 1) := od_29  (by decide +kernel)
theorem dL_law_830 : decode cL_law 830 = .ok (.iconst 2, 1) := od_5  (by decide +kernel)
theorem dL_law_831 : decode cL_law 831 = .ok (.iadd, 1) := od_96  (by decide +kernel)
theorem dL_law_832 : decode cL_law 832 = .ok (.iaload, 1) := od_46  (by decide +kernel)
theorem dL_law_833 : decode cL_law 833 = .ok (.invokevirtual 83, 3) := od_182 (a := 0) (b := 83) (by decide +kernel) (by decide)
theorem dL_law_836 : decode cL_law 836 = .ok (.pop, 1) := od_87  (by decide +kernel)
theorem dL_law_837 : decode cL_law 837 = .ok (.aload_n 2, 1) := od_44  (by decide +kernel)
theorem dL_law_838 : decode cL_law 838 = .ok (.aload_n 0, 1) := od_42  (by decide +kernel)
theorem dL_law_839 : decode cL_law 839 = .ok (.iload_n 3, 1) := od_29  (by decide +kernel)
theorem dL_law_840 : decode cL_law 840 = .ok (.iconst 1, 1) := od_4  (by decide +kernel)
theorem dL_law_841 : decode cL_law 841 = .ok (.iadd, 1) := od_96  (by decide +kernel)
theorem dL_law_842 : decode cL_law 842 = .ok (.iaload, 1) := od_46  (by decide +kernel)
theorem dL_law_843 : decode cL_law 843 = .ok (.aload_n 0, 1) := od_42  (by decide +kernel)
theorem dL_law_844 : decode cL_law 844 = .ok (.iload_n 3, 1) := od_29  (by decide +kernel)
theorem dL_law_845 : decode cL_law 845 = .ok (.iconst 2, 1) := od_5  (by decide +kernel)
theorem dL_law_846 : decode cL_law 846 = .ok (.iadd, 1) := od_96  (by decide +kernel)
theorem dL_law_847 : decode cL_law 847 = .ok (.iaload, 1) := od_46  (by decide +kernel)
theorem dL_law_848 : decode cL_law 848 = .ok (.invokevirtual 86, 3) := od_182 (a := 0) (b := 86) (by decide +kernel) (by decide)
theorem dL_law_851 : decode cL_law 851 = .ok (.pop, 1) := od_87  (by decide +kernel)
theorem dL_law_852 : decode cL_law 852 = .ok (.goto 858, 3) := od_167 (a := 3) (b := 90) (by decide +kernel) (by decide +kernel)
theorem dL_law_855 : decode cL_law 855 = .ok (.aload_n 1, 1) := od_43  (by decide +kernel)
theorem dL_law_856 : decode cL_law 856 = .ok (.aload_n 0, 1) := od_42  (by decide +kernel)
theorem dL_law_857 : decode cL_law 857 = .ok (.iload_n 3, 1) := od_29  (by decide +kernel)
theorem dL_law_858 : decode cL_law 858 = .ok (.iconst 1, 1) := od_4  (by decide +kernel)
theorem dL_law_859 : decode cL_law 859 = .ok (.iadd, 1) := od_96  (by decide +kernel)
theorem dL_law_860 : decode cL_law 860 = .ok (.iaload, 1) := od_46  (by decide +kernel)
theorem dL_law_861 : decode cL_law 861 = .ok (.aload_n 0, 1) := od_42  (by decide +kernel)
theorem dL_law_862 : decode cL_law 862 = .ok (.iload_n 3, 1) := od_29  (by decide +kernel)
theorem dL_law_863 : decode cL_law 863 = .ok (.iconst 2, 1) := od_5  (by decide +kernel)
theorem dL_law_864 : decode cL_law 864 = .ok (.iadd, 1) := od_96  (by decide +kernel)
theorem dL_law_865 : decode cL_law 865 = .ok (.iaload, 1) := od_46  (by decide +kernel)
theorem dL_law_866 : decode cL_law 866 = .ok (.aload_n 0, 1) := od_42  (by decide +kernel)
theorem dL_law_867 : decode cL_law 867 = .ok (.iload_n 3, 1) := od_29  (by decide +kernel)
theorem dL_law_868 : decode cL_law 868 = .ok (.iconst 3, 1) := od_6  (by decide +kernel)
theorem dL_law_869 : decode cL_law 869 = .ok (.iadd, 1) := od_96  (by decide +kernel)
theorem dL_law_870 : decode cL_law 870 = .ok (.iaload, 1) := od_46  (by decide +kernel)
theorem dL_law_871 : decode cL_law 871 = .ok (.invokevirtual 87, 3) := od_182 (a := 0) (b := 87) (by decide +kernel) (by decide)
theorem dL_law_874 : decode cL_law 874 = .ok (.pop, 1) := od_87  (by decide +kernel)
theorem dL_law_875 : decode cL_law 875 = .ok (.aload_n 2, 1) := od_44  (by decide +kernel)
theorem dL_law_876 : decode cL_law 876 = .ok (.aload_n 0, 1) := od_42  (by decide +kernel)
theorem dL_law_877 : decode cL_law 877 = .ok (.iload_n 3, 1) := od_29  (by decide +kernel)
theorem dL_law_878 : decode cL_law 878 = .ok (.iconst 1, 1) := od_4  (by decide +kernel)
theorem dL_law_879 : decode cL_law 879 = .ok (.iadd, 1) := od_96  (by decide +kernel)
theorem dL_law_880 : decode cL_law 880 = .ok (.iaload, 1) := od_46  (by decide +kernel)
theorem dL_law_881 : decode cL_law 881 = .ok (.aload_n 0, 1) := od_42  (by decide +kernel)
theorem dL_law_882 : decode cL_law 882 = .ok (.iload_n 3, 1) := od_29  (by decide +kernel)
theorem dL_law_883 : decode cL_law 883 = .ok (.iconst 2, 1) := od_5  (by decide +kernel)
theorem dL_law_884 : decode cL_law 884 = .ok (.iadd, 1) := od_96  (by decide +kernel)
theorem dL_law_885 : decode cL_law 885 = .ok (.iaload, 1) := od_46  (by decide +kernel)
theorem dL_law_886 : decode cL_law 886 = .ok (.aload_n 0, 1) := od_42  (by decide +kernel)
theorem dL_law_887 : decode cL_law 887 = .ok (.iload_n 3, 1) := od_29  (by decide +kernel)
theorem dL_law_888 : decode cL_law 888 = .ok (.iconst 3, 1) := od_6  (by decide +kernel)
theorem dL_law_889 : decode cL_law 889 = .ok (.iadd, 1) := od_96  (by decide +kernel)
theorem dL_law_890 : decode cL_law 890 = .ok (.iaload, 1) := od_46  (by decide +kernel)
theorem dL_law_891 : decode cL_law 891 = .ok (.invokevirtual 90, 3) := od_182 (a := 0) (b := 90) (by decide +kernel) (by decide)
theorem dL_law_894 : decode cL_law 894 = .ok (.pop, 1) := od_87  (by decide +kernel)
theorem dL_law_895 : decode cL_law 895 = .ok (.goto 815, 3) := od_167 (a := 3) (b := 47) (by decide +kernel) (by decide +kernel)
theorem dL_law_898 : decode cL_law 898 = .ok (.aload_n 1, 1) := od_43  (by decide +kernel)
theorem dL_law_899 : decode cL_law 899 = .ok (.aload_n 0, 1) := od_42  (by decide +kernel)
theorem dL_law_900 : decode cL_law 900 = .ok (.iload_n 3, 1) := od_29  (by decide +kernel)
theorem dL_law_901 : decode cL_law 901 = .ok (.iconst 1, 1) := od_4  (by decide +kernel)
end
section
theorem dL_law_902 : decode cL_law 902 = .ok (.iadd, 1) := od_96  (by decide +kernel)
theorem dL_law_903 : decode cL_law 903 = .ok (.iaload, 1) := od_46  (by decide +kernel)
theorem dL_law_904 : decode cL_law 904 = .ok (.aload_n 0, 1) := od_42  (by decide +kernel)
theorem dL_law_905 : decode cL_law 905 = .ok (.iload_n 3, 1) := od_29  (by decide +kernel)
theorem dL_law_906 : decode cL_law 906 = .ok (.iconst 2, 1) := od_5  (by decide +kernel)
theorem dL_law_907 : decode cL_law 907 = .ok (.iadd, 1) := od_96  (by decide +kernel)
theorem dL_law_908 : decode cL_law 908 = .ok (.iaload, 1) := od_46  (by decide +kernel)
theorem dL_law_909 : decode cL_law 909 = .ok (.aload_n 0, 1) := od_42  (by decide +kernel)
theorem dL_law_910 : decode cL_law 910 = .ok (.iload_n 3, 1) := od_29  (by decide +kernel)
theorem dL_law_911 : decode cL_law 911 = .ok (.iconst 3, 1) := od_6  (by decide +kernel)
theorem dL_law_912 : decode cL_law 912 = .ok (.iadd, 1) := od_96  (by decide +kernel)
theorem dL_law_913 : decode cL_law 913 = .ok (.iaload, 1) := od_46  (by decide +kernel)
theorem dL_law_914 : decode cL_law 914 = .ok (.invokevirtual 91, 3) := od_182 (a := 0) (b := 91) (by decide +kernel) (by decide)
theorem dL_law_917 : decode cL_law 917 = .ok (.pop, 1) := od_87  (by decide +kernel)
theorem dL_law_918 : decode cL_law 918 = .ok (.aload_n 2, 1) := od_44  (by decide +kernel)
theorem dL_law_919 : decode cL_law 919 = .ok (.aload_n 0, 1) := od_42  (by decide +kernel)
theorem dL_law_920 : decode cL_law 920 = .ok (.iload_n 3, 1) := od_29  (by decide +kernel)
theorem dL_law_921 : decode cL_law 921 = .ok (.iconst 1, 1) := od_4  (by decide +kernel)
theorem dL_law_922 : decode cL_law 922 = .ok (.iadd, 1) := od_96  (by decide +kernel)
theorem dL_law_923 : decode cL_law 923 = .ok (.iaload, 1) := od_46  (by decide +kernel)
theorem dL_law_924 : decode cL_law 924 = .ok (.aload_n 0, 1) := od_42  (by decide +kernel)
theorem dL_law_925 : decode cL_law 925 = .ok (.iload_n 3, 1) := od_29  (by decide +kernel)
theorem dL_law_926 : decode cL_law 926 = .ok (.iconst 2, 1) := od_5  (by decide +kernel)
theorem dL_law_927 : decode cL_law 927 = .ok (.iadd, 1) := od_96  (by decide +kernel)
theorem dL_law_928 : decode cL_law 928 = .ok (.iaload, 1) := od_46  (by decide +kernel)
theorem dL_law_929 : decode cL_law 929 = .ok (.aload_n 0, 1) := od_42  (by decide +kernel)
theorem dL_law_930 : decode cL_law 930 = .ok (.iload_n 3, 1) := od_29  (by decide +kernel)
theorem dL_law_931 : decode cL_law 931 = .ok (.iconst 3, 1) := od_6  (by decide +kernel)
theorem dL_law_932 : decode cL_law 932 = .ok (.iadd, 1) := od_96  (by decide +kernel)
theorem dL_law_933 : decode cL_law 933 = .ok (.iaload, 1) := od_46  (by decide +kernel)
theorem dL_law_934 : decode cL_law 934 = .ok (.invokevirtual 94, 3) := od_182 (a := 0) (b := 94) (by decide +kernel) (by decide)
theorem dL_law_937 : decode cL_law 937 = .ok (.pop, 1) := od_87  (by decide +kernel)
theorem dL_law_938 : decode cL_law 938 = .ok (.goto 772, 3) := od_167 (a := 3) (b := 4) (by decide +kernel) (by decide +kernel)
theorem dL_law_941 : decode cL_law 941 = .ok (.aload_n 1, 1) := od_43  (by decide +kernel)
theorem dL_law_942 : decode cL_law 942 = .ok (.aload_n 0, 1) := od_42  (by decide +kernel)
theorem dL_law_943 : decode cL_law 943 = .ok (.iload_n 3, 1) := od_29  (by decide +kernel)
theorem dL_law_944 : decode cL_law 944 = .ok (.iconst 1, 1) := od_4  (by decide +kernel)
theorem dL_law_945 : decode cL_law 945 = .ok (.iadd, 1) := od_96  (by decide +kernel)
theorem dL_law_946 : decode cL_law 946 = .ok (.iaload, 1) := od_46  (by decide +kernel)
theorem dL_law_947 : decode cL_law 947 = .ok (.aload_n 0, 1) := od_42  (by decide +kernel)
theorem dL_law_948 : decode cL_law 948 = .ok (.iload_n 3, 1) := od_29  (by decide +kernel)
theorem dL_law_949 : decode cL_law 949 = .ok (.iconst 2, 1) := od_5  (by decide +kernel)
theorem dL_law_950 : decode cL_law 950 = .ok (.iadd, 1) := od_96  (by decide +kernel)
theorem dL_law_951 : decode cL_law 951 = .ok (.iaload, 1) := od_46  (by decide +kernel)
theorem dL_law_952 : decode cL_law 952 = .ok (.invokevirtual 95, 3) := od_182 (a := 0) (b := 95) (by decide +kernel) (by decide)
theorem dL_law_955 : decode cL_law 955 = .ok (.pop, 1) := od_87  (by decide +kernel)
theorem dL_law_956 : decode cL_law 956 = .ok (.aload_n 2, 1) := od_44  (by decide +kernel)
theorem dL_law_957 : decode cL_law 957 = .ok (.aload_n 0, 1) := od_42  (by decide +kernel)
theorem dL_law_958 : decode cL_law 958 = .ok (.iload_n 3, 1) := od_29  (by decide +kernel)
theorem dL_law_959 : decode cL_law 959 = .ok (.iconst 1, 1) := od_4  (by decide +kernel)
theorem dL_law_960 : decode cL_law 960 = .ok (.iadd, 1) := od_96  (by decide +kernel)
theorem dL_law_961 : decode cL_law 961 = .ok (.iaload, 1) := od_46  (by decide +kernel)
theorem dL_law_962 : decode cL_law 962 = .ok (.aload_n 0, 1) := od_42  (by decide +kernel)
theorem dL_law_963 : decode cL_law 963 = .ok (.iload_n 3, 1) := od_29  (by decide +kernel)
theorem dL_law_964 : decode cL_law 964 = .ok (.iconst 2, 1) := od_5  (by decide +kernel)
theorem dL_law_965 : decode cL_law 965 = .ok (.iadd, 1) := od_96  (by decide +kernel)
theorem dL_law_966 : decode cL_law 966 = .ok (.iaload, 1) := od_46  (by decide +kernel)
theorem dL_law_967 : decode cL_law 967 = .ok (.invokevirtual 98, 3) := od_182 (a := 0) (b := 98) (by decide +kernel) (by decide)
theorem dL_law_970 : decode cL_law 970 = .ok (.pop, 1) := od_87  (by decide +kernel)
theorem dL_law_971 : decode cL_law 971 = .ok (.goto 739, 3) := od_167 (a := 2) (b := 227) (by decide +kernel) (by decide +kernel)
theorem dL_law_974 : decode cL_law 974 = .ok (.aload_n 1, 1) := od_43  (by decide +kernel)
theorem dL_law_975 : decode cL_law 975 = .ok (.aload_n 0, 1) := od_42  (by decide +kernel)
theorem dL_law_976 : decode cL_law 976 = .ok (.iload_n 3, 1) := od_29  (by decide +kernel)
theorem dL_law_977 : decode cL_law 977 = .ok (.iconst 1, 1) := od_4  (by decide +kernel)
theorem dL_law_978 : decode cL_law 978 = .ok (.iadd, 1) := od_96  (by decide +kernel)
theorem dL_law_979 : decode cL_law 979 = .ok (.iaload, 1) := od_46  (by decide +kernel)
theorem dL_law_980 : decode cL_law 980 = .ok (.aload_n 0, 1) := od_42  (by decide +kernel)
theorem dL_law_981 : decode cL_law 981 = .ok (.iload_n 3, 1) := od_29  (by decide +kernel)
theorem dL_law_982 : decode cL_law 982 = .ok (.iconst 2, 1) := od_5  (by decide +kernel)
theorem dL_law_983 : decode cL_law 983 = .ok (.iadd, 1) := od_96  (by decide +kernel)
theorem dL_law_984 : decode cL_law 984 = .ok (.iaload, 1) := od_46  (by decide +kernel)
theorem dL_law_985 : decode cL_law 985 = .ok (.aload_n 0, 1) := od_42  (by decide +kernel)
theorem dL_law_986 : decode cL_law 986 = .ok (.iload_n 3, 1) := od_29  (by decide +kernel)
theorem dL_law_987 : decode cL_law 987 = .ok (.iconst 3, 1) := od_6  (by decide +kernel)
theorem dL_law_988 : decode cL_law 988 = .ok (.iadd, 1) := od_96  (by decide +kernel)
theorem dL_law_989 : decode cL_law 989 = .ok (.iaload, 1) := od_46  (by decide +kernel)
theorem dL_law_990 : decode cL_law 990 = .ok (.aload_n 0, 1) := od_42  (by decide +kernel)
theorem dL_law_991 : decode cL_law 991 = .ok (.iload_n 3, 1) := od_29  (by decide +kernel)
theorem dL_law_992 : decode cL_law 992 = .ok (.iconst 4, 1) := od_7  (by decide +kernel)
theorem dL_law_993 : decode cL_law 993 = .ok (.iadd, 1) := od_96  (by decide +kernel)
theorem dL_law_994 : decode cL_law 994 = .ok (.iaload, 1) := od_46  (by decide +kernel)
theorem dL_law_995 : decode cL_law 995 = .ok (.aload_n 0, 1) := od_42  (by decide +kernel)
theorem dL_law_996 : decode cL_law 996 = .ok (.iload_n 3, 1) := od_29  (by decide +kernel)
theorem dL_law_997 : decode cL_law 997 = .ok (.iconst 5, 1) := od_8  (by decide +kernel)
theorem dL_law_998 : decode cL_law 998 = .ok (.iadd, 1) := od_96  (by decide +kernel)
theorem dL_law_999 : decode cL_law 999 = .ok (.iaload, 1) := od_46  (by decide +kernel)
theorem dL_law_1000 : decode cL_law 1000 = .ok (.invokevirtual 99, 3) := od_182 (a := 0) (b := 99) (by decide +kernel) (by decide)
theorem dL_law_1003 : decode cL_law 1003 = .ok (.pop, 1) := od_87  (by decide +kernel)
theorem dL_law_1004 : decode cL_law 1004 = .ok (.aload_n 2, 1) := od_44  (by decide +kernel)
theorem dL_law_1005 : decode cL_law 1005 = .ok (.aload_n 0, 1) := od_42  (by decide +kernel)
theorem dL_law_1006 : decode cL_law 1006 = .ok (.iload_n 3, 1) := od_29  (by decide +kernel)
theorem dL_law_1007 : decode cL_law 1007 = .ok (.iconst 1, 1) := od_4  (by decide +kernel)
theorem dL_law_1008 : decode cL_law 1008 = .ok (.iadd, 1) := od_96  (by decide +kernel)
theorem dL_law_1009 : decode cL_law 1009 = .ok (.iaload, 1) := od_46  (by decide +kernel)
theorem dL_law_1010 : decode cL_law 1010 = .ok (.aload_n 0, 1) := od_42  (by decide +kernel)
theorem dL_law_1011 : decode cL_law 1011 = .ok (.iload_n 3, 1) := od_29  (by decide +kernel)
theorem dL_law_1012 : decode cL_law 1012 = .ok (.iconst 2, 1) := od_5  (by decide +kernel)
theorem dL_law_1013 : decode cL_law 1013 = .ok (.iadd, 1) := od_96  (by decide +kernel)
theorem dL_law_1014 : decode cL_law 1014 = .ok (.iaload, 1) := od_46  (by decide +kernel)
theorem dL_law_1015 : decode cL_law 1015 = .ok (.aload_n 0, 1) := od_42  (by decide +kernel)
end
section
theorem dL_law_1016 : decode cL_law 1016 = .ok (.iload_n 3, 1) := od_29  (by decide +kernel)
theorem dL_law_1017 : decode cL_law 1017 = .ok (.iconst 3, 1) := od_6  (by decide +kernel)
theorem dL_law_1018 : decode cL_law 1018 = .ok (.iadd, 1) := od_96  (by decide +kernel)
theorem dL_law_1019 : decode cL_law 1019 = .ok (.iaload, 1) := od_46  (by decide +kernel)
theorem dL_law_1020 : decode cL_law 1020 = .ok (.aload_n 0, 1) := od_42  (by decide +kernel)
theorem dL_law_1021 : decode cL_law 1021 = .ok (.iload_n 3, 1) := od_29  (by decide +kernel)
theorem dL_law_1022 : decode cL_law 1022 = .ok (.iconst 4, 1) := od_7  (by decide +kernel)
theorem dL_law_1023 : decode cL_law 1023 = .ok (.iadd, 1) := od_96  (by decide +kernel)
theorem dL_law_1024 : decode cL_law 1024 = .ok (.iaload, 1) := od_46  (by decide +kernel)
theorem dL_law_1025 : decode cL_law 1025 = .ok (.aload_n 0, 1) := od_42  (by decide +kernel)
theorem dL_law_1026 : decode cL_law 1026 = .ok (.iload_n 3, 1) := od_29  (by decide +kernel)
theorem dL_law_1027 : decode cL_law 1027 = .ok (.iconst 5, 1) := od_8  (by decide +kernel)
theorem dL_law_1028 : decode cL_law 1028 = .ok (.iadd, 1) := od_96  (by decide +kernel)
theorem dL_law_1029 : decode cL_law 1029 = .ok (.iaload, 1) := od_46  (by decide +kernel)
theorem dL_law_1030 : decode cL_law 1030 = .ok (.invokevirtual 103, 3) := od_182 (a := 0) (b := 103) (by decide +kernel) (by decide)
theorem dL_law_1033 : decode cL_law 1033 = .ok (.pop, 1) := od_87  (by decide +kernel)
theorem dL_law_1034 : decode cL_law 1034 = .ok (.goto 676, 3) := od_167 (a := 2) (b := 164) (by decide +kernel) (by decide +kernel)
theorem dL_law_1037 : decode cL_law 1037 = .ok (.aload_n 1, 1) := od_43  (by decide +kernel)
theorem dL_law_1038 : decode cL_law 1038 = .ok (.aload_n 0, 1) := od_42  (by decide +kernel)
theorem dL_law_1039 : decode cL_law 1039 = .ok (.iload_n 3, 1) := od_29  (by decide +kernel)
theorem dL_law_1040 : decode cL_law 1040 = .ok (.iconst 1, 1) := od_4  (by decide +kernel)
theorem dL_law_1041 : decode cL_law 1041 = .ok (.iadd, 1) := od_96  (by decide +kernel)
theorem dL_law_1042 : decode cL_law 1042 = .ok (.iaload, 1) := od_46  (by decide +kernel)
theorem dL_law_1043 : decode cL_law 1043 = .ok (.invokevirtual 104, 3) := od_182 (a := 0) (b := 104) (by decide +kernel) (by decide)
theorem dL_law_1046 : decode cL_law 1046 = .ok (.aload_n 2, 1) := od_44  (by decide +kernel)
theorem dL_law_1047 : decode cL_law 1047 = .ok (.aload_n 0, 1) := od_42  (by decide +kernel)
theorem dL_law_1048 : decode cL_law 1048 = .ok (.iload_n 3, 1) := od_29  (by decide +kernel)
theorem dL_law_1049 : decode cL_law 1049 = .ok (.iconst 1, 1) := od_4  (by decide +kernel)
theorem dL_law_1050 : decode cL_law 1050 = .ok (.iadd, 1) := od_96  (by decide +kernel)
theorem dL_law_1051 : decode cL_law 1051 = .ok (.iaload, 1) := od_46  (by decide +kernel)
theorem dL_law_1052 : decode cL_law 1052 = .ok (.invokevirtual 107, 3) := od_182 (a := 0) (b := 107) (by decide +kernel) (by decide)
theorem dL_law_1055 : decode cL_law 1055 = .ok (.if_icmp .eq 655, 3) := od_159 (a := 2) (b := 143) (by decide +kernel) (by decide +kernel)
theorem dL_law_1060 : decode cL_law 1060 = .ok (.aload_n 1, 1) := od_43  (by decide +kernel)
theorem dL_law_1061 : decode cL_law 1061 = .ok (.invokevirtual 108, 3) := od_182 (a := 0) (b := 108) (by decide +kernel) (by decide)
theorem dL_law_1064 : decode cL_law 1064 = .ok (.pop, 1) := od_87  (by decide +kernel)
theorem dL_law_1065 : decode cL_law 1065 = .ok (.aload_n 2, 1) := od_44  (by decide +kernel)
theorem dL_law_1066 : decode cL_law 1066 = .ok (.invokevirtual 112, 3) := od_182 (a := 0) (b := 112) (by decide +kernel) (by decide)
theorem dL_law_1069 : decode cL_law 1069 = .ok (.pop, 1) := od_87  (by decide +kernel)
theorem dL_law_1070 : decode cL_law 1070 = .ok (.goto 640, 3) := od_167 (a := 2) (b := 128) (by decide +kernel) (by decide +kernel)
theorem dL_law_1073 : decode cL_law 1073 = .ok (.aload_n 1, 1) := od_43  (by decide +kernel)
theorem dL_law_1074 : decode cL_law 1074 = .ok (.invokevirtual 113, 3) := od_182 (a := 0) (b := 113) (by decide +kernel) (by decide)
theorem dL_law_1077 : decode cL_law 1077 = .ok (.pop, 1) := od_87  (by decide +kernel)
theorem dL_law_1078 : decode cL_law 1078 = .ok (.aload_n 2, 1) := od_44  (by decide +kernel)
theorem dL_law_1079 : decode cL_law 1079 = .ok (.invokevirtual 116, 3) := od_182 (a := 0) (b := 116) (by decide +kernel) (by decide)
theorem dL_law_1082 : decode cL_law 1082 = .ok (.pop, 1) := od_87  (by decide +kernel)
theorem dL_law_1083 : decode cL_law 1083 = .ok (.goto 627, 3) := od_167 (a := 2) (b := 115) (by decide +kernel) (by decide +kernel)
theorem dL_law_1086 : decode cL_law 1086 = .ok (.aload_n 1, 1) := od_43  (by decide +kernel)
theorem dL_law_1087 : decode cL_law 1087 = .ok (.aload_n 0, 1) := od_42  (by decide +kernel)
theorem dL_law_1088 : decode cL_law 1088 = .ok (.iload_n 3, 1) := od_29  (by decide +kernel)
theorem dL_law_1089 : decode cL_law 1089 = .ok (.iconst 1, 1) := od_4  (by decide +kernel)
theorem dL_law_1090 : decode cL_law 1090 = .ok (.iadd, 1) := od_96  (by decide +kernel)
theorem dL_law_1091 : decode cL_law 1091 = .ok (.iaload, 1) := od_46  (by decide +kernel)
theorem dL_law_1092 : decode cL_law 1092 = .ok (.aload_n 0, 1) := od_42  (by decide +kernel)
theorem dL_law_1093 : decode cL_law 1093 = .ok (.iload_n 3, 1) := od_29  (by decide +kernel)
theorem dL_law_1094 : decode cL_law 1094 = .ok (.iconst 2, 1) := od_5  (by decide +kernel)
theorem dL_law_1095 : decode cL_law 1095 = .ok (.iadd, 1) := od_96  (by decide +kernel)
theorem dL_law_1096 : decode cL_law 1096 = .ok (.iaload, 1) := od_46  (by decide +kernel)
theorem dL_law_1097 : decode cL_law 1097 = .ok (.aload_n 0, 1) := od_42  (by decide +kernel)
theorem dL_law_1098 : decode cL_law 1098 = .ok (.iload_n 3, 1) := od_29  (by decide +kernel)
theorem dL_law_1099 : decode cL_law 1099 = .ok (.iconst 3, 1) := od_6  (by decide +kernel)
theorem dL_law_1100 : decode cL_law 1100 = .ok (.iadd, 1) := od_96  (by decide +kernel)
theorem dL_law_1101 : decode cL_law 1101 = .ok (.iaload, 1) := od_46  (by decide +kernel)
theorem dL_law_1102 : decode cL_law 1102 = .ok (.aload_n 0, 1) := od_42  (by decide +kernel)
theorem dL_law_1103 : decode cL_law 1103 = .ok (.iload_n 3, 1) := od_29  (by decide +kernel)
theorem dL_law_1104 : decode cL_law 1104 = .ok (.iconst 4, 1) := od_7  (by decide +kernel)
theorem dL_law_1105 : decode cL_law 1105 = .ok (.iadd, 1) := od_96  (by decide +kernel)
theorem dL_law_1106 : decode cL_law 1106 = .ok (.iaload, 1) := od_46  (by decide +kernel)
theorem dL_law_1107 : decode cL_law 1107 = .ok (.invokevirtual 117, 3) := od_182 (a := 0) (b := 117) (by decide +kernel) (by decide)
theorem dL_law_1110 : decode cL_law 1110 = .ok (.pop2, 1) := od_88  (by decide +kernel)
theorem dL_law_1111 : decode cL_law 1111 = .ok (.aload_n 2, 1) := od_44  (by decide +kernel)
theorem dL_law_1112 : decode cL_law 1112 = .ok (.aload_n 0, 1) := od_42  (by decide +kernel)
theorem dL_law_1113 : decode cL_law 1113 = .ok (.iload_n 3, 1) := od_29  (by decide +kernel)
theorem dL_law_1114 : decode cL_law 1114 = .ok (.iconst 1, 1) := od_4  (by decide +kernel)
theorem dL_law_1115 : decode cL_law 1115 = .ok (.iadd, 1) := od_96  (by decide +kernel)
theorem dL_law_1116 : decode cL_law 1116 = .ok (.iaload, 1) := od_46  (by decide +kernel)
theorem dL_law_1117 : decode cL_law 1117 = .ok (.aload_n 0, 1) := od_42  (by decide +kernel)
theorem dL_law_1118 : decode cL_law 1118 = .ok (.iload_n 3, 1) := od_29  (by decide +kernel)
theorem dL_law_1119 : decode cL_law 1119 = .ok (.iconst 2, 1) := od_5  (by decide +kernel)
theorem dL_law_1120 : decode cL_law 1120 = .ok (.iadd, 1) := od_96  (by decide +kernel)
theorem dL_law_1121 : decode cL_law 1121 = .ok (.iaload, 1) := od_46  (by decide +kernel)
theorem dL_law_1122 : decode cL_law 1122 = .ok (.aload_n 0, 1) := od_42  (by decide +kernel)
theorem dL_law_1123 : decode cL_law 1123 = .ok (.iload_n 3, 1) := od_29  (by decide +kernel)
theorem dL_law_1124 : decode cL_law 1124 = .ok (.iconst 3, 1) := od_6  (by decide +kernel)
theorem dL_law_1125 : decode cL_law 1125 = .ok (.iadd, 1) := od_96  (by decide +kernel)
theorem dL_law_1126 : decode cL_law 1126 = .ok (.iaload, 1) := od_46  (by decide +kernel)
theorem dL_law_1127 : decode cL_law 1127 = .ok (.aload_n 0, 1) := od_42  (by decide +kernel)
theorem dL_law_1128 : decode cL_law 1128 = .ok (.iload_n 3, 1) := od_29  (by decide +kernel)
theorem dL_law_1129 : decode cL_law 1129 = .ok (.iconst 4, 1) := od_7  (by decide +kernel)
theorem dL_law_1130 : decode cL_law 1130 = .ok (.iadd, 1) := od_96  (by decide +kernel)
theorem dL_law_1131 : decode cL_law 1131 = .ok (.iaload, 1) := od_46  (by decide +kernel)
theorem dL_law_1132 : decode cL_law 1132 = .ok (.invokevirtual 121, 3) := od_182 (a := 0) (b := 121) (by decide +kernel) (by decide)
theorem dL_law_1135 : decode cL_law 1135 = .ok (.pop2, 1) := od_88  (by decide +kernel)
theorem dL_law_1136 : decode cL_law 1136 = .ok (.goto 574, 3) := od_167 (a := 2) (b := 62) (by decide +kernel) (by decide +kernel)
theorem dL_law_1139 : decode cL_law 1139 = .ok (.aload_n 1, 1) := od_43  (by decide +kernel)
theorem dL_law_1140 : decode cL_law 1140 = .ok (.aload_n 0, 1) := od_42  (by decide +kernel)
theorem dL_law_1141 : decode cL_law 1141 = .ok (.iload_n 3, 1) := od_29  (by decide +kernel)
theorem dL_law_1142 : decode cL_law 1142 = .ok (.iconst 1, 1) := od_4  (by decide +kernel)
theorem dL_law_1143 : decode cL_law 1143 = .ok (.iadd, 1) := od_96  (by decide +kernel)
theorem dL_law_1144 : decode cL_law 1144 = .ok (.iaload, 1) := od_46  (by decide +kernel)
theorem dL_law_1145 : decode cL_law 1145 = .ok (.aload_n 0, 1) := od_42  (by decide +kernel)
end
section
theorem dL_law_1146 : decode cL_law 1146 = .ok (.iload_n 3, 1) := od_29  (by decide +kernel)
theorem dL_law_1147 : decode cL_law 1147 = .ok (.iconst 2, 1) := od_5  (by decide +kernel)
theorem dL_law_1148 : decode cL_law 1148 = .ok (.iadd, 1) := od_96  (by decide +kernel)
theorem dL_law_1149 : decode cL_law 1149 = .ok (.iaload, 1) := od_46  (by decide +kernel)
theorem dL_law_1150 : decode cL_law 1150 = .ok (.invokevirtual 122, 3) := od_182 (a := 0) (b := 122) (by decide +kernel) (by decide)
theorem dL_law_1153 : decode cL_law 1153 = .ok (.pop, 1) := od_87  (by decide +kernel)
theorem dL_law_1154 : decode cL_law 1154 = .ok (.aload_n 2, 1) := od_44  (by decide +kernel)
theorem dL_law_1155 : decode cL_law 1155 = .ok (.aload_n 0, 1) := od_42  (by decide +kernel)
theorem dL_law_1156 : decode cL_law 1156 = .ok (.iload_n 3, 1) := od_29  (by decide +kernel)
theorem dL_law_1157 : decode cL_law 1157 = .ok (.iconst 1, 1) := od_4  (by decide +kernel)
theorem dL_law_1158 : decode cL_law 1158 = .ok (.iadd, 1) := od_96  (by decide +kernel)
theorem dL_law_1159 : decode cL_law 1159 = .ok (.iaload, 1) := od_46  (by decide +kernel)
theorem dL_law_1160 : decode cL_law 1160 = .ok (.aload_n 0, 1) := od_42  (by decide +kernel)
theorem dL_law_1161 : decode cL_law 1161 = .ok (.iload_n 3, 1) := od_29  (by decide +kernel)
theorem dL_law_1162 : decode cL_law 1162 = .ok (.iconst 2, 1) := od_5  (by decide +kernel)
theorem dL_law_1163 : decode cL_law 1163 = .ok (.iadd, 1) := od_96  (by decide +kernel)
theorem dL_law_1164 : decode cL_law 1164 = .ok (.iaload, 1) := od_46  (by decide +kernel)
theorem dL_law_1165 : decode cL_law 1165 = .ok (.invokevirtual 125, 3) := od_182 (a := 0) (b := 125) (by decide +kernel) (by decide)
theorem dL_law_1168 : decode cL_law 1168 = .ok (.pop, 1) := od_87  (by decide +kernel)
theorem dL_law_1169 : decode cL_law 1169 = .ok (.goto 541, 3) := od_167 (a := 2) (b := 29) (by decide +kernel) (by decide +kernel)
theorem dL_law_1172 : decode cL_law 1172 = .ok (.aload_n 1, 1) := od_43  (by decide +kernel)
theorem dL_law_1173 : decode cL_law 1173 = .ok (.aload_n 0, 1) := od_42  (by decide +kernel)
theorem dL_law_1174 : decode cL_law 1174 = .ok (.iload_n 3, 1) := od_29  (by decide +kernel)
theorem dL_law_1175 : decode cL_law 1175 = .ok (.iconst 1, 1) := od_4  (by decide +kernel)
theorem dL_law_1176 : decode cL_law 1176 = .ok (.iadd, 1) := od_96  (by decide +kernel)
theorem dL_law_1177 : decode cL_law 1177 = .ok (.iaload, 1) := od_46  (by decide +kernel)
theorem dL_law_1178 : decode cL_law 1178 = .ok (.aload_n 0, 1) := od_42  (by decide +kernel)
theorem dL_law_1179 : decode cL_law 1179 = .ok (.iload_n 3, 1) := od_29  (by decide +kernel)
theorem dL_law_1180 : decode cL_law 1180 = .ok (.iconst 2, 1) := od_5  (by decide +kernel)
theorem dL_law_1181 : decode cL_law 1181 = .ok (.iadd, 1) := od_96  (by decide +kernel)
theorem dL_law_1182 : decode cL_law 1182 = .ok (.iaload, 1) := od_46  (by decide +kernel)
theorem dL_law_1183 : decode cL_law 1183 = .ok (.invokevirtual 126, 3) := od_182 (a := 0) (b := 126) (by decide +kernel) (by decide)
theorem dL_law_1186 : decode cL_law 1186 = .ok (.pop2, 1) := od_88  (by decide +kernel)
theorem dL_law_1187 : decode cL_law 1187 = .ok (.aload_n 2, 1) := od_44  (by decide +kernel)
theorem dL_law_1188 : decode cL_law 1188 = .ok (.aload_n 0, 1) := od_42  (by decide +kernel)
theorem dL_law_1189 : decode cL_law 1189 = .ok (.iload_n 3, 1) := od_29  (by decide +kernel)
theorem dL_law_1190 : decode cL_law 1190 = .ok (.iconst 1, 1) := od_4  (by decide +kernel)
theorem dL_law_1191 : decode cL_law 1191 = .ok (.iadd, 1) := od_96  (by decide +kernel)
theorem dL_law_1192 : decode cL_law 1192 = .ok (.iaload, 1) := od_46  (by decide +kernel)
theorem dL_law_1193 : decode cL_law 1193 = .ok (.aload_n 0, 1) := od_42  (by decide +kernel)
theorem dL_law_1194 : decode cL_law 1194 = .ok (.iload_n 3, 1) := od_29  (by decide +kernel)
theorem dL_law_1195 : decode cL_law 1195 = .ok (.iconst 2, 1) := od_5  (by decide +kernel)
theorem dL_law_1196 : decode cL_law 1196 = .ok (.iadd, 1) := od_96  (by decide +kernel)
theorem dL_law_1197 : decode cL_law 1197 = .ok (.iaload, 1) := od_46  (by decide +kernel)
theorem dL_law_1198 : decode cL_law 1198 = .ok (.invokevirtual 129, 3) := od_182 (a := 0) (b := 129) (by decide +kernel) (by decide)
theorem dL_law_1201 : decode cL_law 1201 = .ok (.pop2, 1) := od_88  (by decide +kernel)
theorem dL_law_1202 : decode cL_law 1202 = .ok (.goto 508, 3) := od_167 (a := 1) (b := 252) (by decide +kernel) (by decide +kernel)
theorem dL_law_1205 : decode cL_law 1205 = .ok (.aload_n 1, 1) := od_43  (by decide +kernel)
theorem dL_law_1206 : decode cL_law 1206 = .ok (.aload_n 0, 1) := od_42  (by decide +kernel)
theorem dL_law_1207 : decode cL_law 1207 = .ok (.iload_n 3, 1) := od_29  (by decide +kernel)
theorem dL_law_1208 : decode cL_law 1208 = .ok (.iconst 1, 1) := od_4  (by decide +kernel)
theorem dL_law_1209 : decode cL_law 1209 = .ok (.iadd, 1) := od_96  (by decide +kernel)
theorem dL_law_1210 : decode cL_law 1210 = .ok (.iaload, 1) := od_46  (by decide +kernel)
theorem dL_law_1211 : decode cL_law 1211 = .ok (.aload_n 0, 1) := od_42  (by decide +kernel)
theorem dL_law_1212 : decode cL_law 1212 = .ok (.iload_n 3, 1) := od_29  (by decide +kernel)
theorem dL_law_1213 : decode cL_law 1213 = .ok (.iconst 2, 1) := od_5  (by decide +kernel)
theorem dL_law_1214 : decode cL_law 1214 = .ok (.iadd, 1) := od_96  (by decide +kernel)
theorem dL_law_1215 : decode cL_law 1215 = .ok (.iaload, 1) := od_46  (by decide +kernel)
theorem dL_law_1216 : decode cL_law 1216 = .ok (.aload_n 0, 1) := od_42  (by decide +kernel)
theorem dL_law_1217 : decode cL_law 1217 = .ok (.iload_n 3, 1) := od_29  (by decide +kernel)
theorem dL_law_1218 : decode cL_law 1218 = .ok (.iconst 3, 1) := od_6  (by decide +kernel)
theorem dL_law_1219 : decode cL_law 1219 = .ok (.iadd, 1) := od_96  (by decide +kernel)
theorem dL_law_1220 : decode cL_law 1220 = .ok (.iaload, 1) := od_46  (by decide +kernel)
theorem dL_law_1221 : decode cL_law 1221 = .ok (.aload_n 0, 1) := od_42  (by decide +kernel)
theorem dL_law_1222 : decode cL_law 1222 = .ok (.iload_n 3, 1) := od_29  (by decide +kernel)
theorem dL_law_1223 : decode cL_law 1223 = .ok (.iconst 4, 1) := od_7  (by decide +kernel)
theorem dL_law_1224 : decode cL_law 1224 = .ok (.iadd, 1) := od_96  (by decide +kernel)
theorem dL_law_1225 : decode cL_law 1225 = .ok (.iaload, 1) := od_46  (by decide +kernel)
theorem dL_law_1226 : decode cL_law 1226 = .ok (.invokevirtual 130, 3) := od_182 (a := 0) (b := 130) (by decide +kernel) (by decide)
theorem dL_law_1229 : decode cL_law 1229 = .ok (.pop, 1) := od_87  (by decide +kernel)
theorem dL_law_1230 : decode cL_law 1230 = .ok (.aload_n 2, 1) := od_44  (by decide +kernel)
theorem dL_law_1231 : decode cL_law 1231 = .ok (.aload_n 0, 1) := od_42  (by decide +kernel)
theorem dL_law_1232 : decode cL_law 1232 = .ok (.iload_n 3, 1) := od_29  (by decide +kernel)
theorem dL_law_1233 : decode cL_law 1233 = .ok (.iconst 1, 1) := od_4  (by decide +kernel)
theorem dL_law_1234 : decode cL_law 1234 = .ok (.iadd, 1) := od_96  (by decide +kernel)
theorem dL_law_1235 : decode cL_law 1235 = .ok (.iaload, 1) := od_46  (by decide +kernel)
theorem dL_law_1236 : decode cL_law 1236 = .ok (.aload_n 0, 1) := od_42  (by decide +kernel)
theorem dL_law_1237 : decode cL_law 1237 = .ok (.iload_n 3, 1) := od_29  (by decide +kernel)
theorem dL_law_1238 : decode cL_law 1238 = .ok (.iconst 2, 1) := od_5  (by decide +kernel)
theorem dL_law_1239 : decode cL_law 1239 = .ok (.iadd, 1) := od_96  (by decide +kernel)
theorem dL_law_1240 : decode cL_law 1240 = .ok (.iaload, 1) := od_46  (by decide +kernel)
theorem dL_law_1241 : decode cL_law 1241 = .ok (.aload_n 0, 1) := od_42  (by decide +kernel)
theorem dL_law_1242 : decode cL_law 1242 = .ok (.iload_n 3, 1) := od_29  (by decide +kernel)
theorem dL_law_1243 : decode cL_law 1243 = .ok (.iconst 3, 1) := od_6  (by decide +kernel)
theorem dL_law_1244 : decode cL_law 1244 = .ok (.iadd, 1) := od_96  (by decide +kernel)
theorem dL_law_1245 : decode cL_law 1245 = .ok (.iaload, 1) := od_46  (by decide +kernel)
theorem dL_law_1246 : decode cL_law 1246 = .ok (.aload_n 0, 1) := od_42  (by decide +kernel)
theorem dL_law_1247 : decode cL_law 1247 = .ok (.iload_n 3, 1) := od_29  (by decide +kernel)
theorem dL_law_1248 : decode cL_law 1248 = .ok (.iconst 4, 1) := od_7  (by decide +kernel)
theorem dL_law_1249 : decode cL_law 1249 = .ok (.iadd, 1) := od_96  (by decide +kernel)
theorem dL_law_1250 : decode cL_law 1250 = .ok (.iaload, 1) := od_46  (by decide +kernel)
theorem dL_law_1251 : decode cL_law 1251 = .ok (.invokevirtual 133, 3) := od_182 (a := 0) (b := 133) (by decide +kernel) (by decide)
theorem dL_law_1254 : decode cL_law 1254 = .ok (.pop, 1) := od_87  (by decide +kernel)
theorem dL_law_1255 : decode cL_law 1255 = .ok (.goto 455, 3) := od_167 (a := 1) (b := 199) (by decide +kernel) (by decide +kernel)
theorem dL_law_1258 : decode cL_law 1258 = .ok (.aload_n 1, 1) := od_43  (by decide +kernel)
theorem dL_law_1259 : decode cL_law 1259 = .ok (.aload_n 0, 1) := od_42  (by decide +kernel)
theorem dL_law_1260 : decode cL_law 1260 = .ok (.iload_n 3, 1) := od_29  (by decide +kernel)
theorem dL_law_1261 : decode cL_law 1261 = .ok (.iconst 1, 1) := od_4  (by decide +kernel)
theorem dL_law_1262 : decode cL_law 1262 = .ok (.iadd, 1) := od_96  (by decide +kernel)
theorem dL_law_1263 : decode cL_law 1263 = .ok (.iaload, 1) := od_46  (by decide +kernel)
end
section
theorem dL_law_1264 : decode cL_law 1264 = .ok (.aload_n 0, 1) := od_42  (by decide +kernel)
theorem dL_law_1265 : decode cL_law 1265 = .ok (.iload_n 3, 1) := od_29  (by decide +kernel)
theorem dL_law_1266 : decode cL_law 1266 = .ok (.iconst 2, 1) := od_5  (by decide +kernel)
theorem dL_law_1267 : decode cL_law 1267 = .ok (.iadd, 1) := od_96  (by decide +kernel)
theorem dL_law_1268 : decode cL_law 1268 = .ok (.iaload, 1) := od_46  (by decide +kernel)
theorem dL_law_1269 : decode cL_law 1269 = .ok (.invokevirtual 134, 3) := od_182 (a := 0) (b := 134) (by decide +kernel) (by decide)
theorem dL_law_1272 : decode cL_law 1272 = .ok (.pop, 1) := od_87  (by decide +kernel)
theorem dL_law_1273 : decode cL_law 1273 = .ok (.aload_n 2, 1) := od_44  (by decide +kernel)
theorem dL_law_1274 : decode cL_law 1274 = .ok (.aload_n 0, 1) := od_42  (by decide +kernel)
theorem dL_law_1275 : decode cL_law 1275 = .ok (.iload_n 3, 1) := od_29  (by decide +kernel)
theorem dL_law_1276 : decode cL_law 1276 = .ok (.iconst 1, 1) := od_4  (by decide +kernel)
theorem dL_law_1277 : decode cL_law 1277 = .ok (.iadd, 1) := od_96  (by decide +kernel)
theorem dL_law_1278 : decode cL_law 1278 = .ok (.iaload, 1) := od_46  (by decide +kernel)
theorem dL_law_1279 : decode cL_law 1279 = .ok (.aload_n 0, 1) := od_42  (by decide +kernel)
theorem dL_law_1280 : decode cL_law 1280 = .ok (.iload_n 3, 1) := od_29  (by decide +kernel)
theorem dL_law_1281 : decode cL_law 1281 = .ok (.iconst 2, 1) := od_5  (by decide +kernel)
theorem dL_law_1282 : decode cL_law 1282 = .ok (.iadd, 1) := od_96  (by decide +kernel)
theorem dL_law_1283 : decode cL_law 1283 = .ok (.iaload, 1) := od_46  (by decide +kernel)
theorem dL_law_1284 : decode cL_law 1284 = .ok (.invokevirtual 137, 3) := od_182 (a := 0) (b := 137) (by decide +kernel) (by decide)
theorem dL_law_1287 : decode cL_law 1287 = .ok (.pop, 1) := od_87  (by decide +kernel)
theorem dL_law_1288 : decode cL_law 1288 = .ok (.goto 422, 3) := od_167 (a := 1) (b := 166) (by decide +kernel) (by decide +kernel)
theorem dL_law_1291 : decode cL_law 1291 = .ok (.aload_n 1, 1) := od_43  (by decide +kernel)
theorem dL_law_1292 : decode cL_law 1292 = .ok (.aload_n 0, 1) := od_42  (by decide +kernel)
theorem dL_law_1293 : decode cL_law 1293 = .ok (.iload_n 3, 1) := od_29  (by decide +kernel)
theorem dL_law_1294 : decode cL_law 1294 = .ok (.iconst 1, 1) := od_4  (by decide +kernel)
theorem dL_law_1295 : decode cL_law 1295 = .ok (.iadd, 1) := od_96  (by decide +kernel)
theorem dL_law_1296 : decode cL_law 1296 = .ok (.iaload, 1) := od_46  (by decide +kernel)
theorem dL_law_1297 : decode cL_law 1297 = .ok (.aload_n 0, 1) := od_42  (by decide +kernel)
theorem dL_law_1298 : decode cL_law 1298 = .ok (.iload_n 3, 1) := od_29  (by decide +kernel)
theorem dL_law_1299 : decode cL_law 1299 = .ok (.iconst 2, 1) := od_5  (by decide +kernel)
theorem dL_law_1300 : decode cL_law 1300 = .ok (.iadd, 1) := od_96  (by decide +kernel)
theorem dL_law_1301 : decode cL_law 1301 = .ok (.iaload, 1) := od_46  (by decide +kernel)
theorem dL_law_1302 : decode cL_law 1302 = .ok (.aload_n 0, 1) := od_42  (by decide +kernel)
theorem dL_law_1303 : decode cL_law 1303 = .ok (.iload_n 3, 1) := od_29  (by decide +kernel)
theorem dL_law_1304 : decode cL_law 1304 = .ok (.iconst 3, 1) := od_6  (by decide +kernel)
theorem dL_law_1305 : decode cL_law 1305 = .ok (.iadd, 1) := od_96  (by decide +kernel)
theorem dL_law_1306 : decode cL_law 1306 = .ok (.iaload, 1) := od_46  (by decide +kernel)
theorem dL_law_1307 : decode cL_law 1307 = .ok (.aload_n 0, 1) := od_42  (by decide +kernel)
theorem dL_law_1308 : decode cL_law 1308 = .ok (.iload_n 3, 1) := od_29  (by decide +kernel)
theorem dL_law_1309 : decode cL_law 1309 = .ok (.iconst 4, 1) := od_7  (by decide +kernel)
theorem dL_law_1310 : decode cL_law 1310 = .ok (.iadd, 1) := od_96  (by decide +kernel)
theorem dL_law_1311 : decode cL_law 1311 = .ok (.iaload, 1) := od_46  (by decide +kernel)
theorem dL_law_1312 : decode cL_law 1312 = .ok (.aload_n 0, 1) := od_42  (by decide +kernel)
theorem dL_law_1313 : decode cL_law 1313 = .ok (.iload_n 3, 1) := od_29  (by decide +kernel)
theorem dL_law_1314 : decode cL_law 1314 = .ok (.iconst 5, 1) := od_8  (by decide +kernel)
theorem dL_law_1315 : decode cL_law 1315 = .ok (.iadd, 1) := od_96  (by decide +kernel)
theorem dL_law_1316 : decode cL_law 1316 = .ok (.iaload, 1) := od_46  (by decide +kernel)
theorem dL_law_1317 : decode cL_law 1317 = .ok (.invokevirtual 138, 3) := od_182 (a := 0) (b := 138) (by decide +kernel) (by decide)
theorem dL_law_1320 : decode cL_law 1320 = .ok (.pop, 1) := od_87  (by decide +kernel)
theorem dL_law_1321 : decode cL_law 1321 = .ok (.aload_n 2, 1) := od_44  (by decide +kernel)
theorem dL_law_1322 : decode cL_law 1322 = .ok (.aload_n 0, 1) := od_42  (by decide +kernel)
theorem dL_law_1323 : decode cL_law 1323 = .ok (.iload_n 3, 1) := od_29  (by decide +kernel)
theorem dL_law_1324 : decode cL_law 1324 = .ok (.iconst 1, 1) := od_4  (by decide +kernel)
theorem dL_law_1325 : decode cL_law 1325 = .ok (.iadd, 1) := od_96  (by decide +kernel)
theorem dL_law_1326 : decode cL_law 1326 = .ok (.iaload, 1) := od_46  (by decide +kernel)
theorem dL_law_1327 : decode cL_law 1327 = .ok (.aload_n 0, 1) := od_42  (by decide +kernel)
theorem dL_law_1328 : decode cL_law 1328 = .ok (.iload_n 3, 1) := od_29  (by decide +kernel)
theorem dL_law_1329 : decode cL_law 1329 = .ok (.iconst 2, 1) := od_5  (by decide +kernel)
theorem dL_law_1330 : decode cL_law 1330 = .ok (.iadd, 1) := od_96  (by decide +kernel)
theorem dL_law_1331 : decode cL_law 1331 = .ok (.iaload, 1) := od_46  (by decide +kernel)
theorem dL_law_1332 : decode cL_law 1332 = .ok (.aload_n 0, 1) := od_42  (by decide +kernel)
theorem dL_law_1333 : decode cL_law 1333 = .ok (.iload_n 3, 1) := od_29  (by decide +kernel)
theorem dL_law_1334 : decode cL_law 1334 = .ok (.iconst 3, 1) := od_6  (by decide +kernel)
theorem dL_law_1335 : decode cL_law 1335 = .ok (.iadd, 1) := od_96  (by decide +kernel)
theorem dL_law_1336 : decode cL_law 1336 = .ok (.iaload, 1) := od_46  (by decide +kernel)
theorem dL_law_1337 : decode cL_law 1337 = .ok (.aload_n 0, 1) := od_42  (by decide +kernel)
theorem dL_law_1338 : decode cL_law 1338 = .ok (.iload_n 3, 1) := od_29  (by decide +kernel)
theorem dL_law_1339 : decode cL_law 1339 = .ok (.iconst 4, 1) := od_7  (by decide +kernel)
theorem dL_law_1340 : decode cL_law 1340 = .ok (.iadd, 1) := od_96  (by decide +kernel)
theorem dL_law_1341 : decode cL_law 1341 = .ok (.iaload, 1) := od_46  (by decide +kernel)
theorem dL_law_1342 : decode cL_law 1342 = .ok (.aload_n 0, 1) := od_42  (by decide +kernel)
theorem dL_law_1343 : decode cL_law 1343 = .ok (.iload_n 3, 1) := od_29  (by decide +kernel)
theorem dL_law_1344 : decode cL_law 1344 = .ok (.iconst 5, 1) := od_8  (by decide +kernel)
theorem dL_law_1345 : decode cL_law 1345 = .ok (.iadd, 1) := od_96  (by decide +kernel)
theorem dL_law_1346 : decode cL_law 1346 = .ok (.iaload, 1) := od_46  (by decide +kernel)
theorem dL_law_1347 : decode cL_law 1347 = .ok (.invokevirtual 141, 3) := od_182 (a := 0) (b := 141) (by decide +kernel) (by decide)
theorem dL_law_1350 : decode cL_law 1350 = .ok (.pop, 1) := od_87  (by decide +kernel)
theorem dL_law_1351 : decode cL_law 1351 = .ok (.goto 359, 3) := od_167 (a := 1) (b := 103) (by decide +kernel) (by decide +kernel)
theorem dL_law_1354 : decode cL_law 1354 = .ok (.aload_n 1, 1) := od_43  (by decide +kernel)
theorem dL_law_1355 : decode cL_law 1355 = .ok (.aload_n 0, 1) := od_42  (by decide +kernel)
theorem dL_law_1356 : decode cL_law 1356 = .ok (.iload_n 3, 1) := od_29  (by decide +kernel)
theorem dL_law_1357 : decode cL_law 1357 = .ok (.iconst 1, 1) := od_4  (by decide +kernel)
theorem dL_law_1358 : decode cL_law 1358 = .ok (.iadd, 1) := od_96  (by decide +kernel)
theorem dL_law_1359 : decode cL_law 1359 = .ok (.iaload, 1) := od_46  (by decide +kernel)
theorem dL_law_1360 : decode cL_law 1360 = .ok (.aload_n 0, 1) := od_42  (by decide +kernel)
theorem dL_law_1361 : decode cL_law 1361 = .ok (.iload_n 3, 1) := od_29  (by decide +kernel)
theorem dL_law_1362 : decode cL_law 1362 = .ok (.iconst 2, 1) := od_5  (by decide +kernel)
theorem dL_law_1363 : decode cL_law 1363 = .ok (.iadd, 1) := od_96  (by decide +kernel)
theorem dL_law_1364 : decode cL_law 1364 = .ok (.iaload, 1) := od_46  (by decide +kernel)
theorem dL_law_1365 : decode cL_law 1365 = .ok (.aload_n 0, 1) := od_42  (by decide +kernel)
theorem dL_law_1366 : decode cL_law 1366 = .ok (.iload_n 3, 1) := od_29  (by decide +kernel)
theorem dL_law_1367 : decode cL_law 1367 = .ok (.iconst 3, 1) := od_6  (by decide +kernel)
theorem dL_law_1368 : decode cL_law 1368 = .ok (.iadd, 1) := od_96  (by decide +kernel)
theorem dL_law_1369 : decode cL_law 1369 = .ok (.iaload, 1) := od_46  (by decide +kernel)
theorem dL_law_1370 : decode cL_law 1370 = .ok (.invokevirtual 142, 3) := od_182 (a := 0) (b := 142) (by decide +kernel) (by decide)
theorem dL_law_1373 : decode cL_law 1373 = .ok (.pop2, 1) := od_88  (by decide +kernel)
theorem dL_law_1374 : decode cL_law 1374 = .ok (.aload_n 2, 1) := od_44  (by decide +kernel)
theorem dL_law_1375 : decode cL_law 1375 = .ok (.aload_n 0, 1) := od_42  (by decide +kernel)
theorem dL_law_1376 : decode cL_law 1376 = .ok (.iload_n 3, 1) := od_29  (by decide +kernel)
theorem dL_law_1377 : decode cL_law 1377 = .ok (.iconst 1, 1) := od_4  (by decide +kernel)
end
section
theorem dL_law_1378 : decode cL_law 1378 = .ok (.iadd, 1) := od_96  (by decide +kernel)
theorem dL_law_1379 : decode cL_law 1379 = .ok (.iaload, 1) := od_46  (by decide +kernel)
theorem dL_law_1380 : decode cL_law 1380 = .ok (.aload_n 0, 1) := od_42  (by decide +kernel)
theorem dL_law_1381 : decode cL_law 1381 = .ok (.iload_n 3, 1) := od_29  (by decide +kernel)
theorem dL_law_1382 : decode cL_law 1382 = .ok (.iconst 2, 1) := od_5  (by decide +kernel)
theorem dL_law_1383 : decode cL_law 1383 = .ok (.iadd, 1) := od_96  (by decide +kernel)
theorem dL_law_1384 : decode cL_law 1384 = .ok (.iaload, 1) := od_46  (by decide +kernel)
theorem dL_law_1385 : decode cL_law 1385 = .ok (.aload_n 0, 1) := od_42  (by decide +kernel)
theorem dL_law_1386 : decode cL_law 1386 = .ok (.iload_n 3, 1) := od_29  (by decide +kernel)
theorem dL_law_1387 : decode cL_law 1387 = .ok (.iconst 3, 1) := od_6  (by decide +kernel)
theorem dL_law_1388 : decode cL_law 1388 = .ok (.iadd, 1) := od_96  (by decide +kernel)
theorem dL_law_1389 : decode cL_law 1389 = .ok (.iaload, 1) := od_46  (by decide +kernel)
theorem dL_law_1390 : decode cL_law 1390 = .ok (.invokevirtual 146, 3) := od_182 (a := 0) (b := 146) (by decide +kernel) (by decide)
theorem dL_law_1393 : decode cL_law 1393 = .ok (.pop2, 1) := od_88  (by decide +kernel)
theorem dL_law_1394 : decode cL_law 1394 = .ok (.goto 316, 3) := od_167 (a := 1) (b := 60) (by decide +kernel) (by decide +kernel)
theorem dL_law_1397 : decode cL_law 1397 = .ok (.aload_n 1, 1) := od_43  (by decide +kernel)
theorem dL_law_1398 : decode cL_law 1398 = .ok (.aload_n 0, 1) := od_42  (by decide +kernel)
theorem dL_law_1399 : decode cL_law 1399 = .ok (.iload_n 3, 1) := od_29  (by decide +kernel)
theorem dL_law_1400 : decode cL_law 1400 = .ok (.iconst 1, 1) := od_4  (by decide +kernel)
theorem dL_law_1401 : decode cL_law 1401 = .ok (.iadd, 1) := od_96  (by decide +kernel)
theorem dL_law_1402 : decode cL_law 1402 = .ok (.iaload, 1) := od_46  (by decide +kernel)
theorem dL_law_1403 : decode cL_law 1403 = .ok (.aload_n 0, 1) := od_42  (by decide +kernel)
theorem dL_law_1404 : decode cL_law 1404 = .ok (.iload_n 3, 1) := od_29  (by decide +kernel)
theorem dL_law_1405 : decode cL_law 1405 = .ok (.iconst 2, 1) := od_5  (by decide +kernel)
theorem dL_law_1406 : decode cL_law 1406 = .ok (.iadd, 1) := od_96  (by decide +kernel)
theorem dL_law_1407 : decode cL_law 1407 = .ok (.iaload, 1) := od_46  (by decide +kernel)
theorem dL_law_1408 : decode cL_law 1408 = .ok (.aload_n 0, 1) := od_42  (by decide +kernel)
theorem dL_law_1409 : decode cL_law 1409 = .ok (.iload_n 3, 1) := od_29  (by decide +kernel)
theorem dL_law_1410 : decode cL_law 1410 = .ok (.iconst 3, 1) := od_6  (by decide +kernel)
theorem dL_law_1411 : decode cL_law 1411 = .ok (.iadd, 1) := od_96  (by decide +kernel)
theorem dL_law_1412 : decode cL_law 1412 = .ok (.iaload, 1) := od_46  (by decide +kernel)
theorem dL_law_1413 : decode cL_law 1413 = .ok (.aload_n 0, 1) := od_42  (by decide +kernel)
theorem dL_law_1414 : decode cL_law 1414 = .ok (.iload_n 3, 1) := od_29  (by decide +kernel)
theorem dL_law_1415 : decode cL_law 1415 = .ok (.iconst 4, 1) := od_7  (by decide +kernel)
theorem dL_law_1416 : decode cL_law 1416 = .ok (.iadd, 1) := od_96  (by decide +kernel)
theorem dL_law_1417 : decode cL_law 1417 = .ok (.iaload, 1) := od_46  (by decide +kernel)
theorem dL_law_1418 : decode cL_law 1418 = .ok (.aload_n 0, 1) := od_42  (by decide +kernel)
theorem dL_law_1419 : decode cL_law 1419 = .ok (.iload_n 3, 1) := od_29  (by decide +kernel)
theorem dL_law_1420 : decode cL_law 1420 = .ok (.iconst 5, 1) := od_8  (by decide +kernel)
theorem dL_law_1421 : decode cL_law 1421 = .ok (.iadd, 1) := od_96  (by decide +kernel)
theorem dL_law_1422 : decode cL_law 1422 = .ok (.iaload, 1) := od_46  (by decide +kernel)
theorem dL_law_1423 : decode cL_law 1423 = .ok (.aload_n 0, 1) := od_42  (by decide +kernel)
theorem dL_law_1424 : decode cL_law 1424 = .ok (.iload_n 3, 1) := od_29  (by decide +kernel)
theorem dL_law_1425 : decode cL_law 1425 = .ok (.bipush 6, 2) := od_16 (a := 6) (by decide +kernel) (by decide +kernel)
theorem dL_law_1427 : decode cL_law 1427 = .ok (.iadd, 1) := od_96  (by decide +kernel)
theorem dL_law_1428 : decode cL_law 1428 = .ok (.iaload, 1) := od_46  (by decide +kernel)
theorem dL_law_1429 : decode cL_law 1429 = .ok (.aload_n 0, 1) := od_42  (by decide +kernel)
theorem dL_law_1430 : decode cL_law 1430 = .ok (.iload_n 3, 1) := od_29  (by decide +kernel)
theorem dL_law_1431 : decode cL_law 1431 = .ok (.bipush 7, 2) := od_16 (a := 7) (by decide +kernel) (by decide +kernel)
theorem dL_law_1433 : decode cL_law 1433 = .ok (.iadd, 1) := od_96  (by decide +kernel)
theorem dL_law_1434 : decode cL_law 1434 = .ok (.iaload, 1) := od_46  (by decide +kernel)
theorem dL_law_1435 : decode cL_law 1435 = .ok (.aload_n 0, 1) := od_42  (by decide +kernel)
theorem dL_law_1436 : decode cL_law 1436 = .ok (.iload_n 3, 1) := od_29  (by decide +kernel)
theorem dL_law_1437 : decode cL_law 1437 = .ok (.bipush 8, 2) := od_16 (a := 8) (by decide +kernel) (by decide +kernel)
theorem dL_law_1439 : decode cL_law 1439 = .ok (.iadd, 1) := od_96  (by decide +kernel)
theorem dL_law_1440 : decode cL_law 1440 = .ok (.iaload, 1) := od_46  (by decide +kernel)
theorem dL_law_1441 : decode cL_law 1441 = .ok (.invokevirtual 147, 3) := od_182 (a := 0) (b := 147) (by decide +kernel) (by decide)
theorem dL_law_1444 : decode cL_law 1444 = .ok (.pop, 1) := od_87  (by decide +kernel)
theorem dL_law_1445 : decode cL_law 1445 = .ok (.aload_n 2, 1) := od_44  (by decide +kernel)
theorem dL_law_1446 : decode cL_law 1446 = .ok (.aload_n 0, 1) := od_42  (by decide +kernel)
theorem dL_law_1447 : decode cL_law 1447 = .ok (.iload_n 3, 1) := od_29  (by decide +kernel)
theorem dL_law_1448 : decode cL_law 1448 = .ok (.iconst 1, 1) := od_4  (by decide +kernel)
theorem dL_law_1449 : decode cL_law 1449 = .ok (.iadd, 1) := od_96  (by decide +kernel)
theorem dL_law_1450 : decode cL_law 1450 = .ok (.iaload, 1) := od_46  (by decide +kernel)
theorem dL_law_1451 : decode cL_law 1451 = .ok (.aload_n 0, 1) := od_42  (by decide +kernel)
theorem dL_law_1452 : decode cL_law 1452 = .ok (.iload_n 3, 1) := od_29  (by decide +kernel)
theorem dL_law_1453 : decode cL_law 1453 = .ok (.iconst 2, 1) := od_5  (by decide +kernel)
theorem dL_law_1454 : decode cL_law 1454 = .ok (.iadd, 1) := od_96  (by decide +kernel)
theorem dL_law_1455 : decode cL_law 1455 = .ok (.iaload, 1) := od_46  (by decide +kernel)
theorem dL_law_1456 : decode cL_law 1456 = .ok (.aload_n 0, 1) := od_42  (by decide +kernel)
theorem dL_law_1457 : decode cL_law 1457 = .ok (.iload_n 3, 1) := od_29  (by decide +kernel)
theorem dL_law_1458 : decode cL_law 1458 = .ok (.iconst 3, 1) := od_6  (by decide +kernel)
theorem dL_law_1459 : decode cL_law 1459 = .ok (.iadd, 1) := od_96  (by decide +kernel)
theorem dL_law_1460 : decode cL_law 1460 = .ok (.iaload, 1) := od_46  (by decide +kernel)
theorem dL_law_1461 : decode cL_law 1461 = .ok (.aload_n 0, 1) := od_42  (by decide +kernel)
theorem dL_law_1462 : decode cL_law 1462 = .ok (.iload_n 3, 1) := od_29  (by decide +kernel)
theorem dL_law_1463 : decode cL_law 1463 = .ok (.iconst 4, 1) := od_7  (by decide +kernel)
theorem dL_law_1464 : decode cL_law 1464 = .ok (.iadd, 1) := od_96  (by decide +kernel)
theorem dL_law_1465 : decode cL_law 1465 = .ok (.iaload, 1) := od_46  (by decide +kernel)
theorem dL_law_1466 : decode cL_law 1466 = .ok (.aload_n 0, 1) := od_42  (by decide +kernel)
theorem dL_law_1467 : decode cL_law 1467 = .ok (.iload_n 3, 1) := od_29  (by decide +kernel)
theorem dL_law_1468 : decode cL_law 1468 = .ok (.iconst 5, 1) := od_8  (by decide +kernel)
theorem dL_law_1469 : decode cL_law 1469 = .ok (.iadd, 1) := od_96  (by decide +kernel)
theorem dL_law_1470 : decode cL_law 1470 = .ok (.iaload, 1) := od_46  (by decide +kernel)
theorem dL_law_1471 : decode cL_law 1471 = .ok (.aload_n 0, 1) := od_42  (by decide +kernel)
theorem dL_law_1472 : decode cL_law 1472 = .ok (.iload_n 3, 1) := od_29  (by decide +kernel)
theorem dL_law_1473 : decode cL_law 1473 = .ok (.bipush 6, 2) := od_16 (a := 6) (by decide +kernel) (by decide +kernel)
theorem dL_law_1475 : decode cL_law 1475 = .ok (.iadd, 1) := od_96  (by decide +kernel)
theorem dL_law_1476 : decode cL_law 1476 = .ok (.iaload, 1) := od_46  (by decide +kernel)
theorem dL_law_1477 : decode cL_law 1477 = .ok (.aload_n 0, 1) := od_42  (by decide +kernel)
theorem dL_law_1478 : decode cL_law 1478 = .ok (.iload_n 3, 1) := od_29  (by decide +kernel)
theorem dL_law_1479 : decode cL_law 1479 = .ok (.bipush 7, 2) := od_16 (a := 7) (by decide +kernel) (by decide +kernel)
theorem dL_law_1481 : decode cL_law 1481 = .ok (.iadd, 1) := od_96  (by decide +kernel)
theorem dL_law_1482 : decode cL_law 1482 = .ok (.iaload, 1) := od_46  (by decide +kernel)
theorem dL_law_1483 : decode cL_law 1483 = .ok (.aload_n 0, 1) := od_42  (by decide +kernel)
theorem dL_law_1484 : decode cL_law 1484 = .ok (.iload_n 3, 1) := od_29  (by decide +kernel)
theorem dL_law_1485 : decode cL_law 1485 = .ok (.bipush 8, 2) := od_16 (a := 8) (by decide +kernel) (by decide +kernel)
theorem dL_law_1487 : decode cL_law 1487 = .ok (.iadd, 1) := od_96  (by decide +kernel)
theorem dL_law_1488 : decode cL_law 1488 = .ok (.iaload, 1) := od_46  (by decide +kernel)
theorem dL_law_1489 : decode cL_law 1489 = .ok (.invokevirtual 151, 3) := od_182 (a := 0) (b := 151) (by decide +kernel) (by decide)
end
section
theorem dL_law_1492 : decode cL_law 1492 = .ok (.pop, 1) := od_87  (by decide +kernel)
theorem dL_law_1493 : decode cL_law 1493 = .ok (.goto 217, 3) := od_167 (a := 0) (b := 217) (by decide +kernel) (by decide +kernel)
theorem dL_law_1496 : decode cL_law 1496 = .ok (.aload_n 1, 1) := od_43  (by decide +kernel)
theorem dL_law_1497 : decode cL_law 1497 = .ok (.invokevirtual 152, 3) := od_182 (a := 0) (b := 152) (by decide +kernel) (by decide)
theorem dL_law_1500 : decode cL_law 1500 = .ok (.pop, 1) := od_87  (by decide +kernel)
theorem dL_law_1501 : decode cL_law 1501 = .ok (.aload_n 2, 1) := od_44  (by decide +kernel)
theorem dL_law_1502 : decode cL_law 1502 = .ok (.invokevirtual 155, 3) := od_182 (a := 0) (b := 155) (by decide +kernel) (by decide)
theorem dL_law_1505 : decode cL_law 1505 = .ok (.pop, 1) := od_87  (by decide +kernel)
theorem dL_law_1506 : decode cL_law 1506 = .ok (.goto 204, 3) := od_167 (a := 0) (b := 204) (by decide +kernel) (by decide +kernel)
theorem dL_law_1509 : decode cL_law 1509 = .ok (.aload_n 1, 1) := od_43  (by decide +kernel)
theorem dL_law_1510 : decode cL_law 1510 = .ok (.aload_n 0, 1) := od_42  (by decide +kernel)
theorem dL_law_1511 : decode cL_law 1511 = .ok (.iload_n 3, 1) := od_29  (by decide +kernel)
theorem dL_law_1512 : decode cL_law 1512 = .ok (.iconst 1, 1) := od_4  (by decide +kernel)
theorem dL_law_1513 : decode cL_law 1513 = .ok (.iadd, 1) := od_96  (by decide +kernel)
theorem dL_law_1514 : decode cL_law 1514 = .ok (.iaload, 1) := od_46  (by decide +kernel)
theorem dL_law_1515 : decode cL_law 1515 = .ok (.invokevirtual 156, 3) := od_182 (a := 0) (b := 156) (by decide +kernel) (by decide)
theorem dL_law_1518 : decode cL_law 1518 = .ok (.pop2, 1) := od_88  (by decide +kernel)
theorem dL_law_1519 : decode cL_law 1519 = .ok (.aload_n 2, 1) := od_44  (by decide +kernel)
theorem dL_law_1520 : decode cL_law 1520 = .ok (.aload_n 0, 1) := od_42  (by decide +kernel)
theorem dL_law_1521 : decode cL_law 1521 = .ok (.iload_n 3, 1) := od_29  (by decide +kernel)
theorem dL_law_1522 : decode cL_law 1522 = .ok (.iconst 1, 1) := od_4  (by decide +kernel)
theorem dL_law_1523 : decode cL_law 1523 = .ok (.iadd, 1) := od_96  (by decide +kernel)
theorem dL_law_1524 : decode cL_law 1524 = .ok (.iaload, 1) := od_46  (by decide +kernel)
theorem dL_law_1525 : decode cL_law 1525 = .ok (.invokevirtual 160, 3) := od_182 (a := 0) (b := 160) (by decide +kernel) (by decide)
theorem dL_law_1528 : decode cL_law 1528 = .ok (.pop2, 1) := od_88  (by decide +kernel)
theorem dL_law_1529 : decode cL_law 1529 = .ok (.goto 181, 3) := od_167 (a := 0) (b := 181) (by decide +kernel) (by decide +kernel)
theorem dL_law_1532 : decode cL_law 1532 = .ok (.aload_n 1, 1) := od_43  (by decide +kernel)
theorem dL_law_1533 : decode cL_law 1533 = .ok (.aload_n 0, 1) := od_42  (by decide +kernel)
theorem dL_law_1534 : decode cL_law 1534 = .ok (.iload_n 3, 1) := od_29  (by decide +kernel)
theorem dL_law_1535 : decode cL_law 1535 = .ok (.iconst 1, 1) := od_4  (by decide +kernel)
theorem dL_law_1536 : decode cL_law 1536 = .ok (.iadd, 1) := od_96  (by decide +kernel)
theorem dL_law_1537 : decode cL_law 1537 = .ok (.iaload, 1) := od_46  (by decide +kernel)
theorem dL_law_1538 : decode cL_law 1538 = .ok (.aload_n 0, 1) := od_42  (by decide +kernel)
theorem dL_law_1539 : decode cL_law 1539 = .ok (.iload_n 3, 1) := od_29  (by decide +kernel)
theorem dL_law_1540 : decode cL_law 1540 = .ok (.iconst 2, 1) := od_5  (by decide +kernel)
theorem dL_law_1541 : decode cL_law 1541 = .ok (.iadd, 1) := od_96  (by decide +kernel)
theorem dL_law_1542 : decode cL_law 1542 = .ok (.iaload, 1) := od_46  (by decide +kernel)
theorem dL_law_1543 : decode cL_law 1543 = .ok (.invokevirtual 161, 3) := od_182 (a := 0) (b := 161) (by decide +kernel) (by decide)
theorem dL_law_1546 : decode cL_law 1546 = .ok (.pop2, 1) := od_88  (by decide +kernel)
theorem dL_law_1547 : decode cL_law 1547 = .ok (.aload_n 2, 1) := od_44  (by decide +kernel)
theorem dL_law_1548 : decode cL_law 1548 = .ok (.aload_n 0, 1) := od_42  (by decide +kernel)
theorem dL_law_1549 : decode cL_law 1549 = .ok (.iload_n 3, 1) := od_29  (by decide +kernel)
theorem dL_law_1550 : decode cL_law 1550 = .ok (.iconst 1, 1) := od_4  (by decide +kernel)
theorem dL_law_1551 : decode cL_law 1551 = .ok (.iadd, 1) := od_96  (by decide +kernel)
theorem dL_law_1552 : decode cL_law 1552 = .ok (.iaload, 1) := od_46  (by decide +kernel)
theorem dL_law_1553 : decode cL_law 1553 = .ok (.aload_n 0, 1) := od_42  (by decide +kernel)
theorem dL_law_1554 : decode cL_law 1554 = .ok (.iload_n 3, 1) := od_29  (by decide +kernel)
theorem dL_law_1555 : decode cL_law 1555 = .ok (.iconst 2, 1) := od_5  (by decide +kernel)
theorem dL_law_1556 : decode cL_law 1556 = .ok (.iadd, 1) := od_96  (by decide +kernel)
theorem dL_law_1557 : decode cL_law 1557 = .ok (.iaload, 1) := od_46  (by decide +kernel)
theorem dL_law_1558 : decode cL_law 1558 = .ok (.invokevirtual 164, 3) := od_182 (a := 0) (b := 164) (by decide +kernel) (by decide)
theorem dL_law_1561 : decode cL_law 1561 = .ok (.pop2, 1) := od_88  (by decide +kernel)
theorem dL_law_1562 : decode cL_law 1562 = .ok (.goto 148, 3) := od_167 (a := 0) (b := 148) (by decide +kernel) (by decide +kernel)
theorem dL_law_1565 : decode cL_law 1565 = .ok (.aload_n 1, 1) := od_43  (by decide +kernel)
theorem dL_law_1566 : decode cL_law 1566 = .ok (.aload_n 0, 1) := od_42  (by decide +kernel)
theorem dL_law_1567 : decode cL_law 1567 = .ok (.iload_n 3, 1) := od_29  (by decide +kernel)
theorem dL_law_1568 : decode cL_law 1568 = .ok (.iconst 1, 1) := od_4  (by decide +kernel)
theorem dL_law_1569 : decode cL_law 1569 = .ok (.iadd, 1) := od_96  (by decide +kernel)
theorem dL_law_1570 : decode cL_law 1570 = .ok (.iaload, 1) := od_46  (by decide +kernel)
theorem dL_law_1571 : decode cL_law 1571 = .ok (.aload_n 0, 1) := od_42  (by decide +kernel)
theorem dL_law_1572 : decode cL_law 1572 = .ok (.iload_n 3, 1) := od_29  (by decide +kernel)
theorem dL_law_1573 : decode cL_law 1573 = .ok (.iconst 2, 1) := od_5  (by decide +kernel)
theorem dL_law_1574 : decode cL_law 1574 = .ok (.iadd, 1) := od_96  (by decide +kernel)
theorem dL_law_1575 : decode cL_law 1575 = .ok (.iaload, 1) := od_46  (by decide +kernel)
theorem dL_law_1576 : decode cL_law 1576 = .ok (.aload_n 0, 1) := od_42  (by decide +kernel)
theorem dL_law_1577 : decode cL_law 1577 = .ok (.iload_n 3, 1) := od_29  (by decide +kernel)
theorem dL_law_1578 : decode cL_law 1578 = .ok (.iconst 3, 1) := od_6  (by decide +kernel)
theorem dL_law_1579 : decode cL_law 1579 = .ok (.iadd, 1) := od_96  (by decide +kernel)
theorem dL_law_1580 : decode cL_law 1580 = .ok (.iaload, 1) := od_46  (by decide +kernel)
theorem dL_law_1581 : decode cL_law 1581 = .ok (.aload_n 0, 1) := od_42  (by decide +kernel)
theorem dL_law_1582 : decode cL_law 1582 = .ok (.iload_n 3, 1) := od_29  (by decide +kernel)
theorem dL_law_1583 : decode cL_law 1583 = .ok (.iconst 4, 1) := od_7  (by decide +kernel)
theorem dL_law_1584 : decode cL_law 1584 = .ok (.iadd, 1) := od_96  (by decide +kernel)
theorem dL_law_1585 : decode cL_law 1585 = .ok (.iaload, 1) := od_46  (by decide +kernel)
theorem dL_law_1586 : decode cL_law 1586 = .ok (.aload_n 0, 1) := od_42  (by decide +kernel)
theorem dL_law_1587 : decode cL_law 1587 = .ok (.iload_n 3, 1) := od_29  (by decide +kernel)
theorem dL_law_1588 : decode cL_law 1588 = .ok (.iconst 5, 1) := od_8  (by decide +kernel)
theorem dL_law_1589 : decode cL_law 1589 = .ok (.iadd, 1) := od_96  (by decide +kernel)
theorem dL_law_1590 : decode cL_law 1590 = .ok (.iaload, 1) := od_46  (by decide +kernel)
theorem dL_law_1591 : decode cL_law 1591 = .ok (.invokevirtual 165, 3) := od_182 (a := 0) (b := 165) (by decide +kernel) (by decide)
theorem dL_law_1594 : decode cL_law 1594 = .ok (.pop2, 1) := od_88  (by decide +kernel)
theorem dL_law_1595 : decode cL_law 1595 = .ok (.aload_n 2, 1) := od_44  (by decide +kernel)
theorem dL_law_1596 : decode cL_law 1596 = .ok (.aload_n 0, 1) := od_42  (by decide +kernel)
theorem dL_law_1597 : decode cL_law 1597 = .ok (.iload_n 3, 1) := od_29  (by decide +kernel)
theorem dL_law_1598 : decode cL_law 1598 = .ok (.iconst 1, 1) := od_4  (by decide +kernel)
theorem dL_law_1599 : decode cL_law 1599 = .ok (.iadd, 1) := od_96  (by decide +kernel)
theorem dL_law_1600 : decode cL_law 1600 = .ok (.iaload, 1) := od_46  (by decide +kernel)
theorem dL_law_1601 : decode cL_law 1601 = .ok (.aload_n 0, 1) := od_42  (by decide +kernel)
theorem dL_law_1602 : decode cL_law 1602 = .ok (.iload_n 3, 1) := od_29  (by decide +kernel)
theorem dL_law_1603 : decode cL_law 1603 = .ok (.iconst 2, 1) := od_5  (by decide +kernel)
theorem dL_law_1604 : decode cL_law 1604 = .ok (.iadd, 1) := od_96  (by decide +kernel)
theorem dL_law_1605 : decode cL_law 1605 = .ok (.iaload, 1) := od_46  (by decide +kernel)
theorem dL_law_1606 : decode cL_law 1606 = .ok (.aload_n 0, 1) := od_42  (by decide +kernel)
theorem dL_law_1607 : decode cL_law 1607 = .ok (.iload_n 3, 1) := od_29  (by decide +kernel)
theorem dL_law_1608 : decode cL_law 1608 = .ok (.iconst 3, 1) := od_6  (by decide +kernel)
theorem dL_law_1609 : decode cL_law 1609 = .ok (.iadd, 1) := od_96  (by decide +kernel)
theorem dL_law_1610 : decode cL_law 1610 = .ok (.iaload, 1) := od_46  (by decide +kernel)
theorem dL_law_1611 : decode cL_law 1611 = .ok (.aload_n 0, 1) := od_42  (by decide +kernel)
theorem dL_law_1612 : decode cL_law 1612 = .ok (.iload_n 3, 1) := od_29  (by decide +kernel)
theorem dL_law_1613 : decode cL_law 1613 = .ok (.iconst 4, 1) := od_7  (by decide +kernel)
end
section
theorem dL_law_1614 : decode cL_law 1614 = .ok (.iadd, 1) := od_96  (by decide +kernel)
theorem dL_law_1615 : decode cL_law 1615 = .ok (.iaload, 1) := od_46  (by decide +kernel)
theorem dL_law_1616 : decode cL_law 1616 = .ok (.aload_n 0, 1) := od_42  (by decide +kernel)
theorem dL_law_1617 : decode cL_law 1617 = .ok (.iload_n 3, 1) := od_29  (by decide +kernel)
theorem dL_law_1618 : decode cL_law 1618 = .ok (.iconst 5, 1) := od_8  (by decide +kernel)
theorem dL_law_1619 : decode cL_law 1619 = .ok (.iadd, 1) := od_96  (by decide +kernel)
theorem dL_law_1620 : decode cL_law 1620 = .ok (.iaload, 1) := od_46  (by decide +kernel)
theorem dL_law_1621 : decode cL_law 1621 = .ok (.invokevirtual 169, 3) := od_182 (a := 0) (b := 169) (by decide +kernel) (by decide)
theorem dL_law_1624 : decode cL_law 1624 = .ok (.pop2, 1) := od_88  (by decide +kernel)
theorem dL_law_1625 : decode cL_law 1625 = .ok (.goto 85, 3) := od_167 (a := 0) (b := 85) (by decide +kernel) (by decide +kernel)
theorem dL_law_1628 : decode cL_law 1628 = .ok (.aload_n 1, 1) := od_43  (by decide +kernel)
theorem dL_law_1629 : decode cL_law 1629 = .ok (.aload_n 0, 1) := od_42  (by decide +kernel)
theorem dL_law_1630 : decode cL_law 1630 = .ok (.iload_n 3, 1) := od_29  (by decide +kernel)
theorem dL_law_1631 : decode cL_law 1631 = .ok (.iconst 1, 1) := od_4  (by decide +kernel)
theorem dL_law_1632 : decode cL_law 1632 = .ok (.iadd, 1) := od_96  (by decide +kernel)
theorem dL_law_1633 : decode cL_law 1633 = .ok (.iaload, 1) := od_46  (by decide +kernel)
theorem dL_law_1634 : decode cL_law 1634 = .ok (.invokevirtual 170, 3) := od_182 (a := 0) (b := 170) (by decide +kernel) (by decide)
theorem dL_law_1637 : decode cL_law 1637 = .ok (.pop, 1) := od_87  (by decide +kernel)
theorem dL_law_1638 : decode cL_law 1638 = .ok (.aload_n 2, 1) := od_44  (by decide +kernel)
theorem dL_law_1639 : decode cL_law 1639 = .ok (.aload_n 0, 1) := od_42  (by decide +kernel)
theorem dL_law_1640 : decode cL_law 1640 = .ok (.iload_n 3, 1) := od_29  (by decide +kernel)
theorem dL_law_1641 : decode cL_law 1641 = .ok (.iconst 1, 1) := od_4  (by decide +kernel)
theorem dL_law_1642 : decode cL_law 1642 = .ok (.iadd, 1) := od_96  (by decide +kernel)
theorem dL_law_1643 : decode cL_law 1643 = .ok (.iaload, 1) := od_46  (by decide +kernel)
theorem dL_law_1644 : decode cL_law 1644 = .ok (.invokevirtual 173, 3) := od_182 (a := 0) (b := 173) (by decide +kernel) (by decide)
theorem dL_law_1647 : decode cL_law 1647 = .ok (.pop, 1) := od_87  (by decide +kernel)
theorem dL_law_1648 : decode cL_law 1648 = .ok (.goto 62, 3) := od_167 (a := 0) (b := 62) (by decide +kernel) (by decide +kernel)
theorem dL_law_1651 : decode cL_law 1651 = .ok (.aload_n 1, 1) := od_43  (by decide +kernel)
theorem dL_law_1652 : decode cL_law 1652 = .ok (.aload_n 0, 1) := od_42  (by decide +kernel)
theorem dL_law_1653 : decode cL_law 1653 = .ok (.iload_n 3, 1) := od_29  (by decide +kernel)
theorem dL_law_1654 : decode cL_law 1654 = .ok (.iconst 1, 1) := od_4  (by decide +kernel)
theorem dL_law_1655 : decode cL_law 1655 = .ok (.iadd, 1) := od_96  (by decide +kernel)
theorem dL_law_1656 : decode cL_law 1656 = .ok (.iaload, 1) := od_46  (by decide +kernel)
theorem dL_law_1657 : decode cL_law 1657 = .ok (.invokevirtual 174, 3) := od_182 (a := 0) (b := 174) (by decide +kernel) (by decide)
theorem dL_law_1660 : decode cL_law 1660 = .ok (.pop, 1) := od_87  (by decide +kernel)
theorem dL_law_1661 : decode cL_law 1661 = .ok (.aload_n 2, 1) := od_44  (by decide +kernel)
theorem dL_law_1662 : decode cL_law 1662 = .ok (.aload_n 0, 1) := od_42  (by decide +kernel)
theorem dL_law_1663 : decode cL_law 1663 = .ok (.iload_n 3, 1) := od_29  (by decide +kernel)
theorem dL_law_1664 : decode cL_law 1664 = .ok (.iconst 1, 1) := od_4  (by decide +kernel)
theorem dL_law_1665 : decode cL_law 1665 = .ok (.iadd, 1) := od_96  (by decide +kernel)
theorem dL_law_1666 : decode cL_law 1666 = .ok (.iaload, 1) := od_46  (by decide +kernel)
theorem dL_law_1667 : decode cL_law 1667 = .ok (.invokevirtual 177, 3) := od_182 (a := 0) (b := 177) (by decide +kernel) (by decide)
theorem dL_law_1670 : decode cL_law 1670 = .ok (.pop, 1) := od_87  (by decide +kernel)
theorem dL_law_1671 : decode cL_law 1671 = .ok (.goto 39, 3) := od_167 (a := 0) (b := 39) (by decide +kernel) (by decide +kernel)
theorem dL_law_1674 : decode cL_law 1674 = .ok (.aload_n 1, 1) := od_43  (by decide +kernel)
theorem dL_law_1675 : decode cL_law 1675 = .ok (.aload_n 0, 1) := od_42  (by decide +kernel)
theorem dL_law_1676 : decode cL_law 1676 = .ok (.iload_n 3, 1) := od_29  (by decide +kernel)
theorem dL_law_1677 : decode cL_law 1677 = .ok (.iconst 1, 1) := od_4  (by decide +kernel)
theorem dL_law_1678 : decode cL_law 1678 = .ok (.iadd, 1) := od_96  (by decide +kernel)
theorem dL_law_1679 : decode cL_law 1679 = .ok (.iaload, 1) := od_46  (by decide +kernel)
theorem dL_law_1680 : decode cL_law 1680 = .ok (.invokevirtual 178, 3) := od_182 (a := 0) (b := 178) (by decide +kernel) (by decide)
theorem dL_law_1683 : decode cL_law 1683 = .ok (.pop, 1) := od_87  (by decide +kernel)
theorem dL_law_1684 : decode cL_law 1684 = .ok (.aload_n 2, 1) := od_44  (by decide +kernel)
theorem dL_law_1685 : decode cL_law 1685 = .ok (.aload_n 0, 1) := od_42  (by decide +kernel)
theorem dL_law_1686 : decode cL_law 1686 = .ok (.iload_n 3, 1) := od_29  (by decide +kernel)
theorem dL_law_1687 : decode cL_law 1687 = .ok (.iconst 1, 1) := od_4  (by decide +kernel)
theorem dL_law_1688 : decode cL_law 1688 = .ok (.iadd, 1) := od_96  (by decide +kernel)
theorem dL_law_1689 : decode cL_law 1689 = .ok (.iaload, 1) := od_46  (by decide +kernel)
theorem dL_law_1690 : decode cL_law 1690 = .ok (.invokevirtual 181, 3) := od_182 (a := 0) (b := 181) (by decide +kernel) (by decide)
theorem dL_law_1693 : decode cL_law 1693 = .ok (.pop, 1) := od_87  (by decide +kernel)
theorem dL_law_1694 : decode cL_law 1694 = .ok (.goto 16, 3) := od_167 (a := 0) (b := 16) (by decide +kernel) (by decide +kernel)
theorem dL_law_1697 : decode cL_law 1697 = .ok (.aload_n 1, 1) := od_43  (by decide +kernel)
theorem dL_law_1698 : decode cL_law 1698 = .ok (.invokevirtual 182, 3) := od_182 (a := 0) (b := 182) (by decide +kernel) (by decide)
theorem dL_law_1701 : decode cL_law 1701 = .ok (.pop, 1) := od_87  (by decide +kernel)
theorem dL_law_1702 : decode cL_law 1702 = .ok (.aload_n 2, 1) := od_44  (by decide +kernel)
theorem dL_law_1703 : decode cL_law 1703 = .ok (.invokevirtual 185, 3) := od_182 (a := 0) (b := 185) (by decide +kernel) (by decide)
theorem dL_law_1706 : decode cL_law 1706 = .ok (.pop, 1) := od_87  (by decide +kernel)
theorem dL_law_1707 : decode cL_law 1707 = .ok (.goto 3, 3) := od_167 (a := 0) (b := 3) (by decide +kernel) (by decide +kernel)
theorem dL_law_1710 : decode cL_law 1710 = .ok (.iinc 3 9, 3) := od_132 (a := 3) (b := 9) (by decide +kernel) (by decide +kernel)
theorem dL_law_1713 : decode cL_law 1713 = .ok (.goto (-1695), 3) := od_167 (a := 249) (b := 97) (by decide +kernel) (by decide +kernel)
theorem dL_law_1716 : decode cL_law 1716 = .ok (.iconst 1, 1) := od_4  (by decide +kernel)
theorem dL_law_1717 : decode cL_law 1717 = .ok (.ireturn, 1) := od_172  (by decide +kernel)
end
section
/-! THE CLAIM OUT OF ONE WALK OF THE LAW'S BODY. Your part is whole_start (and what it stands on); all else here is the same for every law, but numbers. -/
def R_law : String := "ColdShipsLaw"
def lw_P (b : Addr) (xs : List Int32) (args : Array Value) (s : State) : Prop := args = #[.ref b] ∧ s.IntsAt b xs ∧ xs.length ≤ 4608 ∧ (Jvm.Cond.and given_1 narrow_1).before args s = true
def lw_Q (_ : Array Value) (s : State) (o : Outcome) (t : State) : Prop := o = .returned (some (.int 1)) ∧ Framed s o t [] 600000 7302249
def lw_Z (below : List Frame) (a : Array Value) (s : State) : State → Prop := fun t => ∃ o, t.status = .running ∧ Ended t below o ∧ lw_Q a s o t
/-- the law's own end, with 1 on the stack, nothing written that was there before, its room as the claim has it -/
theorem lw_ret {p : Program} {l : Launch} {e : Env} {s : State} {m : MethodId} {below : List Frame} {meth : Method} {c : Code} {b : Nat} (hx : p.tables.exec = Jvm.exec) (hb : c.code = code) (hr : meth.sig.returnType = ret) (hlocks : meth.locks = false) {pc : Nat} {H : Heap} {ls : Array Slot} (hdg : decode code pc = .ok (.ireturn, 1)) : W p l e room_1 s m #[Value.ref b] below meth c H [] 600000 7302249 (lw_Z below #[Value.ref b] s) (F0 m pc ls [.int 1]) := by
  intro T hT X
  obtain ⟨fs, hret, hrun, hended, hW, hframe⟩ := X.leave (v := some (.int 1)) (hlocks := hlocks) (fun h => by rw [hr] at h; cases h)
  have hmeth' : T.vm.method? m = some meth := X.method'
  refine ⟨T.setFrames fs, ?_, .returned (some (.int 1)), hrun, hended, rfl, ⟨_, rfl⟩, hW, hframe⟩
  jvm_step X.here [X.here.top, hx, hb, hdg, hmeth', hr, ret, narrow_b1]
  (try refine ⟨rfl, ?_⟩); (try refine ⟨rfl, ?_⟩)
  first | (intro acts; rw [hret _ acts rfl rfl rfl]) | rw [hret _ _ rfl rfl rfl]
  exact Steps.refl _
/-- what holds at the law's entry: the machine, the code, the tables' words (any of lw_tbl by 'hts w (by decide +kernel)'), the script of L ints xs at the cell b, what the Statement gives of the start (any of its parts by flat_of_before) -/
def lw_At (p : Program) (s : State) (m : MethodId) (meth : Method) (c : Code) (b L : Nat) (xs : Nat → Int32) : Prop :=
  p.tables.exec = Jvm.exec ∧ c.code = code ∧ meth.sig.returnType = ret ∧ c.maxLocals = 4 ∧ s.vm.findClass R_law = some m.cls ∧ (∀ w ∈ lw_tbl, w.before #[Value.ref b] s = true) ∧ va_X b L xs s s.heap ∧ b < s.heap.size ∧ meth.locks = false ∧ (Jvm.Cond.and given_1 narrow_1).before #[Value.ref b] s = true
def lz_W (ρ : Nat → Nat → Nat) (f : Nat → va_E) (w : Nat) (R : Int → Int) : Prop := tp_fld (f w) 0 = R 11 ∧ tp_fld (f w) 4 = R 0 ∧ tp_fld (f w) 5 = R 1 ∧ tp_fld (f (ρ w 13)) 3 = R 3 ∧ tp_fld (f (ρ w 14)) 3 = R 7 ∧ tp_fld (f (ρ w 15)) 2 = R 6 ∧ tp_fld (f (ρ w 18)) 2 = R 10
def lz_P (ρ : Nat → Nat → Nat) (f : Nat → va_E) (xo mo : Nat) : Prop := ∀ j : Nat, j < 2 → (tp_arr (f (ρ xo 1)) j = none ∧ mo_R (mo_i (f (ρ mo 4))) (j : Int) = 0) ∨ ∃ b, tp_arr (f (ρ xo 1)) j = some b ∧ mo_R (mo_i (f (ρ mo 4))) (j : Int) = 1 ∧ lz_W ρ f b (fun i => mo_R (mo_i (f (ρ mo 3))) (12967 * (j : Int) + i))
section LZ
variable {Ω : Nat → Nat → (Nat → Nat) → va_E → Prop} {κ : Nat → ClassId} {τ ν τ1 ν1 : Nat → Nat} {ρ ρ1 : Nat → Nat → Nat} {L L1 : List Nat} {f f1 f2 : Nat → va_E} {E : Nat → Prop} {xo mo w j : Nat} {R R1 : Int → Int} {S : List Nat} {o : Option Nat}
theorem tp_i {P : Prop} {r1 r2 a : Int} {B1 B2 : Prop} (h1 : (P → r1 = a) ∧ (¬ P → B1)) (h2 : (P → r2 = a) ∧ (¬ P → B2)) (k : B1 → B2 → r1 = r2) : r1 = r2 := by
  by_cases q : P
  · exact (h1.1 q).trans (h2.1 q).symm
  · exact k (h1.2 q) (h2.2 q)
theorem lz_W.keep (hG : tp_G τ ν ρ L) (hw : τ w = 11) (hX : tp_X τ ρ E f f1) (hE : ∀ n, ρ w 30 ≤ n → n ≤ ρ w 30 + 18 → ¬ E n) (h : lz_W ρ f w R) : lz_W ρ f1 w R := by
  obtain ⟨-, -, -, -, -, -, ⟨a3, -, b3⟩, ⟨a4, -, b4⟩, ⟨a5, -, -, b5⟩, -, -, ⟨a6, -, -, b6⟩⟩ := tpg_11 hG hw
  obtain ⟨h0, h1, h2, h3, h4, h5, h6⟩ := h
  have e0 := hX w (Or.inr (Or.inr hw)) (hE _ (Nat.le_refl _) (by omega))
  have e3 := hX _ (Or.inr (Or.inl a3)) (hE _ (by omega) (by omega))
  have e4 := hX _ (Or.inr (Or.inl a4)) (hE _ (by omega) (by omega))
  have e5 := hX _ (Or.inl a5) (hE _ (by omega) (by omega))
  have e6 := hX _ (Or.inl a6) (hE _ (by omega) (by omega))
  exact ⟨by rw [e0]; exact h0, by rw [e0]; exact h1, by rw [e0]; exact h2, by rw [e3]; exact h3, by rw [e4]; exact h4, by rw [e5]; exact h5, by rw [e6]; exact h6⟩
theorem lz_img (hT : tp_T Ω κ τ ν ρ f) (hi : τ (ρ xo 1) = 27) {b : Nat} (hj : j < 2) (hb : tp_arr (f (ρ xo 1)) j = some b) : τ b = 11 ∧ ρ b 30 = 20 * (j + 1) := by
  refine tpk_27 hT hi (fun g hf he => ?_)
  rw [hf] at hb
  rcases he j hj with q | ⟨b2, q, qt⟩
  · rw [show tp_arr _ j = g j from rfl, q] at hb; cases hb
  · rw [show tp_arr _ j = g j from rfl, q] at hb; rw [← Option.some.inj hb]; exact qt
theorem lz_P.keep (hG : tp_G τ ν ρ L) (hT : tp_T Ω κ τ ν ρ f) (hxo : τ xo = 12) (hX : tp_X τ ρ E f f1) (hE : ∀ n, E n → n ≤ 18) (ha : f1 (ρ xo 1) = f (ρ xo 1)) (hi : mo_R (mo_i (f1 (ρ mo 3))) = mo_R (mo_i (f (ρ mo 3)))) (hk : mo_R (mo_i (f1 (ρ mo 4))) = mo_R (mo_i (f (ρ mo 4)))) (h : lz_P ρ f xo mo) : lz_P ρ f1 xo mo := by
  intro j hj
  rcases h j hj with ⟨a, b⟩ | ⟨b, a, k, v⟩
  · exact Or.inl ⟨by rw [ha]; exact a, by rw [hk]; exact b⟩
  · have l := lz_img hT (tpg_12 hG hxo).2.1 hj a
    refine Or.inr ⟨b, by rw [ha]; exact a, by rw [hk]; exact k, ?_⟩
    rw [hi]
    exact lz_W.keep hG l.1 hX (fun n n0 n1 q => by have := hE n q; omega) v
theorem lz_W.grow (e : ρ1 w = ρ w) (h : lz_W ρ f w R) : lz_W ρ1 f w R := by unfold lz_W at *; rw [e]; exact h
theorem lz_P.grow (hG : tp_G τ ν ρ L) (hT : tp_T Ω κ τ ν ρ f) (hxo : τ xo = 12) (hH : tp_H τ ν ρ L f S none τ1 ν1 ρ1 L1 f1) (hx : ρ1 xo = ρ xo) (hm : ρ1 mo = ρ mo) (hs : ∀ j, tp_arr (f2 (ρ xo 1)) j = tp_arr (f (ρ xo 1)) j) (h : lz_P ρ f2 xo mo) : lz_P ρ1 f2 xo mo := by
  intro j hj
  rw [hx, hm]
  rcases h j hj with ⟨a, b⟩ | ⟨b, a, k, v⟩
  · exact Or.inl ⟨a, b⟩
  · have l := lz_img hT (tpg_12 hG hxo).2.1 hj (by rw [← hs]; exact a)
    exact Or.inr ⟨b, a, k, v.grow (hH.2 b (tp_in hG l.1 (by decide)) (fun z => by cases z)).2.2.1⟩
/-- behind both calls of image -/
theorem lz_P.image {v : Int32} {vn : Nat} (hv : vn = v.toNatClampNeg) (hG : tp_G τ ν ρ L) (hT : tp_T Ω κ τ ν ρ f) (hxo : τ xo = 12) (hH : tp_H τ ν ρ L f S none τ1 ν1 ρ1 L1 f1) (hx : ρ1 xo = ρ xo) (hm : ρ1 mo = ρ mo) (hX : tp_X τ ρ (fun n => ((0 ≤ v.toInt ∧ v.toInt ≤ 1) ∧ 20 * (vn + 1) ≤ n ∧ n ≤ 20 * (vn + 1) + 18)) f f1)
    (hW : lz_W ρ f (ρ xo 0) R) (h : lz_P ρ f xo mo)
    (c1 : 0 ≤ v.toInt ∧ v.toInt ≤ 1 → ∃ b, tp_arr (f1 (ρ1 xo 1)) vn = some b ∧ tp_V ρ ρ1 f f1 (ρ xo 0) b) (c2 : ∀ j : Nat, (0 ≤ v.toInt ∧ v.toInt ≤ 1 → j ≠ vn) → tp_arr (f1 (ρ1 xo 1)) j = tp_arr (f (ρ xo 1)) j)
    (hF : ∀ a, τ1 a = 5 ∨ τ1 a = 7 ∨ τ1 a = 11 ∨ τ1 a = 27 → f2 a = f1 a) (hG1 : tp_G τ1 ν1 ρ1 L1) (hT1 : tp_T Ω κ τ1 ν1 ρ1 f1) (hxo1 : τ1 xo = 12)
    (m1 : 0 ≤ v.toInt ∧ v.toInt ≤ 1 → mo_CP (mo_R (mo_i (f (ρ mo 3)))) R (mo_R (mo_i (f2 (ρ mo 3)))) (12967 * v.toInt) 12967 ∧ mo_U (mo_R (mo_i (f (ρ mo 4)))) (mo_R (mo_i (f2 (ρ mo 4)))) v.toInt 1) (m2 : ¬ (0 ≤ v.toInt ∧ v.toInt ≤ 1) → mo_R (mo_i (f2 (ρ mo 3))) = mo_R (mo_i (f (ρ mo 3))) ∧ mo_R (mo_i (f2 (ρ mo 4))) = mo_R (mo_i (f (ρ mo 4)))) : lz_P ρ1 f2 xo mo := by
  have ei : f2 (ρ1 xo 1) = f1 (ρ1 xo 1) := hF _ (Or.inr (Or.inr (Or.inr (tpg_12 hG1 hxo1).2.1)))
  have hW2 : ∀ (b : Nat) (R' : Int → Int), τ1 b = 11 → lz_W ρ1 f1 b R' → lz_W ρ1 f2 b R' := fun b R' hb q =>
    lz_W.keep (E := fun _ => False) hG1 hb (fun a ha _ => hF a (ha.elim Or.inl (fun z => z.elim (fun y => Or.inr (Or.inl y)) (fun y => Or.inr (Or.inr (Or.inl y)))))) (fun _ _ _ z => z) q
  have hn : vn = v.toInt.toNat := hv
  have key : ∀ j : Nat, j < 2 → (0 ≤ v.toInt ∧ v.toInt ≤ 1 → j ≠ vn) → mo_R (mo_i (f2 (ρ mo 4))) (j : Int) = mo_R (mo_i (f (ρ mo 4))) (j : Int) ∧ ∀ i : Int, 0 ≤ i → i < 12967 → mo_R (mo_i (f2 (ρ mo 3))) (12967 * (j : Int) + i) = mo_R (mo_i (f (ρ mo 3))) (12967 * (j : Int) + i) := by
    intro j hj hne
    by_cases q : 0 ≤ v.toInt ∧ v.toInt ≤ 1
    · have hne := hne q
      exact ⟨(m1 q).2.ne (by omega) (by omega), fun i i0 i1 => (m1 q).1.out (by omega) (by omega)⟩
    · exact ⟨by rw [(m2 q).2], fun i _ _ => by rw [(m2 q).1]⟩
  intro j hj
  by_cases q : (0 ≤ v.toInt ∧ v.toInt ≤ 1) ∧ j = vn
  · obtain ⟨q, rfl⟩ := q
    obtain ⟨b, hb, hV⟩ := c1 q
    have l := lz_img hT1 (tpg_12 hG1 hxo1).2.1 hj hb
    refine Or.inr ⟨b, by rw [ei]; exact hb, by rw [hm]; rw [show ((j : Nat) : Int) = v.toInt by omega]; exact (m1 q).2.eq (by omega), ?_⟩
    rw [hm]
    refine hW2 b _ l.1 ?_
    obtain ⟨w0, w1, w2, w3, w4, w5, w6⟩ := hW
    obtain ⟨v0, v1, v2, v3, v4, v5, v6⟩ := hV
    have g : ∀ i : Int, 0 ≤ i → i < 12967 → mo_R (mo_i (f2 (ρ mo 3))) (12967 * (j : Int) + i) = R i := fun i i0 i1 => by
      rw [(m1 q).1.inn (j := 12967 * (j : Int) + i) (by omega) (by omega) (by omega), show 12967 * (j : Int) + i - 12967 * v.toInt = i by omega]
    exact ⟨(v0.trans w0).trans (g 11 (by decide) (by decide)).symm, (v1.trans w1).trans (g 0 (by decide) (by decide)).symm, (v2.trans w2).trans (g 1 (by decide) (by decide)).symm, (v3.trans w3).trans (g 3 (by decide) (by decide)).symm, (v4.trans w4).trans (g 7 (by decide) (by decide)).symm, (v5.trans w5).trans (g 6 (by decide) (by decide)).symm, (v6.trans w6).trans (g 10 (by decide) (by decide)).symm⟩
  · have hne : 0 ≤ v.toInt ∧ v.toInt ≤ 1 → j ≠ vn := fun y z => q ⟨y, z⟩
    obtain ⟨kk, ki⟩ := key j hj hne
    rw [hm, kk]
    rcases h j hj with ⟨a, b⟩ | ⟨b, a, k, u⟩
    · exact Or.inl ⟨by rw [ei, c2 j hne]; exact a, b⟩
    · have l := lz_img hT (tpg_12 hG hxo).2.1 hj a
      have eb := hH.2 b (tp_in hG l.1 (by decide)) (fun z => by cases z)
      refine Or.inr ⟨b, by rw [ei, c2 j hne]; exact a, k, ?_⟩
      have u1 : lz_W ρ f1 b (fun i => mo_R (mo_i (f (ρ mo 3))) (12967 * (j : Int) + i)) := by
        by_cases y : 0 ≤ v.toInt ∧ v.toInt ≤ 1
        · have := hne y
          exact lz_W.keep hG l.1 hX (fun n n0 n1 z => by omega) u
        · exact lz_W.keep hG l.1 hX (fun n n0 n1 z => y z.1) u
      have u2 := hW2 b _ (eb.1.trans l.1) (u1.grow eb.2.2.1)
      obtain ⟨w0, w1, w2, w3, w4, w5, w6⟩ := u2
      exact ⟨w0.trans (ki 11 (by decide) (by decide)).symm, w1.trans (ki 0 (by decide) (by decide)).symm, w2.trans (ki 1 (by decide) (by decide)).symm, w3.trans (ki 3 (by decide) (by decide)).symm, w4.trans (ki 7 (by decide) (by decide)).symm, w5.trans (ki 6 (by decide) (by decide)).symm, w6.trans (ki 10 (by decide) (by decide)).symm⟩
/-- behind both calls of back -/
theorem lz_back {v r1 r2 : Int32} {Rn A3 A4 : Int → Int} (hW : lz_W ρ f w R) (h : lz_P ρ f xo mo) (h3 : A3 = mo_R (mo_i (f (ρ mo 3)))) (h4 : A4 = mo_R (mo_i (f (ρ mo 4))))
    (c : (¬ (0 ≤ v.toInt ∧ v.toInt ≤ 1) → r1.toInt = -1 ∧ tp_V ρ ρ f f1 w w) ∧ (0 ≤ v.toInt ∧ v.toInt ≤ 1 → tp_arr (f (ρ xo 1)) v.toNatClampNeg = none → r1.toInt = -2 ∧ tp_V ρ ρ f f1 w w) ∧ (0 ≤ v.toInt ∧ v.toInt ≤ 1 → ∀ b, tp_arr (f (ρ xo 1)) v.toNatClampNeg = some b → r1.toInt = 0 ∧ tp_V ρ ρ f f1 b w))
    (m : (¬ (0 ≤ v.toInt ∧ v.toInt ≤ 1) → r2.toInt = -1 ∧ ∀ k : Int, 0 ≤ k → k < 20 → Rn k = R k) ∧ (0 ≤ v.toInt ∧ v.toInt ≤ 1 → A4 v.toInt = 0 → r2.toInt = -2 ∧ ∀ k : Int, 0 ≤ k → k < 20 → Rn k = R k) ∧ (0 ≤ v.toInt ∧ v.toInt ≤ 1 → A4 v.toInt ≠ 0 → r2.toInt = 0 ∧ ∀ j : Int, 0 ≤ j → j < 12967 → Rn j = A3 (12967 * v.toInt + j))) : r1 = r2 ∧ lz_W ρ f1 w Rn := by
  have same : tp_V ρ ρ f f1 w w → (∀ k : Int, 0 ≤ k → k < 20 → Rn k = R k) → lz_W ρ f1 w Rn := by
    intro hV hR
    obtain ⟨w0, w1, w2, w3, w4, w5, w6⟩ := hW
    obtain ⟨v0, v1, v2, v3, v4, v5, v6⟩ := hV
    exact ⟨(v0.trans w0).trans (hR 11 (by decide) (by decide)).symm, (v1.trans w1).trans (hR 0 (by decide) (by decide)).symm, (v2.trans w2).trans (hR 1 (by decide) (by decide)).symm, (v3.trans w3).trans (hR 3 (by decide) (by decide)).symm, (v4.trans w4).trans (hR 7 (by decide) (by decide)).symm, (v5.trans w5).trans (hR 6 (by decide) (by decide)).symm, (v6.trans w6).trans (hR 10 (by decide) (by decide)).symm⟩
  by_cases q : 0 ≤ v.toInt ∧ v.toInt ≤ 1
  · have hn : v.toNatClampNeg = v.toInt.toNat := rfl
    have hv : ((v.toNatClampNeg : Nat) : Int) = v.toInt := by omega
    rcases h v.toNatClampNeg (by omega) with ⟨a, b⟩ | ⟨b, a, k, u⟩
    · rw [hv, ← h4] at b
      obtain ⟨c1, c2⟩ := c.2.1 q a
      obtain ⟨m1, m2⟩ := m.2.1 q b
      exact ⟨Int32.toInt_inj.mp (c1.trans m1.symm), same c2 m2⟩
    · rw [hv, ← h4] at k
      obtain ⟨c1, v0, v1, v2, v3, v4, v5, v6⟩ := c.2.2 q b a
      obtain ⟨m1, m2⟩ := m.2.2 q (by rw [k]; decide)
      rw [hv, ← h3] at u
      obtain ⟨w0, w1, w2, w3, w4, w5, w6⟩ := u
      exact ⟨Int32.toInt_inj.mp (c1.trans m1.symm), (v0.trans w0).trans (m2 11 (by decide) (by decide)).symm, (v1.trans w1).trans (m2 0 (by decide) (by decide)).symm, (v2.trans w2).trans (m2 1 (by decide) (by decide)).symm, (v3.trans w3).trans (m2 3 (by decide) (by decide)).symm, (v4.trans w4).trans (m2 7 (by decide) (by decide)).symm, (v5.trans w5).trans (m2 6 (by decide) (by decide)).symm, (v6.trans w6).trans (m2 10 (by decide) (by decide)).symm⟩
  · obtain ⟨c1, c2⟩ := c.1 q
    obtain ⟨m1, m2⟩ := m.1 q
    exact ⟨Int32.toInt_inj.mp (c1.trans m1.symm), same c2 m2⟩
end LZ
theorem tp_ok.om {Ω Ω1 : Nat → Nat → (Nat → Nat) → va_E → Prop} {κ : Nat → ClassId} {τ ν : Nat → Nat} {ρ : Nat → Nat → Nat} {t a : Nat} {e : va_E} (h : tp_ok Ω κ τ ν ρ t a e) (k : Ω t a (ρ a) e → Ω1 t a (ρ a) e) : tp_ok Ω1 κ τ ν ρ t a e := by
  by_cases n1 : t = 1
  · subst n1; exact h
  by_cases n2 : t = 2
  · subst n2; exact h
  by_cases n3 : t = 3
  · subst n3; exact h
  by_cases n4 : t = 4
  · subst n4; exact h
  by_cases n5 : t = 5
  · subst n5; exact h
  by_cases n6 : t = 6
  · subst n6; exact h
  by_cases n7 : t = 7
  · subst n7; exact h
  by_cases n8 : t = 8
  · subst n8; exact h
  by_cases n9 : t = 9
  · subst n9; exact h
  by_cases n10 : t = 10
  · subst n10; exact h
  by_cases n11 : t = 11
  · subst n11; exact h
  by_cases n12 : t = 12
  · subst n12; exact h
  by_cases n20 : t = 20
  · subst n20; exact h
  by_cases n21 : t = 21
  · subst n21; exact h
  by_cases n22 : t = 22
  · subst n22; exact h
  by_cases n23 : t = 23
  · subst n23; exact h
  by_cases n24 : t = 24
  · subst n24; exact h
  by_cases n25 : t = 25
  · subst n25; exact h
  by_cases n26 : t = 26
  · subst n26; exact h
  by_cases n27 : t = 27
  · subst n27; exact h
  by_cases n28 : t = 28
  · subst n28; exact h
  have k1 : tp_ok Ω κ τ ν ρ t a e = Ω t a (ρ a) e := by
    unfold tp_ok
    split <;> first | rfl | (exfalso; omega)
  have k2 : tp_ok Ω1 κ τ ν ρ t a e = Ω1 t a (ρ a) e := by
    unfold tp_ok
    split <;> first | rfl | (exfalso; omega)
  rw [k2]; rw [k1] at h; exact k h
theorem mo_O.om {κ : Nat → ClassId} {Θ Θ1 : Nat → Option Int} {t a : Nat} {r : Nat → Nat} {e : va_E} (h : mo_O κ Θ t a r e) (k : mo_tx (Θ a) (tp_fld e 9) → mo_tx (Θ1 a) (tp_fld e 9)) : mo_O κ Θ1 t a r e := by
  by_cases n13 : t = 13
  · subst n13
    obtain ⟨x0, x1, x7, x9, x10, x11, x12, x13, x14, x15, x16, x17, x18, x19, x20, x22, x25, x28, x29, x32, x33, x34, x35, x36, x37, x38, x47, x48, he, q0, q1, q2, q3, q4, q5, q6, q7, q8, q9, q10, q11, q12, q13, q14⟩ := h
    refine ⟨x0, x1, x7, x9, x10, x11, x12, x13, x14, x15, x16, x17, x18, x19, x20, x22, x25, x28, x29, x32, x33, x34, x35, x36, x37, x38, x47, x48, he, q0, q1, q2, q3, q4, q5, q6, q7, q8, q9, q10, q11, q12, q13, ?_⟩
    have q9 : mo_tx (Θ1 a) (tp_fld e 9) := k (by rw [he]; exact q14)
    rw [he] at q9; exact q9
  by_cases n32 : t = 32
  · subst n32; exact h
  by_cases n33 : t = 33
  · subst n33; exact h
  by_cases n34 : t = 34
  · subst n34; exact h
  by_cases n35 : t = 35
  · subst n35; exact h
  by_cases n36 : t = 36
  · subst n36; exact h
  by_cases n38 : t = 38
  · subst n38; exact h
  by_cases n51 : t = 51
  · subst n51; exact h
  by_cases n53 : t = 53
  · subst n53; exact h
  by_cases n54 : t = 54
  · subst n54; exact h
  by_cases n56 : t = 56
  · subst n56; exact h
  by_cases n57 : t = 57
  · subst n57; exact h
  by_cases n60 : t = 60
  · subst n60; exact h
  by_cases n61 : t = 61
  · subst n61; exact h
  by_cases n69 : t = 69
  · subst n69; exact h
  by_cases n70 : t = 70
  · subst n70; exact h
  by_cases n71 : t = 71
  · subst n71; exact h
  by_cases n72 : t = 72
  · subst n72; exact h
  by_cases n73 : t = 73
  · subst n73; exact h
  by_cases n74 : t = 74
  · subst n74; exact h
  by_cases n75 : t = 75
  · subst n75; exact h
  by_cases n76 : t = 76
  · subst n76; exact h
  by_cases n79 : t = 79
  · subst n79; exact h
  by_cases n80 : t = 80
  · subst n80; exact h
  by_cases n81 : t = 81
  · subst n81; exact h
  by_cases n82 : t = 82
  · subst n82; exact h
  exfalso
  unfold mo_O at h
  split at h <;> first | exact h | omega
def mo_s (mo : Nat) (t : Int) : Nat → Option Int := fun a => if a = mo then some t else none
section TAPE
variable {κ : Nat → ClassId} {Θ : Nat → Option Int} {τ ν : Nat → Nat} {ρ : Nat → Nat → Nat} {f : Nat → va_E} {mo : Nat} {t : Int}
theorem mo_tt (hT : tp_T (mo_O κ mo_n) κ τ ν ρ f) (mo : Nat) : tp_T (mo_O κ (mo_s mo (tp_fld (f mo) 9))) κ τ ν ρ f := fun a ha => (hT a ha).om (fun h => h.om (fun _ => by
  unfold mo_s mo_tx
  intro t ht
  by_cases q : a = mo
  · subst q; rw [if_pos rfl] at ht; exact Option.some.inj ht
  · rw [if_neg q] at ht; cases ht))
theorem mo_wk (hT : tp_T (mo_O κ Θ) κ τ ν ρ f) : tp_T (mo_O κ mo_n) κ τ ν ρ f := fun a ha => (hT a ha).om (fun h => h.om (fun _ => mo_tx.nn))
theorem mo_t9 (hT : tp_T (mo_O κ (mo_s mo t)) κ τ ν ρ f) (hmo : τ mo = 13) : tp_fld (f mo) 9 = t := by
  refine tpk_13 hT hmo (fun x0 x1 x7 x9 x10 x11 x12 x13 x14 x15 x16 x17 x18 x19 x20 x22 x25 x28 x29 x32 x33 x34 x35 x36 x37 x38 x47 x48 he q0 q1 q2 q3 q4 q5 q6 q7 q8 q9 q10 q11 q12 q13 q14 => ?_)
  have q9 : mo_tx (mo_s mo t mo) (tp_fld (f mo) 9) := by rw [he]; exact q14
  exact q9 t (by unfold mo_s; rw [if_pos rfl])
end TAPE
def lz_I (κ : Nat → ClassId) (xo mo : Nat) (τ ν : Nat → Nat) (ρ : Nat → Nat → Nat) (L : List Nat) (f : Nat → va_E) : Prop := tp_G τ ν ρ L ∧ tp_T (mo_O κ mo_n) κ τ ν ρ f ∧ τ xo = 12 ∧ τ mo = 13 ∧ mo_RI (-1) 0 (mo_R (mo_i (f (ρ mo 2)))) ∧ mo_IM (mo_R (mo_i (f (ρ mo 3)))) ∧ lz_W ρ f (ρ xo 0) (mo_R (mo_i (f (ρ mo 2)))) ∧ lz_P ρ f xo mo ∧ tp_fld (f (ρ xo 3)) 1 = tp_fld (f mo) 9
end
