theorem dL_law_538 : decode cL_law 538 = .ok (.ldc 75, 2) := by decide +kernel
theorem dL_law_540 : decode cL_law 540 = .ok (.fmul, 1) := by decide +kernel
theorem dL_law_541 : decode cL_law 541 = .ok (.aload_n 0, 1) := by decide +kernel
theorem dL_law_542 : decode cL_law 542 = .ok (.iload 5, 2) := by decide +kernel
theorem dL_law_544 : decode cL_law 544 = .ok (.iconst 5, 1) := by decide +kernel
theorem dL_law_545 : decode cL_law 545 = .ok (.iadd, 1) := by decide +kernel
theorem dL_law_546 : decode cL_law 546 = .ok (.iaload, 1) := by decide +kernel
theorem dL_law_547 : decode cL_law 547 = .ok (.i2f, 1) := by decide +kernel
theorem dL_law_548 : decode cL_law 548 = .ok (.ldc 75, 2) := by decide +kernel
theorem dL_law_550 : decode cL_law 550 = .ok (.fmul, 1) := by decide +kernel
theorem dL_law_551 : decode cL_law 551 = .ok (.aload_n 3, 1) := by decide +kernel
theorem dL_law_552 : decode cL_law 552 = .ok (.invokestatic 94, 3) := by decide +kernel
theorem dL_law_555 : decode cL_law 555 = .ok (.istore 6, 2) := by decide +kernel
theorem dL_law_557 : decode cL_law 557 = .ok (.aload_n 2, 1) := by decide +kernel
theorem dL_law_558 : decode cL_law 558 = .ok (.aload_n 0, 1) := by decide +kernel
theorem dL_law_559 : decode cL_law 559 = .ok (.iload 5, 2) := by decide +kernel
theorem dL_law_561 : decode cL_law 561 = .ok (.iconst 1, 1) := by decide +kernel
theorem dL_law_562 : decode cL_law 562 = .ok (.iadd, 1) := by decide +kernel
theorem dL_law_563 : decode cL_law 563 = .ok (.iaload, 1) := by decide +kernel
theorem dL_law_564 : decode cL_law 564 = .ok (.aload_n 0, 1) := by decide +kernel
theorem dL_law_565 : decode cL_law 565 = .ok (.iload 5, 2) := by decide +kernel
theorem dL_law_567 : decode cL_law 567 = .ok (.iconst 2, 1) := by decide +kernel
theorem dL_law_568 : decode cL_law 568 = .ok (.iadd, 1) := by decide +kernel
theorem dL_law_569 : decode cL_law 569 = .ok (.iaload, 1) := by decide +kernel
theorem dL_law_570 : decode cL_law 570 = .ok (.aload_n 0, 1) := by decide +kernel
theorem dL_law_571 : decode cL_law 571 = .ok (.iload 5, 2) := by decide +kernel
theorem dL_law_573 : decode cL_law 573 = .ok (.iconst 3, 1) := by decide +kernel
theorem dL_law_574 : decode cL_law 574 = .ok (.iadd, 1) := by decide +kernel
theorem dL_law_575 : decode cL_law 575 = .ok (.iaload, 1) := by decide +kernel
theorem dL_law_576 : decode cL_law 576 = .ok (.i2f, 1) := by decide +kernel
theorem dL_law_577 : decode cL_law 577 = .ok (.ldc 75, 2) := by decide +kernel
theorem dL_law_579 : decode cL_law 579 = .ok (.fmul, 1) := by decide +kernel
theorem dL_law_580 : decode cL_law 580 = .ok (.aload_n 0, 1) := by decide +kernel
theorem dL_law_581 : decode cL_law 581 = .ok (.iload 5, 2) := by decide +kernel
theorem dL_law_583 : decode cL_law 583 = .ok (.iconst 4, 1) := by decide +kernel
theorem dL_law_584 : decode cL_law 584 = .ok (.iadd, 1) := by decide +kernel
theorem dL_law_585 : decode cL_law 585 = .ok (.iaload, 1) := by decide +kernel
theorem dL_law_586 : decode cL_law 586 = .ok (.i2f, 1) := by decide +kernel
theorem dL_law_587 : decode cL_law 587 = .ok (.ldc 75, 2) := by decide +kernel
theorem dL_law_589 : decode cL_law 589 = .ok (.fmul, 1) := by decide +kernel
theorem dL_law_590 : decode cL_law 590 = .ok (.aload_n 0, 1) := by decide +kernel
theorem dL_law_591 : decode cL_law 591 = .ok (.iload 5, 2) := by decide +kernel
theorem dL_law_593 : decode cL_law 593 = .ok (.iconst 5, 1) := by decide +kernel
theorem dL_law_594 : decode cL_law 594 = .ok (.iadd, 1) := by decide +kernel
theorem dL_law_595 : decode cL_law 595 = .ok (.iaload, 1) := by decide +kernel
theorem dL_law_596 : decode cL_law 596 = .ok (.i2f, 1) := by decide +kernel
theorem dL_law_597 : decode cL_law 597 = .ok (.ldc 75, 2) := by decide +kernel
theorem dL_law_599 : decode cL_law 599 = .ok (.fmul, 1) := by decide +kernel
theorem dL_law_600 : decode cL_law 600 = .ok (.invokevirtual 97, 3) := by decide +kernel
theorem dL_law_603 : decode cL_law 603 = .ok (.istore 7, 2) := by decide +kernel
theorem dL_law_605 : decode cL_law 605 = .ok (.aload_n 2, 1) := by decide +kernel
theorem dL_law_606 : decode cL_law 606 = .ok (.invokevirtual 82, 3) := by decide +kernel
theorem dL_law_609 : decode cL_law 609 = .ok (.iload 6, 2) := by decide +kernel
theorem dL_law_611 : decode cL_law 611 = .ok (.if_icmp .eq 5, 3) := by decide +kernel
theorem dL_law_614 : decode cL_law 614 = .ok (.iconst 0, 1) := by decide +kernel
theorem dL_law_615 : decode cL_law 615 = .ok (.ireturn, 1) := by decide +kernel
theorem dL_law_616 : decode cL_law 616 = .ok (.iload 6, 2) := by decide +kernel
theorem dL_law_618 : decode cL_law 618 = .ok (.ifCond .ne 15, 3) := by decide +kernel
theorem dL_law_621 : decode cL_law 621 = .ok (.aload_n 3, 1) := by decide +kernel
theorem dL_law_622 : decode cL_law 622 = .ok (.iconst 0, 1) := by decide +kernel
theorem dL_law_623 : decode cL_law 623 = .ok (.laload, 1) := by decide +kernel
theorem dL_law_624 : decode cL_law 624 = .ok (.iload 7, 2) := by decide +kernel
theorem dL_law_626 : decode cL_law 626 = .ok (.i2l, 1) := by decide +kernel
theorem dL_law_627 : decode cL_law 627 = .ok (.lcmp, 1) := by decide +kernel
theorem dL_law_628 : decode cL_law 628 = .ok (.ifCond .eq 5, 3) := by decide +kernel
theorem dL_law_631 : decode cL_law 631 = .ok (.iconst 0, 1) := by decide +kernel
theorem dL_law_632 : decode cL_law 632 = .ok (.ireturn, 1) := by decide +kernel
theorem dL_law_633 : decode cL_law 633 = .ok (.goto 1020, 3) := by decide +kernel
theorem dL_law_636 : decode cL_law 636 = .ok (.aload_n 1, 1) := by decide +kernel
theorem dL_law_637 : decode cL_law 637 = .ok (.aload_n 0, 1) := by decide +kernel
theorem dL_law_638 : decode cL_law 638 = .ok (.iload 5, 2) := by decide +kernel
theorem dL_law_640 : decode cL_law 640 = .ok (.iconst 1, 1) := by decide +kernel
theorem dL_law_641 : decode cL_law 641 = .ok (.iadd, 1) := by decide +kernel
theorem dL_law_642 : decode cL_law 642 = .ok (.iaload, 1) := by decide +kernel
theorem dL_law_643 : decode cL_law 643 = .ok (.aload_n 3, 1) := by decide +kernel
theorem dL_law_644 : decode cL_law 644 = .ok (.invokestatic 98, 3) := by decide +kernel
theorem dL_law_647 : decode cL_law 647 = .ok (.istore 6, 2) := by decide +kernel
theorem dL_law_649 : decode cL_law 649 = .ok (.aload_n 2, 1) := by decide +kernel
theorem dL_law_650 : decode cL_law 650 = .ok (.aload_n 0, 1) := by decide +kernel
theorem dL_law_651 : decode cL_law 651 = .ok (.iload 5, 2) := by decide +kernel
theorem dL_law_653 : decode cL_law 653 = .ok (.iconst 1, 1) := by decide +kernel
theorem dL_law_654 : decode cL_law 654 = .ok (.iadd, 1) := by decide +kernel
theorem dL_law_655 : decode cL_law 655 = .ok (.iaload, 1) := by decide +kernel
theorem dL_law_656 : decode cL_law 656 = .ok (.invokevirtual 101, 3) := by decide +kernel
theorem dL_law_659 : decode cL_law 659 = .ok (.istore 7, 2) := by decide +kernel
theorem dL_law_661 : decode cL_law 661 = .ok (.aload_n 2, 1) := by decide +kernel
theorem dL_law_662 : decode cL_law 662 = .ok (.invokevirtual 82, 3) := by decide +kernel
theorem dL_law_665 : decode cL_law 665 = .ok (.iload 6, 2) := by decide +kernel
theorem dL_law_667 : decode cL_law 667 = .ok (.if_icmp .eq 5, 3) := by decide +kernel
theorem dL_law_670 : decode cL_law 670 = .ok (.iconst 0, 1) := by decide +kernel
theorem dL_law_671 : decode cL_law 671 = .ok (.ireturn, 1) := by decide +kernel
theorem dL_law_672 : decode cL_law 672 = .ok (.iload 6, 2) := by decide +kernel
theorem dL_law_674 : decode cL_law 674 = .ok (.ifCond .ne 22, 3) := by decide +kernel
theorem dL_law_677 : decode cL_law 677 = .ok (.aload_n 3, 1) := by decide +kernel
theorem dL_law_678 : decode cL_law 678 = .ok (.iconst 0, 1) := by decide +kernel
theorem dL_law_679 : decode cL_law 679 = .ok (.laload, 1) := by decide +kernel
theorem dL_law_680 : decode cL_law 680 = .ok (.iload 7, 2) := by decide +kernel
theorem dL_law_682 : decode cL_law 682 = .ok (.ifCond .eq 7, 3) := by decide +kernel
theorem dL_law_685 : decode cL_law 685 = .ok (.lconst 1, 1) := by decide +kernel
theorem dL_law_686 : decode cL_law 686 = .ok (.goto 4, 3) := by decide +kernel
theorem dL_law_689 : decode cL_law 689 = .ok (.lconst 0, 1) := by decide +kernel
theorem dL_law_690 : decode cL_law 690 = .ok (.lcmp, 1) := by decide +kernel
theorem dL_law_691 : decode cL_law 691 = .ok (.ifCond .eq 5, 3) := by decide +kernel
theorem dL_law_694 : decode cL_law 694 = .ok (.iconst 0, 1) := by decide +kernel
theorem dL_law_695 : decode cL_law 695 = .ok (.ireturn, 1) := by decide +kernel
theorem dL_law_696 : decode cL_law 696 = .ok (.goto 957, 3) := by decide +kernel
theorem dL_law_699 : decode cL_law 699 = .ok (.aload_n 1, 1) := by decide +kernel
theorem dL_law_700 : decode cL_law 700 = .ok (.aload_n 0, 1) := by decide +kernel
theorem dL_law_701 : decode cL_law 701 = .ok (.iload 5, 2) := by decide +kernel
theorem dL_law_703 : decode cL_law 703 = .ok (.iconst 1, 1) := by decide +kernel
theorem dL_law_704 : decode cL_law 704 = .ok (.iadd, 1) := by decide +kernel
theorem dL_law_705 : decode cL_law 705 = .ok (.iaload, 1) := by decide +kernel
theorem dL_law_706 : decode cL_law 706 = .ok (.aload_n 0, 1) := by decide +kernel
theorem dL_law_707 : decode cL_law 707 = .ok (.iload 5, 2) := by decide +kernel
theorem dL_law_709 : decode cL_law 709 = .ok (.iconst 2, 1) := by decide +kernel
theorem dL_law_710 : decode cL_law 710 = .ok (.iadd, 1) := by decide +kernel
theorem dL_law_711 : decode cL_law 711 = .ok (.iaload, 1) := by decide +kernel
theorem dL_law_712 : decode cL_law 712 = .ok (.i2f, 1) := by decide +kernel
theorem dL_law_713 : decode cL_law 713 = .ok (.ldc 75, 2) := by decide +kernel
theorem dL_law_715 : decode cL_law 715 = .ok (.fmul, 1) := by decide +kernel
theorem dL_law_716 : decode cL_law 716 = .ok (.aload_n 0, 1) := by decide +kernel
theorem dL_law_717 : decode cL_law 717 = .ok (.iload 5, 2) := by decide +kernel
theorem dL_law_719 : decode cL_law 719 = .ok (.iconst 3, 1) := by decide +kernel
theorem dL_law_720 : decode cL_law 720 = .ok (.iadd, 1) := by decide +kernel
theorem dL_law_721 : decode cL_law 721 = .ok (.iaload, 1) := by decide +kernel
theorem dL_law_722 : decode cL_law 722 = .ok (.i2f, 1) := by decide +kernel
theorem dL_law_723 : decode cL_law 723 = .ok (.ldc 75, 2) := by decide +kernel
theorem dL_law_725 : decode cL_law 725 = .ok (.fmul, 1) := by decide +kernel
theorem dL_law_726 : decode cL_law 726 = .ok (.aload_n 0, 1) := by decide +kernel
theorem dL_law_727 : decode cL_law 727 = .ok (.iload 5, 2) := by decide +kernel
theorem dL_law_729 : decode cL_law 729 = .ok (.iconst 4, 1) := by decide +kernel
theorem dL_law_730 : decode cL_law 730 = .ok (.iadd, 1) := by decide +kernel
theorem dL_law_731 : decode cL_law 731 = .ok (.iaload, 1) := by decide +kernel
theorem dL_law_732 : decode cL_law 732 = .ok (.i2f, 1) := by decide +kernel
theorem dL_law_733 : decode cL_law 733 = .ok (.ldc 75, 2) := by decide +kernel
theorem dL_law_735 : decode cL_law 735 = .ok (.fmul, 1) := by decide +kernel
theorem dL_law_736 : decode cL_law 736 = .ok (.invokestatic 102, 3) := by decide +kernel
theorem dL_law_739 : decode cL_law 739 = .ok (.istore 6, 2) := by decide +kernel
theorem dL_law_741 : decode cL_law 741 = .ok (.aload_n 2, 1) := by decide +kernel
theorem dL_law_742 : decode cL_law 742 = .ok (.aload_n 0, 1) := by decide +kernel
theorem dL_law_743 : decode cL_law 743 = .ok (.iload 5, 2) := by decide +kernel
theorem dL_law_745 : decode cL_law 745 = .ok (.iconst 1, 1) := by decide +kernel
theorem dL_law_746 : decode cL_law 746 = .ok (.iadd, 1) := by decide +kernel
theorem dL_law_747 : decode cL_law 747 = .ok (.iaload, 1) := by decide +kernel
theorem dL_law_748 : decode cL_law 748 = .ok (.aload_n 0, 1) := by decide +kernel
theorem dL_law_749 : decode cL_law 749 = .ok (.iload 5, 2) := by decide +kernel
theorem dL_law_751 : decode cL_law 751 = .ok (.iconst 2, 1) := by decide +kernel
theorem dL_law_752 : decode cL_law 752 = .ok (.iadd, 1) := by decide +kernel
theorem dL_law_753 : decode cL_law 753 = .ok (.iaload, 1) := by decide +kernel
theorem dL_law_754 : decode cL_law 754 = .ok (.i2f, 1) := by decide +kernel
theorem dL_law_755 : decode cL_law 755 = .ok (.ldc 75, 2) := by decide +kernel
theorem dL_law_757 : decode cL_law 757 = .ok (.fmul, 1) := by decide +kernel
theorem dL_law_758 : decode cL_law 758 = .ok (.aload_n 0, 1) := by decide +kernel
theorem dL_law_759 : decode cL_law 759 = .ok (.iload 5, 2) := by decide +kernel
theorem dL_law_761 : decode cL_law 761 = .ok (.iconst 3, 1) := by decide +kernel
theorem dL_law_762 : decode cL_law 762 = .ok (.iadd, 1) := by decide +kernel
theorem dL_law_763 : decode cL_law 763 = .ok (.iaload, 1) := by decide +kernel
theorem dL_law_764 : decode cL_law 764 = .ok (.i2f, 1) := by decide +kernel
theorem dL_law_765 : decode cL_law 765 = .ok (.ldc 75, 2) := by decide +kernel
theorem dL_law_767 : decode cL_law 767 = .ok (.fmul, 1) := by decide +kernel
theorem dL_law_768 : decode cL_law 768 = .ok (.aload_n 0, 1) := by decide +kernel
theorem dL_law_769 : decode cL_law 769 = .ok (.iload 5, 2) := by decide +kernel
theorem dL_law_771 : decode cL_law 771 = .ok (.iconst 4, 1) := by decide +kernel
theorem dL_law_772 : decode cL_law 772 = .ok (.iadd, 1) := by decide +kernel
theorem dL_law_773 : decode cL_law 773 = .ok (.iaload, 1) := by decide +kernel
theorem dL_law_774 : decode cL_law 774 = .ok (.i2f, 1) := by decide +kernel
theorem dL_law_775 : decode cL_law 775 = .ok (.ldc 75, 2) := by decide +kernel
theorem dL_law_777 : decode cL_law 777 = .ok (.fmul, 1) := by decide +kernel
theorem dL_law_778 : decode cL_law 778 = .ok (.invokevirtual 104, 3) := by decide +kernel
theorem dL_law_781 : decode cL_law 781 = .ok (.aload_n 2, 1) := by decide +kernel
theorem dL_law_782 : decode cL_law 782 = .ok (.invokevirtual 82, 3) := by decide +kernel
theorem dL_law_785 : decode cL_law 785 = .ok (.iload 6, 2) := by decide +kernel
theorem dL_law_787 : decode cL_law 787 = .ok (.if_icmp .eq 5, 3) := by decide +kernel
theorem dL_law_790 : decode cL_law 790 = .ok (.iconst 0, 1) := by decide +kernel
theorem dL_law_791 : decode cL_law 791 = .ok (.ireturn, 1) := by decide +kernel
theorem dL_law_792 : decode cL_law 792 = .ok (.goto 861, 3) := by decide +kernel
theorem dL_law_795 : decode cL_law 795 = .ok (.aload_n 1, 1) := by decide +kernel
theorem dL_law_796 : decode cL_law 796 = .ok (.aload_n 0, 1) := by decide +kernel
theorem dL_law_797 : decode cL_law 797 = .ok (.iload 5, 2) := by decide +kernel
theorem dL_law_799 : decode cL_law 799 = .ok (.iconst 1, 1) := by decide +kernel
theorem dL_law_800 : decode cL_law 800 = .ok (.iadd, 1) := by decide +kernel
theorem dL_law_801 : decode cL_law 801 = .ok (.iaload, 1) := by decide +kernel
theorem dL_law_802 : decode cL_law 802 = .ok (.aload_n 0, 1) := by decide +kernel
theorem dL_law_803 : decode cL_law 803 = .ok (.iload 5, 2) := by decide +kernel
theorem dL_law_805 : decode cL_law 805 = .ok (.iconst 2, 1) := by decide +kernel
theorem dL_law_806 : decode cL_law 806 = .ok (.iadd, 1) := by decide +kernel
theorem dL_law_807 : decode cL_law 807 = .ok (.iaload, 1) := by decide +kernel
theorem dL_law_808 : decode cL_law 808 = .ok (.aload_n 0, 1) := by decide +kernel
theorem dL_law_809 : decode cL_law 809 = .ok (.iload 5, 2) := by decide +kernel
theorem dL_law_811 : decode cL_law 811 = .ok (.iconst 3, 1) := by decide +kernel
theorem dL_law_812 : decode cL_law 812 = .ok (.iadd, 1) := by decide +kernel
theorem dL_law_813 : decode cL_law 813 = .ok (.iaload, 1) := by decide +kernel
theorem dL_law_814 : decode cL_law 814 = .ok (.i2f, 1) := by decide +kernel
theorem dL_law_815 : decode cL_law 815 = .ok (.ldc 75, 2) := by decide +kernel
theorem dL_law_817 : decode cL_law 817 = .ok (.fmul, 1) := by decide +kernel
theorem dL_law_818 : decode cL_law 818 = .ok (.aload_n 0, 1) := by decide +kernel
theorem dL_law_819 : decode cL_law 819 = .ok (.iload 5, 2) := by decide +kernel
theorem dL_law_821 : decode cL_law 821 = .ok (.iconst 4, 1) := by decide +kernel
theorem dL_law_822 : decode cL_law 822 = .ok (.iadd, 1) := by decide +kernel
theorem dL_law_823 : decode cL_law 823 = .ok (.iaload, 1) := by decide +kernel
theorem dL_law_824 : decode cL_law 824 = .ok (.i2f, 1) := by decide +kernel
theorem dL_law_825 : decode cL_law 825 = .ok (.ldc 75, 2) := by decide +kernel
theorem dL_law_827 : decode cL_law 827 = .ok (.fmul, 1) := by decide +kernel
theorem dL_law_828 : decode cL_law 828 = .ok (.aload_n 0, 1) := by decide +kernel
theorem dL_law_829 : decode cL_law 829 = .ok (.iload 5, 2) := by decide +kernel
theorem dL_law_831 : decode cL_law 831 = .ok (.iconst 5, 1) := by decide +kernel
theorem dL_law_832 : decode cL_law 832 = .ok (.iadd, 1) := by decide +kernel
theorem dL_law_833 : decode cL_law 833 = .ok (.iaload, 1) := by decide +kernel
theorem dL_law_834 : decode cL_law 834 = .ok (.i2f, 1) := by decide +kernel
theorem dL_law_835 : decode cL_law 835 = .ok (.ldc 75, 2) := by decide +kernel
theorem dL_law_837 : decode cL_law 837 = .ok (.fmul, 1) := by decide +kernel
theorem dL_law_838 : decode cL_law 838 = .ok (.aload_n 0, 1) := by decide +kernel
theorem dL_law_839 : decode cL_law 839 = .ok (.iload 5, 2) := by decide +kernel
theorem dL_law_841 : decode cL_law 841 = .ok (.bipush 6, 2) := by decide +kernel
theorem dL_law_843 : decode cL_law 843 = .ok (.iadd, 1) := by decide +kernel
theorem dL_law_844 : decode cL_law 844 = .ok (.iaload, 1) := by decide +kernel
theorem dL_law_845 : decode cL_law 845 = .ok (.i2f, 1) := by decide +kernel
theorem dL_law_846 : decode cL_law 846 = .ok (.ldc 75, 2) := by decide +kernel
theorem dL_law_848 : decode cL_law 848 = .ok (.fmul, 1) := by decide +kernel
theorem dL_law_849 : decode cL_law 849 = .ok (.aload_n 0, 1) := by decide +kernel
theorem dL_law_850 : decode cL_law 850 = .ok (.iload 5, 2) := by decide +kernel
theorem dL_law_852 : decode cL_law 852 = .ok (.bipush 7, 2) := by decide +kernel
theorem dL_law_854 : decode cL_law 854 = .ok (.iadd, 1) := by decide +kernel
theorem dL_law_855 : decode cL_law 855 = .ok (.iaload, 1) := by decide +kernel
theorem dL_law_856 : decode cL_law 856 = .ok (.aload_n 3, 1) := by decide +kernel
theorem dL_law_857 : decode cL_law 857 = .ok (.invokestatic 105, 3) := by decide +kernel
theorem dL_law_860 : decode cL_law 860 = .ok (.istore 6, 2) := by decide +kernel
theorem dL_law_862 : decode cL_law 862 = .ok (.aload_n 2, 1) := by decide +kernel
theorem dL_law_863 : decode cL_law 863 = .ok (.aload_n 0, 1) := by decide +kernel
theorem dL_law_864 : decode cL_law 864 = .ok (.iload 5, 2) := by decide +kernel
theorem dL_law_866 : decode cL_law 866 = .ok (.iconst 1, 1) := by decide +kernel
theorem dL_law_867 : decode cL_law 867 = .ok (.iadd, 1) := by decide +kernel
theorem dL_law_868 : decode cL_law 868 = .ok (.iaload, 1) := by decide +kernel
theorem dL_law_869 : decode cL_law 869 = .ok (.aload_n 0, 1) := by decide +kernel
theorem dL_law_870 : decode cL_law 870 = .ok (.iload 5, 2) := by decide +kernel
theorem dL_law_872 : decode cL_law 872 = .ok (.iconst 2, 1) := by decide +kernel
theorem dL_law_873 : decode cL_law 873 = .ok (.iadd, 1) := by decide +kernel
theorem dL_law_874 : decode cL_law 874 = .ok (.iaload, 1) := by decide +kernel
theorem dL_law_875 : decode cL_law 875 = .ok (.aload_n 0, 1) := by decide +kernel
theorem dL_law_876 : decode cL_law 876 = .ok (.iload 5, 2) := by decide +kernel
theorem dL_law_878 : decode cL_law 878 = .ok (.iconst 3, 1) := by decide +kernel
theorem dL_law_879 : decode cL_law 879 = .ok (.iadd, 1) := by decide +kernel
theorem dL_law_880 : decode cL_law 880 = .ok (.iaload, 1) := by decide +kernel
theorem dL_law_881 : decode cL_law 881 = .ok (.i2f, 1) := by decide +kernel
theorem dL_law_882 : decode cL_law 882 = .ok (.ldc 75, 2) := by decide +kernel
theorem dL_law_884 : decode cL_law 884 = .ok (.fmul, 1) := by decide +kernel
theorem dL_law_885 : decode cL_law 885 = .ok (.aload_n 0, 1) := by decide +kernel
theorem dL_law_886 : decode cL_law 886 = .ok (.iload 5, 2) := by decide +kernel
theorem dL_law_888 : decode cL_law 888 = .ok (.iconst 4, 1) := by decide +kernel
theorem dL_law_889 : decode cL_law 889 = .ok (.iadd, 1) := by decide +kernel
theorem dL_law_890 : decode cL_law 890 = .ok (.iaload, 1) := by decide +kernel
theorem dL_law_891 : decode cL_law 891 = .ok (.i2f, 1) := by decide +kernel
theorem dL_law_892 : decode cL_law 892 = .ok (.ldc 75, 2) := by decide +kernel
theorem dL_law_894 : decode cL_law 894 = .ok (.fmul, 1) := by decide +kernel
theorem dL_law_895 : decode cL_law 895 = .ok (.aload_n 0, 1) := by decide +kernel
theorem dL_law_896 : decode cL_law 896 = .ok (.iload 5, 2) := by decide +kernel
theorem dL_law_898 : decode cL_law 898 = .ok (.iconst 5, 1) := by decide +kernel
theorem dL_law_899 : decode cL_law 899 = .ok (.iadd, 1) := by decide +kernel
theorem dL_law_900 : decode cL_law 900 = .ok (.iaload, 1) := by decide +kernel
theorem dL_law_901 : decode cL_law 901 = .ok (.i2f, 1) := by decide +kernel
theorem dL_law_902 : decode cL_law 902 = .ok (.ldc 75, 2) := by decide +kernel
theorem dL_law_904 : decode cL_law 904 = .ok (.fmul, 1) := by decide +kernel
theorem dL_law_905 : decode cL_law 905 = .ok (.aload_n 0, 1) := by decide +kernel
theorem dL_law_906 : decode cL_law 906 = .ok (.iload 5, 2) := by decide +kernel
theorem dL_law_908 : decode cL_law 908 = .ok (.bipush 6, 2) := by decide +kernel
theorem dL_law_910 : decode cL_law 910 = .ok (.iadd, 1) := by decide +kernel
theorem dL_law_911 : decode cL_law 911 = .ok (.iaload, 1) := by decide +kernel
theorem dL_law_912 : decode cL_law 912 = .ok (.i2f, 1) := by decide +kernel
theorem dL_law_913 : decode cL_law 913 = .ok (.ldc 75, 2) := by decide +kernel
theorem dL_law_915 : decode cL_law 915 = .ok (.fmul, 1) := by decide +kernel
theorem dL_law_916 : decode cL_law 916 = .ok (.aload_n 0, 1) := by decide +kernel
theorem dL_law_917 : decode cL_law 917 = .ok (.iload 5, 2) := by decide +kernel
theorem dL_law_919 : decode cL_law 919 = .ok (.bipush 7, 2) := by decide +kernel
theorem dL_law_921 : decode cL_law 921 = .ok (.iadd, 1) := by decide +kernel
theorem dL_law_922 : decode cL_law 922 = .ok (.iaload, 1) := by decide +kernel
theorem dL_law_923 : decode cL_law 923 = .ok (.invokevirtual 108, 3) := by decide +kernel
theorem dL_law_926 : decode cL_law 926 = .ok (.istore 7, 2) := by decide +kernel
theorem dL_law_928 : decode cL_law 928 = .ok (.aload_n 2, 1) := by decide +kernel
theorem dL_law_929 : decode cL_law 929 = .ok (.invokevirtual 82, 3) := by decide +kernel
theorem dL_law_932 : decode cL_law 932 = .ok (.iload 6, 2) := by decide +kernel
theorem dL_law_934 : decode cL_law 934 = .ok (.if_icmp .eq 5, 3) := by decide +kernel
theorem dL_law_937 : decode cL_law 937 = .ok (.iconst 0, 1) := by decide +kernel
theorem dL_law_938 : decode cL_law 938 = .ok (.ireturn, 1) := by decide +kernel
theorem dL_law_939 : decode cL_law 939 = .ok (.iload 6, 2) := by decide +kernel
theorem dL_law_941 : decode cL_law 941 = .ok (.ifCond .ne 15, 3) := by decide +kernel
theorem dL_law_944 : decode cL_law 944 = .ok (.aload_n 3, 1) := by decide +kernel
theorem dL_law_945 : decode cL_law 945 = .ok (.iconst 0, 1) := by decide +kernel
theorem dL_law_946 : decode cL_law 946 = .ok (.laload, 1) := by decide +kernel
theorem dL_law_947 : decode cL_law 947 = .ok (.iload 7, 2) := by decide +kernel
theorem dL_law_949 : decode cL_law 949 = .ok (.i2l, 1) := by decide +kernel
theorem dL_law_950 : decode cL_law 950 = .ok (.lcmp, 1) := by decide +kernel
theorem dL_law_951 : decode cL_law 951 = .ok (.ifCond .eq 5, 3) := by decide +kernel
theorem dL_law_954 : decode cL_law 954 = .ok (.iconst 0, 1) := by decide +kernel
theorem dL_law_955 : decode cL_law 955 = .ok (.ireturn, 1) := by decide +kernel
theorem dL_law_956 : decode cL_law 956 = .ok (.goto 697, 3) := by decide +kernel
theorem dL_law_959 : decode cL_law 959 = .ok (.aload_n 1, 1) := by decide +kernel
theorem dL_law_960 : decode cL_law 960 = .ok (.aload_n 0, 1) := by decide +kernel
theorem dL_law_961 : decode cL_law 961 = .ok (.iload 5, 2) := by decide +kernel
theorem dL_law_963 : decode cL_law 963 = .ok (.iconst 1, 1) := by decide +kernel
theorem dL_law_964 : decode cL_law 964 = .ok (.iadd, 1) := by decide +kernel
theorem dL_law_965 : decode cL_law 965 = .ok (.iaload, 1) := by decide +kernel
theorem dL_law_966 : decode cL_law 966 = .ok (.aload_n 0, 1) := by decide +kernel
theorem dL_law_967 : decode cL_law 967 = .ok (.iload 5, 2) := by decide +kernel
theorem dL_law_969 : decode cL_law 969 = .ok (.iconst 2, 1) := by decide +kernel
theorem dL_law_970 : decode cL_law 970 = .ok (.iadd, 1) := by decide +kernel
theorem dL_law_971 : decode cL_law 971 = .ok (.iaload, 1) := by decide +kernel
theorem dL_law_972 : decode cL_law 972 = .ok (.aload_n 0, 1) := by decide +kernel
theorem dL_law_973 : decode cL_law 973 = .ok (.iload 5, 2) := by decide +kernel
theorem dL_law_975 : decode cL_law 975 = .ok (.iconst 3, 1) := by decide +kernel
theorem dL_law_976 : decode cL_law 976 = .ok (.iadd, 1) := by decide +kernel
theorem dL_law_977 : decode cL_law 977 = .ok (.iaload, 1) := by decide +kernel
theorem dL_law_978 : decode cL_law 978 = .ok (.i2f, 1) := by decide +kernel
theorem dL_law_979 : decode cL_law 979 = .ok (.ldc 75, 2) := by decide +kernel
theorem dL_law_981 : decode cL_law 981 = .ok (.fmul, 1) := by decide +kernel
theorem dL_law_982 : decode cL_law 982 = .ok (.aload_n 0, 1) := by decide +kernel
theorem dL_law_983 : decode cL_law 983 = .ok (.iload 5, 2) := by decide +kernel
theorem dL_law_985 : decode cL_law 985 = .ok (.iconst 4, 1) := by decide +kernel
theorem dL_law_986 : decode cL_law 986 = .ok (.iadd, 1) := by decide +kernel
theorem dL_law_987 : decode cL_law 987 = .ok (.iaload, 1) := by decide +kernel
theorem dL_law_988 : decode cL_law 988 = .ok (.aload_n 0, 1) := by decide +kernel
theorem dL_law_989 : decode cL_law 989 = .ok (.iload 5, 2) := by decide +kernel
theorem dL_law_991 : decode cL_law 991 = .ok (.iconst 5, 1) := by decide +kernel
theorem dL_law_992 : decode cL_law 992 = .ok (.iadd, 1) := by decide +kernel
theorem dL_law_993 : decode cL_law 993 = .ok (.iaload, 1) := by decide +kernel
theorem dL_law_994 : decode cL_law 994 = .ok (.i2f, 1) := by decide +kernel
theorem dL_law_995 : decode cL_law 995 = .ok (.ldc 75, 2) := by decide +kernel
theorem dL_law_997 : decode cL_law 997 = .ok (.fmul, 1) := by decide +kernel
theorem dL_law_998 : decode cL_law 998 = .ok (.aload_n 0, 1) := by decide +kernel
theorem dL_law_999 : decode cL_law 999 = .ok (.iload 5, 2) := by decide +kernel
theorem dL_law_1001 : decode cL_law 1001 = .ok (.bipush 6, 2) := by decide +kernel
theorem dL_law_1003 : decode cL_law 1003 = .ok (.iadd, 1) := by decide +kernel
theorem dL_law_1004 : decode cL_law 1004 = .ok (.iaload, 1) := by decide +kernel
theorem dL_law_1005 : decode cL_law 1005 = .ok (.aload_n 3, 1) := by decide +kernel
theorem dL_law_1006 : decode cL_law 1006 = .ok (.invokestatic 109, 3) := by decide +kernel
theorem dL_law_1009 : decode cL_law 1009 = .ok (.istore 6, 2) := by decide +kernel
theorem dL_law_1011 : decode cL_law 1011 = .ok (.aload_n 2, 1) := by decide +kernel
theorem dL_law_1012 : decode cL_law 1012 = .ok (.aload_n 0, 1) := by decide +kernel
theorem dL_law_1013 : decode cL_law 1013 = .ok (.iload 5, 2) := by decide +kernel
theorem dL_law_1015 : decode cL_law 1015 = .ok (.iconst 1, 1) := by decide +kernel
theorem dL_law_1016 : decode cL_law 1016 = .ok (.iadd, 1) := by decide +kernel
theorem dL_law_1017 : decode cL_law 1017 = .ok (.iaload, 1) := by decide +kernel
theorem dL_law_1018 : decode cL_law 1018 = .ok (.aload_n 0, 1) := by decide +kernel
theorem dL_law_1019 : decode cL_law 1019 = .ok (.iload 5, 2) := by decide +kernel
theorem dL_law_1021 : decode cL_law 1021 = .ok (.iconst 2, 1) := by decide +kernel
theorem dL_law_1022 : decode cL_law 1022 = .ok (.iadd, 1) := by decide +kernel
theorem dL_law_1023 : decode cL_law 1023 = .ok (.iaload, 1) := by decide +kernel
theorem dL_law_1024 : decode cL_law 1024 = .ok (.aload_n 0, 1) := by decide +kernel
theorem dL_law_1025 : decode cL_law 1025 = .ok (.iload 5, 2) := by decide +kernel
theorem dL_law_1027 : decode cL_law 1027 = .ok (.iconst 3, 1) := by decide +kernel
theorem dL_law_1028 : decode cL_law 1028 = .ok (.iadd, 1) := by decide +kernel
theorem dL_law_1029 : decode cL_law 1029 = .ok (.iaload, 1) := by decide +kernel
theorem dL_law_1030 : decode cL_law 1030 = .ok (.i2f, 1) := by decide +kernel
theorem dL_law_1031 : decode cL_law 1031 = .ok (.ldc 75, 2) := by decide +kernel
theorem dL_law_1033 : decode cL_law 1033 = .ok (.fmul, 1) := by decide +kernel
theorem dL_law_1034 : decode cL_law 1034 = .ok (.aload_n 0, 1) := by decide +kernel
theorem dL_law_1035 : decode cL_law 1035 = .ok (.iload 5, 2) := by decide +kernel
theorem dL_law_1037 : decode cL_law 1037 = .ok (.iconst 4, 1) := by decide +kernel
theorem dL_law_1038 : decode cL_law 1038 = .ok (.iadd, 1) := by decide +kernel
theorem dL_law_1039 : decode cL_law 1039 = .ok (.iaload, 1) := by decide +kernel
theorem dL_law_1040 : decode cL_law 1040 = .ok (.aload_n 0, 1) := by decide +kernel
theorem dL_law_1041 : decode cL_law 1041 = .ok (.iload 5, 2) := by decide +kernel
theorem dL_law_1043 : decode cL_law 1043 = .ok (.iconst 5, 1) := by decide +kernel
theorem dL_law_1044 : decode cL_law 1044 = .ok (.iadd, 1) := by decide +kernel
theorem dL_law_1045 : decode cL_law 1045 = .ok (.iaload, 1) := by decide +kernel
theorem dL_law_1046 : decode cL_law 1046 = .ok (.i2f, 1) := by decide +kernel
theorem dL_law_1047 : decode cL_law 1047 = .ok (.ldc 75, 2) := by decide +kernel
theorem dL_law_1049 : decode cL_law 1049 = .ok (.fmul, 1) := by decide +kernel
theorem dL_law_1050 : decode cL_law 1050 = .ok (.aload_n 0, 1) := by decide +kernel
theorem dL_law_1051 : decode cL_law 1051 = .ok (.iload 5, 2) := by decide +kernel
theorem dL_law_1053 : decode cL_law 1053 = .ok (.bipush 6, 2) := by decide +kernel
theorem dL_law_1055 : decode cL_law 1055 = .ok (.iadd, 1) := by decide +kernel
theorem dL_law_1056 : decode cL_law 1056 = .ok (.iaload, 1) := by decide +kernel
theorem dL_law_1057 : decode cL_law 1057 = .ok (.invokevirtual 112, 3) := by decide +kernel
theorem dL_law_1060 : decode cL_law 1060 = .ok (.istore 7, 2) := by decide +kernel
theorem dL_law_1062 : decode cL_law 1062 = .ok (.aload_n 2, 1) := by decide +kernel
theorem dL_law_1063 : decode cL_law 1063 = .ok (.invokevirtual 82, 3) := by decide +kernel
theorem dL_law_1066 : decode cL_law 1066 = .ok (.iload 6, 2) := by decide +kernel
theorem dL_law_1068 : decode cL_law 1068 = .ok (.if_icmp .eq 5, 3) := by decide +kernel
theorem dL_law_1071 : decode cL_law 1071 = .ok (.iconst 0, 1) := by decide +kernel
theorem dL_law_1072 : decode cL_law 1072 = .ok (.ireturn, 1) := by decide +kernel
theorem dL_law_1073 : decode cL_law 1073 = .ok (.iload 6, 2) := by decide +kernel
theorem dL_law_1075 : decode cL_law 1075 = .ok (.ifCond .ne 15, 3) := by decide +kernel
theorem dL_law_1078 : decode cL_law 1078 = .ok (.aload_n 3, 1) := by decide +kernel
theorem dL_law_1079 : decode cL_law 1079 = .ok (.iconst 0, 1) := by decide +kernel
theorem dL_law_1080 : decode cL_law 1080 = .ok (.laload, 1) := by decide +kernel
theorem dL_law_1081 : decode cL_law 1081 = .ok (.iload 7, 2) := by decide +kernel
theorem dL_law_1083 : decode cL_law 1083 = .ok (.i2l, 1) := by decide +kernel
theorem dL_law_1084 : decode cL_law 1084 = .ok (.lcmp, 1) := by decide +kernel
theorem dL_law_1085 : decode cL_law 1085 = .ok (.ifCond .eq 5, 3) := by decide +kernel
theorem dL_law_1088 : decode cL_law 1088 = .ok (.iconst 0, 1) := by decide +kernel
theorem dL_law_1089 : decode cL_law 1089 = .ok (.ireturn, 1) := by decide +kernel
theorem dL_law_1090 : decode cL_law 1090 = .ok (.goto 563, 3) := by decide +kernel
theorem dL_law_1093 : decode cL_law 1093 = .ok (.aload_n 1, 1) := by decide +kernel
theorem dL_law_1094 : decode cL_law 1094 = .ok (.invokevirtual 113, 3) := by decide +kernel
theorem dL_law_1097 : decode cL_law 1097 = .ok (.aload_n 2, 1) := by decide +kernel
theorem dL_law_1098 : decode cL_law 1098 = .ok (.invokevirtual 116, 3) := by decide +kernel
theorem dL_law_1101 : decode cL_law 1101 = .ok (.if_icmp .eq 552, 3) := by decide +kernel
theorem dL_law_1104 : decode cL_law 1104 = .ok (.iconst 0, 1) := by decide +kernel
theorem dL_law_1105 : decode cL_law 1105 = .ok (.ireturn, 1) := by decide +kernel
theorem dL_law_1106 : decode cL_law 1106 = .ok (.aload_n 1, 1) := by decide +kernel
theorem dL_law_1107 : decode cL_law 1107 = .ok (.aload_n 0, 1) := by decide +kernel
theorem dL_law_1108 : decode cL_law 1108 = .ok (.iload 5, 2) := by decide +kernel
theorem dL_law_1110 : decode cL_law 1110 = .ok (.iconst 1, 1) := by decide +kernel
theorem dL_law_1111 : decode cL_law 1111 = .ok (.iadd, 1) := by decide +kernel
theorem dL_law_1112 : decode cL_law 1112 = .ok (.iaload, 1) := by decide +kernel
theorem dL_law_1113 : decode cL_law 1113 = .ok (.aload_n 0, 1) := by decide +kernel
theorem dL_law_1114 : decode cL_law 1114 = .ok (.iload 5, 2) := by decide +kernel
theorem dL_law_1116 : decode cL_law 1116 = .ok (.iconst 2, 1) := by decide +kernel
theorem dL_law_1117 : decode cL_law 1117 = .ok (.iadd, 1) := by decide +kernel
theorem dL_law_1118 : decode cL_law 1118 = .ok (.iaload, 1) := by decide +kernel
theorem dL_law_1119 : decode cL_law 1119 = .ok (.i2f, 1) := by decide +kernel
theorem dL_law_1120 : decode cL_law 1120 = .ok (.ldc 75, 2) := by decide +kernel
theorem dL_law_1122 : decode cL_law 1122 = .ok (.fmul, 1) := by decide +kernel
theorem dL_law_1123 : decode cL_law 1123 = .ok (.aload_n 0, 1) := by decide +kernel
theorem dL_law_1124 : decode cL_law 1124 = .ok (.iload 5, 2) := by decide +kernel
theorem dL_law_1126 : decode cL_law 1126 = .ok (.iconst 3, 1) := by decide +kernel
theorem dL_law_1127 : decode cL_law 1127 = .ok (.iadd, 1) := by decide +kernel
theorem dL_law_1128 : decode cL_law 1128 = .ok (.iaload, 1) := by decide +kernel
theorem dL_law_1129 : decode cL_law 1129 = .ok (.i2f, 1) := by decide +kernel
theorem dL_law_1130 : decode cL_law 1130 = .ok (.ldc 75, 2) := by decide +kernel
theorem dL_law_1132 : decode cL_law 1132 = .ok (.fmul, 1) := by decide +kernel
theorem dL_law_1133 : decode cL_law 1133 = .ok (.aload_n 0, 1) := by decide +kernel
theorem dL_law_1134 : decode cL_law 1134 = .ok (.iload 5, 2) := by decide +kernel
theorem dL_law_1136 : decode cL_law 1136 = .ok (.iconst 4, 1) := by decide +kernel
theorem dL_law_1137 : decode cL_law 1137 = .ok (.iadd, 1) := by decide +kernel
theorem dL_law_1138 : decode cL_law 1138 = .ok (.iaload, 1) := by decide +kernel
theorem dL_law_1139 : decode cL_law 1139 = .ok (.invokestatic 117, 3) := by decide +kernel
theorem dL_law_1142 : decode cL_law 1142 = .ok (.istore 6, 2) := by decide +kernel
theorem dL_law_1144 : decode cL_law 1144 = .ok (.aload_n 2, 1) := by decide +kernel
theorem dL_law_1145 : decode cL_law 1145 = .ok (.aload_n 0, 1) := by decide +kernel
theorem dL_law_1146 : decode cL_law 1146 = .ok (.iload 5, 2) := by decide +kernel
theorem dL_law_1148 : decode cL_law 1148 = .ok (.iconst 1, 1) := by decide +kernel
theorem dL_law_1149 : decode cL_law 1149 = .ok (.iadd, 1) := by decide +kernel
theorem dL_law_1150 : decode cL_law 1150 = .ok (.iaload, 1) := by decide +kernel
theorem dL_law_1151 : decode cL_law 1151 = .ok (.aload_n 0, 1) := by decide +kernel
theorem dL_law_1152 : decode cL_law 1152 = .ok (.iload 5, 2) := by decide +kernel
theorem dL_law_1154 : decode cL_law 1154 = .ok (.iconst 2, 1) := by decide +kernel
theorem dL_law_1155 : decode cL_law 1155 = .ok (.iadd, 1) := by decide +kernel
theorem dL_law_1156 : decode cL_law 1156 = .ok (.iaload, 1) := by decide +kernel
theorem dL_law_1157 : decode cL_law 1157 = .ok (.i2f, 1) := by decide +kernel
theorem dL_law_1158 : decode cL_law 1158 = .ok (.ldc 75, 2) := by decide +kernel
theorem dL_law_1160 : decode cL_law 1160 = .ok (.fmul, 1) := by decide +kernel
theorem dL_law_1161 : decode cL_law 1161 = .ok (.aload_n 0, 1) := by decide +kernel
theorem dL_law_1162 : decode cL_law 1162 = .ok (.iload 5, 2) := by decide +kernel
theorem dL_law_1164 : decode cL_law 1164 = .ok (.iconst 3, 1) := by decide +kernel
theorem dL_law_1165 : decode cL_law 1165 = .ok (.iadd, 1) := by decide +kernel
theorem dL_law_1166 : decode cL_law 1166 = .ok (.iaload, 1) := by decide +kernel
theorem dL_law_1167 : decode cL_law 1167 = .ok (.i2f, 1) := by decide +kernel
theorem dL_law_1168 : decode cL_law 1168 = .ok (.ldc 75, 2) := by decide +kernel
theorem dL_law_1170 : decode cL_law 1170 = .ok (.fmul, 1) := by decide +kernel
theorem dL_law_1171 : decode cL_law 1171 = .ok (.aload_n 0, 1) := by decide +kernel
theorem dL_law_1172 : decode cL_law 1172 = .ok (.iload 5, 2) := by decide +kernel
theorem dL_law_1174 : decode cL_law 1174 = .ok (.iconst 4, 1) := by decide +kernel
theorem dL_law_1175 : decode cL_law 1175 = .ok (.iadd, 1) := by decide +kernel
theorem dL_law_1176 : decode cL_law 1176 = .ok (.iaload, 1) := by decide +kernel
theorem dL_law_1177 : decode cL_law 1177 = .ok (.invokevirtual 120, 3) := by decide +kernel
theorem dL_law_1180 : decode cL_law 1180 = .ok (.aload_n 2, 1) := by decide +kernel
theorem dL_law_1181 : decode cL_law 1181 = .ok (.invokevirtual 82, 3) := by decide +kernel
theorem dL_law_1184 : decode cL_law 1184 = .ok (.iload 6, 2) := by decide +kernel
theorem dL_law_1186 : decode cL_law 1186 = .ok (.if_icmp .eq 5, 3) := by decide +kernel
theorem dL_law_1189 : decode cL_law 1189 = .ok (.iconst 0, 1) := by decide +kernel
theorem dL_law_1190 : decode cL_law 1190 = .ok (.ireturn, 1) := by decide +kernel
theorem dL_law_1191 : decode cL_law 1191 = .ok (.goto 462, 3) := by decide +kernel
theorem dL_law_1194 : decode cL_law 1194 = .ok (.aload_n 1, 1) := by decide +kernel
theorem dL_law_1195 : decode cL_law 1195 = .ok (.aload_n 0, 1) := by decide +kernel
theorem dL_law_1196 : decode cL_law 1196 = .ok (.iload 5, 2) := by decide +kernel
theorem dL_law_1198 : decode cL_law 1198 = .ok (.iconst 1, 1) := by decide +kernel
theorem dL_law_1199 : decode cL_law 1199 = .ok (.iadd, 1) := by decide +kernel
theorem dL_law_1200 : decode cL_law 1200 = .ok (.iaload, 1) := by decide +kernel
theorem dL_law_1201 : decode cL_law 1201 = .ok (.aload_n 3, 1) := by decide +kernel
theorem dL_law_1202 : decode cL_law 1202 = .ok (.invokestatic 121, 3) := by decide +kernel
theorem dL_law_1205 : decode cL_law 1205 = .ok (.istore 6, 2) := by decide +kernel
theorem dL_law_1207 : decode cL_law 1207 = .ok (.aload_n 2, 1) := by decide +kernel
theorem dL_law_1208 : decode cL_law 1208 = .ok (.aload_n 0, 1) := by decide +kernel
theorem dL_law_1209 : decode cL_law 1209 = .ok (.iload 5, 2) := by decide +kernel
theorem dL_law_1211 : decode cL_law 1211 = .ok (.iconst 1, 1) := by decide +kernel
theorem dL_law_1212 : decode cL_law 1212 = .ok (.iadd, 1) := by decide +kernel
theorem dL_law_1213 : decode cL_law 1213 = .ok (.iaload, 1) := by decide +kernel
theorem dL_law_1214 : decode cL_law 1214 = .ok (.invokevirtual 123, 3) := by decide +kernel
theorem dL_law_1217 : decode cL_law 1217 = .ok (.istore 7, 2) := by decide +kernel
theorem dL_law_1219 : decode cL_law 1219 = .ok (.aload_n 2, 1) := by decide +kernel
theorem dL_law_1220 : decode cL_law 1220 = .ok (.invokevirtual 82, 3) := by decide +kernel
theorem dL_law_1223 : decode cL_law 1223 = .ok (.iload 6, 2) := by decide +kernel
theorem dL_law_1225 : decode cL_law 1225 = .ok (.if_icmp .eq 5, 3) := by decide +kernel
theorem dL_law_1228 : decode cL_law 1228 = .ok (.iconst 0, 1) := by decide +kernel
theorem dL_law_1229 : decode cL_law 1229 = .ok (.ireturn, 1) := by decide +kernel
theorem dL_law_1230 : decode cL_law 1230 = .ok (.iload 6, 2) := by decide +kernel
theorem dL_law_1232 : decode cL_law 1232 = .ok (.ifCond .ne 15, 3) := by decide +kernel
theorem dL_law_1235 : decode cL_law 1235 = .ok (.aload_n 3, 1) := by decide +kernel
theorem dL_law_1236 : decode cL_law 1236 = .ok (.iconst 0, 1) := by decide +kernel
theorem dL_law_1237 : decode cL_law 1237 = .ok (.laload, 1) := by decide +kernel
theorem dL_law_1238 : decode cL_law 1238 = .ok (.iload 7, 2) := by decide +kernel
theorem dL_law_1240 : decode cL_law 1240 = .ok (.i2l, 1) := by decide +kernel
theorem dL_law_1241 : decode cL_law 1241 = .ok (.lcmp, 1) := by decide +kernel
theorem dL_law_1242 : decode cL_law 1242 = .ok (.ifCond .eq 5, 3) := by decide +kernel
theorem dL_law_1245 : decode cL_law 1245 = .ok (.iconst 0, 1) := by decide +kernel
theorem dL_law_1246 : decode cL_law 1246 = .ok (.ireturn, 1) := by decide +kernel
theorem dL_law_1247 : decode cL_law 1247 = .ok (.goto 406, 3) := by decide +kernel
theorem dL_law_1250 : decode cL_law 1250 = .ok (.aload_n 1, 1) := by decide +kernel
theorem dL_law_1251 : decode cL_law 1251 = .ok (.aload_n 0, 1) := by decide +kernel
theorem dL_law_1252 : decode cL_law 1252 = .ok (.iload 5, 2) := by decide +kernel
theorem dL_law_1254 : decode cL_law 1254 = .ok (.iconst 1, 1) := by decide +kernel
theorem dL_law_1255 : decode cL_law 1255 = .ok (.iadd, 1) := by decide +kernel
theorem dL_law_1256 : decode cL_law 1256 = .ok (.iaload, 1) := by decide +kernel
theorem dL_law_1257 : decode cL_law 1257 = .ok (.aload_n 3, 1) := by decide +kernel
theorem dL_law_1258 : decode cL_law 1258 = .ok (.invokestatic 124, 3) := by decide +kernel
theorem dL_law_1261 : decode cL_law 1261 = .ok (.istore 6, 2) := by decide +kernel
theorem dL_law_1263 : decode cL_law 1263 = .ok (.aload_n 2, 1) := by decide +kernel
theorem dL_law_1264 : decode cL_law 1264 = .ok (.aload_n 0, 1) := by decide +kernel
theorem dL_law_1265 : decode cL_law 1265 = .ok (.iload 5, 2) := by decide +kernel
theorem dL_law_1267 : decode cL_law 1267 = .ok (.iconst 1, 1) := by decide +kernel
theorem dL_law_1268 : decode cL_law 1268 = .ok (.iadd, 1) := by decide +kernel
theorem dL_law_1269 : decode cL_law 1269 = .ok (.iaload, 1) := by decide +kernel
theorem dL_law_1270 : decode cL_law 1270 = .ok (.invokevirtual 126, 3) := by decide +kernel
theorem dL_law_1273 : decode cL_law 1273 = .ok (.istore 7, 2) := by decide +kernel
theorem dL_law_1275 : decode cL_law 1275 = .ok (.aload_n 2, 1) := by decide +kernel
theorem dL_law_1276 : decode cL_law 1276 = .ok (.invokevirtual 82, 3) := by decide +kernel
theorem dL_law_1279 : decode cL_law 1279 = .ok (.iload 6, 2) := by decide +kernel
theorem dL_law_1281 : decode cL_law 1281 = .ok (.if_icmp .eq 5, 3) := by decide +kernel
theorem dL_law_1284 : decode cL_law 1284 = .ok (.iconst 0, 1) := by decide +kernel
theorem dL_law_1285 : decode cL_law 1285 = .ok (.ireturn, 1) := by decide +kernel
theorem dL_law_1286 : decode cL_law 1286 = .ok (.iload 6, 2) := by decide +kernel
theorem dL_law_1288 : decode cL_law 1288 = .ok (.ifCond .ne 15, 3) := by decide +kernel
theorem dL_law_1291 : decode cL_law 1291 = .ok (.aload_n 3, 1) := by decide +kernel
theorem dL_law_1292 : decode cL_law 1292 = .ok (.iconst 0, 1) := by decide +kernel
theorem dL_law_1293 : decode cL_law 1293 = .ok (.laload, 1) := by decide +kernel
theorem dL_law_1294 : decode cL_law 1294 = .ok (.iload 7, 2) := by decide +kernel
theorem dL_law_1296 : decode cL_law 1296 = .ok (.i2l, 1) := by decide +kernel
theorem dL_law_1297 : decode cL_law 1297 = .ok (.lcmp, 1) := by decide +kernel
theorem dL_law_1298 : decode cL_law 1298 = .ok (.ifCond .eq 5, 3) := by decide +kernel
theorem dL_law_1301 : decode cL_law 1301 = .ok (.iconst 0, 1) := by decide +kernel
theorem dL_law_1302 : decode cL_law 1302 = .ok (.ireturn, 1) := by decide +kernel
theorem dL_law_1303 : decode cL_law 1303 = .ok (.goto 350, 3) := by decide +kernel
theorem dL_law_1306 : decode cL_law 1306 = .ok (.aload_n 1, 1) := by decide +kernel
theorem dL_law_1307 : decode cL_law 1307 = .ok (.aload_n 0, 1) := by decide +kernel
theorem dL_law_1308 : decode cL_law 1308 = .ok (.iload 5, 2) := by decide +kernel
theorem dL_law_1310 : decode cL_law 1310 = .ok (.iconst 1, 1) := by decide +kernel
theorem dL_law_1311 : decode cL_law 1311 = .ok (.iadd, 1) := by decide +kernel
theorem dL_law_1312 : decode cL_law 1312 = .ok (.iaload, 1) := by decide +kernel
theorem dL_law_1313 : decode cL_law 1313 = .ok (.aload_n 0, 1) := by decide +kernel
theorem dL_law_1314 : decode cL_law 1314 = .ok (.iload 5, 2) := by decide +kernel
theorem dL_law_1316 : decode cL_law 1316 = .ok (.iconst 2, 1) := by decide +kernel
theorem dL_law_1317 : decode cL_law 1317 = .ok (.iadd, 1) := by decide +kernel
theorem dL_law_1318 : decode cL_law 1318 = .ok (.iaload, 1) := by decide +kernel
theorem dL_law_1319 : decode cL_law 1319 = .ok (.aload 4, 2) := by decide +kernel
theorem dL_law_1321 : decode cL_law 1321 = .ok (.invokestatic 127, 3) := by decide +kernel
theorem dL_law_1324 : decode cL_law 1324 = .ok (.istore 6, 2) := by decide +kernel
theorem dL_law_1326 : decode cL_law 1326 = .ok (.aload_n 2, 1) := by decide +kernel
theorem dL_law_1327 : decode cL_law 1327 = .ok (.aload_n 0, 1) := by decide +kernel
theorem dL_law_1328 : decode cL_law 1328 = .ok (.iload 5, 2) := by decide +kernel
theorem dL_law_1330 : decode cL_law 1330 = .ok (.iconst 1, 1) := by decide +kernel
theorem dL_law_1331 : decode cL_law 1331 = .ok (.iadd, 1) := by decide +kernel
theorem dL_law_1332 : decode cL_law 1332 = .ok (.iaload, 1) := by decide +kernel
theorem dL_law_1333 : decode cL_law 1333 = .ok (.aload_n 0, 1) := by decide +kernel
theorem dL_law_1334 : decode cL_law 1334 = .ok (.iload 5, 2) := by decide +kernel
theorem dL_law_1336 : decode cL_law 1336 = .ok (.iconst 2, 1) := by decide +kernel
theorem dL_law_1337 : decode cL_law 1337 = .ok (.iadd, 1) := by decide +kernel
theorem dL_law_1338 : decode cL_law 1338 = .ok (.iaload, 1) := by decide +kernel
theorem dL_law_1339 : decode cL_law 1339 = .ok (.invokevirtual 130, 3) := by decide +kernel
theorem dL_law_1342 : decode cL_law 1342 = .ok (.fstore 7, 2) := by decide +kernel
theorem dL_law_1344 : decode cL_law 1344 = .ok (.aload_n 2, 1) := by decide +kernel
theorem dL_law_1345 : decode cL_law 1345 = .ok (.invokevirtual 82, 3) := by decide +kernel
theorem dL_law_1348 : decode cL_law 1348 = .ok (.iload 6, 2) := by decide +kernel
theorem dL_law_1350 : decode cL_law 1350 = .ok (.if_icmp .eq 5, 3) := by decide +kernel
theorem dL_law_1353 : decode cL_law 1353 = .ok (.iconst 0, 1) := by decide +kernel
theorem dL_law_1354 : decode cL_law 1354 = .ok (.ireturn, 1) := by decide +kernel
theorem dL_law_1355 : decode cL_law 1355 = .ok (.iload 6, 2) := by decide +kernel
theorem dL_law_1357 : decode cL_law 1357 = .ok (.ifCond .ne 36, 3) := by decide +kernel
theorem dL_law_1360 : decode cL_law 1360 = .ok (.aload 4, 2) := by decide +kernel
theorem dL_law_1362 : decode cL_law 1362 = .ok (.iconst 0, 1) := by decide +kernel
theorem dL_law_1363 : decode cL_law 1363 = .ok (.daload, 1) := by decide +kernel
theorem dL_law_1364 : decode cL_law 1364 = .ok (.fload 7, 2) := by decide +kernel
theorem dL_law_1366 : decode cL_law 1366 = .ok (.f2d, 1) := by decide +kernel
theorem dL_law_1367 : decode cL_law 1367 = .ok (.dcmp .l, 1) := by decide +kernel
theorem dL_law_1368 : decode cL_law 1368 = .ok (.ifCond .eq 25, 3) := by decide +kernel
theorem dL_law_1371 : decode cL_law 1371 = .ok (.aload 4, 2) := by decide +kernel
theorem dL_law_1373 : decode cL_law 1373 = .ok (.iconst 0, 1) := by decide +kernel
theorem dL_law_1374 : decode cL_law 1374 = .ok (.daload, 1) := by decide +kernel
theorem dL_law_1375 : decode cL_law 1375 = .ok (.aload 4, 2) := by decide +kernel
theorem dL_law_1377 : decode cL_law 1377 = .ok (.iconst 0, 1) := by decide +kernel
theorem dL_law_1378 : decode cL_law 1378 = .ok (.daload, 1) := by decide +kernel
theorem dL_law_1379 : decode cL_law 1379 = .ok (.dcmp .l, 1) := by decide +kernel
theorem dL_law_1380 : decode cL_law 1380 = .ok (.ifCond .eq 11, 3) := by decide +kernel
theorem dL_law_1383 : decode cL_law 1383 = .ok (.fload 7, 2) := by decide +kernel
theorem dL_law_1385 : decode cL_law 1385 = .ok (.fload 7, 2) := by decide +kernel
theorem dL_law_1387 : decode cL_law 1387 = .ok (.fcmp .l, 1) := by decide +kernel
theorem dL_law_1388 : decode cL_law 1388 = .ok (.ifCond .ne 5, 3) := by decide +kernel
theorem dL_law_1391 : decode cL_law 1391 = .ok (.iconst 0, 1) := by decide +kernel
theorem dL_law_1392 : decode cL_law 1392 = .ok (.ireturn, 1) := by decide +kernel
theorem dL_law_1393 : decode cL_law 1393 = .ok (.goto 260, 3) := by decide +kernel
theorem dL_law_1396 : decode cL_law 1396 = .ok (.aload_n 1, 1) := by decide +kernel
theorem dL_law_1397 : decode cL_law 1397 = .ok (.aload_n 0, 1) := by decide +kernel
theorem dL_law_1398 : decode cL_law 1398 = .ok (.iload 5, 2) := by decide +kernel
theorem dL_law_1400 : decode cL_law 1400 = .ok (.iconst 1, 1) := by decide +kernel
theorem dL_law_1401 : decode cL_law 1401 = .ok (.iadd, 1) := by decide +kernel
theorem dL_law_1402 : decode cL_law 1402 = .ok (.iaload, 1) := by decide +kernel
theorem dL_law_1403 : decode cL_law 1403 = .ok (.aload_n 0, 1) := by decide +kernel
theorem dL_law_1404 : decode cL_law 1404 = .ok (.iload 5, 2) := by decide +kernel
theorem dL_law_1406 : decode cL_law 1406 = .ok (.iconst 2, 1) := by decide +kernel
theorem dL_law_1407 : decode cL_law 1407 = .ok (.iadd, 1) := by decide +kernel
theorem dL_law_1408 : decode cL_law 1408 = .ok (.iaload, 1) := by decide +kernel
theorem dL_law_1409 : decode cL_law 1409 = .ok (.aload_n 3, 1) := by decide +kernel
theorem dL_law_1410 : decode cL_law 1410 = .ok (.invokestatic 131, 3) := by decide +kernel
theorem dL_law_1413 : decode cL_law 1413 = .ok (.istore 6, 2) := by decide +kernel
theorem dL_law_1415 : decode cL_law 1415 = .ok (.aload_n 2, 1) := by decide +kernel
theorem dL_law_1416 : decode cL_law 1416 = .ok (.aload_n 0, 1) := by decide +kernel
theorem dL_law_1417 : decode cL_law 1417 = .ok (.iload 5, 2) := by decide +kernel
theorem dL_law_1419 : decode cL_law 1419 = .ok (.iconst 1, 1) := by decide +kernel
theorem dL_law_1420 : decode cL_law 1420 = .ok (.iadd, 1) := by decide +kernel
theorem dL_law_1421 : decode cL_law 1421 = .ok (.iaload, 1) := by decide +kernel
theorem dL_law_1422 : decode cL_law 1422 = .ok (.aload_n 0, 1) := by decide +kernel
theorem dL_law_1423 : decode cL_law 1423 = .ok (.iload 5, 2) := by decide +kernel
theorem dL_law_1425 : decode cL_law 1425 = .ok (.iconst 2, 1) := by decide +kernel
theorem dL_law_1426 : decode cL_law 1426 = .ok (.iadd, 1) := by decide +kernel
theorem dL_law_1427 : decode cL_law 1427 = .ok (.iaload, 1) := by decide +kernel
theorem dL_law_1428 : decode cL_law 1428 = .ok (.invokevirtual 134, 3) := by decide +kernel
theorem dL_law_1431 : decode cL_law 1431 = .ok (.istore 7, 2) := by decide +kernel
theorem dL_law_1433 : decode cL_law 1433 = .ok (.aload_n 2, 1) := by decide +kernel
theorem dL_law_1434 : decode cL_law 1434 = .ok (.invokevirtual 82, 3) := by decide +kernel
theorem dL_law_1437 : decode cL_law 1437 = .ok (.iload 6, 2) := by decide +kernel
theorem dL_law_1439 : decode cL_law 1439 = .ok (.if_icmp .eq 5, 3) := by decide +kernel
theorem dL_law_1442 : decode cL_law 1442 = .ok (.iconst 0, 1) := by decide +kernel
theorem dL_law_1443 : decode cL_law 1443 = .ok (.ireturn, 1) := by decide +kernel
theorem dL_law_1444 : decode cL_law 1444 = .ok (.iload 6, 2) := by decide +kernel
theorem dL_law_1446 : decode cL_law 1446 = .ok (.ifCond .ne 15, 3) := by decide +kernel
theorem dL_law_1449 : decode cL_law 1449 = .ok (.aload_n 3, 1) := by decide +kernel
theorem dL_law_1450 : decode cL_law 1450 = .ok (.iconst 0, 1) := by decide +kernel
theorem dL_law_1451 : decode cL_law 1451 = .ok (.laload, 1) := by decide +kernel
theorem dL_law_1452 : decode cL_law 1452 = .ok (.iload 7, 2) := by decide +kernel
theorem dL_law_1454 : decode cL_law 1454 = .ok (.i2l, 1) := by decide +kernel
theorem dL_law_1455 : decode cL_law 1455 = .ok (.lcmp, 1) := by decide +kernel
theorem dL_law_1456 : decode cL_law 1456 = .ok (.ifCond .eq 5, 3) := by decide +kernel
theorem dL_law_1459 : decode cL_law 1459 = .ok (.iconst 0, 1) := by decide +kernel
theorem dL_law_1460 : decode cL_law 1460 = .ok (.ireturn, 1) := by decide +kernel
theorem dL_law_1461 : decode cL_law 1461 = .ok (.goto 192, 3) := by decide +kernel
theorem dL_law_1464 : decode cL_law 1464 = .ok (.aload_n 1, 1) := by decide +kernel
theorem dL_law_1465 : decode cL_law 1465 = .ok (.aload_n 0, 1) := by decide +kernel
theorem dL_law_1466 : decode cL_law 1466 = .ok (.iload 5, 2) := by decide +kernel
theorem dL_law_1468 : decode cL_law 1468 = .ok (.iconst 1, 1) := by decide +kernel
theorem dL_law_1469 : decode cL_law 1469 = .ok (.iadd, 1) := by decide +kernel
theorem dL_law_1470 : decode cL_law 1470 = .ok (.iaload, 1) := by decide +kernel
theorem dL_law_1471 : decode cL_law 1471 = .ok (.aload_n 0, 1) := by decide +kernel
theorem dL_law_1472 : decode cL_law 1472 = .ok (.iload 5, 2) := by decide +kernel
theorem dL_law_1474 : decode cL_law 1474 = .ok (.iconst 2, 1) := by decide +kernel
theorem dL_law_1475 : decode cL_law 1475 = .ok (.iadd, 1) := by decide +kernel
theorem dL_law_1476 : decode cL_law 1476 = .ok (.iaload, 1) := by decide +kernel
theorem dL_law_1477 : decode cL_law 1477 = .ok (.aload 4, 2) := by decide +kernel
theorem dL_law_1479 : decode cL_law 1479 = .ok (.invokestatic 135, 3) := by decide +kernel
theorem dL_law_1482 : decode cL_law 1482 = .ok (.istore 6, 2) := by decide +kernel
theorem dL_law_1484 : decode cL_law 1484 = .ok (.aload_n 2, 1) := by decide +kernel
theorem dL_law_1485 : decode cL_law 1485 = .ok (.aload_n 0, 1) := by decide +kernel
theorem dL_law_1486 : decode cL_law 1486 = .ok (.iload 5, 2) := by decide +kernel
theorem dL_law_1488 : decode cL_law 1488 = .ok (.iconst 1, 1) := by decide +kernel
theorem dL_law_1489 : decode cL_law 1489 = .ok (.iadd, 1) := by decide +kernel
theorem dL_law_1490 : decode cL_law 1490 = .ok (.iaload, 1) := by decide +kernel
theorem dL_law_1491 : decode cL_law 1491 = .ok (.aload_n 0, 1) := by decide +kernel
theorem dL_law_1492 : decode cL_law 1492 = .ok (.iload 5, 2) := by decide +kernel
theorem dL_law_1494 : decode cL_law 1494 = .ok (.iconst 2, 1) := by decide +kernel
theorem dL_law_1495 : decode cL_law 1495 = .ok (.iadd, 1) := by decide +kernel
theorem dL_law_1496 : decode cL_law 1496 = .ok (.iaload, 1) := by decide +kernel
theorem dL_law_1497 : decode cL_law 1497 = .ok (.invokevirtual 137, 3) := by decide +kernel
theorem dL_law_1500 : decode cL_law 1500 = .ok (.fstore 7, 2) := by decide +kernel
theorem dL_law_1502 : decode cL_law 1502 = .ok (.aload_n 2, 1) := by decide +kernel
theorem dL_law_1503 : decode cL_law 1503 = .ok (.invokevirtual 82, 3) := by decide +kernel
theorem dL_law_1506 : decode cL_law 1506 = .ok (.iload 6, 2) := by decide +kernel
theorem dL_law_1508 : decode cL_law 1508 = .ok (.if_icmp .eq 5, 3) := by decide +kernel
theorem dL_law_1511 : decode cL_law 1511 = .ok (.iconst 0, 1) := by decide +kernel
theorem dL_law_1512 : decode cL_law 1512 = .ok (.ireturn, 1) := by decide +kernel
theorem dL_law_1513 : decode cL_law 1513 = .ok (.iload 6, 2) := by decide +kernel
theorem dL_law_1515 : decode cL_law 1515 = .ok (.ifCond .ne 36, 3) := by decide +kernel
theorem dL_law_1518 : decode cL_law 1518 = .ok (.aload 4, 2) := by decide +kernel
theorem dL_law_1520 : decode cL_law 1520 = .ok (.iconst 0, 1) := by decide +kernel
theorem dL_law_1521 : decode cL_law 1521 = .ok (.daload, 1) := by decide +kernel
theorem dL_law_1522 : decode cL_law 1522 = .ok (.fload 7, 2) := by decide +kernel
theorem dL_law_1524 : decode cL_law 1524 = .ok (.f2d, 1) := by decide +kernel
theorem dL_law_1525 : decode cL_law 1525 = .ok (.dcmp .l, 1) := by decide +kernel
theorem dL_law_1526 : decode cL_law 1526 = .ok (.ifCond .eq 25, 3) := by decide +kernel
theorem dL_law_1529 : decode cL_law 1529 = .ok (.aload 4, 2) := by decide +kernel
theorem dL_law_1531 : decode cL_law 1531 = .ok (.iconst 0, 1) := by decide +kernel
theorem dL_law_1532 : decode cL_law 1532 = .ok (.daload, 1) := by decide +kernel
theorem dL_law_1533 : decode cL_law 1533 = .ok (.aload 4, 2) := by decide +kernel
theorem dL_law_1535 : decode cL_law 1535 = .ok (.iconst 0, 1) := by decide +kernel
theorem dL_law_1536 : decode cL_law 1536 = .ok (.daload, 1) := by decide +kernel
theorem dL_law_1537 : decode cL_law 1537 = .ok (.dcmp .l, 1) := by decide +kernel
theorem dL_law_1538 : decode cL_law 1538 = .ok (.ifCond .eq 11, 3) := by decide +kernel
theorem dL_law_1541 : decode cL_law 1541 = .ok (.fload 7, 2) := by decide +kernel
theorem dL_law_1543 : decode cL_law 1543 = .ok (.fload 7, 2) := by decide +kernel
theorem dL_law_1545 : decode cL_law 1545 = .ok (.fcmp .l, 1) := by decide +kernel
theorem dL_law_1546 : decode cL_law 1546 = .ok (.ifCond .ne 5, 3) := by decide +kernel
theorem dL_law_1549 : decode cL_law 1549 = .ok (.iconst 0, 1) := by decide +kernel
theorem dL_law_1550 : decode cL_law 1550 = .ok (.ireturn, 1) := by decide +kernel
theorem dL_law_1551 : decode cL_law 1551 = .ok (.goto 102, 3) := by decide +kernel
theorem dL_law_1554 : decode cL_law 1554 = .ok (.aload_n 1, 1) := by decide +kernel
theorem dL_law_1555 : decode cL_law 1555 = .ok (.aload_n 0, 1) := by decide +kernel
theorem dL_law_1556 : decode cL_law 1556 = .ok (.iload 5, 2) := by decide +kernel
theorem dL_law_1558 : decode cL_law 1558 = .ok (.iconst 1, 1) := by decide +kernel
theorem dL_law_1559 : decode cL_law 1559 = .ok (.iadd, 1) := by decide +kernel
theorem dL_law_1560 : decode cL_law 1560 = .ok (.iaload, 1) := by decide +kernel
theorem dL_law_1561 : decode cL_law 1561 = .ok (.aload_n 3, 1) := by decide +kernel
theorem dL_law_1562 : decode cL_law 1562 = .ok (.invokestatic 138, 3) := by decide +kernel
theorem dL_law_1565 : decode cL_law 1565 = .ok (.istore 6, 2) := by decide +kernel
theorem dL_law_1567 : decode cL_law 1567 = .ok (.aload_n 2, 1) := by decide +kernel
theorem dL_law_1568 : decode cL_law 1568 = .ok (.aload_n 0, 1) := by decide +kernel
theorem dL_law_1569 : decode cL_law 1569 = .ok (.iload 5, 2) := by decide +kernel
theorem dL_law_1571 : decode cL_law 1571 = .ok (.iconst 1, 1) := by decide +kernel
theorem dL_law_1572 : decode cL_law 1572 = .ok (.iadd, 1) := by decide +kernel
theorem dL_law_1573 : decode cL_law 1573 = .ok (.iaload, 1) := by decide +kernel
theorem dL_law_1574 : decode cL_law 1574 = .ok (.invokevirtual 140, 3) := by decide +kernel
theorem dL_law_1577 : decode cL_law 1577 = .ok (.istore 7, 2) := by decide +kernel
theorem dL_law_1579 : decode cL_law 1579 = .ok (.aload_n 2, 1) := by decide +kernel
theorem dL_law_1580 : decode cL_law 1580 = .ok (.invokevirtual 82, 3) := by decide +kernel
theorem dL_law_1583 : decode cL_law 1583 = .ok (.iload 6, 2) := by decide +kernel
theorem dL_law_1585 : decode cL_law 1585 = .ok (.if_icmp .eq 5, 3) := by decide +kernel
theorem dL_law_1588 : decode cL_law 1588 = .ok (.iconst 0, 1) := by decide +kernel
theorem dL_law_1589 : decode cL_law 1589 = .ok (.ireturn, 1) := by decide +kernel
theorem dL_law_1590 : decode cL_law 1590 = .ok (.iload 6, 2) := by decide +kernel
theorem dL_law_1592 : decode cL_law 1592 = .ok (.ifCond .ne 15, 3) := by decide +kernel
theorem dL_law_1595 : decode cL_law 1595 = .ok (.aload_n 3, 1) := by decide +kernel
theorem dL_law_1596 : decode cL_law 1596 = .ok (.iconst 0, 1) := by decide +kernel
theorem dL_law_1597 : decode cL_law 1597 = .ok (.laload, 1) := by decide +kernel
theorem dL_law_1598 : decode cL_law 1598 = .ok (.iload 7, 2) := by decide +kernel
theorem dL_law_1600 : decode cL_law 1600 = .ok (.i2l, 1) := by decide +kernel
theorem dL_law_1601 : decode cL_law 1601 = .ok (.lcmp, 1) := by decide +kernel
theorem dL_law_1602 : decode cL_law 1602 = .ok (.ifCond .eq 5, 3) := by decide +kernel
theorem dL_law_1605 : decode cL_law 1605 = .ok (.iconst 0, 1) := by decide +kernel
theorem dL_law_1606 : decode cL_law 1606 = .ok (.ireturn, 1) := by decide +kernel
theorem dL_law_1607 : decode cL_law 1607 = .ok (.goto 46, 3) := by decide +kernel
theorem dL_law_1610 : decode cL_law 1610 = .ok (.aload_n 1, 1) := by decide +kernel
theorem dL_law_1611 : decode cL_law 1611 = .ok (.invokevirtual 141, 3) := by decide +kernel
theorem dL_law_1614 : decode cL_law 1614 = .ok (.f2d, 1) := by decide +kernel
theorem dL_law_1615 : decode cL_law 1615 = .ok (.dstore 6, 2) := by decide +kernel
theorem dL_law_1617 : decode cL_law 1617 = .ok (.aload_n 2, 1) := by decide +kernel
theorem dL_law_1618 : decode cL_law 1618 = .ok (.invokevirtual 145, 3) := by decide +kernel
theorem dL_law_1621 : decode cL_law 1621 = .ok (.f2d, 1) := by decide +kernel
theorem dL_law_1622 : decode cL_law 1622 = .ok (.dstore 8, 2) := by decide +kernel
theorem dL_law_1624 : decode cL_law 1624 = .ok (.dload 6, 2) := by decide +kernel
theorem dL_law_1626 : decode cL_law 1626 = .ok (.dload 8, 2) := by decide +kernel
theorem dL_law_1628 : decode cL_law 1628 = .ok (.dcmp .l, 1) := by decide +kernel
theorem dL_law_1629 : decode cL_law 1629 = .ok (.ifCond .eq 21, 3) := by decide +kernel
theorem dL_law_1632 : decode cL_law 1632 = .ok (.dload 6, 2) := by decide +kernel
theorem dL_law_1634 : decode cL_law 1634 = .ok (.dload 6, 2) := by decide +kernel
theorem dL_law_1636 : decode cL_law 1636 = .ok (.dcmp .l, 1) := by decide +kernel
theorem dL_law_1637 : decode cL_law 1637 = .ok (.ifCond .eq 11, 3) := by decide +kernel
theorem dL_law_1640 : decode cL_law 1640 = .ok (.dload 8, 2) := by decide +kernel
theorem dL_law_1642 : decode cL_law 1642 = .ok (.dload 8, 2) := by decide +kernel
theorem dL_law_1644 : decode cL_law 1644 = .ok (.dcmp .l, 1) := by decide +kernel
theorem dL_law_1645 : decode cL_law 1645 = .ok (.ifCond .ne 5, 3) := by decide +kernel
theorem dL_law_1648 : decode cL_law 1648 = .ok (.iconst 0, 1) := by decide +kernel
theorem dL_law_1649 : decode cL_law 1649 = .ok (.ireturn, 1) := by decide +kernel
theorem dL_law_1650 : decode cL_law 1650 = .ok (.goto 3, 3) := by decide +kernel
theorem dL_law_1653 : decode cL_law 1653 = .ok (.iinc 5 8, 3) := by decide +kernel
theorem dL_law_1656 : decode cL_law 1656 = .ok (.goto (-1628), 3) := by decide +kernel
theorem dL_law_1659 : decode cL_law 1659 = .ok (.iconst 1, 1) := by decide +kernel
theorem dL_law_1660 : decode cL_law 1660 = .ok (.ireturn, 1) := by decide +kernel
abbrev vwCl : List vw_C := [(RJx4a65c, TJx4a65c, 3), (RX0, TX0, 16), (RX1, TX1, 18), (RX2, TX2, 3), (RX3, TX3, 16), (RX4, TX4, 35)]

