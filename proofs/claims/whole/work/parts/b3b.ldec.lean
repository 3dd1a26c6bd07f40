/-! the law's instructions, part 1 -/
theorem d_L_law_557 : decode y_L_law.2.1 557 = .ok (.if_icmp .eq 5, 3) := by decide +kernel
theorem d_L_law_560 : decode y_L_law.2.1 560 = .ok (.iconst 0, 1) := by decide +kernel
theorem d_L_law_561 : decode y_L_law.2.1 561 = .ok (.ireturn, 1) := by decide +kernel
theorem d_L_law_562 : decode y_L_law.2.1 562 = .ok (.iload 5, 2) := by decide +kernel
theorem d_L_law_564 : decode y_L_law.2.1 564 = .ok (.ifCond .ne 15, 3) := by decide +kernel
theorem d_L_law_567 : decode y_L_law.2.1 567 = .ok (.aload_n 3, 1) := by decide +kernel
theorem d_L_law_568 : decode y_L_law.2.1 568 = .ok (.iconst 0, 1) := by decide +kernel
theorem d_L_law_569 : decode y_L_law.2.1 569 = .ok (.laload, 1) := by decide +kernel
theorem d_L_law_570 : decode y_L_law.2.1 570 = .ok (.iload 6, 2) := by decide +kernel
theorem d_L_law_572 : decode y_L_law.2.1 572 = .ok (.i2l, 1) := by decide +kernel
theorem d_L_law_573 : decode y_L_law.2.1 573 = .ok (.lcmp, 1) := by decide +kernel
theorem d_L_law_574 : decode y_L_law.2.1 574 = .ok (.ifCond .eq 5, 3) := by decide +kernel
theorem d_L_law_577 : decode y_L_law.2.1 577 = .ok (.iconst 0, 1) := by decide +kernel
theorem d_L_law_578 : decode y_L_law.2.1 578 = .ok (.ireturn, 1) := by decide +kernel
theorem d_L_law_579 : decode y_L_law.2.1 579 = .ok (.goto 3290, 3) := by decide +kernel
theorem d_L_law_582 : decode y_L_law.2.1 582 = .ok (.aload_n 1, 1) := by decide +kernel
theorem d_L_law_583 : decode y_L_law.2.1 583 = .ok (.aload_n 0, 1) := by decide +kernel
theorem d_L_law_584 : decode y_L_law.2.1 584 = .ok (.iload 4, 2) := by decide +kernel
theorem d_L_law_586 : decode y_L_law.2.1 586 = .ok (.iconst 1, 1) := by decide +kernel
theorem d_L_law_587 : decode y_L_law.2.1 587 = .ok (.iadd, 1) := by decide +kernel
theorem d_L_law_588 : decode y_L_law.2.1 588 = .ok (.iaload, 1) := by decide +kernel
theorem d_L_law_589 : decode y_L_law.2.1 589 = .ok (.aload_n 0, 1) := by decide +kernel
theorem d_L_law_590 : decode y_L_law.2.1 590 = .ok (.iload 4, 2) := by decide +kernel
theorem d_L_law_592 : decode y_L_law.2.1 592 = .ok (.iconst 2, 1) := by decide +kernel
theorem d_L_law_593 : decode y_L_law.2.1 593 = .ok (.iadd, 1) := by decide +kernel
theorem d_L_law_594 : decode y_L_law.2.1 594 = .ok (.iaload, 1) := by decide +kernel
theorem d_L_law_595 : decode y_L_law.2.1 595 = .ok (.aload_n 0, 1) := by decide +kernel
theorem d_L_law_596 : decode y_L_law.2.1 596 = .ok (.iload 4, 2) := by decide +kernel
theorem d_L_law_598 : decode y_L_law.2.1 598 = .ok (.iconst 3, 1) := by decide +kernel
theorem d_L_law_599 : decode y_L_law.2.1 599 = .ok (.iadd, 1) := by decide +kernel
theorem d_L_law_600 : decode y_L_law.2.1 600 = .ok (.iaload, 1) := by decide +kernel
theorem d_L_law_601 : decode y_L_law.2.1 601 = .ok (.aload_n 0, 1) := by decide +kernel
theorem d_L_law_602 : decode y_L_law.2.1 602 = .ok (.iload 4, 2) := by decide +kernel
theorem d_L_law_604 : decode y_L_law.2.1 604 = .ok (.iconst 4, 1) := by decide +kernel
theorem d_L_law_605 : decode y_L_law.2.1 605 = .ok (.iadd, 1) := by decide +kernel
theorem d_L_law_606 : decode y_L_law.2.1 606 = .ok (.iaload, 1) := by decide +kernel
theorem d_L_law_607 : decode y_L_law.2.1 607 = .ok (.aload_n 3, 1) := by decide +kernel
theorem d_L_law_608 : decode y_L_law.2.1 608 = .ok (.invokestatic 171, 3) := by decide +kernel
theorem d_L_law_611 : decode y_L_law.2.1 611 = .ok (.istore 5, 2) := by decide +kernel
theorem d_L_law_613 : decode y_L_law.2.1 613 = .ok (.aload_n 2, 1) := by decide +kernel
theorem d_L_law_614 : decode y_L_law.2.1 614 = .ok (.aload_n 0, 1) := by decide +kernel
theorem d_L_law_615 : decode y_L_law.2.1 615 = .ok (.iload 4, 2) := by decide +kernel
theorem d_L_law_617 : decode y_L_law.2.1 617 = .ok (.iconst 1, 1) := by decide +kernel
theorem d_L_law_618 : decode y_L_law.2.1 618 = .ok (.iadd, 1) := by decide +kernel
theorem d_L_law_619 : decode y_L_law.2.1 619 = .ok (.iaload, 1) := by decide +kernel
theorem d_L_law_620 : decode y_L_law.2.1 620 = .ok (.aload_n 0, 1) := by decide +kernel
theorem d_L_law_621 : decode y_L_law.2.1 621 = .ok (.iload 4, 2) := by decide +kernel
theorem d_L_law_623 : decode y_L_law.2.1 623 = .ok (.iconst 2, 1) := by decide +kernel
theorem d_L_law_624 : decode y_L_law.2.1 624 = .ok (.iadd, 1) := by decide +kernel
theorem d_L_law_625 : decode y_L_law.2.1 625 = .ok (.iaload, 1) := by decide +kernel
theorem d_L_law_626 : decode y_L_law.2.1 626 = .ok (.aload_n 0, 1) := by decide +kernel
theorem d_L_law_627 : decode y_L_law.2.1 627 = .ok (.iload 4, 2) := by decide +kernel
theorem d_L_law_629 : decode y_L_law.2.1 629 = .ok (.iconst 3, 1) := by decide +kernel
theorem d_L_law_630 : decode y_L_law.2.1 630 = .ok (.iadd, 1) := by decide +kernel
theorem d_L_law_631 : decode y_L_law.2.1 631 = .ok (.iaload, 1) := by decide +kernel
theorem d_L_law_632 : decode y_L_law.2.1 632 = .ok (.aload_n 0, 1) := by decide +kernel
theorem d_L_law_633 : decode y_L_law.2.1 633 = .ok (.iload 4, 2) := by decide +kernel
theorem d_L_law_635 : decode y_L_law.2.1 635 = .ok (.iconst 4, 1) := by decide +kernel
theorem d_L_law_636 : decode y_L_law.2.1 636 = .ok (.iadd, 1) := by decide +kernel
theorem d_L_law_637 : decode y_L_law.2.1 637 = .ok (.iaload, 1) := by decide +kernel
theorem d_L_law_638 : decode y_L_law.2.1 638 = .ok (.invokevirtual 174, 3) := by decide +kernel
theorem d_L_law_641 : decode y_L_law.2.1 641 = .ok (.istore 6, 2) := by decide +kernel
theorem d_L_law_643 : decode y_L_law.2.1 643 = .ok (.aload_n 2, 1) := by decide +kernel
theorem d_L_law_644 : decode y_L_law.2.1 644 = .ok (.invokevirtual 156, 3) := by decide +kernel
theorem d_L_law_647 : decode y_L_law.2.1 647 = .ok (.iload 5, 2) := by decide +kernel
theorem d_L_law_649 : decode y_L_law.2.1 649 = .ok (.if_icmp .eq 5, 3) := by decide +kernel
theorem d_L_law_652 : decode y_L_law.2.1 652 = .ok (.iconst 0, 1) := by decide +kernel
theorem d_L_law_653 : decode y_L_law.2.1 653 = .ok (.ireturn, 1) := by decide +kernel
theorem d_L_law_654 : decode y_L_law.2.1 654 = .ok (.iload 5, 2) := by decide +kernel
theorem d_L_law_656 : decode y_L_law.2.1 656 = .ok (.ifCond .ne 15, 3) := by decide +kernel
theorem d_L_law_659 : decode y_L_law.2.1 659 = .ok (.aload_n 3, 1) := by decide +kernel
theorem d_L_law_660 : decode y_L_law.2.1 660 = .ok (.iconst 0, 1) := by decide +kernel
theorem d_L_law_661 : decode y_L_law.2.1 661 = .ok (.laload, 1) := by decide +kernel
theorem d_L_law_662 : decode y_L_law.2.1 662 = .ok (.iload 6, 2) := by decide +kernel
theorem d_L_law_664 : decode y_L_law.2.1 664 = .ok (.i2l, 1) := by decide +kernel
theorem d_L_law_665 : decode y_L_law.2.1 665 = .ok (.lcmp, 1) := by decide +kernel
theorem d_L_law_666 : decode y_L_law.2.1 666 = .ok (.ifCond .eq 5, 3) := by decide +kernel
theorem d_L_law_669 : decode y_L_law.2.1 669 = .ok (.iconst 0, 1) := by decide +kernel
theorem d_L_law_670 : decode y_L_law.2.1 670 = .ok (.ireturn, 1) := by decide +kernel
theorem d_L_law_671 : decode y_L_law.2.1 671 = .ok (.goto 3198, 3) := by decide +kernel
theorem d_L_law_674 : decode y_L_law.2.1 674 = .ok (.aload_n 1, 1) := by decide +kernel
theorem d_L_law_675 : decode y_L_law.2.1 675 = .ok (.aload_n 0, 1) := by decide +kernel
theorem d_L_law_676 : decode y_L_law.2.1 676 = .ok (.iload 4, 2) := by decide +kernel
theorem d_L_law_678 : decode y_L_law.2.1 678 = .ok (.iconst 1, 1) := by decide +kernel
theorem d_L_law_679 : decode y_L_law.2.1 679 = .ok (.iadd, 1) := by decide +kernel
theorem d_L_law_680 : decode y_L_law.2.1 680 = .ok (.iaload, 1) := by decide +kernel
theorem d_L_law_681 : decode y_L_law.2.1 681 = .ok (.aload_n 0, 1) := by decide +kernel
theorem d_L_law_682 : decode y_L_law.2.1 682 = .ok (.iload 4, 2) := by decide +kernel
theorem d_L_law_684 : decode y_L_law.2.1 684 = .ok (.iconst 2, 1) := by decide +kernel
theorem d_L_law_685 : decode y_L_law.2.1 685 = .ok (.iadd, 1) := by decide +kernel
theorem d_L_law_686 : decode y_L_law.2.1 686 = .ok (.iaload, 1) := by decide +kernel
theorem d_L_law_687 : decode y_L_law.2.1 687 = .ok (.aload_n 0, 1) := by decide +kernel
theorem d_L_law_688 : decode y_L_law.2.1 688 = .ok (.iload 4, 2) := by decide +kernel
theorem d_L_law_690 : decode y_L_law.2.1 690 = .ok (.iconst 3, 1) := by decide +kernel
theorem d_L_law_691 : decode y_L_law.2.1 691 = .ok (.iadd, 1) := by decide +kernel
theorem d_L_law_692 : decode y_L_law.2.1 692 = .ok (.iaload, 1) := by decide +kernel
theorem d_L_law_693 : decode y_L_law.2.1 693 = .ok (.aload_n 0, 1) := by decide +kernel
theorem d_L_law_694 : decode y_L_law.2.1 694 = .ok (.iload 4, 2) := by decide +kernel
theorem d_L_law_696 : decode y_L_law.2.1 696 = .ok (.iconst 4, 1) := by decide +kernel
theorem d_L_law_697 : decode y_L_law.2.1 697 = .ok (.iadd, 1) := by decide +kernel
theorem d_L_law_698 : decode y_L_law.2.1 698 = .ok (.iaload, 1) := by decide +kernel
theorem d_L_law_699 : decode y_L_law.2.1 699 = .ok (.aload_n 3, 1) := by decide +kernel
theorem d_L_law_700 : decode y_L_law.2.1 700 = .ok (.invokestatic 175, 3) := by decide +kernel
theorem d_L_law_703 : decode y_L_law.2.1 703 = .ok (.istore 5, 2) := by decide +kernel
theorem d_L_law_705 : decode y_L_law.2.1 705 = .ok (.aload_n 2, 1) := by decide +kernel
theorem d_L_law_706 : decode y_L_law.2.1 706 = .ok (.aload_n 0, 1) := by decide +kernel
theorem d_L_law_707 : decode y_L_law.2.1 707 = .ok (.iload 4, 2) := by decide +kernel
theorem d_L_law_709 : decode y_L_law.2.1 709 = .ok (.iconst 1, 1) := by decide +kernel
theorem d_L_law_710 : decode y_L_law.2.1 710 = .ok (.iadd, 1) := by decide +kernel
theorem d_L_law_711 : decode y_L_law.2.1 711 = .ok (.iaload, 1) := by decide +kernel
theorem d_L_law_712 : decode y_L_law.2.1 712 = .ok (.aload_n 0, 1) := by decide +kernel
theorem d_L_law_713 : decode y_L_law.2.1 713 = .ok (.iload 4, 2) := by decide +kernel
theorem d_L_law_715 : decode y_L_law.2.1 715 = .ok (.iconst 2, 1) := by decide +kernel
theorem d_L_law_716 : decode y_L_law.2.1 716 = .ok (.iadd, 1) := by decide +kernel
theorem d_L_law_717 : decode y_L_law.2.1 717 = .ok (.iaload, 1) := by decide +kernel
theorem d_L_law_718 : decode y_L_law.2.1 718 = .ok (.aload_n 0, 1) := by decide +kernel
theorem d_L_law_719 : decode y_L_law.2.1 719 = .ok (.iload 4, 2) := by decide +kernel
theorem d_L_law_721 : decode y_L_law.2.1 721 = .ok (.iconst 3, 1) := by decide +kernel
theorem d_L_law_722 : decode y_L_law.2.1 722 = .ok (.iadd, 1) := by decide +kernel
theorem d_L_law_723 : decode y_L_law.2.1 723 = .ok (.iaload, 1) := by decide +kernel
theorem d_L_law_724 : decode y_L_law.2.1 724 = .ok (.aload_n 0, 1) := by decide +kernel
theorem d_L_law_725 : decode y_L_law.2.1 725 = .ok (.iload 4, 2) := by decide +kernel
theorem d_L_law_727 : decode y_L_law.2.1 727 = .ok (.iconst 4, 1) := by decide +kernel
theorem d_L_law_728 : decode y_L_law.2.1 728 = .ok (.iadd, 1) := by decide +kernel
theorem d_L_law_729 : decode y_L_law.2.1 729 = .ok (.iaload, 1) := by decide +kernel
theorem d_L_law_730 : decode y_L_law.2.1 730 = .ok (.invokevirtual 177, 3) := by decide +kernel
theorem d_L_law_733 : decode y_L_law.2.1 733 = .ok (.istore 6, 2) := by decide +kernel
theorem d_L_law_735 : decode y_L_law.2.1 735 = .ok (.aload_n 2, 1) := by decide +kernel
theorem d_L_law_736 : decode y_L_law.2.1 736 = .ok (.invokevirtual 156, 3) := by decide +kernel
theorem d_L_law_739 : decode y_L_law.2.1 739 = .ok (.iload 5, 2) := by decide +kernel
theorem d_L_law_741 : decode y_L_law.2.1 741 = .ok (.if_icmp .eq 5, 3) := by decide +kernel
theorem d_L_law_744 : decode y_L_law.2.1 744 = .ok (.iconst 0, 1) := by decide +kernel
theorem d_L_law_745 : decode y_L_law.2.1 745 = .ok (.ireturn, 1) := by decide +kernel
theorem d_L_law_746 : decode y_L_law.2.1 746 = .ok (.iload 5, 2) := by decide +kernel
theorem d_L_law_748 : decode y_L_law.2.1 748 = .ok (.ifCond .ne 15, 3) := by decide +kernel
theorem d_L_law_751 : decode y_L_law.2.1 751 = .ok (.aload_n 3, 1) := by decide +kernel
theorem d_L_law_752 : decode y_L_law.2.1 752 = .ok (.iconst 0, 1) := by decide +kernel
theorem d_L_law_753 : decode y_L_law.2.1 753 = .ok (.laload, 1) := by decide +kernel
theorem d_L_law_754 : decode y_L_law.2.1 754 = .ok (.iload 6, 2) := by decide +kernel
theorem d_L_law_756 : decode y_L_law.2.1 756 = .ok (.i2l, 1) := by decide +kernel
theorem d_L_law_757 : decode y_L_law.2.1 757 = .ok (.lcmp, 1) := by decide +kernel
theorem d_L_law_758 : decode y_L_law.2.1 758 = .ok (.ifCond .eq 5, 3) := by decide +kernel
theorem d_L_law_761 : decode y_L_law.2.1 761 = .ok (.iconst 0, 1) := by decide +kernel
theorem d_L_law_762 : decode y_L_law.2.1 762 = .ok (.ireturn, 1) := by decide +kernel
theorem d_L_law_763 : decode y_L_law.2.1 763 = .ok (.goto 3106, 3) := by decide +kernel
theorem d_L_law_766 : decode y_L_law.2.1 766 = .ok (.aload_n 1, 1) := by decide +kernel
theorem d_L_law_767 : decode y_L_law.2.1 767 = .ok (.aload_n 0, 1) := by decide +kernel
theorem d_L_law_768 : decode y_L_law.2.1 768 = .ok (.iload 4, 2) := by decide +kernel
theorem d_L_law_770 : decode y_L_law.2.1 770 = .ok (.iconst 1, 1) := by decide +kernel
theorem d_L_law_771 : decode y_L_law.2.1 771 = .ok (.iadd, 1) := by decide +kernel
theorem d_L_law_772 : decode y_L_law.2.1 772 = .ok (.iaload, 1) := by decide +kernel
theorem d_L_law_773 : decode y_L_law.2.1 773 = .ok (.aload_n 3, 1) := by decide +kernel
theorem d_L_law_774 : decode y_L_law.2.1 774 = .ok (.invokestatic 178, 3) := by decide +kernel
theorem d_L_law_777 : decode y_L_law.2.1 777 = .ok (.istore 5, 2) := by decide +kernel
theorem d_L_law_779 : decode y_L_law.2.1 779 = .ok (.aload_n 2, 1) := by decide +kernel
theorem d_L_law_780 : decode y_L_law.2.1 780 = .ok (.aload_n 0, 1) := by decide +kernel
theorem d_L_law_781 : decode y_L_law.2.1 781 = .ok (.iload 4, 2) := by decide +kernel
theorem d_L_law_783 : decode y_L_law.2.1 783 = .ok (.iconst 1, 1) := by decide +kernel
theorem d_L_law_784 : decode y_L_law.2.1 784 = .ok (.iadd, 1) := by decide +kernel
theorem d_L_law_785 : decode y_L_law.2.1 785 = .ok (.iaload, 1) := by decide +kernel
theorem d_L_law_786 : decode y_L_law.2.1 786 = .ok (.invokevirtual 181, 3) := by decide +kernel
theorem d_L_law_789 : decode y_L_law.2.1 789 = .ok (.istore 6, 2) := by decide +kernel
theorem d_L_law_791 : decode y_L_law.2.1 791 = .ok (.aload_n 2, 1) := by decide +kernel
theorem d_L_law_792 : decode y_L_law.2.1 792 = .ok (.invokevirtual 156, 3) := by decide +kernel
theorem d_L_law_795 : decode y_L_law.2.1 795 = .ok (.iload 5, 2) := by decide +kernel
theorem d_L_law_797 : decode y_L_law.2.1 797 = .ok (.if_icmp .eq 5, 3) := by decide +kernel
theorem d_L_law_800 : decode y_L_law.2.1 800 = .ok (.iconst 0, 1) := by decide +kernel
theorem d_L_law_801 : decode y_L_law.2.1 801 = .ok (.ireturn, 1) := by decide +kernel
theorem d_L_law_802 : decode y_L_law.2.1 802 = .ok (.iload 5, 2) := by decide +kernel
theorem d_L_law_804 : decode y_L_law.2.1 804 = .ok (.ifCond .ne 15, 3) := by decide +kernel
theorem d_L_law_807 : decode y_L_law.2.1 807 = .ok (.aload_n 3, 1) := by decide +kernel
theorem d_L_law_808 : decode y_L_law.2.1 808 = .ok (.iconst 0, 1) := by decide +kernel
theorem d_L_law_809 : decode y_L_law.2.1 809 = .ok (.laload, 1) := by decide +kernel
theorem d_L_law_810 : decode y_L_law.2.1 810 = .ok (.iload 6, 2) := by decide +kernel
theorem d_L_law_812 : decode y_L_law.2.1 812 = .ok (.i2l, 1) := by decide +kernel
theorem d_L_law_813 : decode y_L_law.2.1 813 = .ok (.lcmp, 1) := by decide +kernel
theorem d_L_law_814 : decode y_L_law.2.1 814 = .ok (.ifCond .eq 5, 3) := by decide +kernel
theorem d_L_law_817 : decode y_L_law.2.1 817 = .ok (.iconst 0, 1) := by decide +kernel
theorem d_L_law_818 : decode y_L_law.2.1 818 = .ok (.ireturn, 1) := by decide +kernel
theorem d_L_law_819 : decode y_L_law.2.1 819 = .ok (.goto 3050, 3) := by decide +kernel
theorem d_L_law_822 : decode y_L_law.2.1 822 = .ok (.aload_n 1, 1) := by decide +kernel
theorem d_L_law_823 : decode y_L_law.2.1 823 = .ok (.aload_n 0, 1) := by decide +kernel
theorem d_L_law_824 : decode y_L_law.2.1 824 = .ok (.iload 4, 2) := by decide +kernel
theorem d_L_law_826 : decode y_L_law.2.1 826 = .ok (.iconst 1, 1) := by decide +kernel
theorem d_L_law_827 : decode y_L_law.2.1 827 = .ok (.iadd, 1) := by decide +kernel
theorem d_L_law_828 : decode y_L_law.2.1 828 = .ok (.iaload, 1) := by decide +kernel
theorem d_L_law_829 : decode y_L_law.2.1 829 = .ok (.aload_n 0, 1) := by decide +kernel
theorem d_L_law_830 : decode y_L_law.2.1 830 = .ok (.iload 4, 2) := by decide +kernel
theorem d_L_law_832 : decode y_L_law.2.1 832 = .ok (.iconst 2, 1) := by decide +kernel
theorem d_L_law_833 : decode y_L_law.2.1 833 = .ok (.iadd, 1) := by decide +kernel
theorem d_L_law_834 : decode y_L_law.2.1 834 = .ok (.iaload, 1) := by decide +kernel
theorem d_L_law_835 : decode y_L_law.2.1 835 = .ok (.aload_n 0, 1) := by decide +kernel
theorem d_L_law_836 : decode y_L_law.2.1 836 = .ok (.iload 4, 2) := by decide +kernel
theorem d_L_law_838 : decode y_L_law.2.1 838 = .ok (.iconst 3, 1) := by decide +kernel
theorem d_L_law_839 : decode y_L_law.2.1 839 = .ok (.iadd, 1) := by decide +kernel
theorem d_L_law_840 : decode y_L_law.2.1 840 = .ok (.iaload, 1) := by decide +kernel
theorem d_L_law_841 : decode y_L_law.2.1 841 = .ok (.aload_n 3, 1) := by decide +kernel
theorem d_L_law_842 : decode y_L_law.2.1 842 = .ok (.invokestatic 182, 3) := by decide +kernel
theorem d_L_law_845 : decode y_L_law.2.1 845 = .ok (.istore 5, 2) := by decide +kernel
theorem d_L_law_847 : decode y_L_law.2.1 847 = .ok (.aload_n 2, 1) := by decide +kernel
theorem d_L_law_848 : decode y_L_law.2.1 848 = .ok (.aload_n 0, 1) := by decide +kernel
theorem d_L_law_849 : decode y_L_law.2.1 849 = .ok (.iload 4, 2) := by decide +kernel
theorem d_L_law_851 : decode y_L_law.2.1 851 = .ok (.iconst 1, 1) := by decide +kernel
theorem d_L_law_852 : decode y_L_law.2.1 852 = .ok (.iadd, 1) := by decide +kernel
theorem d_L_law_853 : decode y_L_law.2.1 853 = .ok (.iaload, 1) := by decide +kernel
theorem d_L_law_854 : decode y_L_law.2.1 854 = .ok (.aload_n 0, 1) := by decide +kernel
theorem d_L_law_855 : decode y_L_law.2.1 855 = .ok (.iload 4, 2) := by decide +kernel
theorem d_L_law_857 : decode y_L_law.2.1 857 = .ok (.iconst 2, 1) := by decide +kernel
theorem d_L_law_858 : decode y_L_law.2.1 858 = .ok (.iadd, 1) := by decide +kernel
theorem d_L_law_859 : decode y_L_law.2.1 859 = .ok (.iaload, 1) := by decide +kernel
theorem d_L_law_860 : decode y_L_law.2.1 860 = .ok (.aload_n 0, 1) := by decide +kernel
theorem d_L_law_861 : decode y_L_law.2.1 861 = .ok (.iload 4, 2) := by decide +kernel
theorem d_L_law_863 : decode y_L_law.2.1 863 = .ok (.iconst 3, 1) := by decide +kernel
theorem d_L_law_864 : decode y_L_law.2.1 864 = .ok (.iadd, 1) := by decide +kernel
theorem d_L_law_865 : decode y_L_law.2.1 865 = .ok (.iaload, 1) := by decide +kernel
theorem d_L_law_866 : decode y_L_law.2.1 866 = .ok (.invokevirtual 185, 3) := by decide +kernel
theorem d_L_law_869 : decode y_L_law.2.1 869 = .ok (.istore 6, 2) := by decide +kernel
theorem d_L_law_871 : decode y_L_law.2.1 871 = .ok (.aload_n 2, 1) := by decide +kernel
theorem d_L_law_872 : decode y_L_law.2.1 872 = .ok (.invokevirtual 156, 3) := by decide +kernel
theorem d_L_law_875 : decode y_L_law.2.1 875 = .ok (.iload 5, 2) := by decide +kernel
theorem d_L_law_877 : decode y_L_law.2.1 877 = .ok (.if_icmp .eq 5, 3) := by decide +kernel
theorem d_L_law_880 : decode y_L_law.2.1 880 = .ok (.iconst 0, 1) := by decide +kernel
theorem d_L_law_881 : decode y_L_law.2.1 881 = .ok (.ireturn, 1) := by decide +kernel
theorem d_L_law_882 : decode y_L_law.2.1 882 = .ok (.iload 5, 2) := by decide +kernel
theorem d_L_law_884 : decode y_L_law.2.1 884 = .ok (.ifCond .ne 15, 3) := by decide +kernel
theorem d_L_law_887 : decode y_L_law.2.1 887 = .ok (.aload_n 3, 1) := by decide +kernel
theorem d_L_law_888 : decode y_L_law.2.1 888 = .ok (.iconst 0, 1) := by decide +kernel
theorem d_L_law_889 : decode y_L_law.2.1 889 = .ok (.laload, 1) := by decide +kernel
theorem d_L_law_890 : decode y_L_law.2.1 890 = .ok (.iload 6, 2) := by decide +kernel
theorem d_L_law_892 : decode y_L_law.2.1 892 = .ok (.i2l, 1) := by decide +kernel
theorem d_L_law_893 : decode y_L_law.2.1 893 = .ok (.lcmp, 1) := by decide +kernel
theorem d_L_law_894 : decode y_L_law.2.1 894 = .ok (.ifCond .eq 5, 3) := by decide +kernel
theorem d_L_law_897 : decode y_L_law.2.1 897 = .ok (.iconst 0, 1) := by decide +kernel
theorem d_L_law_898 : decode y_L_law.2.1 898 = .ok (.ireturn, 1) := by decide +kernel
theorem d_L_law_899 : decode y_L_law.2.1 899 = .ok (.goto 2970, 3) := by decide +kernel
theorem d_L_law_902 : decode y_L_law.2.1 902 = .ok (.aload_n 1, 1) := by decide +kernel
theorem d_L_law_903 : decode y_L_law.2.1 903 = .ok (.aload_n 0, 1) := by decide +kernel
theorem d_L_law_904 : decode y_L_law.2.1 904 = .ok (.iload 4, 2) := by decide +kernel
theorem d_L_law_906 : decode y_L_law.2.1 906 = .ok (.iconst 1, 1) := by decide +kernel
theorem d_L_law_907 : decode y_L_law.2.1 907 = .ok (.iadd, 1) := by decide +kernel
theorem d_L_law_908 : decode y_L_law.2.1 908 = .ok (.iaload, 1) := by decide +kernel
theorem d_L_law_909 : decode y_L_law.2.1 909 = .ok (.aload_n 3, 1) := by decide +kernel
theorem d_L_law_910 : decode y_L_law.2.1 910 = .ok (.invokestatic 186, 3) := by decide +kernel
theorem d_L_law_913 : decode y_L_law.2.1 913 = .ok (.istore 5, 2) := by decide +kernel
theorem d_L_law_915 : decode y_L_law.2.1 915 = .ok (.aload_n 2, 1) := by decide +kernel
theorem d_L_law_916 : decode y_L_law.2.1 916 = .ok (.aload_n 0, 1) := by decide +kernel
theorem d_L_law_917 : decode y_L_law.2.1 917 = .ok (.iload 4, 2) := by decide +kernel
theorem d_L_law_919 : decode y_L_law.2.1 919 = .ok (.iconst 1, 1) := by decide +kernel
theorem d_L_law_920 : decode y_L_law.2.1 920 = .ok (.iadd, 1) := by decide +kernel
theorem d_L_law_921 : decode y_L_law.2.1 921 = .ok (.iaload, 1) := by decide +kernel
theorem d_L_law_922 : decode y_L_law.2.1 922 = .ok (.invokevirtual 188, 3) := by decide +kernel
theorem d_L_law_925 : decode y_L_law.2.1 925 = .ok (.istore 6, 2) := by decide +kernel
theorem d_L_law_927 : decode y_L_law.2.1 927 = .ok (.aload_n 2, 1) := by decide +kernel
theorem d_L_law_928 : decode y_L_law.2.1 928 = .ok (.invokevirtual 156, 3) := by decide +kernel
theorem d_L_law_931 : decode y_L_law.2.1 931 = .ok (.iload 5, 2) := by decide +kernel
theorem d_L_law_933 : decode y_L_law.2.1 933 = .ok (.if_icmp .eq 5, 3) := by decide +kernel
theorem d_L_law_936 : decode y_L_law.2.1 936 = .ok (.iconst 0, 1) := by decide +kernel
theorem d_L_law_937 : decode y_L_law.2.1 937 = .ok (.ireturn, 1) := by decide +kernel
theorem d_L_law_938 : decode y_L_law.2.1 938 = .ok (.iload 5, 2) := by decide +kernel
theorem d_L_law_940 : decode y_L_law.2.1 940 = .ok (.ifCond .ne 15, 3) := by decide +kernel
