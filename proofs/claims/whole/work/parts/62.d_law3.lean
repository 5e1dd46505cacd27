theorem d_La_law_547 : decode code 547 = .ok (.iload 4, 2) := by decide +kernel
theorem d_La_law_549 : decode code 549 = .ok (.iconst 2, 1) := by decide +kernel
theorem d_La_law_550 : decode code 550 = .ok (.iadd, 1) := by decide +kernel
theorem d_La_law_551 : decode code 551 = .ok (.iaload, 1) := by decide +kernel
theorem d_La_law_552 : decode code 552 = .ok (.invokestatic 105, 3) := by decide +kernel
theorem d_La_law_555 : decode code 555 = .ok (.istore 5, 2) := by decide +kernel
theorem d_La_law_557 : decode code 557 = .ok (.aload_n 2, 1) := by decide +kernel
theorem d_La_law_558 : decode code 558 = .ok (.aload_n 0, 1) := by decide +kernel
theorem d_La_law_559 : decode code 559 = .ok (.iload 4, 2) := by decide +kernel
theorem d_La_law_561 : decode code 561 = .ok (.iconst 1, 1) := by decide +kernel
theorem d_La_law_562 : decode code 562 = .ok (.iadd, 1) := by decide +kernel
theorem d_La_law_563 : decode code 563 = .ok (.iaload, 1) := by decide +kernel
theorem d_La_law_564 : decode code 564 = .ok (.aload_n 0, 1) := by decide +kernel
theorem d_La_law_565 : decode code 565 = .ok (.iload 4, 2) := by decide +kernel
theorem d_La_law_567 : decode code 567 = .ok (.iconst 2, 1) := by decide +kernel
theorem d_La_law_568 : decode code 568 = .ok (.iadd, 1) := by decide +kernel
theorem d_La_law_569 : decode code 569 = .ok (.iaload, 1) := by decide +kernel
theorem d_La_law_570 : decode code 570 = .ok (.invokevirtual 107, 3) := by decide +kernel
theorem d_La_law_573 : decode code 573 = .ok (.aload_n 2, 1) := by decide +kernel
theorem d_La_law_574 : decode code 574 = .ok (.invokevirtual 79, 3) := by decide +kernel
theorem d_La_law_577 : decode code 577 = .ok (.iload 5, 2) := by decide +kernel
theorem d_La_law_579 : decode code 579 = .ok (.if_icmp .eq 5, 3) := by decide +kernel
theorem d_La_law_582 : decode code 582 = .ok (.iconst 0, 1) := by decide +kernel
theorem d_La_law_583 : decode code 583 = .ok (.ireturn, 1) := by decide +kernel
theorem d_La_law_584 : decode code 584 = .ok (.goto 450, 3) := by decide +kernel
theorem d_La_law_587 : decode code 587 = .ok (.aload_n 1, 1) := by decide +kernel
theorem d_La_law_588 : decode code 588 = .ok (.aload_n 0, 1) := by decide +kernel
theorem d_La_law_589 : decode code 589 = .ok (.iload 4, 2) := by decide +kernel
theorem d_La_law_591 : decode code 591 = .ok (.iconst 1, 1) := by decide +kernel
theorem d_La_law_592 : decode code 592 = .ok (.iadd, 1) := by decide +kernel
theorem d_La_law_593 : decode code 593 = .ok (.iaload, 1) := by decide +kernel
theorem d_La_law_594 : decode code 594 = .ok (.aload_n 3, 1) := by decide +kernel
theorem d_La_law_595 : decode code 595 = .ok (.invokestatic 108, 3) := by decide +kernel
theorem d_La_law_598 : decode code 598 = .ok (.istore 5, 2) := by decide +kernel
theorem d_La_law_600 : decode code 600 = .ok (.aload_n 2, 1) := by decide +kernel
theorem d_La_law_601 : decode code 601 = .ok (.aload_n 0, 1) := by decide +kernel
theorem d_La_law_602 : decode code 602 = .ok (.iload 4, 2) := by decide +kernel
theorem d_La_law_604 : decode code 604 = .ok (.iconst 1, 1) := by decide +kernel
theorem d_La_law_605 : decode code 605 = .ok (.iadd, 1) := by decide +kernel
theorem d_La_law_606 : decode code 606 = .ok (.iaload, 1) := by decide +kernel
theorem d_La_law_607 : decode code 607 = .ok (.invokevirtual 110, 3) := by decide +kernel
theorem d_La_law_610 : decode code 610 = .ok (.istore 6, 2) := by decide +kernel
theorem d_La_law_612 : decode code 612 = .ok (.aload_n 2, 1) := by decide +kernel
theorem d_La_law_613 : decode code 613 = .ok (.invokevirtual 79, 3) := by decide +kernel
theorem d_La_law_616 : decode code 616 = .ok (.iload 5, 2) := by decide +kernel
theorem d_La_law_618 : decode code 618 = .ok (.if_icmp .eq 5, 3) := by decide +kernel
theorem d_La_law_621 : decode code 621 = .ok (.iconst 0, 1) := by decide +kernel
theorem d_La_law_622 : decode code 622 = .ok (.ireturn, 1) := by decide +kernel
theorem d_La_law_623 : decode code 623 = .ok (.iload 5, 2) := by decide +kernel
theorem d_La_law_625 : decode code 625 = .ok (.ifCond .ne 15, 3) := by decide +kernel
theorem d_La_law_628 : decode code 628 = .ok (.aload_n 3, 1) := by decide +kernel
theorem d_La_law_629 : decode code 629 = .ok (.iconst 0, 1) := by decide +kernel
theorem d_La_law_630 : decode code 630 = .ok (.laload, 1) := by decide +kernel
theorem d_La_law_631 : decode code 631 = .ok (.iload 6, 2) := by decide +kernel
theorem d_La_law_633 : decode code 633 = .ok (.i2l, 1) := by decide +kernel
theorem d_La_law_634 : decode code 634 = .ok (.lcmp, 1) := by decide +kernel
theorem d_La_law_635 : decode code 635 = .ok (.ifCond .eq 5, 3) := by decide +kernel
theorem d_La_law_638 : decode code 638 = .ok (.iconst 0, 1) := by decide +kernel
theorem d_La_law_639 : decode code 639 = .ok (.ireturn, 1) := by decide +kernel
theorem d_La_law_640 : decode code 640 = .ok (.goto 394, 3) := by decide +kernel
theorem d_La_law_643 : decode code 643 = .ok (.aload_n 1, 1) := by decide +kernel
theorem d_La_law_644 : decode code 644 = .ok (.aload_n 0, 1) := by decide +kernel
theorem d_La_law_645 : decode code 645 = .ok (.iload 4, 2) := by decide +kernel
theorem d_La_law_647 : decode code 647 = .ok (.iconst 1, 1) := by decide +kernel
theorem d_La_law_648 : decode code 648 = .ok (.iadd, 1) := by decide +kernel
theorem d_La_law_649 : decode code 649 = .ok (.iaload, 1) := by decide +kernel
theorem d_La_law_650 : decode code 650 = .ok (.aload_n 0, 1) := by decide +kernel
theorem d_La_law_651 : decode code 651 = .ok (.iload 4, 2) := by decide +kernel
theorem d_La_law_653 : decode code 653 = .ok (.iconst 2, 1) := by decide +kernel
theorem d_La_law_654 : decode code 654 = .ok (.iadd, 1) := by decide +kernel
theorem d_La_law_655 : decode code 655 = .ok (.iaload, 1) := by decide +kernel
theorem d_La_law_656 : decode code 656 = .ok (.aload_n 3, 1) := by decide +kernel
theorem d_La_law_657 : decode code 657 = .ok (.invokestatic 111, 3) := by decide +kernel
theorem d_La_law_660 : decode code 660 = .ok (.istore 5, 2) := by decide +kernel
theorem d_La_law_662 : decode code 662 = .ok (.aload_n 2, 1) := by decide +kernel
theorem d_La_law_663 : decode code 663 = .ok (.aload_n 0, 1) := by decide +kernel
theorem d_La_law_664 : decode code 664 = .ok (.iload 4, 2) := by decide +kernel
theorem d_La_law_666 : decode code 666 = .ok (.iconst 1, 1) := by decide +kernel
theorem d_La_law_667 : decode code 667 = .ok (.iadd, 1) := by decide +kernel
theorem d_La_law_668 : decode code 668 = .ok (.iaload, 1) := by decide +kernel
theorem d_La_law_669 : decode code 669 = .ok (.aload_n 0, 1) := by decide +kernel
theorem d_La_law_670 : decode code 670 = .ok (.iload 4, 2) := by decide +kernel
theorem d_La_law_672 : decode code 672 = .ok (.iconst 2, 1) := by decide +kernel
theorem d_La_law_673 : decode code 673 = .ok (.iadd, 1) := by decide +kernel
theorem d_La_law_674 : decode code 674 = .ok (.iaload, 1) := by decide +kernel
theorem d_La_law_675 : decode code 675 = .ok (.invokevirtual 113, 3) := by decide +kernel
theorem d_La_law_678 : decode code 678 = .ok (.istore 6, 2) := by decide +kernel
theorem d_La_law_680 : decode code 680 = .ok (.aload_n 2, 1) := by decide +kernel
theorem d_La_law_681 : decode code 681 = .ok (.invokevirtual 79, 3) := by decide +kernel
theorem d_La_law_684 : decode code 684 = .ok (.iload 5, 2) := by decide +kernel
theorem d_La_law_686 : decode code 686 = .ok (.if_icmp .eq 5, 3) := by decide +kernel
theorem d_La_law_689 : decode code 689 = .ok (.iconst 0, 1) := by decide +kernel
theorem d_La_law_690 : decode code 690 = .ok (.ireturn, 1) := by decide +kernel
theorem d_La_law_691 : decode code 691 = .ok (.iload 5, 2) := by decide +kernel
theorem d_La_law_693 : decode code 693 = .ok (.ifCond .ne 15, 3) := by decide +kernel
theorem d_La_law_696 : decode code 696 = .ok (.aload_n 3, 1) := by decide +kernel
theorem d_La_law_697 : decode code 697 = .ok (.iconst 0, 1) := by decide +kernel
theorem d_La_law_698 : decode code 698 = .ok (.laload, 1) := by decide +kernel
theorem d_La_law_699 : decode code 699 = .ok (.iload 6, 2) := by decide +kernel
theorem d_La_law_701 : decode code 701 = .ok (.i2l, 1) := by decide +kernel
theorem d_La_law_702 : decode code 702 = .ok (.lcmp, 1) := by decide +kernel
theorem d_La_law_703 : decode code 703 = .ok (.ifCond .eq 5, 3) := by decide +kernel
theorem d_La_law_706 : decode code 706 = .ok (.iconst 0, 1) := by decide +kernel
theorem d_La_law_707 : decode code 707 = .ok (.ireturn, 1) := by decide +kernel
theorem d_La_law_708 : decode code 708 = .ok (.goto 326, 3) := by decide +kernel
theorem d_La_law_711 : decode code 711 = .ok (.aload_n 1, 1) := by decide +kernel
theorem d_La_law_712 : decode code 712 = .ok (.aload_n 0, 1) := by decide +kernel
theorem d_La_law_713 : decode code 713 = .ok (.iload 4, 2) := by decide +kernel
theorem d_La_law_715 : decode code 715 = .ok (.iconst 1, 1) := by decide +kernel
theorem d_La_law_716 : decode code 716 = .ok (.iadd, 1) := by decide +kernel
theorem d_La_law_717 : decode code 717 = .ok (.iaload, 1) := by decide +kernel
theorem d_La_law_718 : decode code 718 = .ok (.aload_n 0, 1) := by decide +kernel
theorem d_La_law_719 : decode code 719 = .ok (.iload 4, 2) := by decide +kernel
theorem d_La_law_721 : decode code 721 = .ok (.iconst 2, 1) := by decide +kernel
theorem d_La_law_722 : decode code 722 = .ok (.iadd, 1) := by decide +kernel
theorem d_La_law_723 : decode code 723 = .ok (.iaload, 1) := by decide +kernel
theorem d_La_law_724 : decode code 724 = .ok (.aload_n 3, 1) := by decide +kernel
theorem d_La_law_725 : decode code 725 = .ok (.invokestatic 114, 3) := by decide +kernel
theorem d_La_law_728 : decode code 728 = .ok (.istore 5, 2) := by decide +kernel
theorem d_La_law_730 : decode code 730 = .ok (.aload_n 2, 1) := by decide +kernel
theorem d_La_law_731 : decode code 731 = .ok (.aload_n 0, 1) := by decide +kernel
theorem d_La_law_732 : decode code 732 = .ok (.iload 4, 2) := by decide +kernel
theorem d_La_law_734 : decode code 734 = .ok (.iconst 1, 1) := by decide +kernel
theorem d_La_law_735 : decode code 735 = .ok (.iadd, 1) := by decide +kernel
theorem d_La_law_736 : decode code 736 = .ok (.iaload, 1) := by decide +kernel
theorem d_La_law_737 : decode code 737 = .ok (.aload_n 0, 1) := by decide +kernel
theorem d_La_law_738 : decode code 738 = .ok (.iload 4, 2) := by decide +kernel
theorem d_La_law_740 : decode code 740 = .ok (.iconst 2, 1) := by decide +kernel
theorem d_La_law_741 : decode code 741 = .ok (.iadd, 1) := by decide +kernel
theorem d_La_law_742 : decode code 742 = .ok (.iaload, 1) := by decide +kernel
theorem d_La_law_743 : decode code 743 = .ok (.invokevirtual 116, 3) := by decide +kernel
theorem d_La_law_746 : decode code 746 = .ok (.istore 6, 2) := by decide +kernel
theorem d_La_law_748 : decode code 748 = .ok (.aload_n 2, 1) := by decide +kernel
theorem d_La_law_749 : decode code 749 = .ok (.invokevirtual 79, 3) := by decide +kernel
theorem d_La_law_752 : decode code 752 = .ok (.iload 5, 2) := by decide +kernel
theorem d_La_law_754 : decode code 754 = .ok (.if_icmp .eq 5, 3) := by decide +kernel
theorem d_La_law_757 : decode code 757 = .ok (.iconst 0, 1) := by decide +kernel
theorem d_La_law_758 : decode code 758 = .ok (.ireturn, 1) := by decide +kernel
theorem d_La_law_759 : decode code 759 = .ok (.iload 5, 2) := by decide +kernel
theorem d_La_law_761 : decode code 761 = .ok (.ifCond .ne 15, 3) := by decide +kernel
theorem d_La_law_764 : decode code 764 = .ok (.aload_n 3, 1) := by decide +kernel
theorem d_La_law_765 : decode code 765 = .ok (.iconst 0, 1) := by decide +kernel
theorem d_La_law_766 : decode code 766 = .ok (.laload, 1) := by decide +kernel
theorem d_La_law_767 : decode code 767 = .ok (.iload 6, 2) := by decide +kernel
theorem d_La_law_769 : decode code 769 = .ok (.i2l, 1) := by decide +kernel
theorem d_La_law_770 : decode code 770 = .ok (.lcmp, 1) := by decide +kernel
theorem d_La_law_771 : decode code 771 = .ok (.ifCond .eq 5, 3) := by decide +kernel
theorem d_La_law_774 : decode code 774 = .ok (.iconst 0, 1) := by decide +kernel
theorem d_La_law_775 : decode code 775 = .ok (.ireturn, 1) := by decide +kernel
theorem d_La_law_776 : decode code 776 = .ok (.goto 258, 3) := by decide +kernel
theorem d_La_law_779 : decode code 779 = .ok (.aload_n 1, 1) := by decide +kernel
theorem d_La_law_780 : decode code 780 = .ok (.aload_n 0, 1) := by decide +kernel
theorem d_La_law_781 : decode code 781 = .ok (.iload 4, 2) := by decide +kernel
theorem d_La_law_783 : decode code 783 = .ok (.iconst 1, 1) := by decide +kernel
theorem d_La_law_784 : decode code 784 = .ok (.iadd, 1) := by decide +kernel
theorem d_La_law_785 : decode code 785 = .ok (.iaload, 1) := by decide +kernel
theorem d_La_law_786 : decode code 786 = .ok (.aload_n 0, 1) := by decide +kernel
theorem d_La_law_787 : decode code 787 = .ok (.iload 4, 2) := by decide +kernel
theorem d_La_law_789 : decode code 789 = .ok (.iconst 2, 1) := by decide +kernel
theorem d_La_law_790 : decode code 790 = .ok (.iadd, 1) := by decide +kernel
theorem d_La_law_791 : decode code 791 = .ok (.iaload, 1) := by decide +kernel
theorem d_La_law_792 : decode code 792 = .ok (.aload_n 3, 1) := by decide +kernel
theorem d_La_law_793 : decode code 793 = .ok (.invokestatic 117, 3) := by decide +kernel
theorem d_La_law_796 : decode code 796 = .ok (.istore 5, 2) := by decide +kernel
theorem d_La_law_798 : decode code 798 = .ok (.aload_n 2, 1) := by decide +kernel
theorem d_La_law_799 : decode code 799 = .ok (.aload_n 0, 1) := by decide +kernel
theorem d_La_law_800 : decode code 800 = .ok (.iload 4, 2) := by decide +kernel
theorem d_La_law_802 : decode code 802 = .ok (.iconst 1, 1) := by decide +kernel
theorem d_La_law_803 : decode code 803 = .ok (.iadd, 1) := by decide +kernel
theorem d_La_law_804 : decode code 804 = .ok (.iaload, 1) := by decide +kernel
theorem d_La_law_805 : decode code 805 = .ok (.aload_n 0, 1) := by decide +kernel
theorem d_La_law_806 : decode code 806 = .ok (.iload 4, 2) := by decide +kernel
theorem d_La_law_808 : decode code 808 = .ok (.iconst 2, 1) := by decide +kernel
theorem d_La_law_809 : decode code 809 = .ok (.iadd, 1) := by decide +kernel
theorem d_La_law_810 : decode code 810 = .ok (.iaload, 1) := by decide +kernel
theorem d_La_law_811 : decode code 811 = .ok (.invokevirtual 119, 3) := by decide +kernel
theorem d_La_law_814 : decode code 814 = .ok (.istore 6, 2) := by decide +kernel
theorem d_La_law_816 : decode code 816 = .ok (.aload_n 2, 1) := by decide +kernel
theorem d_La_law_817 : decode code 817 = .ok (.invokevirtual 79, 3) := by decide +kernel
theorem d_La_law_820 : decode code 820 = .ok (.iload 5, 2) := by decide +kernel
theorem d_La_law_822 : decode code 822 = .ok (.if_icmp .eq 5, 3) := by decide +kernel
theorem d_La_law_825 : decode code 825 = .ok (.iconst 0, 1) := by decide +kernel
theorem d_La_law_826 : decode code 826 = .ok (.ireturn, 1) := by decide +kernel
theorem d_La_law_827 : decode code 827 = .ok (.iload 5, 2) := by decide +kernel
theorem d_La_law_829 : decode code 829 = .ok (.ifCond .ne 22, 3) := by decide +kernel
theorem d_La_law_832 : decode code 832 = .ok (.aload_n 3, 1) := by decide +kernel
theorem d_La_law_833 : decode code 833 = .ok (.iconst 0, 1) := by decide +kernel
theorem d_La_law_834 : decode code 834 = .ok (.laload, 1) := by decide +kernel
theorem d_La_law_835 : decode code 835 = .ok (.iload 6, 2) := by decide +kernel
theorem d_La_law_837 : decode code 837 = .ok (.ifCond .eq 7, 3) := by decide +kernel
theorem d_La_law_840 : decode code 840 = .ok (.lconst 1, 1) := by decide +kernel
theorem d_La_law_841 : decode code 841 = .ok (.goto 4, 3) := by decide +kernel
theorem d_La_law_844 : decode code 844 = .ok (.lconst 0, 1) := by decide +kernel
theorem d_La_law_845 : decode code 845 = .ok (.lcmp, 1) := by decide +kernel
theorem d_La_law_846 : decode code 846 = .ok (.ifCond .eq 5, 3) := by decide +kernel
theorem d_La_law_849 : decode code 849 = .ok (.iconst 0, 1) := by decide +kernel
theorem d_La_law_850 : decode code 850 = .ok (.ireturn, 1) := by decide +kernel
theorem d_La_law_851 : decode code 851 = .ok (.goto 183, 3) := by decide +kernel
theorem d_La_law_854 : decode code 854 = .ok (.aload_n 1, 1) := by decide +kernel
theorem d_La_law_855 : decode code 855 = .ok (.aload_n 0, 1) := by decide +kernel
theorem d_La_law_856 : decode code 856 = .ok (.iload 4, 2) := by decide +kernel
theorem d_La_law_858 : decode code 858 = .ok (.iconst 1, 1) := by decide +kernel
theorem d_La_law_859 : decode code 859 = .ok (.iadd, 1) := by decide +kernel
theorem d_La_law_860 : decode code 860 = .ok (.iaload, 1) := by decide +kernel
theorem d_La_law_861 : decode code 861 = .ok (.aload_n 3, 1) := by decide +kernel
theorem d_La_law_862 : decode code 862 = .ok (.invokestatic 120, 3) := by decide +kernel
theorem d_La_law_865 : decode code 865 = .ok (.istore 5, 2) := by decide +kernel
theorem d_La_law_867 : decode code 867 = .ok (.aload_n 2, 1) := by decide +kernel
theorem d_La_law_868 : decode code 868 = .ok (.aload_n 0, 1) := by decide +kernel
theorem d_La_law_869 : decode code 869 = .ok (.iload 4, 2) := by decide +kernel
theorem d_La_law_871 : decode code 871 = .ok (.iconst 1, 1) := by decide +kernel
theorem d_La_law_872 : decode code 872 = .ok (.iadd, 1) := by decide +kernel
theorem d_La_law_873 : decode code 873 = .ok (.iaload, 1) := by decide +kernel
theorem d_La_law_874 : decode code 874 = .ok (.invokevirtual 122, 3) := by decide +kernel
theorem d_La_law_877 : decode code 877 = .ok (.istore 6, 2) := by decide +kernel
theorem d_La_law_879 : decode code 879 = .ok (.aload_n 2, 1) := by decide +kernel
theorem d_La_law_880 : decode code 880 = .ok (.invokevirtual 79, 3) := by decide +kernel
theorem d_La_law_883 : decode code 883 = .ok (.iload 5, 2) := by decide +kernel
theorem d_La_law_885 : decode code 885 = .ok (.if_icmp .eq 5, 3) := by decide +kernel
theorem d_La_law_888 : decode code 888 = .ok (.iconst 0, 1) := by decide +kernel
theorem d_La_law_889 : decode code 889 = .ok (.ireturn, 1) := by decide +kernel
theorem d_La_law_890 : decode code 890 = .ok (.iload 5, 2) := by decide +kernel
theorem d_La_law_892 : decode code 892 = .ok (.ifCond .ne 15, 3) := by decide +kernel
theorem d_La_law_895 : decode code 895 = .ok (.aload_n 3, 1) := by decide +kernel
theorem d_La_law_896 : decode code 896 = .ok (.iconst 0, 1) := by decide +kernel
theorem d_La_law_897 : decode code 897 = .ok (.laload, 1) := by decide +kernel
theorem d_La_law_898 : decode code 898 = .ok (.iload 6, 2) := by decide +kernel
theorem d_La_law_900 : decode code 900 = .ok (.i2l, 1) := by decide +kernel
theorem d_La_law_901 : decode code 901 = .ok (.lcmp, 1) := by decide +kernel
theorem d_La_law_902 : decode code 902 = .ok (.ifCond .eq 5, 3) := by decide +kernel
theorem d_La_law_905 : decode code 905 = .ok (.iconst 0, 1) := by decide +kernel
theorem d_La_law_906 : decode code 906 = .ok (.ireturn, 1) := by decide +kernel
theorem d_La_law_907 : decode code 907 = .ok (.goto 127, 3) := by decide +kernel
theorem d_La_law_910 : decode code 910 = .ok (.aload_n 1, 1) := by decide +kernel
theorem d_La_law_911 : decode code 911 = .ok (.aload_n 0, 1) := by decide +kernel
theorem d_La_law_912 : decode code 912 = .ok (.iload 4, 2) := by decide +kernel
theorem d_La_law_914 : decode code 914 = .ok (.iconst 1, 1) := by decide +kernel
theorem d_La_law_915 : decode code 915 = .ok (.iadd, 1) := by decide +kernel
theorem d_La_law_916 : decode code 916 = .ok (.iaload, 1) := by decide +kernel
theorem d_La_law_917 : decode code 917 = .ok (.aload_n 0, 1) := by decide +kernel
theorem d_La_law_918 : decode code 918 = .ok (.iload 4, 2) := by decide +kernel
theorem d_La_law_920 : decode code 920 = .ok (.iconst 2, 1) := by decide +kernel
theorem d_La_law_921 : decode code 921 = .ok (.iadd, 1) := by decide +kernel
theorem d_La_law_922 : decode code 922 = .ok (.iaload, 1) := by decide +kernel
theorem d_La_law_923 : decode code 923 = .ok (.aload_n 3, 1) := by decide +kernel
theorem d_La_law_924 : decode code 924 = .ok (.invokestatic 123, 3) := by decide +kernel
theorem d_La_law_927 : decode code 927 = .ok (.istore 5, 2) := by decide +kernel
theorem d_La_law_929 : decode code 929 = .ok (.aload_n 2, 1) := by decide +kernel
theorem d_La_law_930 : decode code 930 = .ok (.aload_n 0, 1) := by decide +kernel
theorem d_La_law_931 : decode code 931 = .ok (.iload 4, 2) := by decide +kernel
theorem d_La_law_933 : decode code 933 = .ok (.iconst 1, 1) := by decide +kernel
theorem d_La_law_934 : decode code 934 = .ok (.iadd, 1) := by decide +kernel
theorem d_La_law_935 : decode code 935 = .ok (.iaload, 1) := by decide +kernel
theorem d_La_law_936 : decode code 936 = .ok (.aload_n 0, 1) := by decide +kernel
theorem d_La_law_937 : decode code 937 = .ok (.iload 4, 2) := by decide +kernel
theorem d_La_law_939 : decode code 939 = .ok (.iconst 2, 1) := by decide +kernel
theorem d_La_law_940 : decode code 940 = .ok (.iadd, 1) := by decide +kernel
theorem d_La_law_941 : decode code 941 = .ok (.iaload, 1) := by decide +kernel
theorem d_La_law_942 : decode code 942 = .ok (.invokevirtual 125, 3) := by decide +kernel
theorem d_La_law_945 : decode code 945 = .ok (.istore 6, 2) := by decide +kernel
theorem d_La_law_947 : decode code 947 = .ok (.aload_n 2, 1) := by decide +kernel
theorem d_La_law_948 : decode code 948 = .ok (.invokevirtual 79, 3) := by decide +kernel
theorem d_La_law_951 : decode code 951 = .ok (.iload 5, 2) := by decide +kernel
theorem d_La_law_953 : decode code 953 = .ok (.if_icmp .eq 5, 3) := by decide +kernel
theorem d_La_law_956 : decode code 956 = .ok (.iconst 0, 1) := by decide +kernel
theorem d_La_law_957 : decode code 957 = .ok (.ireturn, 1) := by decide +kernel
theorem d_La_law_958 : decode code 958 = .ok (.iload 5, 2) := by decide +kernel
theorem d_La_law_960 : decode code 960 = .ok (.ifCond .ne 15, 3) := by decide +kernel
theorem d_La_law_963 : decode code 963 = .ok (.aload_n 3, 1) := by decide +kernel
theorem d_La_law_964 : decode code 964 = .ok (.iconst 0, 1) := by decide +kernel
theorem d_La_law_965 : decode code 965 = .ok (.laload, 1) := by decide +kernel
theorem d_La_law_966 : decode code 966 = .ok (.iload 6, 2) := by decide +kernel
theorem d_La_law_968 : decode code 968 = .ok (.i2l, 1) := by decide +kernel
theorem d_La_law_969 : decode code 969 = .ok (.lcmp, 1) := by decide +kernel
theorem d_La_law_970 : decode code 970 = .ok (.ifCond .eq 5, 3) := by decide +kernel
theorem d_La_law_973 : decode code 973 = .ok (.iconst 0, 1) := by decide +kernel
theorem d_La_law_974 : decode code 974 = .ok (.ireturn, 1) := by decide +kernel
theorem d_La_law_975 : decode code 975 = .ok (.goto 59, 3) := by decide +kernel
theorem d_La_law_978 : decode code 978 = .ok (.aload_n 1, 1) := by decide +kernel
theorem d_La_law_979 : decode code 979 = .ok (.aload_n 0, 1) := by decide +kernel
theorem d_La_law_980 : decode code 980 = .ok (.iload 4, 2) := by decide +kernel
theorem d_La_law_982 : decode code 982 = .ok (.iconst 1, 1) := by decide +kernel
theorem d_La_law_983 : decode code 983 = .ok (.iadd, 1) := by decide +kernel
theorem d_La_law_984 : decode code 984 = .ok (.iaload, 1) := by decide +kernel
theorem d_La_law_985 : decode code 985 = .ok (.aload_n 3, 1) := by decide +kernel
theorem d_La_law_986 : decode code 986 = .ok (.invokestatic 126, 3) := by decide +kernel
theorem d_La_law_989 : decode code 989 = .ok (.istore 5, 2) := by decide +kernel
theorem d_La_law_991 : decode code 991 = .ok (.aload_n 2, 1) := by decide +kernel
theorem d_La_law_992 : decode code 992 = .ok (.aload_n 0, 1) := by decide +kernel
theorem d_La_law_993 : decode code 993 = .ok (.iload 4, 2) := by decide +kernel
theorem d_La_law_995 : decode code 995 = .ok (.iconst 1, 1) := by decide +kernel
theorem d_La_law_996 : decode code 996 = .ok (.iadd, 1) := by decide +kernel
theorem d_La_law_997 : decode code 997 = .ok (.iaload, 1) := by decide +kernel
theorem d_La_law_998 : decode code 998 = .ok (.invokevirtual 128, 3) := by decide +kernel
theorem d_La_law_1001 : decode code 1001 = .ok (.istore 6, 2) := by decide +kernel
theorem d_La_law_1003 : decode code 1003 = .ok (.aload_n 2, 1) := by decide +kernel
theorem d_La_law_1004 : decode code 1004 = .ok (.invokevirtual 79, 3) := by decide +kernel
theorem d_La_law_1007 : decode code 1007 = .ok (.iload 5, 2) := by decide +kernel
theorem d_La_law_1009 : decode code 1009 = .ok (.if_icmp .eq 5, 3) := by decide +kernel
theorem d_La_law_1012 : decode code 1012 = .ok (.iconst 0, 1) := by decide +kernel
theorem d_La_law_1013 : decode code 1013 = .ok (.ireturn, 1) := by decide +kernel
theorem d_La_law_1014 : decode code 1014 = .ok (.iload 5, 2) := by decide +kernel
theorem d_La_law_1016 : decode code 1016 = .ok (.ifCond .ne 15, 3) := by decide +kernel
theorem d_La_law_1019 : decode code 1019 = .ok (.aload_n 3, 1) := by decide +kernel
theorem d_La_law_1020 : decode code 1020 = .ok (.iconst 0, 1) := by decide +kernel
theorem d_La_law_1021 : decode code 1021 = .ok (.laload, 1) := by decide +kernel
theorem d_La_law_1022 : decode code 1022 = .ok (.iload 6, 2) := by decide +kernel
theorem d_La_law_1024 : decode code 1024 = .ok (.i2l, 1) := by decide +kernel
theorem d_La_law_1025 : decode code 1025 = .ok (.lcmp, 1) := by decide +kernel
theorem d_La_law_1026 : decode code 1026 = .ok (.ifCond .eq 5, 3) := by decide +kernel
theorem d_La_law_1029 : decode code 1029 = .ok (.iconst 0, 1) := by decide +kernel
theorem d_La_law_1030 : decode code 1030 = .ok (.ireturn, 1) := by decide +kernel
theorem d_La_law_1031 : decode code 1031 = .ok (.goto 3, 3) := by decide +kernel
theorem d_La_law_1034 : decode code 1034 = .ok (.iinc 4 4, 3) := by decide +kernel
theorem d_La_law_1037 : decode code 1037 = .ok (.goto (-1014), 3) := by decide +kernel
theorem d_La_law_1040 : decode code 1040 = .ok (.iconst 1, 1) := by decide +kernel
theorem d_La_law_1041 : decode code 1041 = .ok (.ireturn, 1) := by decide +kernel
