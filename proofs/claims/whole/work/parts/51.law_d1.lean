theorem d_L_law_561 : decode code 561 = .ok (.iload 5, 2) := by decide +kernel
theorem d_L_law_563 : decode code 563 = .ok (.if_icmp .eq 5, 3) := by decide +kernel
theorem d_L_law_566 : decode code 566 = .ok (.iconst 0, 1) := by decide +kernel
theorem d_L_law_567 : decode code 567 = .ok (.ireturn, 1) := by decide +kernel
theorem d_L_law_568 : decode code 568 = .ok (.iload 5, 2) := by decide +kernel
theorem d_L_law_570 : decode code 570 = .ok (.ifCond .ne 15, 3) := by decide +kernel
theorem d_L_law_573 : decode code 573 = .ok (.aload_n 3, 1) := by decide +kernel
theorem d_L_law_574 : decode code 574 = .ok (.iconst 0, 1) := by decide +kernel
theorem d_L_law_575 : decode code 575 = .ok (.laload, 1) := by decide +kernel
theorem d_L_law_576 : decode code 576 = .ok (.iload 6, 2) := by decide +kernel
theorem d_L_law_578 : decode code 578 = .ok (.i2l, 1) := by decide +kernel
theorem d_L_law_579 : decode code 579 = .ok (.lcmp, 1) := by decide +kernel
theorem d_L_law_580 : decode code 580 = .ok (.ifCond .eq 5, 3) := by decide +kernel
theorem d_L_law_583 : decode code 583 = .ok (.iconst 0, 1) := by decide +kernel
theorem d_L_law_584 : decode code 584 = .ok (.ireturn, 1) := by decide +kernel
theorem d_L_law_585 : decode code 585 = .ok (.goto 836, 3) := by decide +kernel
theorem d_L_law_588 : decode code 588 = .ok (.aload_n 1, 1) := by decide +kernel
theorem d_L_law_589 : decode code 589 = .ok (.aload_n 0, 1) := by decide +kernel
theorem d_L_law_590 : decode code 590 = .ok (.iload 4, 2) := by decide +kernel
theorem d_L_law_592 : decode code 592 = .ok (.iconst 1, 1) := by decide +kernel
theorem d_L_law_593 : decode code 593 = .ok (.iadd, 1) := by decide +kernel
theorem d_L_law_594 : decode code 594 = .ok (.iaload, 1) := by decide +kernel
theorem d_L_law_595 : decode code 595 = .ok (.aload_n 3, 1) := by decide +kernel
theorem d_L_law_596 : decode code 596 = .ok (.invokestatic 121, 3) := by decide +kernel
theorem d_L_law_599 : decode code 599 = .ok (.istore 5, 2) := by decide +kernel
theorem d_L_law_601 : decode code 601 = .ok (.aload_n 2, 1) := by decide +kernel
theorem d_L_law_602 : decode code 602 = .ok (.aload_n 0, 1) := by decide +kernel
theorem d_L_law_603 : decode code 603 = .ok (.iload 4, 2) := by decide +kernel
theorem d_L_law_605 : decode code 605 = .ok (.iconst 1, 1) := by decide +kernel
theorem d_L_law_606 : decode code 606 = .ok (.iadd, 1) := by decide +kernel
theorem d_L_law_607 : decode code 607 = .ok (.iaload, 1) := by decide +kernel
theorem d_L_law_608 : decode code 608 = .ok (.invokevirtual 123, 3) := by decide +kernel
theorem d_L_law_611 : decode code 611 = .ok (.istore 6, 2) := by decide +kernel
theorem d_L_law_613 : decode code 613 = .ok (.aload_n 2, 1) := by decide +kernel
theorem d_L_law_614 : decode code 614 = .ok (.invokevirtual 99, 3) := by decide +kernel
theorem d_L_law_617 : decode code 617 = .ok (.iload 5, 2) := by decide +kernel
theorem d_L_law_619 : decode code 619 = .ok (.if_icmp .eq 5, 3) := by decide +kernel
theorem d_L_law_622 : decode code 622 = .ok (.iconst 0, 1) := by decide +kernel
theorem d_L_law_623 : decode code 623 = .ok (.ireturn, 1) := by decide +kernel
theorem d_L_law_624 : decode code 624 = .ok (.iload 5, 2) := by decide +kernel
theorem d_L_law_626 : decode code 626 = .ok (.ifCond .ne 15, 3) := by decide +kernel
theorem d_L_law_629 : decode code 629 = .ok (.aload_n 3, 1) := by decide +kernel
theorem d_L_law_630 : decode code 630 = .ok (.iconst 0, 1) := by decide +kernel
theorem d_L_law_631 : decode code 631 = .ok (.laload, 1) := by decide +kernel
theorem d_L_law_632 : decode code 632 = .ok (.iload 6, 2) := by decide +kernel
theorem d_L_law_634 : decode code 634 = .ok (.i2l, 1) := by decide +kernel
theorem d_L_law_635 : decode code 635 = .ok (.lcmp, 1) := by decide +kernel
theorem d_L_law_636 : decode code 636 = .ok (.ifCond .eq 5, 3) := by decide +kernel
theorem d_L_law_639 : decode code 639 = .ok (.iconst 0, 1) := by decide +kernel
theorem d_L_law_640 : decode code 640 = .ok (.ireturn, 1) := by decide +kernel
theorem d_L_law_641 : decode code 641 = .ok (.goto 780, 3) := by decide +kernel
theorem d_L_law_644 : decode code 644 = .ok (.aload_n 1, 1) := by decide +kernel
theorem d_L_law_645 : decode code 645 = .ok (.aload_n 3, 1) := by decide +kernel
theorem d_L_law_646 : decode code 646 = .ok (.invokestatic 124, 3) := by decide +kernel
theorem d_L_law_649 : decode code 649 = .ok (.istore 5, 2) := by decide +kernel
theorem d_L_law_651 : decode code 651 = .ok (.aload_n 2, 1) := by decide +kernel
theorem d_L_law_652 : decode code 652 = .ok (.invokevirtual 127, 3) := by decide +kernel
theorem d_L_law_655 : decode code 655 = .ok (.istore 6, 2) := by decide +kernel
theorem d_L_law_657 : decode code 657 = .ok (.aload_n 2, 1) := by decide +kernel
theorem d_L_law_658 : decode code 658 = .ok (.invokevirtual 99, 3) := by decide +kernel
theorem d_L_law_661 : decode code 661 = .ok (.iload 5, 2) := by decide +kernel
theorem d_L_law_663 : decode code 663 = .ok (.if_icmp .eq 5, 3) := by decide +kernel
theorem d_L_law_666 : decode code 666 = .ok (.iconst 0, 1) := by decide +kernel
theorem d_L_law_667 : decode code 667 = .ok (.ireturn, 1) := by decide +kernel
theorem d_L_law_668 : decode code 668 = .ok (.iload 5, 2) := by decide +kernel
theorem d_L_law_670 : decode code 670 = .ok (.ifCond .ne 15, 3) := by decide +kernel
theorem d_L_law_673 : decode code 673 = .ok (.aload_n 3, 1) := by decide +kernel
theorem d_L_law_674 : decode code 674 = .ok (.iconst 0, 1) := by decide +kernel
theorem d_L_law_675 : decode code 675 = .ok (.laload, 1) := by decide +kernel
theorem d_L_law_676 : decode code 676 = .ok (.iload 6, 2) := by decide +kernel
theorem d_L_law_678 : decode code 678 = .ok (.i2l, 1) := by decide +kernel
theorem d_L_law_679 : decode code 679 = .ok (.lcmp, 1) := by decide +kernel
theorem d_L_law_680 : decode code 680 = .ok (.ifCond .eq 5, 3) := by decide +kernel
theorem d_L_law_683 : decode code 683 = .ok (.iconst 0, 1) := by decide +kernel
theorem d_L_law_684 : decode code 684 = .ok (.ireturn, 1) := by decide +kernel
theorem d_L_law_685 : decode code 685 = .ok (.goto 736, 3) := by decide +kernel
theorem d_L_law_688 : decode code 688 = .ok (.aload_n 1, 1) := by decide +kernel
theorem d_L_law_689 : decode code 689 = .ok (.aload_n 0, 1) := by decide +kernel
theorem d_L_law_690 : decode code 690 = .ok (.iload 4, 2) := by decide +kernel
theorem d_L_law_692 : decode code 692 = .ok (.iconst 1, 1) := by decide +kernel
theorem d_L_law_693 : decode code 693 = .ok (.iadd, 1) := by decide +kernel
theorem d_L_law_694 : decode code 694 = .ok (.iaload, 1) := by decide +kernel
theorem d_L_law_695 : decode code 695 = .ok (.aload_n 0, 1) := by decide +kernel
theorem d_L_law_696 : decode code 696 = .ok (.iload 4, 2) := by decide +kernel
theorem d_L_law_698 : decode code 698 = .ok (.iconst 2, 1) := by decide +kernel
theorem d_L_law_699 : decode code 699 = .ok (.iadd, 1) := by decide +kernel
theorem d_L_law_700 : decode code 700 = .ok (.iaload, 1) := by decide +kernel
theorem d_L_law_701 : decode code 701 = .ok (.aload_n 0, 1) := by decide +kernel
theorem d_L_law_702 : decode code 702 = .ok (.iload 4, 2) := by decide +kernel
theorem d_L_law_704 : decode code 704 = .ok (.iconst 3, 1) := by decide +kernel
theorem d_L_law_705 : decode code 705 = .ok (.iadd, 1) := by decide +kernel
theorem d_L_law_706 : decode code 706 = .ok (.iaload, 1) := by decide +kernel
theorem d_L_law_707 : decode code 707 = .ok (.aload_n 3, 1) := by decide +kernel
theorem d_L_law_708 : decode code 708 = .ok (.invokestatic 128, 3) := by decide +kernel
theorem d_L_law_711 : decode code 711 = .ok (.istore 5, 2) := by decide +kernel
theorem d_L_law_713 : decode code 713 = .ok (.aload_n 2, 1) := by decide +kernel
theorem d_L_law_714 : decode code 714 = .ok (.aload_n 0, 1) := by decide +kernel
theorem d_L_law_715 : decode code 715 = .ok (.iload 4, 2) := by decide +kernel
theorem d_L_law_717 : decode code 717 = .ok (.iconst 1, 1) := by decide +kernel
theorem d_L_law_718 : decode code 718 = .ok (.iadd, 1) := by decide +kernel
theorem d_L_law_719 : decode code 719 = .ok (.iaload, 1) := by decide +kernel
theorem d_L_law_720 : decode code 720 = .ok (.aload_n 0, 1) := by decide +kernel
theorem d_L_law_721 : decode code 721 = .ok (.iload 4, 2) := by decide +kernel
theorem d_L_law_723 : decode code 723 = .ok (.iconst 2, 1) := by decide +kernel
theorem d_L_law_724 : decode code 724 = .ok (.iadd, 1) := by decide +kernel
theorem d_L_law_725 : decode code 725 = .ok (.iaload, 1) := by decide +kernel
theorem d_L_law_726 : decode code 726 = .ok (.aload_n 0, 1) := by decide +kernel
theorem d_L_law_727 : decode code 727 = .ok (.iload 4, 2) := by decide +kernel
theorem d_L_law_729 : decode code 729 = .ok (.iconst 3, 1) := by decide +kernel
theorem d_L_law_730 : decode code 730 = .ok (.iadd, 1) := by decide +kernel
theorem d_L_law_731 : decode code 731 = .ok (.iaload, 1) := by decide +kernel
theorem d_L_law_732 : decode code 732 = .ok (.invokevirtual 131, 3) := by decide +kernel
theorem d_L_law_735 : decode code 735 = .ok (.istore 6, 2) := by decide +kernel
theorem d_L_law_737 : decode code 737 = .ok (.aload_n 2, 1) := by decide +kernel
theorem d_L_law_738 : decode code 738 = .ok (.invokevirtual 99, 3) := by decide +kernel
theorem d_L_law_741 : decode code 741 = .ok (.iload 5, 2) := by decide +kernel
theorem d_L_law_743 : decode code 743 = .ok (.if_icmp .eq 5, 3) := by decide +kernel
theorem d_L_law_746 : decode code 746 = .ok (.iconst 0, 1) := by decide +kernel
theorem d_L_law_747 : decode code 747 = .ok (.ireturn, 1) := by decide +kernel
theorem d_L_law_748 : decode code 748 = .ok (.iload 5, 2) := by decide +kernel
theorem d_L_law_750 : decode code 750 = .ok (.ifCond .ne 15, 3) := by decide +kernel
theorem d_L_law_753 : decode code 753 = .ok (.aload_n 3, 1) := by decide +kernel
theorem d_L_law_754 : decode code 754 = .ok (.iconst 0, 1) := by decide +kernel
theorem d_L_law_755 : decode code 755 = .ok (.laload, 1) := by decide +kernel
theorem d_L_law_756 : decode code 756 = .ok (.iload 6, 2) := by decide +kernel
theorem d_L_law_758 : decode code 758 = .ok (.i2l, 1) := by decide +kernel
theorem d_L_law_759 : decode code 759 = .ok (.lcmp, 1) := by decide +kernel
theorem d_L_law_760 : decode code 760 = .ok (.ifCond .eq 5, 3) := by decide +kernel
theorem d_L_law_763 : decode code 763 = .ok (.iconst 0, 1) := by decide +kernel
theorem d_L_law_764 : decode code 764 = .ok (.ireturn, 1) := by decide +kernel
theorem d_L_law_765 : decode code 765 = .ok (.goto 656, 3) := by decide +kernel
theorem d_L_law_768 : decode code 768 = .ok (.aload_n 1, 1) := by decide +kernel
theorem d_L_law_769 : decode code 769 = .ok (.invokevirtual 132, 3) := by decide +kernel
theorem d_L_law_772 : decode code 772 = .ok (.aload_n 2, 1) := by decide +kernel
theorem d_L_law_773 : decode code 773 = .ok (.invokevirtual 135, 3) := by decide +kernel
theorem d_L_law_776 : decode code 776 = .ok (.if_icmp .eq 645, 3) := by decide +kernel
theorem d_L_law_779 : decode code 779 = .ok (.iconst 0, 1) := by decide +kernel
theorem d_L_law_780 : decode code 780 = .ok (.ireturn, 1) := by decide +kernel
theorem d_L_law_781 : decode code 781 = .ok (.aload_n 1, 1) := by decide +kernel
theorem d_L_law_782 : decode code 782 = .ok (.aload_n 0, 1) := by decide +kernel
theorem d_L_law_783 : decode code 783 = .ok (.iload 4, 2) := by decide +kernel
theorem d_L_law_785 : decode code 785 = .ok (.iconst 1, 1) := by decide +kernel
theorem d_L_law_786 : decode code 786 = .ok (.iadd, 1) := by decide +kernel
theorem d_L_law_787 : decode code 787 = .ok (.iaload, 1) := by decide +kernel
theorem d_L_law_788 : decode code 788 = .ok (.aload_n 0, 1) := by decide +kernel
theorem d_L_law_789 : decode code 789 = .ok (.iload 4, 2) := by decide +kernel
theorem d_L_law_791 : decode code 791 = .ok (.iconst 2, 1) := by decide +kernel
theorem d_L_law_792 : decode code 792 = .ok (.iadd, 1) := by decide +kernel
theorem d_L_law_793 : decode code 793 = .ok (.iaload, 1) := by decide +kernel
theorem d_L_law_794 : decode code 794 = .ok (.aload_n 3, 1) := by decide +kernel
theorem d_L_law_795 : decode code 795 = .ok (.invokestatic 136, 3) := by decide +kernel
theorem d_L_law_798 : decode code 798 = .ok (.istore 5, 2) := by decide +kernel
theorem d_L_law_800 : decode code 800 = .ok (.aload_n 2, 1) := by decide +kernel
theorem d_L_law_801 : decode code 801 = .ok (.aload_n 0, 1) := by decide +kernel
theorem d_L_law_802 : decode code 802 = .ok (.iload 4, 2) := by decide +kernel
theorem d_L_law_804 : decode code 804 = .ok (.iconst 1, 1) := by decide +kernel
theorem d_L_law_805 : decode code 805 = .ok (.iadd, 1) := by decide +kernel
theorem d_L_law_806 : decode code 806 = .ok (.iaload, 1) := by decide +kernel
theorem d_L_law_807 : decode code 807 = .ok (.aload_n 0, 1) := by decide +kernel
theorem d_L_law_808 : decode code 808 = .ok (.iload 4, 2) := by decide +kernel
theorem d_L_law_810 : decode code 810 = .ok (.iconst 2, 1) := by decide +kernel
theorem d_L_law_811 : decode code 811 = .ok (.iadd, 1) := by decide +kernel
theorem d_L_law_812 : decode code 812 = .ok (.iaload, 1) := by decide +kernel
theorem d_L_law_813 : decode code 813 = .ok (.invokevirtual 138, 3) := by decide +kernel
theorem d_L_law_816 : decode code 816 = .ok (.lstore 6, 2) := by decide +kernel
theorem d_L_law_818 : decode code 818 = .ok (.aload_n 2, 1) := by decide +kernel
theorem d_L_law_819 : decode code 819 = .ok (.invokevirtual 99, 3) := by decide +kernel
theorem d_L_law_822 : decode code 822 = .ok (.iload 5, 2) := by decide +kernel
theorem d_L_law_824 : decode code 824 = .ok (.if_icmp .eq 5, 3) := by decide +kernel
theorem d_L_law_827 : decode code 827 = .ok (.iconst 0, 1) := by decide +kernel
theorem d_L_law_828 : decode code 828 = .ok (.ireturn, 1) := by decide +kernel
theorem d_L_law_829 : decode code 829 = .ok (.iload 5, 2) := by decide +kernel
theorem d_L_law_831 : decode code 831 = .ok (.ifCond .ne 14, 3) := by decide +kernel
theorem d_L_law_834 : decode code 834 = .ok (.aload_n 3, 1) := by decide +kernel
theorem d_L_law_835 : decode code 835 = .ok (.iconst 0, 1) := by decide +kernel
theorem d_L_law_836 : decode code 836 = .ok (.laload, 1) := by decide +kernel
theorem d_L_law_837 : decode code 837 = .ok (.lload 6, 2) := by decide +kernel
theorem d_L_law_839 : decode code 839 = .ok (.lcmp, 1) := by decide +kernel
theorem d_L_law_840 : decode code 840 = .ok (.ifCond .eq 5, 3) := by decide +kernel
theorem d_L_law_843 : decode code 843 = .ok (.iconst 0, 1) := by decide +kernel
theorem d_L_law_844 : decode code 844 = .ok (.ireturn, 1) := by decide +kernel
theorem d_L_law_845 : decode code 845 = .ok (.goto 576, 3) := by decide +kernel
theorem d_L_law_848 : decode code 848 = .ok (.aload_n 1, 1) := by decide +kernel
theorem d_L_law_849 : decode code 849 = .ok (.aload_n 3, 1) := by decide +kernel
theorem d_L_law_850 : decode code 850 = .ok (.invokestatic 139, 3) := by decide +kernel
theorem d_L_law_853 : decode code 853 = .ok (.istore 5, 2) := by decide +kernel
theorem d_L_law_855 : decode code 855 = .ok (.aload_n 2, 1) := by decide +kernel
theorem d_L_law_856 : decode code 856 = .ok (.invokevirtual 141, 3) := by decide +kernel
theorem d_L_law_859 : decode code 859 = .ok (.istore 6, 2) := by decide +kernel
theorem d_L_law_861 : decode code 861 = .ok (.aload_n 2, 1) := by decide +kernel
theorem d_L_law_862 : decode code 862 = .ok (.invokevirtual 99, 3) := by decide +kernel
theorem d_L_law_865 : decode code 865 = .ok (.iload 5, 2) := by decide +kernel
theorem d_L_law_867 : decode code 867 = .ok (.if_icmp .eq 5, 3) := by decide +kernel
theorem d_L_law_870 : decode code 870 = .ok (.iconst 0, 1) := by decide +kernel
theorem d_L_law_871 : decode code 871 = .ok (.ireturn, 1) := by decide +kernel
theorem d_L_law_872 : decode code 872 = .ok (.iload 5, 2) := by decide +kernel
theorem d_L_law_874 : decode code 874 = .ok (.ifCond .ne 22, 3) := by decide +kernel
theorem d_L_law_877 : decode code 877 = .ok (.aload_n 3, 1) := by decide +kernel
theorem d_L_law_878 : decode code 878 = .ok (.iconst 0, 1) := by decide +kernel
theorem d_L_law_879 : decode code 879 = .ok (.laload, 1) := by decide +kernel
theorem d_L_law_880 : decode code 880 = .ok (.iload 6, 2) := by decide +kernel
theorem d_L_law_882 : decode code 882 = .ok (.ifCond .eq 7, 3) := by decide +kernel
theorem d_L_law_885 : decode code 885 = .ok (.lconst 1, 1) := by decide +kernel
theorem d_L_law_886 : decode code 886 = .ok (.goto 4, 3) := by decide +kernel
theorem d_L_law_889 : decode code 889 = .ok (.lconst 0, 1) := by decide +kernel
theorem d_L_law_890 : decode code 890 = .ok (.lcmp, 1) := by decide +kernel
theorem d_L_law_891 : decode code 891 = .ok (.ifCond .eq 5, 3) := by decide +kernel
theorem d_L_law_894 : decode code 894 = .ok (.iconst 0, 1) := by decide +kernel
theorem d_L_law_895 : decode code 895 = .ok (.ireturn, 1) := by decide +kernel
theorem d_L_law_896 : decode code 896 = .ok (.goto 525, 3) := by decide +kernel
theorem d_L_law_899 : decode code 899 = .ok (.aload_n 1, 1) := by decide +kernel
theorem d_L_law_900 : decode code 900 = .ok (.aload_n 3, 1) := by decide +kernel
theorem d_L_law_901 : decode code 901 = .ok (.invokestatic 142, 3) := by decide +kernel
theorem d_L_law_904 : decode code 904 = .ok (.istore 5, 2) := by decide +kernel
theorem d_L_law_906 : decode code 906 = .ok (.aload_n 2, 1) := by decide +kernel
theorem d_L_law_907 : decode code 907 = .ok (.invokevirtual 144, 3) := by decide +kernel
theorem d_L_law_910 : decode code 910 = .ok (.istore 6, 2) := by decide +kernel
theorem d_L_law_912 : decode code 912 = .ok (.aload_n 2, 1) := by decide +kernel
theorem d_L_law_913 : decode code 913 = .ok (.invokevirtual 99, 3) := by decide +kernel
theorem d_L_law_916 : decode code 916 = .ok (.iload 5, 2) := by decide +kernel
theorem d_L_law_918 : decode code 918 = .ok (.if_icmp .eq 5, 3) := by decide +kernel
theorem d_L_law_921 : decode code 921 = .ok (.iconst 0, 1) := by decide +kernel
theorem d_L_law_922 : decode code 922 = .ok (.ireturn, 1) := by decide +kernel
theorem d_L_law_923 : decode code 923 = .ok (.iload 5, 2) := by decide +kernel
theorem d_L_law_925 : decode code 925 = .ok (.ifCond .ne 15, 3) := by decide +kernel
theorem d_L_law_928 : decode code 928 = .ok (.aload_n 3, 1) := by decide +kernel
theorem d_L_law_929 : decode code 929 = .ok (.iconst 0, 1) := by decide +kernel
theorem d_L_law_930 : decode code 930 = .ok (.laload, 1) := by decide +kernel
theorem d_L_law_931 : decode code 931 = .ok (.iload 6, 2) := by decide +kernel
theorem d_L_law_933 : decode code 933 = .ok (.i2l, 1) := by decide +kernel
theorem d_L_law_934 : decode code 934 = .ok (.lcmp, 1) := by decide +kernel
theorem d_L_law_935 : decode code 935 = .ok (.ifCond .eq 5, 3) := by decide +kernel
theorem d_L_law_938 : decode code 938 = .ok (.iconst 0, 1) := by decide +kernel
theorem d_L_law_939 : decode code 939 = .ok (.ireturn, 1) := by decide +kernel
theorem d_L_law_940 : decode code 940 = .ok (.goto 481, 3) := by decide +kernel
theorem d_L_law_943 : decode code 943 = .ok (.aload_n 1, 1) := by decide +kernel
theorem d_L_law_944 : decode code 944 = .ok (.aload_n 0, 1) := by decide +kernel
theorem d_L_law_945 : decode code 945 = .ok (.iload 4, 2) := by decide +kernel
theorem d_L_law_947 : decode code 947 = .ok (.iconst 1, 1) := by decide +kernel
theorem d_L_law_948 : decode code 948 = .ok (.iadd, 1) := by decide +kernel
theorem d_L_law_949 : decode code 949 = .ok (.iaload, 1) := by decide +kernel
theorem d_L_law_950 : decode code 950 = .ok (.aload_n 0, 1) := by decide +kernel
theorem d_L_law_951 : decode code 951 = .ok (.iload 4, 2) := by decide +kernel
theorem d_L_law_953 : decode code 953 = .ok (.iconst 2, 1) := by decide +kernel
theorem d_L_law_954 : decode code 954 = .ok (.iadd, 1) := by decide +kernel
theorem d_L_law_955 : decode code 955 = .ok (.iaload, 1) := by decide +kernel
theorem d_L_law_956 : decode code 956 = .ok (.aload_n 0, 1) := by decide +kernel
theorem d_L_law_957 : decode code 957 = .ok (.iload 4, 2) := by decide +kernel
theorem d_L_law_959 : decode code 959 = .ok (.iconst 3, 1) := by decide +kernel
theorem d_L_law_960 : decode code 960 = .ok (.iadd, 1) := by decide +kernel
theorem d_L_law_961 : decode code 961 = .ok (.iaload, 1) := by decide +kernel
theorem d_L_law_962 : decode code 962 = .ok (.aload_n 3, 1) := by decide +kernel
theorem d_L_law_963 : decode code 963 = .ok (.invokestatic 145, 3) := by decide +kernel
theorem d_L_law_966 : decode code 966 = .ok (.istore 5, 2) := by decide +kernel
theorem d_L_law_968 : decode code 968 = .ok (.aload_n 2, 1) := by decide +kernel
theorem d_L_law_969 : decode code 969 = .ok (.aload_n 0, 1) := by decide +kernel
theorem d_L_law_970 : decode code 970 = .ok (.iload 4, 2) := by decide +kernel
theorem d_L_law_972 : decode code 972 = .ok (.iconst 1, 1) := by decide +kernel
theorem d_L_law_973 : decode code 973 = .ok (.iadd, 1) := by decide +kernel
theorem d_L_law_974 : decode code 974 = .ok (.iaload, 1) := by decide +kernel
theorem d_L_law_975 : decode code 975 = .ok (.aload_n 0, 1) := by decide +kernel
theorem d_L_law_976 : decode code 976 = .ok (.iload 4, 2) := by decide +kernel
theorem d_L_law_978 : decode code 978 = .ok (.iconst 2, 1) := by decide +kernel
theorem d_L_law_979 : decode code 979 = .ok (.iadd, 1) := by decide +kernel
theorem d_L_law_980 : decode code 980 = .ok (.iaload, 1) := by decide +kernel
theorem d_L_law_981 : decode code 981 = .ok (.aload_n 0, 1) := by decide +kernel
theorem d_L_law_982 : decode code 982 = .ok (.iload 4, 2) := by decide +kernel
theorem d_L_law_984 : decode code 984 = .ok (.iconst 3, 1) := by decide +kernel
theorem d_L_law_985 : decode code 985 = .ok (.iadd, 1) := by decide +kernel
theorem d_L_law_986 : decode code 986 = .ok (.iaload, 1) := by decide +kernel
theorem d_L_law_987 : decode code 987 = .ok (.invokevirtual 147, 3) := by decide +kernel
theorem d_L_law_990 : decode code 990 = .ok (.istore 6, 2) := by decide +kernel
theorem d_L_law_992 : decode code 992 = .ok (.aload_n 2, 1) := by decide +kernel
theorem d_L_law_993 : decode code 993 = .ok (.invokevirtual 99, 3) := by decide +kernel
theorem d_L_law_996 : decode code 996 = .ok (.iload 5, 2) := by decide +kernel
theorem d_L_law_998 : decode code 998 = .ok (.if_icmp .eq 5, 3) := by decide +kernel
theorem d_L_law_1001 : decode code 1001 = .ok (.iconst 0, 1) := by decide +kernel
theorem d_L_law_1002 : decode code 1002 = .ok (.ireturn, 1) := by decide +kernel
theorem d_L_law_1003 : decode code 1003 = .ok (.iload 5, 2) := by decide +kernel
theorem d_L_law_1005 : decode code 1005 = .ok (.ifCond .ne 15, 3) := by decide +kernel
theorem d_L_law_1008 : decode code 1008 = .ok (.aload_n 3, 1) := by decide +kernel
theorem d_L_law_1009 : decode code 1009 = .ok (.iconst 0, 1) := by decide +kernel
theorem d_L_law_1010 : decode code 1010 = .ok (.laload, 1) := by decide +kernel
theorem d_L_law_1011 : decode code 1011 = .ok (.iload 6, 2) := by decide +kernel
theorem d_L_law_1013 : decode code 1013 = .ok (.i2l, 1) := by decide +kernel
theorem d_L_law_1014 : decode code 1014 = .ok (.lcmp, 1) := by decide +kernel
theorem d_L_law_1015 : decode code 1015 = .ok (.ifCond .eq 5, 3) := by decide +kernel
theorem d_L_law_1018 : decode code 1018 = .ok (.iconst 0, 1) := by decide +kernel
theorem d_L_law_1019 : decode code 1019 = .ok (.ireturn, 1) := by decide +kernel
theorem d_L_law_1020 : decode code 1020 = .ok (.goto 401, 3) := by decide +kernel
theorem d_L_law_1023 : decode code 1023 = .ok (.aload_n 1, 1) := by decide +kernel
theorem d_L_law_1024 : decode code 1024 = .ok (.aload_n 0, 1) := by decide +kernel
theorem d_L_law_1025 : decode code 1025 = .ok (.iload 4, 2) := by decide +kernel
theorem d_L_law_1027 : decode code 1027 = .ok (.iconst 1, 1) := by decide +kernel
theorem d_L_law_1028 : decode code 1028 = .ok (.iadd, 1) := by decide +kernel
theorem d_L_law_1029 : decode code 1029 = .ok (.iaload, 1) := by decide +kernel
theorem d_L_law_1030 : decode code 1030 = .ok (.aload_n 0, 1) := by decide +kernel
theorem d_L_law_1031 : decode code 1031 = .ok (.iload 4, 2) := by decide +kernel
theorem d_L_law_1033 : decode code 1033 = .ok (.iconst 2, 1) := by decide +kernel
theorem d_L_law_1034 : decode code 1034 = .ok (.iadd, 1) := by decide +kernel
