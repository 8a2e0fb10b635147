theorem dL_acts_565 : decode cL_acts 565 = .ok (.lload 10, 2) := by decide +kernel
theorem dL_acts_567 : decode cL_acts 567 = .ok (.lastore, 1) := by decide +kernel
theorem dL_acts_568 : decode cL_acts 568 = .ok (.aload_n 1, 1) := by decide +kernel
theorem dL_acts_569 : decode cL_acts 569 = .ok (.bipush 7, 2) := by decide +kernel
theorem dL_acts_571 : decode cL_acts 571 = .ok (.dup2, 1) := by decide +kernel
theorem dL_acts_572 : decode cL_acts 572 = .ok (.iaload, 1) := by decide +kernel
theorem dL_acts_573 : decode cL_acts 573 = .ok (.iconst 1, 1) := by decide +kernel
theorem dL_acts_574 : decode cL_acts 574 = .ok (.iadd, 1) := by decide +kernel
theorem dL_acts_575 : decode cL_acts 575 = .ok (.iastore, 1) := by decide +kernel
theorem dL_acts_576 : decode cL_acts 576 = .ok (.iload 6, 2) := by decide +kernel
theorem dL_acts_578 : decode cL_acts 578 = .ok (.ifCond .eq 29, 3) := by decide +kernel
theorem dL_acts_581 : decode cL_acts 581 = .ok (.aload_n 0, 1) := by decide +kernel
theorem dL_acts_582 : decode cL_acts 582 = .ok (.lload 10, 2) := by decide +kernel
theorem dL_acts_584 : decode cL_acts 584 = .ok (.invokestatic 52, 3) := by decide +kernel
theorem dL_acts_587 : decode cL_acts 587 = .ok (.ifCond .eq 20, 3) := by decide +kernel
theorem dL_acts_590 : decode cL_acts 590 = .ok (.aload_n 0, 1) := by decide +kernel
theorem dL_acts_591 : decode cL_acts 591 = .ok (.invokevirtual 62, 3) := by decide +kernel
theorem dL_acts_594 : decode cL_acts 594 = .ok (.aload_n 1, 1) := by decide +kernel
theorem dL_acts_595 : decode cL_acts 595 = .ok (.bipush 7, 2) := by decide +kernel
theorem dL_acts_597 : decode cL_acts 597 = .ok (.iaload, 1) := by decide +kernel
theorem dL_acts_598 : decode cL_acts 598 = .ok (.iconst 1, 1) := by decide +kernel
theorem dL_acts_599 : decode cL_acts 599 = .ok (.isub, 1) := by decide +kernel
theorem dL_acts_600 : decode cL_acts 600 = .ok (.if_icmp .ne 7, 3) := by decide +kernel
theorem dL_acts_603 : decode cL_acts 603 = .ok (.iconst 1, 1) := by decide +kernel
theorem dL_acts_604 : decode cL_acts 604 = .ok (.goto 4, 3) := by decide +kernel
theorem dL_acts_607 : decode cL_acts 607 = .ok (.iconst 0, 1) := by decide +kernel
theorem dL_acts_608 : decode cL_acts 608 = .ok (.ireturn, 1) := by decide +kernel
theorem dL_acts_609 : decode cL_acts 609 = .ok (.aload_n 1, 1) := by decide +kernel
theorem dL_acts_610 : decode cL_acts 610 = .ok (.bipush 6, 2) := by decide +kernel
theorem dL_acts_612 : decode cL_acts 612 = .ok (.iaload, 1) := by decide +kernel
theorem dL_acts_613 : decode cL_acts 613 = .ok (.ifCond .eq 10, 3) := by decide +kernel
theorem dL_acts_616 : decode cL_acts 616 = .ok (.iload 5, 2) := by decide +kernel
theorem dL_acts_618 : decode cL_acts 618 = .ok (.iconst 3, 1) := by decide +kernel
theorem dL_acts_619 : decode cL_acts 619 = .ok (.irem, 1) := by decide +kernel
theorem dL_acts_620 : decode cL_acts 620 = .ok (.ifCond .le 27, 3) := by decide +kernel
theorem dL_acts_623 : decode cL_acts 623 = .ok (.iload 6, 2) := by decide +kernel
theorem dL_acts_625 : decode cL_acts 625 = .ok (.ifCond .eq 20, 3) := by decide +kernel
theorem dL_acts_628 : decode cL_acts 628 = .ok (.aload_n 0, 1) := by decide +kernel
theorem dL_acts_629 : decode cL_acts 629 = .ok (.aload_n 1, 1) := by decide +kernel
theorem dL_acts_630 : decode cL_acts 630 = .ok (.bipush 6, 2) := by decide +kernel
theorem dL_acts_632 : decode cL_acts 632 = .ok (.iaload, 1) := by decide +kernel
theorem dL_acts_633 : decode cL_acts 633 = .ok (.invokevirtual 65, 3) := by decide +kernel
theorem dL_acts_636 : decode cL_acts 636 = .ok (.bipush (-11), 2) := by decide +kernel
theorem dL_acts_638 : decode cL_acts 638 = .ok (.if_icmp .ne 7, 3) := by decide +kernel
theorem dL_acts_641 : decode cL_acts 641 = .ok (.iconst 1, 1) := by decide +kernel
theorem dL_acts_642 : decode cL_acts 642 = .ok (.goto 4, 3) := by decide +kernel
theorem dL_acts_645 : decode cL_acts 645 = .ok (.iconst 0, 1) := by decide +kernel
theorem dL_acts_646 : decode cL_acts 646 = .ok (.ireturn, 1) := by decide +kernel
theorem dL_acts_647 : decode cL_acts 647 = .ok (.iload 5, 2) := by decide +kernel
theorem dL_acts_649 : decode cL_acts 649 = .ok (.iconst 3, 1) := by decide +kernel
theorem dL_acts_650 : decode cL_acts 650 = .ok (.idiv, 1) := by decide +kernel
theorem dL_acts_651 : decode cL_acts 651 = .ok (.aload_n 1, 1) := by decide +kernel
theorem dL_acts_652 : decode cL_acts 652 = .ok (.bipush 6, 2) := by decide +kernel
theorem dL_acts_654 : decode cL_acts 654 = .ok (.iaload, 1) := by decide +kernel
theorem dL_acts_655 : decode cL_acts 655 = .ok (.irem, 1) := by decide +kernel
theorem dL_acts_656 : decode cL_acts 656 = .ok (.istore 13, 2) := by decide +kernel
theorem dL_acts_658 : decode cL_acts 658 = .ok (.bipush 8, 2) := by decide +kernel
theorem dL_acts_660 : decode cL_acts 660 = .ok (.iload 13, 2) := by decide +kernel
theorem dL_acts_662 : decode cL_acts 662 = .ok (.iadd, 1) := by decide +kernel
theorem dL_acts_663 : decode cL_acts 663 = .ok (.istore 14, 2) := by decide +kernel
theorem dL_acts_665 : decode cL_acts 665 = .ok (.iload 14, 2) := by decide +kernel
theorem dL_acts_667 : decode cL_acts 667 = .ok (.bipush 11, 2) := by decide +kernel
theorem dL_acts_669 : decode cL_acts 669 = .ok (.if_icmp .ge 19, 3) := by decide +kernel
theorem dL_acts_672 : decode cL_acts 672 = .ok (.aload_n 3, 1) := by decide +kernel
theorem dL_acts_673 : decode cL_acts 673 = .ok (.iload 14, 2) := by decide +kernel
theorem dL_acts_675 : decode cL_acts 675 = .ok (.aload_n 3, 1) := by decide +kernel
theorem dL_acts_676 : decode cL_acts 676 = .ok (.iload 14, 2) := by decide +kernel
theorem dL_acts_678 : decode cL_acts 678 = .ok (.iconst 1, 1) := by decide +kernel
theorem dL_acts_679 : decode cL_acts 679 = .ok (.iadd, 1) := by decide +kernel
theorem dL_acts_680 : decode cL_acts 680 = .ok (.laload, 1) := by decide +kernel
theorem dL_acts_681 : decode cL_acts 681 = .ok (.lastore, 1) := by decide +kernel
theorem dL_acts_682 : decode cL_acts 682 = .ok (.iinc 14 1, 3) := by decide +kernel
theorem dL_acts_685 : decode cL_acts 685 = .ok (.goto (-20), 3) := by decide +kernel
theorem dL_acts_688 : decode cL_acts 688 = .ok (.aload_n 1, 1) := by decide +kernel
theorem dL_acts_689 : decode cL_acts 689 = .ok (.bipush 6, 2) := by decide +kernel
theorem dL_acts_691 : decode cL_acts 691 = .ok (.dup2, 1) := by decide +kernel
theorem dL_acts_692 : decode cL_acts 692 = .ok (.iaload, 1) := by decide +kernel
theorem dL_acts_693 : decode cL_acts 693 = .ok (.iconst 1, 1) := by decide +kernel
theorem dL_acts_694 : decode cL_acts 694 = .ok (.isub, 1) := by decide +kernel
theorem dL_acts_695 : decode cL_acts 695 = .ok (.iastore, 1) := by decide +kernel
theorem dL_acts_696 : decode cL_acts 696 = .ok (.iload 6, 2) := by decide +kernel
theorem dL_acts_698 : decode cL_acts 698 = .ok (.ifCond .eq 20, 3) := by decide +kernel
theorem dL_acts_701 : decode cL_acts 701 = .ok (.aload_n 0, 1) := by decide +kernel
theorem dL_acts_702 : decode cL_acts 702 = .ok (.iload 13, 2) := by decide +kernel
theorem dL_acts_704 : decode cL_acts 704 = .ok (.invokevirtual 65, 3) := by decide +kernel
theorem dL_acts_707 : decode cL_acts 707 = .ok (.aload_n 1, 1) := by decide +kernel
theorem dL_acts_708 : decode cL_acts 708 = .ok (.bipush 6, 2) := by decide +kernel
theorem dL_acts_710 : decode cL_acts 710 = .ok (.iaload, 1) := by decide +kernel
theorem dL_acts_711 : decode cL_acts 711 = .ok (.if_icmp .ne 7, 3) := by decide +kernel
theorem dL_acts_714 : decode cL_acts 714 = .ok (.iconst 1, 1) := by decide +kernel
theorem dL_acts_715 : decode cL_acts 715 = .ok (.goto 4, 3) := by decide +kernel
theorem dL_acts_718 : decode cL_acts 718 = .ok (.iconst 0, 1) := by decide +kernel
theorem dL_acts_719 : decode cL_acts 719 = .ok (.ireturn, 1) := by decide +kernel
theorem dL_acts_720 : decode cL_acts 720 = .ok (.aload_n 1, 1) := by decide +kernel
theorem dL_acts_721 : decode cL_acts 721 = .ok (.bipush 7, 2) := by decide +kernel
theorem dL_acts_723 : decode cL_acts 723 = .ok (.iaload, 1) := by decide +kernel
theorem dL_acts_724 : decode cL_acts 724 = .ok (.ifCond .eq 10, 3) := by decide +kernel
theorem dL_acts_727 : decode cL_acts 727 = .ok (.iload 5, 2) := by decide +kernel
theorem dL_acts_729 : decode cL_acts 729 = .ok (.iconst 3, 1) := by decide +kernel
theorem dL_acts_730 : decode cL_acts 730 = .ok (.irem, 1) := by decide +kernel
theorem dL_acts_731 : decode cL_acts 731 = .ok (.ifCond .le 27, 3) := by decide +kernel
theorem dL_acts_734 : decode cL_acts 734 = .ok (.iload 6, 2) := by decide +kernel
theorem dL_acts_736 : decode cL_acts 736 = .ok (.ifCond .eq 20, 3) := by decide +kernel
theorem dL_acts_739 : decode cL_acts 739 = .ok (.aload_n 0, 1) := by decide +kernel
theorem dL_acts_740 : decode cL_acts 740 = .ok (.aload_n 1, 1) := by decide +kernel
theorem dL_acts_741 : decode cL_acts 741 = .ok (.bipush 7, 2) := by decide +kernel
theorem dL_acts_743 : decode cL_acts 743 = .ok (.iaload, 1) := by decide +kernel
theorem dL_acts_744 : decode cL_acts 744 = .ok (.invokevirtual 68, 3) := by decide +kernel
theorem dL_acts_747 : decode cL_acts 747 = .ok (.bipush (-11), 2) := by decide +kernel
theorem dL_acts_749 : decode cL_acts 749 = .ok (.if_icmp .ne 7, 3) := by decide +kernel
theorem dL_acts_752 : decode cL_acts 752 = .ok (.iconst 1, 1) := by decide +kernel
theorem dL_acts_753 : decode cL_acts 753 = .ok (.goto 4, 3) := by decide +kernel
theorem dL_acts_756 : decode cL_acts 756 = .ok (.iconst 0, 1) := by decide +kernel
theorem dL_acts_757 : decode cL_acts 757 = .ok (.ireturn, 1) := by decide +kernel
theorem dL_acts_758 : decode cL_acts 758 = .ok (.aload_n 3, 1) := by decide +kernel
theorem dL_acts_759 : decode cL_acts 759 = .ok (.bipush 12, 2) := by decide +kernel
theorem dL_acts_761 : decode cL_acts 761 = .ok (.iload 5, 2) := by decide +kernel
theorem dL_acts_763 : decode cL_acts 763 = .ok (.iconst 3, 1) := by decide +kernel
theorem dL_acts_764 : decode cL_acts 764 = .ok (.idiv, 1) := by decide +kernel
theorem dL_acts_765 : decode cL_acts 765 = .ok (.aload_n 1, 1) := by decide +kernel
theorem dL_acts_766 : decode cL_acts 766 = .ok (.bipush 7, 2) := by decide +kernel
theorem dL_acts_768 : decode cL_acts 768 = .ok (.iaload, 1) := by decide +kernel
theorem dL_acts_769 : decode cL_acts 769 = .ok (.irem, 1) := by decide +kernel
theorem dL_acts_770 : decode cL_acts 770 = .ok (.ifCond .ne 10, 3) := by decide +kernel
theorem dL_acts_773 : decode cL_acts 773 = .ok (.aload_n 3, 1) := by decide +kernel
theorem dL_acts_774 : decode cL_acts 774 = .ok (.bipush 13, 2) := by decide +kernel
theorem dL_acts_776 : decode cL_acts 776 = .ok (.laload, 1) := by decide +kernel
theorem dL_acts_777 : decode cL_acts 777 = .ok (.goto 7, 3) := by decide +kernel
theorem dL_acts_780 : decode cL_acts 780 = .ok (.aload_n 3, 1) := by decide +kernel
theorem dL_acts_781 : decode cL_acts 781 = .ok (.bipush 12, 2) := by decide +kernel
theorem dL_acts_783 : decode cL_acts 783 = .ok (.laload, 1) := by decide +kernel
theorem dL_acts_784 : decode cL_acts 784 = .ok (.lastore, 1) := by decide +kernel
theorem dL_acts_785 : decode cL_acts 785 = .ok (.aload_n 1, 1) := by decide +kernel
theorem dL_acts_786 : decode cL_acts 786 = .ok (.bipush 7, 2) := by decide +kernel
theorem dL_acts_788 : decode cL_acts 788 = .ok (.dup2, 1) := by decide +kernel
theorem dL_acts_789 : decode cL_acts 789 = .ok (.iaload, 1) := by decide +kernel
theorem dL_acts_790 : decode cL_acts 790 = .ok (.iconst 1, 1) := by decide +kernel
theorem dL_acts_791 : decode cL_acts 791 = .ok (.isub, 1) := by decide +kernel
theorem dL_acts_792 : decode cL_acts 792 = .ok (.iastore, 1) := by decide +kernel
theorem dL_acts_793 : decode cL_acts 793 = .ok (.iload 6, 2) := by decide +kernel
theorem dL_acts_795 : decode cL_acts 795 = .ok (.ifCond .eq 29, 3) := by decide +kernel
theorem dL_acts_798 : decode cL_acts 798 = .ok (.aload_n 0, 1) := by decide +kernel
theorem dL_acts_799 : decode cL_acts 799 = .ok (.iload 5, 2) := by decide +kernel
theorem dL_acts_801 : decode cL_acts 801 = .ok (.iconst 3, 1) := by decide +kernel
theorem dL_acts_802 : decode cL_acts 802 = .ok (.idiv, 1) := by decide +kernel
theorem dL_acts_803 : decode cL_acts 803 = .ok (.aload_n 1, 1) := by decide +kernel
theorem dL_acts_804 : decode cL_acts 804 = .ok (.bipush 7, 2) := by decide +kernel
theorem dL_acts_806 : decode cL_acts 806 = .ok (.iaload, 1) := by decide +kernel
theorem dL_acts_807 : decode cL_acts 807 = .ok (.iconst 1, 1) := by decide +kernel
theorem dL_acts_808 : decode cL_acts 808 = .ok (.iadd, 1) := by decide +kernel
theorem dL_acts_809 : decode cL_acts 809 = .ok (.irem, 1) := by decide +kernel
theorem dL_acts_810 : decode cL_acts 810 = .ok (.invokevirtual 68, 3) := by decide +kernel
theorem dL_acts_813 : decode cL_acts 813 = .ok (.aload_n 1, 1) := by decide +kernel
theorem dL_acts_814 : decode cL_acts 814 = .ok (.bipush 7, 2) := by decide +kernel
theorem dL_acts_816 : decode cL_acts 816 = .ok (.iaload, 1) := by decide +kernel
theorem dL_acts_817 : decode cL_acts 817 = .ok (.if_icmp .ne 7, 3) := by decide +kernel
theorem dL_acts_820 : decode cL_acts 820 = .ok (.iconst 1, 1) := by decide +kernel
theorem dL_acts_821 : decode cL_acts 821 = .ok (.goto 4, 3) := by decide +kernel
theorem dL_acts_824 : decode cL_acts 824 = .ok (.iconst 0, 1) := by decide +kernel
theorem dL_acts_825 : decode cL_acts 825 = .ok (.ireturn, 1) := by decide +kernel
theorem dL_acts_826 : decode cL_acts 826 = .ok (.iload 5, 2) := by decide +kernel
theorem dL_acts_828 : decode cL_acts 828 = .ok (.iconst 5, 1) := by decide +kernel
theorem dL_acts_829 : decode cL_acts 829 = .ok (.irem, 1) := by decide +kernel
theorem dL_acts_830 : decode cL_acts 830 = .ok (.ifCond .ne 13, 3) := by decide +kernel
theorem dL_acts_833 : decode cL_acts 833 = .ok (.iload 5, 2) := by decide +kernel
theorem dL_acts_835 : decode cL_acts 835 = .ok (.iconst 5, 1) := by decide +kernel
theorem dL_acts_836 : decode cL_acts 836 = .ok (.idiv, 1) := by decide +kernel
theorem dL_acts_837 : decode cL_acts 837 = .ok (.bipush 26, 2) := by decide +kernel
theorem dL_acts_839 : decode cL_acts 839 = .ok (.irem, 1) := by decide +kernel
theorem dL_acts_840 : decode cL_acts 840 = .ok (.goto 12, 3) := by decide +kernel
theorem dL_acts_843 : decode cL_acts 843 = .ok (.iload 5, 2) := by decide +kernel
theorem dL_acts_845 : decode cL_acts 845 = .ok (.iconst 1, 1) := by decide +kernel
theorem dL_acts_846 : decode cL_acts 846 = .ok (.invokestatic 48, 3) := by decide +kernel
theorem dL_acts_849 : decode cL_acts 849 = .ok (.l2i, 1) := by decide +kernel
theorem dL_acts_850 : decode cL_acts 850 = .ok (.iconst 1, 1) := by decide +kernel
theorem dL_acts_851 : decode cL_acts 851 = .ok (.isub, 1) := by decide +kernel
theorem dL_acts_852 : decode cL_acts 852 = .ok (.istore 14, 2) := by decide +kernel
theorem dL_acts_854 : decode cL_acts 854 = .ok (.aload_n 2, 1) := by decide +kernel
theorem dL_acts_855 : decode cL_acts 855 = .ok (.iload 14, 2) := by decide +kernel
theorem dL_acts_857 : decode cL_acts 857 = .ok (.iaload, 1) := by decide +kernel
theorem dL_acts_858 : decode cL_acts 858 = .ok (.istore 15, 2) := by decide +kernel
theorem dL_acts_860 : decode cL_acts 860 = .ok (.aload_n 2, 1) := by decide +kernel
theorem dL_acts_861 : decode cL_acts 861 = .ok (.iload 14, 2) := by decide +kernel
theorem dL_acts_863 : decode cL_acts 863 = .ok (.iconst 1, 1) := by decide +kernel
theorem dL_acts_864 : decode cL_acts 864 = .ok (.iload 5, 2) := by decide +kernel
theorem dL_acts_866 : decode cL_acts 866 = .ok (.sipush 130, 3) := by decide +kernel
theorem dL_acts_869 : decode cL_acts 869 = .ok (.idiv, 1) := by decide +kernel
theorem dL_acts_870 : decode cL_acts 870 = .ok (.bipush 9, 2) := by decide +kernel
theorem dL_acts_872 : decode cL_acts 872 = .ok (.irem, 1) := by decide +kernel
theorem dL_acts_873 : decode cL_acts 873 = .ok (.iadd, 1) := by decide +kernel
theorem dL_acts_874 : decode cL_acts 874 = .ok (.iastore, 1) := by decide +kernel
theorem dL_acts_875 : decode cL_acts 875 = .ok (.iload 6, 2) := by decide +kernel
theorem dL_acts_877 : decode cL_acts 877 = .ok (.ifCond .eq 25, 3) := by decide +kernel
theorem dL_acts_880 : decode cL_acts 880 = .ok (.aload_n 0, 1) := by decide +kernel
theorem dL_acts_881 : decode cL_acts 881 = .ok (.bipush 97, 2) := by decide +kernel
theorem dL_acts_883 : decode cL_acts 883 = .ok (.iload 14, 2) := by decide +kernel
theorem dL_acts_885 : decode cL_acts 885 = .ok (.iadd, 1) := by decide +kernel
theorem dL_acts_886 : decode cL_acts 886 = .ok (.aload_n 2, 1) := by decide +kernel
theorem dL_acts_887 : decode cL_acts 887 = .ok (.iload 14, 2) := by decide +kernel
theorem dL_acts_889 : decode cL_acts 889 = .ok (.iaload, 1) := by decide +kernel
theorem dL_acts_890 : decode cL_acts 890 = .ok (.invokevirtual 71, 3) := by decide +kernel
theorem dL_acts_893 : decode cL_acts 893 = .ok (.iload 15, 2) := by decide +kernel
theorem dL_acts_895 : decode cL_acts 895 = .ok (.if_icmp .ne 7, 3) := by decide +kernel
theorem dL_acts_898 : decode cL_acts 898 = .ok (.iconst 1, 1) := by decide +kernel
theorem dL_acts_899 : decode cL_acts 899 = .ok (.goto 4, 3) := by decide +kernel
theorem dL_acts_902 : decode cL_acts 902 = .ok (.iconst 0, 1) := by decide +kernel
theorem dL_acts_903 : decode cL_acts 903 = .ok (.ireturn, 1) := by decide +kernel
theorem dL_acts_904 : decode cL_acts 904 = .ok (.iload 5, 2) := by decide +kernel
theorem dL_acts_906 : decode cL_acts 906 = .ok (.iconst 5, 1) := by decide +kernel
theorem dL_acts_907 : decode cL_acts 907 = .ok (.irem, 1) := by decide +kernel
theorem dL_acts_908 : decode cL_acts 908 = .ok (.istore 16, 2) := by decide +kernel
theorem dL_acts_910 : decode cL_acts 910 = .ok (.iload 16, 2) := by decide +kernel
theorem dL_acts_912 : decode cL_acts 912 = .ok (.ifCond .ne 12, 3) := by decide +kernel
theorem dL_acts_915 : decode cL_acts 915 = .ok (.iload 5, 2) := by decide +kernel
theorem dL_acts_917 : decode cL_acts 917 = .ok (.iconst 5, 1) := by decide +kernel
theorem dL_acts_918 : decode cL_acts 918 = .ok (.idiv, 1) := by decide +kernel
theorem dL_acts_919 : decode cL_acts 919 = .ok (.iconst 4, 1) := by decide +kernel
theorem dL_acts_920 : decode cL_acts 920 = .ok (.irem, 1) := by decide +kernel
theorem dL_acts_921 : decode cL_acts 921 = .ok (.goto 80, 3) := by decide +kernel
theorem dL_acts_924 : decode cL_acts 924 = .ok (.iload 16, 2) := by decide +kernel
theorem dL_acts_926 : decode cL_acts 926 = .ok (.iconst 1, 1) := by decide +kernel
theorem dL_acts_927 : decode cL_acts 927 = .ok (.if_icmp .ne 15, 3) := by decide +kernel
theorem dL_acts_930 : decode cL_acts 930 = .ok (.iconst 1, 1) := by decide +kernel
theorem dL_acts_931 : decode cL_acts 931 = .ok (.iload 5, 2) := by decide +kernel
theorem dL_acts_933 : decode cL_acts 933 = .ok (.iconst 5, 1) := by decide +kernel
theorem dL_acts_934 : decode cL_acts 934 = .ok (.idiv, 1) := by decide +kernel
theorem dL_acts_935 : decode cL_acts 935 = .ok (.bipush 50, 2) := by decide +kernel
theorem dL_acts_937 : decode cL_acts 937 = .ok (.irem, 1) := by decide +kernel
theorem dL_acts_938 : decode cL_acts 938 = .ok (.iadd, 1) := by decide +kernel
theorem dL_acts_939 : decode cL_acts 939 = .ok (.goto 62, 3) := by decide +kernel
theorem dL_acts_942 : decode cL_acts 942 = .ok (.iload 16, 2) := by decide +kernel
theorem dL_acts_944 : decode cL_acts 944 = .ok (.iconst 2, 1) := by decide +kernel
theorem dL_acts_945 : decode cL_acts 945 = .ok (.if_icmp .ne 15, 3) := by decide +kernel
theorem dL_acts_948 : decode cL_acts 948 = .ok (.iconst 1, 1) := by decide +kernel
theorem dL_acts_949 : decode cL_acts 949 = .ok (.iload 5, 2) := by decide +kernel
theorem dL_acts_951 : decode cL_acts 951 = .ok (.iconst 5, 1) := by decide +kernel
theorem dL_acts_952 : decode cL_acts 952 = .ok (.idiv, 1) := by decide +kernel
theorem dL_acts_953 : decode cL_acts 953 = .ok (.bipush 8, 2) := by decide +kernel
theorem dL_acts_955 : decode cL_acts 955 = .ok (.irem, 1) := by decide +kernel
theorem dL_acts_956 : decode cL_acts 956 = .ok (.iadd, 1) := by decide +kernel
theorem dL_acts_957 : decode cL_acts 957 = .ok (.goto 44, 3) := by decide +kernel
theorem dL_acts_960 : decode cL_acts 960 = .ok (.iload 16, 2) := by decide +kernel
theorem dL_acts_962 : decode cL_acts 962 = .ok (.iconst 3, 1) := by decide +kernel
theorem dL_acts_963 : decode cL_acts 963 = .ok (.if_icmp .ne 15, 3) := by decide +kernel
theorem dL_acts_966 : decode cL_acts 966 = .ok (.iconst 1, 1) := by decide +kernel
theorem dL_acts_967 : decode cL_acts 967 = .ok (.iload 5, 2) := by decide +kernel
theorem dL_acts_969 : decode cL_acts 969 = .ok (.iconst 5, 1) := by decide +kernel
theorem dL_acts_970 : decode cL_acts 970 = .ok (.idiv, 1) := by decide +kernel
theorem dL_acts_971 : decode cL_acts 971 = .ok (.bipush 9, 2) := by decide +kernel
theorem dL_acts_973 : decode cL_acts 973 = .ok (.irem, 1) := by decide +kernel
theorem dL_acts_974 : decode cL_acts 974 = .ok (.iadd, 1) := by decide +kernel
theorem dL_acts_975 : decode cL_acts 975 = .ok (.goto 26, 3) := by decide +kernel
theorem dL_acts_978 : decode cL_acts 978 = .ok (.bipush 20, 2) := by decide +kernel
theorem dL_acts_980 : decode cL_acts 980 = .ok (.iload 5, 2) := by decide +kernel
theorem dL_acts_982 : decode cL_acts 982 = .ok (.iconst 5, 1) := by decide +kernel
theorem dL_acts_983 : decode cL_acts 983 = .ok (.idiv, 1) := by decide +kernel
theorem dL_acts_984 : decode cL_acts 984 = .ok (.iload 5, 2) := by decide +kernel
theorem dL_acts_986 : decode cL_acts 986 = .ok (.iconst 2, 1) := by decide +kernel
theorem dL_acts_987 : decode cL_acts 987 = .ok (.irem, 1) := by decide +kernel
theorem dL_acts_988 : decode cL_acts 988 = .ok (.ifCond .ne 9, 3) := by decide +kernel
theorem dL_acts_991 : decode cL_acts 991 = .ok (.sipush 181, 3) := by decide +kernel
theorem dL_acts_994 : decode cL_acts 994 = .ok (.goto 5, 3) := by decide +kernel
theorem dL_acts_997 : decode cL_acts 997 = .ok (.bipush 40, 2) := by decide +kernel
theorem dL_acts_999 : decode cL_acts 999 = .ok (.irem, 1) := by decide +kernel
theorem dL_acts_1000 : decode cL_acts 1000 = .ok (.iadd, 1) := by decide +kernel
theorem dL_acts_1001 : decode cL_acts 1001 = .ok (.istore 17, 2) := by decide +kernel
theorem dL_acts_1003 : decode cL_acts 1003 = .ok (.aload_n 1, 1) := by decide +kernel
theorem dL_acts_1004 : decode cL_acts 1004 = .ok (.iload 16, 2) := by decide +kernel
theorem dL_acts_1006 : decode cL_acts 1006 = .ok (.iaload, 1) := by decide +kernel
theorem dL_acts_1007 : decode cL_acts 1007 = .ok (.istore 18, 2) := by decide +kernel
theorem dL_acts_1009 : decode cL_acts 1009 = .ok (.aload_n 1, 1) := by decide +kernel
theorem dL_acts_1010 : decode cL_acts 1010 = .ok (.iload 16, 2) := by decide +kernel
theorem dL_acts_1012 : decode cL_acts 1012 = .ok (.iload 17, 2) := by decide +kernel
theorem dL_acts_1014 : decode cL_acts 1014 = .ok (.iastore, 1) := by decide +kernel
theorem dL_acts_1015 : decode cL_acts 1015 = .ok (.iload 6, 2) := by decide +kernel
theorem dL_acts_1017 : decode cL_acts 1017 = .ok (.ifCond .eq 20, 3) := by decide +kernel
theorem dL_acts_1020 : decode cL_acts 1020 = .ok (.aload_n 0, 1) := by decide +kernel
theorem dL_acts_1021 : decode cL_acts 1021 = .ok (.iload 16, 2) := by decide +kernel
theorem dL_acts_1023 : decode cL_acts 1023 = .ok (.iload 17, 2) := by decide +kernel
theorem dL_acts_1025 : decode cL_acts 1025 = .ok (.invokevirtual 74, 3) := by decide +kernel
theorem dL_acts_1028 : decode cL_acts 1028 = .ok (.iload 18, 2) := by decide +kernel
theorem dL_acts_1030 : decode cL_acts 1030 = .ok (.if_icmp .ne 7, 3) := by decide +kernel
theorem dL_acts_1033 : decode cL_acts 1033 = .ok (.iconst 1, 1) := by decide +kernel
theorem dL_acts_1034 : decode cL_acts 1034 = .ok (.goto 4, 3) := by decide +kernel
theorem dL_acts_1037 : decode cL_acts 1037 = .ok (.iconst 0, 1) := by decide +kernel
theorem dL_acts_1038 : decode cL_acts 1038 = .ok (.ireturn, 1) := by decide +kernel
theorem dL_begins_0 : decode cL_begins 0 = .ok (.aload_n 0, 1) := by decide +kernel
theorem dL_begins_1 : decode cL_begins 1 = .ok (.iconst 1, 1) := by decide +kernel
theorem dL_begins_2 : decode cL_begins 2 = .ok (.bipush 10, 2) := by decide +kernel
theorem dL_begins_4 : decode cL_begins 4 = .ok (.iastore, 1) := by decide +kernel
theorem dL_begins_5 : decode cL_begins 5 = .ok (.aload_n 0, 1) := by decide +kernel
theorem dL_begins_6 : decode cL_begins 6 = .ok (.iconst 2, 1) := by decide +kernel
theorem dL_begins_7 : decode cL_begins 7 = .ok (.iconst 3, 1) := by decide +kernel
theorem dL_begins_8 : decode cL_begins 8 = .ok (.iastore, 1) := by decide +kernel
theorem dL_begins_9 : decode cL_begins 9 = .ok (.aload_n 0, 1) := by decide +kernel
theorem dL_begins_10 : decode cL_begins 10 = .ok (.iconst 3, 1) := by decide +kernel
theorem dL_begins_11 : decode cL_begins 11 = .ok (.iconst 3, 1) := by decide +kernel
theorem dL_begins_12 : decode cL_begins 12 = .ok (.iastore, 1) := by decide +kernel
theorem dL_begins_13 : decode cL_begins 13 = .ok (.aload_n 0, 1) := by decide +kernel
theorem dL_begins_14 : decode cL_begins 14 = .ok (.iconst 4, 1) := by decide +kernel
theorem dL_begins_15 : decode cL_begins 15 = .ok (.bipush 80, 2) := by decide +kernel
theorem dL_begins_17 : decode cL_begins 17 = .ok (.iastore, 1) := by decide +kernel
theorem dL_begins_18 : decode cL_begins 18 = .ok (.iconst 0, 1) := by decide +kernel
theorem dL_begins_19 : decode cL_begins 19 = .ok (.istore_n 2, 1) := by decide +kernel
theorem dL_begins_20 : decode cL_begins 20 = .ok (.iload_n 2, 1) := by decide +kernel
theorem dL_begins_21 : decode cL_begins 21 = .ok (.bipush 26, 2) := by decide +kernel
theorem dL_begins_23 : decode cL_begins 23 = .ok (.if_icmp .ge 73, 3) := by decide +kernel
theorem dL_begins_26 : decode cL_begins 26 = .ok (.aload_n 1, 1) := by decide +kernel
theorem dL_begins_27 : decode cL_begins 27 = .ok (.iload_n 2, 1) := by decide +kernel
theorem dL_begins_28 : decode cL_begins 28 = .ok (.iload_n 2, 1) := by decide +kernel
theorem dL_begins_29 : decode cL_begins 29 = .ok (.bipush 8, 2) := by decide +kernel
theorem dL_begins_31 : decode cL_begins 31 = .ok (.if_icmp .eq 15, 3) := by decide +kernel
theorem dL_begins_34 : decode cL_begins 34 = .ok (.iload_n 2, 1) := by decide +kernel
theorem dL_begins_35 : decode cL_begins 35 = .ok (.bipush 9, 2) := by decide +kernel
theorem dL_begins_37 : decode cL_begins 37 = .ok (.if_icmp .eq 9, 3) := by decide +kernel
theorem dL_begins_40 : decode cL_begins 40 = .ok (.iload_n 2, 1) := by decide +kernel
theorem dL_begins_41 : decode cL_begins 41 = .ok (.bipush 11, 2) := by decide +kernel
theorem dL_begins_43 : decode cL_begins 43 = .ok (.if_icmp .ne 7, 3) := by decide +kernel
theorem dL_begins_46 : decode cL_begins 46 = .ok (.iconst 2, 1) := by decide +kernel
theorem dL_begins_47 : decode cL_begins 47 = .ok (.goto 42, 3) := by decide +kernel
theorem dL_begins_50 : decode cL_begins 50 = .ok (.iload_n 2, 1) := by decide +kernel
theorem dL_begins_51 : decode cL_begins 51 = .ok (.iconst 5, 1) := by decide +kernel
theorem dL_begins_52 : decode cL_begins 52 = .ok (.if_icmp .eq 15, 3) := by decide +kernel
theorem dL_begins_55 : decode cL_begins 55 = .ok (.iload_n 2, 1) := by decide +kernel
theorem dL_begins_56 : decode cL_begins 56 = .ok (.bipush 17, 2) := by decide +kernel
theorem dL_begins_58 : decode cL_begins 58 = .ok (.if_icmp .eq 9, 3) := by decide +kernel
theorem dL_begins_61 : decode cL_begins 61 = .ok (.iload_n 2, 1) := by decide +kernel
theorem dL_begins_62 : decode cL_begins 62 = .ok (.bipush 19, 2) := by decide +kernel
theorem dL_begins_64 : decode cL_begins 64 = .ok (.if_icmp .ne 7, 3) := by decide +kernel
theorem dL_begins_67 : decode cL_begins 67 = .ok (.iconst 3, 1) := by decide +kernel
theorem dL_begins_68 : decode cL_begins 68 = .ok (.goto 21, 3) := by decide +kernel
theorem dL_begins_71 : decode cL_begins 71 = .ok (.iload_n 2, 1) := by decide +kernel
theorem dL_begins_72 : decode cL_begins 72 = .ok (.bipush 12, 2) := by decide +kernel
theorem dL_begins_74 : decode cL_begins 74 = .ok (.if_icmp .eq 9, 3) := by decide +kernel
theorem dL_begins_77 : decode cL_begins 77 = .ok (.iload_n 2, 1) := by decide +kernel
theorem dL_begins_78 : decode cL_begins 78 = .ok (.bipush 22, 2) := by decide +kernel
theorem dL_begins_80 : decode cL_begins 80 = .ok (.if_icmp .ne 8, 3) := by decide +kernel
theorem dL_begins_83 : decode cL_begins 83 = .ok (.bipush 6, 2) := by decide +kernel
theorem dL_begins_85 : decode cL_begins 85 = .ok (.goto 4, 3) := by decide +kernel
theorem dL_begins_88 : decode cL_begins 88 = .ok (.iconst 4, 1) := by decide +kernel
theorem dL_begins_89 : decode cL_begins 89 = .ok (.iastore, 1) := by decide +kernel
theorem dL_begins_90 : decode cL_begins 90 = .ok (.iinc 2 1, 3) := by decide +kernel
theorem dL_begins_93 : decode cL_begins 93 = .ok (.goto (-73), 3) := by decide +kernel
theorem dL_begins_96 : decode cL_begins 96 = .ok (.return_, 1) := by decide +kernel
set_option maxRecDepth 20000 in
theorem ggL_isSo_X8_count : GoodIn wsL_isSo wsX8_count := goodIn_r _ [7, 8, 9, 10, 11, 12, 13, 14, 15, 16, 17, 18, 19, 20, 21, 22, 23, 24, 25, 26, 27, 28, 29, 30, 31, 32, 33, 34, 35, 36, 37, 38, 39, 40, 41, 42, 43, 44, 45, 46, 47, 48, 49, 50, 51, 52, 53, 54, 55, 56, 57, 58, 59, 60, 61, 62, 63, 64, 65, 66, 67, 68, 69, 70, 71, 72, 73, 74, 75, 76, 77, 78, 79, 80, 81, 82, 83, 84, 85, 86, 87, 88, 89, 90, 91, 92, 93, 94, 95, 96, 97, 98, 99, 100, 101, 102, 103, 104, 105, 106, 107, 108, 109, 110, 111, 112, 113, 114, 115, 116, 117, 118, 119, 120, 121, 122, 123, 124, 125, 126, 127, 128, 129, 130, 131, 132, 133, 134, 135, 239, 240, 241, 242, 243, 244, 245, 246, 247, 248, 249, 250, 251, 252, 253, 254, 255, 256, 257, 258, 259, 260, 261, 262, 263, 264, 265, 266, 267, 268, 269, 270, 271, 272, 273, 274, 275, 276] (by decide +kernel) (by decide +kernel)
set_option maxRecDepth 20000 in
theorem gL_isSo_X8_count : GoodIn wsL_isSo (wsV RL 77 RX8 yX8_count wsX8_count) := goodIn_app (goodIn_of _ (by decide +kernel)) ggL_isSo_X8_count
set_option maxRecDepth 20000 in
theorem ggL_isSo_L_formOf : GoodIn wsL_isSo wsL_formOf := goodIn_r _ [139, 140, 141, 138, 142, 143, 144, 145] (by decide +kernel) (by decide +kernel)
set_option maxRecDepth 20000 in
theorem gL_isSo_L_formOf : GoodIn wsL_isSo (va_wsS RL 25 yL_formOf wsL_formOf) := goodIn_app (goodIn_of _ (by decide +kernel)) ggL_isSo_L_formOf
set_option maxRecDepth 20000 in
theorem ggL_isSo_L_width : GoodIn wsL_isSo wsL_width := goodIn_r _ [148, 2, 143, 144, 138, 145] (by decide +kernel) (by decide +kernel)
set_option maxRecDepth 20000 in
theorem gL_isSo_L_width : GoodIn wsL_isSo (va_wsS RL 21 yL_width wsL_width) := goodIn_app (goodIn_of _ (by decide +kernel)) ggL_isSo_L_width
set_option maxRecDepth 20000 in
theorem ggL_isSo_L_shown : GoodIn wsL_isSo wsL_shown := goodIn_r _ [151, 136, 137, 138, 139, 140, 141, 142, 143, 144, 145, 146, 147, 148, 2, 152, 153, 154, 1] (by decide +kernel) (by decide +kernel)
set_option maxRecDepth 20000 in
theorem gL_isSo_L_shown : GoodIn wsL_isSo (va_wsS RL 80 yL_shown wsL_shown) := goodIn_app (goodIn_of _ (by decide +kernel)) ggL_isSo_L_shown
set_option maxRecDepth 20000 in
theorem ggL_isSo_L_under : GoodIn wsL_isSo wsL_under := goodIn_r _ [157, 140, 141, 138, 142, 143, 144, 145, 152, 153, 154, 1, 146, 147, 148, 2] (by decide +kernel) (by decide +kernel)
set_option maxRecDepth 20000 in
theorem gL_isSo_L_under : GoodIn wsL_isSo (va_wsS RL 83 yL_under wsL_under) := goodIn_app (goodIn_of _ (by decide +kernel)) ggL_isSo_L_under
set_option maxRecDepth 20000 in
theorem ggL_isSo_X8_line : GoodIn wsL_isSo wsX8_line := goodIn_r _ [161, 9, 8, 162, 163, 164, 165, 166, 167, 168, 23, 169, 40, 170, 171, 172, 173, 174, 30, 31, 32, 33, 34, 35, 175, 176, 177, 178, 52, 53, 15, 16, 17, 18, 19, 179, 180, 181, 182, 119, 120, 121, 122, 123, 47, 20, 21, 22, 24, 25, 26, 27, 28, 29, 239, 240, 241, 242, 243, 244, 245, 246, 247, 248, 249, 250, 256, 257, 258, 259, 260, 261, 262, 263, 264, 265, 251, 252, 253, 254, 255] (by decide +kernel) (by decide +kernel)
set_option maxRecDepth 20000 in
theorem gL_isSo_X8_line : GoodIn wsL_isSo (wsV RL 86 RX8 yX8_line wsX8_line) := goodIn_app (goodIn_of _ (by decide +kernel)) ggL_isSo_X8_line
set_option maxRecDepth 20000 in
theorem ggL_isSo_X8_widthAgain : GoodIn wsL_isSo wsX8_widthAgain := goodIn_r _ [186, 9, 166, 167, 168, 23, 169, 40, 175, 176, 177, 178, 174, 52, 30, 31, 32, 33, 34, 35, 53, 15, 16, 17, 18, 19, 187, 188, 189, 190, 191, 192, 120, 121, 122, 123, 239, 240, 241, 242, 243, 244, 245, 256, 257, 258, 259, 260, 261, 262, 263, 264, 246, 247, 248, 249, 250, 265, 251, 252, 253, 254, 255] (by decide +kernel) (by decide +kernel)
set_option maxRecDepth 20000 in
theorem gL_isSo_X8_widthAgain : GoodIn wsL_isSo (wsV RL 89 RX8 yX8_widthAgain wsX8_widthAgain) := goodIn_app (goodIn_of _ (by decide +kernel)) ggL_isSo_X8_widthAgain
set_option maxRecDepth 20000 in
theorem ggL_isSo_X8_word : GoodIn wsL_isSo wsX8_word := goodIn_r _ [196, 8, 9, 197, 198, 199, 17, 200, 19, 201, 202, 203, 204, 205, 206, 31, 32, 33, 34, 35, 207, 96, 97, 23, 98, 99, 30, 192, 120, 121, 122, 123, 208, 26, 27, 28, 29, 209, 210, 211, 212, 213, 187, 188, 189, 190, 191, 214, 215, 216, 6, 217, 11, 10, 218, 70, 71, 65, 72, 73, 67, 74, 42, 43, 44, 45, 46, 68, 75, 76, 77, 78, 79, 219, 59, 60, 61, 220, 221, 222, 223, 224, 225, 81, 82, 83, 84, 85, 86, 239, 240, 241, 242, 243, 244, 245, 246, 247, 248, 249, 250, 251, 252, 253, 254, 255, 265, 256, 257, 258, 259, 260, 261, 262, 263, 264, 271, 272, 266, 267, 268, 269, 270] (by decide +kernel) (by decide +kernel)
set_option maxRecDepth 20000 in
theorem gL_isSo_X8_word : GoodIn wsL_isSo (wsV RL 92 RX8 yX8_word wsX8_word) := goodIn_app (goodIn_of _ (by decide +kernel)) ggL_isSo_X8_word
set_option maxRecDepth 20000 in
theorem ggL_isSo_L_length : GoodIn wsL_isSo wsL_length := goodIn_r _ [145] (by decide +kernel) (by decide +kernel)
