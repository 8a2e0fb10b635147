theorem dL_isSo_703 : decode cL_isSo 703 = .ok (.iload 16, 2) := by decide +kernel
theorem dL_isSo_705 : decode cL_isSo 705 = .ok (.iaload, 1) := by decide +kernel
theorem dL_isSo_706 : decode cL_isSo 706 = .ok (.iload 13, 2) := by decide +kernel
theorem dL_isSo_708 : decode cL_isSo 708 = .ok (.if_icmp .eq 7, 3) := by decide +kernel
theorem dL_isSo_711 : decode cL_isSo 711 = .ok (.iconst 1, 1) := by decide +kernel
theorem dL_isSo_712 : decode cL_isSo 712 = .ok (.goto 4, 3) := by decide +kernel
theorem dL_isSo_715 : decode cL_isSo 715 = .ok (.iconst 0, 1) := by decide +kernel
theorem dL_isSo_716 : decode cL_isSo 716 = .ok (.istore 15, 2) := by decide +kernel
theorem dL_isSo_718 : decode cL_isSo 718 = .ok (.iinc 16 1, 3) := by decide +kernel
theorem dL_isSo_721 : decode cL_isSo 721 = .ok (.goto (-32), 3) := by decide +kernel
theorem dL_isSo_724 : decode cL_isSo 724 = .ok (.aload 4, 2) := by decide +kernel
theorem dL_isSo_726 : decode cL_isSo 726 = .ok (.iconst 5, 1) := by decide +kernel
theorem dL_isSo_727 : decode cL_isSo 727 = .ok (.dup2, 1) := by decide +kernel
theorem dL_isSo_728 : decode cL_isSo 728 = .ok (.iaload, 1) := by decide +kernel
theorem dL_isSo_729 : decode cL_isSo 729 = .ok (.iload 15, 2) := by decide +kernel
theorem dL_isSo_731 : decode cL_isSo 731 = .ok (.ifCond .eq 7, 3) := by decide +kernel
theorem dL_isSo_734 : decode cL_isSo 734 = .ok (.iconst 1, 1) := by decide +kernel
theorem dL_isSo_735 : decode cL_isSo 735 = .ok (.goto 4, 3) := by decide +kernel
theorem dL_isSo_738 : decode cL_isSo 738 = .ok (.iconst 0, 1) := by decide +kernel
theorem dL_isSo_739 : decode cL_isSo 739 = .ok (.iadd, 1) := by decide +kernel
theorem dL_isSo_740 : decode cL_isSo 740 = .ok (.iastore, 1) := by decide +kernel
theorem dL_isSo_741 : decode cL_isSo 741 = .ok (.iconst 0, 1) := by decide +kernel
theorem dL_isSo_742 : decode cL_isSo 742 = .ok (.istore 16, 2) := by decide +kernel
theorem dL_isSo_744 : decode cL_isSo 744 = .ok (.iload 16, 2) := by decide +kernel
theorem dL_isSo_746 : decode cL_isSo 746 = .ok (.aload_n 3, 1) := by decide +kernel
theorem dL_isSo_747 : decode cL_isSo 747 = .ok (.iload 10, 2) := by decide +kernel
theorem dL_isSo_749 : decode cL_isSo 749 = .ok (.laload, 1) := by decide +kernel
theorem dL_isSo_750 : decode cL_isSo 750 = .ok (.invokestatic 9, 3) := by decide +kernel
theorem dL_isSo_753 : decode cL_isSo 753 = .ok (.if_icmp .ge 69, 3) := by decide +kernel
theorem dL_isSo_756 : decode cL_isSo 756 = .ok (.iload 9, 2) := by decide +kernel
theorem dL_isSo_758 : decode cL_isSo 758 = .ok (.ifCond .eq 55, 3) := by decide +kernel
theorem dL_isSo_761 : decode cL_isSo 761 = .ok (.aload_n 0, 1) := by decide +kernel
theorem dL_isSo_762 : decode cL_isSo 762 = .ok (.iload 10, 2) := by decide +kernel
theorem dL_isSo_764 : decode cL_isSo 764 = .ok (.iload 16, 2) := by decide +kernel
theorem dL_isSo_766 : decode cL_isSo 766 = .ok (.invokevirtual 98, 3) := by decide +kernel
theorem dL_isSo_769 : decode cL_isSo 769 = .ok (.iload 11, 2) := by decide +kernel
theorem dL_isSo_771 : decode cL_isSo 771 = .ok (.ifCond .ge 33, 3) := by decide +kernel
theorem dL_isSo_774 : decode cL_isSo 774 = .ok (.bipush 96, 2) := by decide +kernel
theorem dL_isSo_776 : decode cL_isSo 776 = .ok (.aload_n 3, 1) := by decide +kernel
theorem dL_isSo_777 : decode cL_isSo 777 = .ok (.iload 10, 2) := by decide +kernel
theorem dL_isSo_779 : decode cL_isSo 779 = .ok (.laload, 1) := by decide +kernel
theorem dL_isSo_780 : decode cL_isSo 780 = .ok (.iconst 5, 1) := by decide +kernel
theorem dL_isSo_781 : decode cL_isSo 781 = .ok (.aload_n 3, 1) := by decide +kernel
theorem dL_isSo_782 : decode cL_isSo 782 = .ok (.iload 10, 2) := by decide +kernel
theorem dL_isSo_784 : decode cL_isSo 784 = .ok (.laload, 1) := by decide +kernel
theorem dL_isSo_785 : decode cL_isSo 785 = .ok (.invokestatic 9, 3) := by decide +kernel
theorem dL_isSo_788 : decode cL_isSo 788 = .ok (.iconst 1, 1) := by decide +kernel
theorem dL_isSo_789 : decode cL_isSo 789 = .ok (.isub, 1) := by decide +kernel
theorem dL_isSo_790 : decode cL_isSo 790 = .ok (.iload 16, 2) := by decide +kernel
theorem dL_isSo_792 : decode cL_isSo 792 = .ok (.isub, 1) := by decide +kernel
theorem dL_isSo_793 : decode cL_isSo 793 = .ok (.imul, 1) := by decide +kernel
theorem dL_isSo_794 : decode cL_isSo 794 = .ok (.lshr, 1) := by decide +kernel
theorem dL_isSo_795 : decode cL_isSo 795 = .ok (.ldc2_w 15, 3) := by decide +kernel
theorem dL_isSo_798 : decode cL_isSo 798 = .ok (.land, 1) := by decide +kernel
theorem dL_isSo_799 : decode cL_isSo 799 = .ok (.l2i, 1) := by decide +kernel
theorem dL_isSo_800 : decode cL_isSo 800 = .ok (.iadd, 1) := by decide +kernel
theorem dL_isSo_801 : decode cL_isSo 801 = .ok (.goto 5, 3) := by decide +kernel
theorem dL_isSo_804 : decode cL_isSo 804 = .ok (.bipush (-12), 2) := by decide +kernel
theorem dL_isSo_806 : decode cL_isSo 806 = .ok (.if_icmp .ne 7, 3) := by decide +kernel
theorem dL_isSo_809 : decode cL_isSo 809 = .ok (.iconst 1, 1) := by decide +kernel
theorem dL_isSo_810 : decode cL_isSo 810 = .ok (.goto 4, 3) := by decide +kernel
theorem dL_isSo_813 : decode cL_isSo 813 = .ok (.iconst 0, 1) := by decide +kernel
theorem dL_isSo_814 : decode cL_isSo 814 = .ok (.istore 9, 2) := by decide +kernel
theorem dL_isSo_816 : decode cL_isSo 816 = .ok (.iinc 16 1, 3) := by decide +kernel
theorem dL_isSo_819 : decode cL_isSo 819 = .ok (.goto (-75), 3) := by decide +kernel
theorem dL_isSo_822 : decode cL_isSo 822 = .ok (.iload 9, 2) := by decide +kernel
theorem dL_isSo_824 : decode cL_isSo 824 = .ok (.ifCond .eq 42, 3) := by decide +kernel
theorem dL_isSo_827 : decode cL_isSo 827 = .ok (.aload_n 0, 1) := by decide +kernel
theorem dL_isSo_828 : decode cL_isSo 828 = .ok (.iload 10, 2) := by decide +kernel
theorem dL_isSo_830 : decode cL_isSo 830 = .ok (.bipush 12, 2) := by decide +kernel
theorem dL_isSo_832 : decode cL_isSo 832 = .ok (.invokevirtual 98, 3) := by decide +kernel
theorem dL_isSo_835 : decode cL_isSo 835 = .ok (.iload 11, 2) := by decide +kernel
theorem dL_isSo_837 : decode cL_isSo 837 = .ok (.ifCond .ge 8, 3) := by decide +kernel
theorem dL_isSo_840 : decode cL_isSo 840 = .ok (.bipush (-14), 2) := by decide +kernel
theorem dL_isSo_842 : decode cL_isSo 842 = .ok (.goto 5, 3) := by decide +kernel
theorem dL_isSo_845 : decode cL_isSo 845 = .ok (.bipush (-12), 2) := by decide +kernel
theorem dL_isSo_847 : decode cL_isSo 847 = .ok (.if_icmp .ne 19, 3) := by decide +kernel
theorem dL_isSo_850 : decode cL_isSo 850 = .ok (.iload 11, 2) := by decide +kernel
theorem dL_isSo_852 : decode cL_isSo 852 = .ok (.ifCond .lt 10, 3) := by decide +kernel
theorem dL_isSo_855 : decode cL_isSo 855 = .ok (.iload 13, 2) := by decide +kernel
theorem dL_isSo_857 : decode cL_isSo 857 = .ok (.iload 12, 2) := by decide +kernel
theorem dL_isSo_859 : decode cL_isSo 859 = .ok (.if_icmp .lt 7, 3) := by decide +kernel
theorem dL_isSo_862 : decode cL_isSo 862 = .ok (.iconst 1, 1) := by decide +kernel
theorem dL_isSo_863 : decode cL_isSo 863 = .ok (.goto 4, 3) := by decide +kernel
theorem dL_isSo_866 : decode cL_isSo 866 = .ok (.iconst 0, 1) := by decide +kernel
theorem dL_isSo_867 : decode cL_isSo 867 = .ok (.istore 9, 2) := by decide +kernel
theorem dL_isSo_869 : decode cL_isSo 869 = .ok (.iinc 10 1, 3) := by decide +kernel
theorem dL_isSo_872 : decode cL_isSo 872 = .ok (.goto (-744), 3) := by decide +kernel
theorem dL_isSo_875 : decode cL_isSo 875 = .ok (.iload 9, 2) := by decide +kernel
theorem dL_isSo_877 : decode cL_isSo 877 = .ok (.ifCond .eq 51, 3) := by decide +kernel
theorem dL_isSo_880 : decode cL_isSo 880 = .ok (.iload 6, 2) := by decide +kernel
theorem dL_isSo_882 : decode cL_isSo 882 = .ok (.ifCond .lt 42, 3) := by decide +kernel
theorem dL_isSo_885 : decode cL_isSo 885 = .ok (.aload_n 0, 1) := by decide +kernel
theorem dL_isSo_886 : decode cL_isSo 886 = .ok (.iload 6, 2) := by decide +kernel
theorem dL_isSo_888 : decode cL_isSo 888 = .ok (.iconst 1, 1) := by decide +kernel
theorem dL_isSo_889 : decode cL_isSo 889 = .ok (.invokevirtual 86, 3) := by decide +kernel
theorem dL_isSo_892 : decode cL_isSo 892 = .ok (.aload_n 1, 1) := by decide +kernel
theorem dL_isSo_893 : decode cL_isSo 893 = .ok (.iconst 5, 1) := by decide +kernel
theorem dL_isSo_894 : decode cL_isSo 894 = .ok (.iaload, 1) := by decide +kernel
theorem dL_isSo_895 : decode cL_isSo 895 = .ok (.iload 8, 2) := by decide +kernel
theorem dL_isSo_897 : decode cL_isSo 897 = .ok (.isub, 1) := by decide +kernel
theorem dL_isSo_898 : decode cL_isSo 898 = .ok (.if_icmp .ne 30, 3) := by decide +kernel
theorem dL_isSo_901 : decode cL_isSo 901 = .ok (.aload_n 0, 1) := by decide +kernel
theorem dL_isSo_902 : decode cL_isSo 902 = .ok (.iload 6, 2) := by decide +kernel
theorem dL_isSo_904 : decode cL_isSo 904 = .ok (.iconst 2, 1) := by decide +kernel
theorem dL_isSo_905 : decode cL_isSo 905 = .ok (.invokevirtual 86, 3) := by decide +kernel
theorem dL_isSo_908 : decode cL_isSo 908 = .ok (.iload 7, 2) := by decide +kernel
theorem dL_isSo_910 : decode cL_isSo 910 = .ok (.if_icmp .ne 18, 3) := by decide +kernel
theorem dL_isSo_913 : decode cL_isSo 913 = .ok (.aload_n 0, 1) := by decide +kernel
theorem dL_isSo_914 : decode cL_isSo 914 = .ok (.iload 6, 2) := by decide +kernel
theorem dL_isSo_916 : decode cL_isSo 916 = .ok (.invokevirtual 89, 3) := by decide +kernel
theorem dL_isSo_919 : decode cL_isSo 919 = .ok (.iload 7, 2) := by decide +kernel
theorem dL_isSo_921 : decode cL_isSo 921 = .ok (.if_icmp .ne 7, 3) := by decide +kernel
theorem dL_isSo_924 : decode cL_isSo 924 = .ok (.iconst 1, 1) := by decide +kernel
theorem dL_isSo_925 : decode cL_isSo 925 = .ok (.goto 4, 3) := by decide +kernel
theorem dL_isSo_928 : decode cL_isSo 928 = .ok (.iconst 0, 1) := by decide +kernel
theorem dL_isSo_929 : decode cL_isSo 929 = .ok (.istore 9, 2) := by decide +kernel
theorem dL_isSo_931 : decode cL_isSo 931 = .ok (.iload 9, 2) := by decide +kernel
theorem dL_isSo_933 : decode cL_isSo 933 = .ok (.ifCond .eq 110, 3) := by decide +kernel
theorem dL_isSo_936 : decode cL_isSo 936 = .ok (.aload_n 0, 1) := by decide +kernel
theorem dL_isSo_937 : decode cL_isSo 937 = .ok (.iconst 1, 1) := by decide +kernel
theorem dL_isSo_938 : decode cL_isSo 938 = .ok (.invokevirtual 77, 3) := by decide +kernel
theorem dL_isSo_941 : decode cL_isSo 941 = .ok (.aload 4, 2) := by decide +kernel
theorem dL_isSo_943 : decode cL_isSo 943 = .ok (.iconst 0, 1) := by decide +kernel
theorem dL_isSo_944 : decode cL_isSo 944 = .ok (.iaload, 1) := by decide +kernel
theorem dL_isSo_945 : decode cL_isSo 945 = .ok (.if_icmp .ne 98, 3) := by decide +kernel
theorem dL_isSo_948 : decode cL_isSo 948 = .ok (.aload_n 0, 1) := by decide +kernel
theorem dL_isSo_949 : decode cL_isSo 949 = .ok (.iconst 2, 1) := by decide +kernel
theorem dL_isSo_950 : decode cL_isSo 950 = .ok (.invokevirtual 77, 3) := by decide +kernel
theorem dL_isSo_953 : decode cL_isSo 953 = .ok (.iload 6, 2) := by decide +kernel
theorem dL_isSo_955 : decode cL_isSo 955 = .ok (.iconst 1, 1) := by decide +kernel
theorem dL_isSo_956 : decode cL_isSo 956 = .ok (.iadd, 1) := by decide +kernel
theorem dL_isSo_957 : decode cL_isSo 957 = .ok (.if_icmp .ne 86, 3) := by decide +kernel
theorem dL_isSo_960 : decode cL_isSo 960 = .ok (.aload_n 0, 1) := by decide +kernel
theorem dL_isSo_961 : decode cL_isSo 961 = .ok (.bipush 11, 2) := by decide +kernel
theorem dL_isSo_963 : decode cL_isSo 963 = .ok (.invokevirtual 77, 3) := by decide +kernel
theorem dL_isSo_966 : decode cL_isSo 966 = .ok (.aload 4, 2) := by decide +kernel
theorem dL_isSo_968 : decode cL_isSo 968 = .ok (.iconst 1, 1) := by decide +kernel
theorem dL_isSo_969 : decode cL_isSo 969 = .ok (.iaload, 1) := by decide +kernel
theorem dL_isSo_970 : decode cL_isSo 970 = .ok (.if_icmp .ne 73, 3) := by decide +kernel
theorem dL_isSo_973 : decode cL_isSo 973 = .ok (.aload_n 0, 1) := by decide +kernel
theorem dL_isSo_974 : decode cL_isSo 974 = .ok (.bipush 12, 2) := by decide +kernel
theorem dL_isSo_976 : decode cL_isSo 976 = .ok (.invokevirtual 77, 3) := by decide +kernel
theorem dL_isSo_979 : decode cL_isSo 979 = .ok (.aload 4, 2) := by decide +kernel
theorem dL_isSo_981 : decode cL_isSo 981 = .ok (.iconst 2, 1) := by decide +kernel
theorem dL_isSo_982 : decode cL_isSo 982 = .ok (.iaload, 1) := by decide +kernel
theorem dL_isSo_983 : decode cL_isSo 983 = .ok (.if_icmp .ne 60, 3) := by decide +kernel
theorem dL_isSo_986 : decode cL_isSo 986 = .ok (.aload_n 0, 1) := by decide +kernel
theorem dL_isSo_987 : decode cL_isSo 987 = .ok (.bipush 13, 2) := by decide +kernel
theorem dL_isSo_989 : decode cL_isSo 989 = .ok (.invokevirtual 77, 3) := by decide +kernel
theorem dL_isSo_992 : decode cL_isSo 992 = .ok (.aload 4, 2) := by decide +kernel
theorem dL_isSo_994 : decode cL_isSo 994 = .ok (.iconst 3, 1) := by decide +kernel
theorem dL_isSo_995 : decode cL_isSo 995 = .ok (.iaload, 1) := by decide +kernel
theorem dL_isSo_996 : decode cL_isSo 996 = .ok (.if_icmp .ne 47, 3) := by decide +kernel
theorem dL_isSo_999 : decode cL_isSo 999 = .ok (.aload_n 0, 1) := by decide +kernel
theorem dL_isSo_1000 : decode cL_isSo 1000 = .ok (.bipush 14, 2) := by decide +kernel
theorem dL_isSo_1002 : decode cL_isSo 1002 = .ok (.invokevirtual 77, 3) := by decide +kernel
theorem dL_isSo_1005 : decode cL_isSo 1005 = .ok (.aload 4, 2) := by decide +kernel
theorem dL_isSo_1007 : decode cL_isSo 1007 = .ok (.iconst 5, 1) := by decide +kernel
theorem dL_isSo_1008 : decode cL_isSo 1008 = .ok (.iaload, 1) := by decide +kernel
theorem dL_isSo_1009 : decode cL_isSo 1009 = .ok (.if_icmp .ne 34, 3) := by decide +kernel
theorem dL_isSo_1012 : decode cL_isSo 1012 = .ok (.aload_n 0, 1) := by decide +kernel
theorem dL_isSo_1013 : decode cL_isSo 1013 = .ok (.aload_n 1, 1) := by decide +kernel
theorem dL_isSo_1014 : decode cL_isSo 1014 = .ok (.iconst 5, 1) := by decide +kernel
theorem dL_isSo_1015 : decode cL_isSo 1015 = .ok (.iaload, 1) := by decide +kernel
theorem dL_isSo_1016 : decode cL_isSo 1016 = .ok (.iconst 0, 1) := by decide +kernel
theorem dL_isSo_1017 : decode cL_isSo 1017 = .ok (.invokevirtual 92, 3) := by decide +kernel
theorem dL_isSo_1020 : decode cL_isSo 1020 = .ok (.bipush (-11), 2) := by decide +kernel
theorem dL_isSo_1022 : decode cL_isSo 1022 = .ok (.if_icmp .ne 21, 3) := by decide +kernel
theorem dL_isSo_1025 : decode cL_isSo 1025 = .ok (.aload_n 0, 1) := by decide +kernel
theorem dL_isSo_1026 : decode cL_isSo 1026 = .ok (.iload 6, 2) := by decide +kernel
theorem dL_isSo_1028 : decode cL_isSo 1028 = .ok (.iconst 1, 1) := by decide +kernel
theorem dL_isSo_1029 : decode cL_isSo 1029 = .ok (.iadd, 1) := by decide +kernel
theorem dL_isSo_1030 : decode cL_isSo 1030 = .ok (.iconst 0, 1) := by decide +kernel
theorem dL_isSo_1031 : decode cL_isSo 1031 = .ok (.invokevirtual 86, 3) := by decide +kernel
theorem dL_isSo_1034 : decode cL_isSo 1034 = .ok (.bipush (-11), 2) := by decide +kernel
theorem dL_isSo_1036 : decode cL_isSo 1036 = .ok (.if_icmp .ne 7, 3) := by decide +kernel
theorem dL_isSo_1039 : decode cL_isSo 1039 = .ok (.iconst 1, 1) := by decide +kernel
theorem dL_isSo_1040 : decode cL_isSo 1040 = .ok (.goto 4, 3) := by decide +kernel
theorem dL_isSo_1043 : decode cL_isSo 1043 = .ok (.iconst 0, 1) := by decide +kernel
theorem dL_isSo_1044 : decode cL_isSo 1044 = .ok (.ireturn, 1) := by decide +kernel
set_option maxRecDepth 20000 in
theorem ggL_law_X8_init : GoodIn wsL_law wsX8_init := goodIn_r _ [8, 9, 10, 11, 12, 13, 14, 15, 16, 17, 18, 19, 20, 21, 22, 23, 24, 25, 26, 27, 28, 29, 30, 31, 32, 33, 34, 35, 36, 37, 38, 39, 40, 41, 42, 43, 44, 45, 46, 47, 48, 49, 50, 51, 52, 53, 3, 54, 55, 56, 57, 58, 59, 60, 61, 62, 63, 64, 65, 66, 67, 68, 69, 70, 71, 72, 73, 74, 75, 76, 77, 78, 79, 80, 81, 82, 83, 84, 85, 86, 87, 88, 89, 90, 91, 92, 93, 94, 95, 96, 97, 98, 99, 100, 101, 102, 103, 104, 105, 106, 107, 108, 109, 110, 111, 112, 113, 114, 115, 116, 117, 118, 119, 120, 121, 122, 123, 124, 125, 126, 127, 128, 129, 588, 589, 581, 582, 583, 584, 585, 586, 587, 590, 591, 592, 593, 594, 595, 596, 597, 598, 599, 600, 601, 602, 603, 604, 605, 606, 607, 608, 609, 610, 611, 612, 613, 614, 615, 616, 617, 618] (by decide +kernel) (by decide +kernel)
set_option maxRecDepth 20000 in
theorem gL_law_X8_init : GoodIn wsL_law (wsX8_init) := ggL_law_X8_init
set_option maxRecDepth 20000 in
theorem ggL_law_L_begins : GoodIn wsL_law wsL_begins := goodIn_r _ [133] (by decide +kernel) (by decide +kernel)
set_option maxRecDepth 20000 in
theorem gL_law_L_begins : GoodIn wsL_law (va_wsS RL 102 yL_begins wsL_begins) := goodIn_app (goodIn_of _ (by decide +kernel)) ggL_law_L_begins
set_option maxRecDepth 20000 in
theorem ggL_law_L_isSo_h : GoodIn wsL_law ([Cond.code yL_isSo cL_isSo 17 (some .boolean)] : List Cond) := goodIn_sub (fun x hx => by rw [List.mem_singleton.mp hx]; exact List.mem_of_getElem? (i := 136) rfl) (by decide +kernel)
set_option maxRecDepth 20000 in
theorem ggL_law_L_isSo_t : GoodIn wsL_law (wsL_isSo.tail) := goodIn_r _ [3, 137, 138, 139, 140, 2, 141, 19, 36, 27, 31, 23, 15, 142, 143, 144, 61, 145, 77, 146, 147, 148, 35, 149, 150, 151, 152, 153, 122, 154, 155, 156, 43, 157, 54, 158, 159, 160, 161, 128, 162, 163, 164, 26, 165, 105, 166, 167, 168, 169, 170, 119, 171, 172, 173, 174, 175, 176, 177, 178, 179, 180, 181, 182, 30, 183, 113, 184, 185, 186, 187, 188, 111, 189, 190, 191, 192, 193, 104, 194, 195, 196, 197, 198, 199, 200, 201, 202, 203, 204, 205, 206, 207, 208, 209, 210, 211, 212, 123, 213, 214, 215, 216, 120, 217, 218, 219, 220, 101, 221, 222, 223, 224, 225, 226, 227, 228, 229, 230, 231, 232, 233, 124, 234, 235, 236, 22, 237, 94, 238, 239, 240, 14, 241, 45, 242, 243, 132, 244, 245, 246, 247, 248, 249, 250, 251, 252, 253, 254, 255, 256, 257, 258, 259, 260, 261, 262, 263, 264, 265, 266, 267, 51, 52, 53, 268, 269, 270, 271, 272, 273, 274, 275, 127, 276, 277, 278, 279, 280, 281, 282, 283, 284, 285, 286, 287, 288, 289, 290, 291, 126, 292, 293, 294, 295, 296, 297, 298, 299, 300, 301, 302, 303, 304, 76, 305, 306, 307, 308, 309, 310, 311, 125, 312, 313, 314, 315, 316, 317, 318, 319, 320, 321, 322, 323, 324, 325, 326, 327, 328, 329, 330, 331, 332, 333, 334, 75, 73, 581, 582, 583, 584, 585, 586, 587, 590, 591, 592, 593, 594, 614, 615, 616, 617, 618, 604, 605, 606, 607, 608, 609, 610, 611, 612, 613, 597, 598, 599, 600, 601, 602, 603, 595, 596, 588, 589] (by decide +kernel) (by decide +kernel)
theorem ggL_law_L_isSo : GoodIn wsL_law wsL_isSo := (goodIn_app ggL_law_L_isSo_h ggL_law_L_isSo_t : GoodIn wsL_law ([Cond.code yL_isSo cL_isSo 17 (some .boolean)] ++ wsL_isSo.tail))
set_option maxRecDepth 20000 in
theorem gL_law_L_isSo : GoodIn wsL_law (va_wsS RL 106 yL_isSo wsL_isSo) := goodIn_app (goodIn_of _ (by decide +kernel)) ggL_law_L_isSo
set_option maxRecDepth 20000 in
theorem ggL_law_L_cell : GoodIn wsL_law wsL_cell := goodIn_r _ [337, 338] (by decide +kernel) (by decide +kernel)
set_option maxRecDepth 20000 in
theorem gL_law_L_cell : GoodIn wsL_law (va_wsS RL 110 yL_cell wsL_cell) := goodIn_app (goodIn_of _ (by decide +kernel)) ggL_law_L_cell
set_option maxRecDepth 20000 in
theorem ggL_law_L_acts_h : GoodIn wsL_law ([Cond.code yL_acts cL_acts 19 (some .boolean)] : List Cond) := goodIn_sub (fun x hx => by rw [List.mem_singleton.mp hx]; exact List.mem_of_getElem? (i := 341) rfl) (by decide +kernel)
set_option maxRecDepth 20000 in
theorem ggL_law_L_acts_t : GoodIn wsL_law (wsL_acts.tail) := goodIn_r _ [342, 343, 344, 132, 345, 5, 346, 347, 348, 2, 349, 15, 238, 239, 240, 14, 241, 45, 350, 351, 352, 353, 245, 246, 247, 248, 249, 250, 354, 355, 356, 357, 358, 359, 360, 361, 362, 363, 364, 44, 365, 366, 367, 43, 368, 54, 369, 370, 371, 137, 372, 373, 374, 375, 23, 19, 376, 377, 378, 379, 380, 381, 382, 383, 384, 155, 156, 157, 385, 386, 387, 388, 389, 390, 391, 392, 393, 394, 395, 396, 397, 22, 398, 94, 93, 399, 400, 401, 402, 403, 404, 405, 406, 407, 408, 409, 18, 410, 62, 63, 64, 66, 67, 411, 412, 413, 61, 414, 75, 76, 72, 77, 415, 416, 52, 417, 418, 419, 420, 421, 422, 423, 424, 425, 426, 427, 428, 429, 430, 431, 432, 433, 434, 435, 436, 437, 438, 439, 440, 441, 442, 443, 444, 445, 446, 447, 448, 449, 73, 450, 302, 303, 304, 305, 451, 452, 453, 454, 27, 31, 36, 455, 456, 457, 26, 458, 104, 105, 101, 102, 103, 459, 143, 144, 145, 460, 191, 192, 193, 461, 320, 321, 322, 462, 463, 464, 465, 466, 467, 468, 469, 470, 471, 472, 473, 474, 221, 166, 475, 476, 477, 30, 478, 111, 113, 189, 163, 164, 165, 479, 480, 481, 482, 483, 218, 219, 220, 484, 485, 486, 487, 488, 489, 490, 491, 492, 493, 494, 495, 496, 497, 498, 499, 500, 501, 502, 35, 503, 119, 120, 122, 123, 171, 504, 505, 506, 507, 508, 509, 510, 511, 512, 332, 333, 334, 513, 514, 515, 516, 517, 518, 128, 127, 124, 125, 126, 154, 205, 206, 207, 208, 150, 151, 152, 153, 176, 177, 178, 179, 180, 181, 182, 183, 184, 209, 210, 211, 212, 142, 519, 520, 521, 522, 523, 524, 525, 526, 527, 528, 529, 530, 531, 532, 533, 534, 535, 536, 537, 538, 539, 540, 541, 542, 543, 544, 545, 546, 547, 548, 549, 550, 551, 552, 553, 554, 555, 556, 557, 558, 559, 297, 298, 299, 300, 560, 561, 562, 563, 564, 565, 566, 567, 568, 569, 570, 571, 572, 573, 574, 575, 576, 577, 578, 579, 580, 581, 582, 583, 584, 585, 586, 587, 588, 589, 613, 590, 591, 592, 593, 594, 595, 596, 614, 615, 616, 617, 618, 597, 598, 599, 600, 601, 602, 603, 604, 605, 606, 607, 608, 609, 610, 611, 612] (by decide +kernel) (by decide +kernel)
theorem ggL_law_L_acts : GoodIn wsL_law wsL_acts := (goodIn_app ggL_law_L_acts_h ggL_law_L_acts_t : GoodIn wsL_law ([Cond.code yL_acts cL_acts 19 (some .boolean)] ++ wsL_acts.tail))
set_option maxRecDepth 20000 in
theorem gL_law_L_acts : GoodIn wsL_law (va_wsS RL 114 yL_acts wsL_acts) := goodIn_app (goodIn_of _ (by decide +kernel)) ggL_law_L_acts
set_option maxRecDepth 20000 in
theorem ggL_law_L_low : GoodIn wsL_law wsL_low := goodIn_r _ [345, 5] (by decide +kernel) (by decide +kernel)
set_option maxRecDepth 20000 in
theorem gL_law_L_low : GoodIn wsL_law (va_wsS RL 39 yL_low wsL_low) := goodIn_app (goodIn_of _ (by decide +kernel)) ggL_law_L_low
set_option maxRecDepth 20000 in
theorem ggL_law_X8_count : GoodIn wsL_law wsX8_count := goodIn_r _ [141, 19, 36, 27, 31, 23, 15, 142, 143, 144, 61, 145, 77, 146, 147, 148, 35, 149, 150, 151, 152, 153, 122, 154, 155, 156, 43, 157, 54, 158, 159, 160, 161, 128, 162, 163, 164, 26, 165, 105, 166, 167, 168, 169, 170, 119, 171, 172, 173, 174, 175, 176, 177, 178, 179, 180, 181, 182, 30, 183, 113, 184, 185, 186, 187, 188, 111, 189, 190, 191, 192, 193, 104, 194, 195, 196, 197, 198, 199, 200, 201, 202, 203, 204, 205, 206, 207, 208, 209, 210, 211, 212, 123, 213, 214, 215, 216, 120, 217, 218, 219, 220, 101, 221, 222, 223, 224, 225, 226, 227, 228, 229, 230, 231, 232, 233, 124, 234, 235, 236, 22, 237, 94, 238, 239, 240, 14, 241, 45, 581, 582, 583, 584, 585, 586, 587, 590, 591, 592, 593, 594, 614, 615, 616, 617, 618, 604, 605, 606, 607, 608, 609, 610, 611, 612, 613, 597, 598, 599, 600, 601, 602, 603, 595, 596, 588, 589] (by decide +kernel) (by decide +kernel)
set_option maxRecDepth 20000 in
theorem gL_law_X8_count : GoodIn wsL_law (wsV RL 77 RX8 yX8_count wsX8_count) := goodIn_app (goodIn_of _ (by decide +kernel)) ggL_law_X8_count
set_option maxRecDepth 20000 in
theorem ggL_law_X8_word : GoodIn wsL_law wsX8_word := goodIn_r _ [296, 19, 36, 297, 298, 299, 61, 300, 77, 301, 302, 303, 304, 76, 305, 155, 156, 43, 157, 54, 306, 210, 211, 35, 212, 123, 154, 292, 231, 232, 233, 124, 307, 151, 152, 153, 122, 308, 309, 310, 311, 125, 288, 289, 290, 291, 126, 312, 313, 314, 2, 315, 31, 27, 316, 186, 187, 30, 188, 111, 113, 189, 163, 164, 26, 165, 105, 184, 190, 191, 192, 193, 104, 317, 177, 178, 179, 318, 319, 320, 321, 322, 323, 195, 196, 197, 198, 199, 200, 581, 582, 583, 584, 585, 586, 587, 590, 591, 592, 593, 594, 614, 615, 616, 617, 618, 613, 604, 605, 606, 607, 608, 609, 610, 611, 612, 602, 603, 597, 598, 599, 600, 601] (by decide +kernel) (by decide +kernel)
set_option maxRecDepth 20000 in
theorem gL_law_X8_word : GoodIn wsL_law (wsV RL 92 RX8 yX8_word wsX8_word) := goodIn_app (goodIn_of _ (by decide +kernel)) ggL_law_X8_word
theorem dL_law_0 : decode cL_law 0 = .ok (.new 34, 3) := by decide +kernel
theorem dL_law_3 : decode cL_law 3 = .ok (.dup, 1) := by decide +kernel
theorem dL_law_4 : decode cL_law 4 = .ok (.invokespecial 101, 3) := by decide +kernel
theorem dL_law_7 : decode cL_law 7 = .ok (.astore_n 1, 1) := by decide +kernel
theorem dL_law_8 : decode cL_law 8 = .ok (.bipush 8, 2) := by decide +kernel
theorem dL_law_10 : decode cL_law 10 = .ok (.newarray .int, 2) := by decide +kernel
theorem dL_law_12 : decode cL_law 12 = .ok (.astore_n 2, 1) := by decide +kernel
theorem dL_law_13 : decode cL_law 13 = .ok (.bipush 26, 2) := by decide +kernel
theorem dL_law_15 : decode cL_law 15 = .ok (.newarray .int, 2) := by decide +kernel
theorem dL_law_17 : decode cL_law 17 = .ok (.astore_n 3, 1) := by decide +kernel
theorem dL_law_18 : decode cL_law 18 = .ok (.bipush 14, 2) := by decide +kernel
theorem dL_law_20 : decode cL_law 20 = .ok (.newarray .long, 2) := by decide +kernel
theorem dL_law_22 : decode cL_law 22 = .ok (.astore 4, 2) := by decide +kernel
theorem dL_law_24 : decode cL_law 24 = .ok (.aload_n 2, 1) := by decide +kernel
theorem dL_law_25 : decode cL_law 25 = .ok (.aload_n 3, 1) := by decide +kernel
theorem dL_law_26 : decode cL_law 26 = .ok (.invokestatic 102, 3) := by decide +kernel
theorem dL_law_29 : decode cL_law 29 = .ok (.aload_n 1, 1) := by decide +kernel
theorem dL_law_30 : decode cL_law 30 = .ok (.aload_n 2, 1) := by decide +kernel
theorem dL_law_31 : decode cL_law 31 = .ok (.aload_n 3, 1) := by decide +kernel
theorem dL_law_32 : decode cL_law 32 = .ok (.aload 4, 2) := by decide +kernel
theorem dL_law_34 : decode cL_law 34 = .ok (.invokestatic 106, 3) := by decide +kernel
theorem dL_law_37 : decode cL_law 37 = .ok (.istore 5, 2) := by decide +kernel
theorem dL_law_39 : decode cL_law 39 = .ok (.iconst 0, 1) := by decide +kernel
theorem dL_law_40 : decode cL_law 40 = .ok (.istore 6, 2) := by decide +kernel
theorem dL_law_42 : decode cL_law 42 = .ok (.iload 6, 2) := by decide +kernel
theorem dL_law_44 : decode cL_law 44 = .ok (.iconst 5, 1) := by decide +kernel
theorem dL_law_45 : decode cL_law 45 = .ok (.if_icmp .ge 66, 3) := by decide +kernel
theorem dL_law_48 : decode cL_law 48 = .ok (.iload 5, 2) := by decide +kernel
theorem dL_law_50 : decode cL_law 50 = .ok (.ifCond .eq 61, 3) := by decide +kernel
theorem dL_law_53 : decode cL_law 53 = .ok (.aload_n 1, 1) := by decide +kernel
theorem dL_law_54 : decode cL_law 54 = .ok (.aload_n 2, 1) := by decide +kernel
theorem dL_law_55 : decode cL_law 55 = .ok (.aload_n 3, 1) := by decide +kernel
theorem dL_law_56 : decode cL_law 56 = .ok (.aload 4, 2) := by decide +kernel
theorem dL_law_58 : decode cL_law 58 = .ok (.aload_n 0, 1) := by decide +kernel
theorem dL_law_59 : decode cL_law 59 = .ok (.iconst 1, 1) := by decide +kernel
theorem dL_law_60 : decode cL_law 60 = .ok (.iload 6, 2) := by decide +kernel
theorem dL_law_62 : decode cL_law 62 = .ok (.iadd, 1) := by decide +kernel
theorem dL_law_63 : decode cL_law 63 = .ok (.invokestatic 110, 3) := by decide +kernel
theorem dL_law_66 : decode cL_law 66 = .ok (.ldc 8, 2) := by decide +kernel
theorem dL_law_68 : decode cL_law 68 = .ok (.iand, 1) := by decide +kernel
theorem dL_law_69 : decode cL_law 69 = .ok (.sipush 576, 3) := by decide +kernel
theorem dL_law_72 : decode cL_law 72 = .ok (.idiv, 1) := by decide +kernel
theorem dL_law_73 : decode cL_law 73 = .ok (.sipush 576, 3) := by decide +kernel
theorem dL_law_76 : decode cL_law 76 = .ok (.imul, 1) := by decide +kernel
theorem dL_law_77 : decode cL_law 77 = .ok (.iload 6, 2) := by decide +kernel
theorem dL_law_79 : decode cL_law 79 = .ok (.iconst 3, 1) := by decide +kernel
theorem dL_law_80 : decode cL_law 80 = .ok (.if_icmp .ge 7, 3) := by decide +kernel
theorem dL_law_83 : decode cL_law 83 = .ok (.iconst 3, 1) := by decide +kernel
theorem dL_law_84 : decode cL_law 84 = .ok (.goto 15, 3) := by decide +kernel
theorem dL_law_87 : decode cL_law 87 = .ok (.iload 6, 2) := by decide +kernel
theorem dL_law_89 : decode cL_law 89 = .ok (.iconst 3, 1) := by decide +kernel
theorem dL_law_90 : decode cL_law 90 = .ok (.if_icmp .ne 8, 3) := by decide +kernel
theorem dL_law_93 : decode cL_law 93 = .ok (.bipush 7, 2) := by decide +kernel
theorem dL_law_95 : decode cL_law 95 = .ok (.goto 4, 3) := by decide +kernel
theorem dL_law_98 : decode cL_law 98 = .ok (.iconst 0, 1) := by decide +kernel
theorem dL_law_99 : decode cL_law 99 = .ok (.iadd, 1) := by decide +kernel
theorem dL_law_100 : decode cL_law 100 = .ok (.invokestatic 114, 3) := by decide +kernel
theorem dL_law_103 : decode cL_law 103 = .ok (.istore 5, 2) := by decide +kernel
theorem dL_law_105 : decode cL_law 105 = .ok (.iinc 6 1, 3) := by decide +kernel
theorem dL_law_108 : decode cL_law 108 = .ok (.goto (-66), 3) := by decide +kernel
theorem dL_law_111 : decode cL_law 111 = .ok (.bipush 6, 2) := by decide +kernel
theorem dL_law_113 : decode cL_law 113 = .ok (.aload_n 0, 1) := by decide +kernel
theorem dL_law_114 : decode cL_law 114 = .ok (.iconst 0, 1) := by decide +kernel
theorem dL_law_115 : decode cL_law 115 = .ok (.invokestatic 110, 3) := by decide +kernel
theorem dL_law_118 : decode cL_law 118 = .ok (.bipush 45, 2) := by decide +kernel
theorem dL_law_120 : decode cL_law 120 = .ok (.invokestatic 39, 3) := by decide +kernel
theorem dL_law_123 : decode cL_law 123 = .ok (.iadd, 1) := by decide +kernel
theorem dL_law_124 : decode cL_law 124 = .ok (.istore 6, 2) := by decide +kernel
theorem dL_law_126 : decode cL_law 126 = .ok (.iconst 0, 1) := by decide +kernel
theorem dL_law_127 : decode cL_law 127 = .ok (.istore 7, 2) := by decide +kernel
theorem dL_law_129 : decode cL_law 129 = .ok (.iload 7, 2) := by decide +kernel
theorem dL_law_131 : decode cL_law 131 = .ok (.iload 6, 2) := by decide +kernel
theorem dL_law_133 : decode cL_law 133 = .ok (.if_icmp .ge 59, 3) := by decide +kernel
theorem dL_law_136 : decode cL_law 136 = .ok (.iload 5, 2) := by decide +kernel
theorem dL_law_138 : decode cL_law 138 = .ok (.ifCond .eq 54, 3) := by decide +kernel
theorem dL_law_141 : decode cL_law 141 = .ok (.aload_n 1, 1) := by decide +kernel
theorem dL_law_142 : decode cL_law 142 = .ok (.aload_n 2, 1) := by decide +kernel
theorem dL_law_143 : decode cL_law 143 = .ok (.aload_n 3, 1) := by decide +kernel
theorem dL_law_144 : decode cL_law 144 = .ok (.aload 4, 2) := by decide +kernel
theorem dL_law_146 : decode cL_law 146 = .ok (.aload_n 0, 1) := by decide +kernel
theorem dL_law_147 : decode cL_law 147 = .ok (.bipush 6, 2) := by decide +kernel
theorem dL_law_149 : decode cL_law 149 = .ok (.iload 7, 2) := by decide +kernel
theorem dL_law_151 : decode cL_law 151 = .ok (.iadd, 1) := by decide +kernel
theorem dL_law_152 : decode cL_law 152 = .ok (.invokestatic 110, 3) := by decide +kernel
theorem dL_law_155 : decode cL_law 155 = .ok (.sipush 7919, 3) := by decide +kernel
theorem dL_law_158 : decode cL_law 158 = .ok (.iload 7, 2) := by decide +kernel
theorem dL_law_160 : decode cL_law 160 = .ok (.imul, 1) := by decide +kernel
theorem dL_law_161 : decode cL_law 161 = .ok (.ixor, 1) := by decide +kernel
theorem dL_law_162 : decode cL_law 162 = .ok (.invokestatic 114, 3) := by decide +kernel
theorem dL_law_165 : decode cL_law 165 = .ok (.ifCond .eq 18, 3) := by decide +kernel
theorem dL_law_168 : decode cL_law 168 = .ok (.aload_n 1, 1) := by decide +kernel
theorem dL_law_169 : decode cL_law 169 = .ok (.aload_n 2, 1) := by decide +kernel
theorem dL_law_170 : decode cL_law 170 = .ok (.aload_n 3, 1) := by decide +kernel
theorem dL_law_171 : decode cL_law 171 = .ok (.aload 4, 2) := by decide +kernel
theorem dL_law_173 : decode cL_law 173 = .ok (.invokestatic 106, 3) := by decide +kernel
theorem dL_law_176 : decode cL_law 176 = .ok (.ifCond .eq 7, 3) := by decide +kernel
theorem dL_law_179 : decode cL_law 179 = .ok (.iconst 1, 1) := by decide +kernel
theorem dL_law_180 : decode cL_law 180 = .ok (.goto 4, 3) := by decide +kernel
theorem dL_law_183 : decode cL_law 183 = .ok (.iconst 0, 1) := by decide +kernel
theorem dL_law_184 : decode cL_law 184 = .ok (.istore 5, 2) := by decide +kernel
theorem dL_law_186 : decode cL_law 186 = .ok (.iinc 7 1, 3) := by decide +kernel
theorem dL_law_189 : decode cL_law 189 = .ok (.goto (-60), 3) := by decide +kernel
theorem dL_law_192 : decode cL_law 192 = .ok (.iload 5, 2) := by decide +kernel
theorem dL_law_194 : decode cL_law 194 = .ok (.ifCond .eq 29, 3) := by decide +kernel
theorem dL_law_197 : decode cL_law 197 = .ok (.aload_n 1, 1) := by decide +kernel
theorem dL_law_198 : decode cL_law 198 = .ok (.bipush 17, 2) := by decide +kernel
theorem dL_law_200 : decode cL_law 200 = .ok (.invokevirtual 77, 3) := by decide +kernel
theorem dL_law_203 : decode cL_law 203 = .ok (.bipush (-11), 2) := by decide +kernel
theorem dL_law_205 : decode cL_law 205 = .ok (.if_icmp .ne 18, 3) := by decide +kernel
theorem dL_law_208 : decode cL_law 208 = .ok (.aload_n 1, 1) := by decide +kernel
theorem dL_law_209 : decode cL_law 209 = .ok (.iconst (-1), 1) := by decide +kernel
theorem dL_law_210 : decode cL_law 210 = .ok (.iconst 0, 1) := by decide +kernel
theorem dL_law_211 : decode cL_law 211 = .ok (.invokevirtual 92, 3) := by decide +kernel
theorem dL_law_214 : decode cL_law 214 = .ok (.bipush (-11), 2) := by decide +kernel
theorem dL_law_216 : decode cL_law 216 = .ok (.if_icmp .ne 7, 3) := by decide +kernel
theorem dL_law_219 : decode cL_law 219 = .ok (.iconst 1, 1) := by decide +kernel
theorem dL_law_220 : decode cL_law 220 = .ok (.goto 4, 3) := by decide +kernel
theorem dL_law_223 : decode cL_law 223 = .ok (.iconst 0, 1) := by decide +kernel
theorem dL_law_224 : decode cL_law 224 = .ok (.ireturn, 1) := by decide +kernel
