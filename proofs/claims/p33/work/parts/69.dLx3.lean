theorem dL_isRigged_708 : decode cL_isRigged 708 = .ok (.goto 4, 3) := by decide +kernel
theorem dL_isRigged_711 : decode cL_isRigged 711 = .ok (.iconst 0, 1) := by decide +kernel
theorem dL_isRigged_712 : decode cL_isRigged 712 = .ok (.ireturn, 1) := by decide +kernel
theorem dL_isRigged_713 : decode cL_isRigged 713 = .ok (.iconst 0, 1) := by decide +kernel
theorem dL_isRigged_714 : decode cL_isRigged 714 = .ok (.istore 9, 2) := by decide +kernel
theorem dL_isRigged_716 : decode cL_isRigged 716 = .ok (.iconst 0, 1) := by decide +kernel
theorem dL_isRigged_717 : decode cL_isRigged 717 = .ok (.istore 10, 2) := by decide +kernel
theorem dL_isRigged_719 : decode cL_isRigged 719 = .ok (.iload 10, 2) := by decide +kernel
theorem dL_isRigged_721 : decode cL_isRigged 721 = .ok (.aload_n 1, 1) := by decide +kernel
theorem dL_isRigged_722 : decode cL_isRigged 722 = .ok (.iconst 4, 1) := by decide +kernel
theorem dL_isRigged_723 : decode cL_isRigged 723 = .ok (.iaload, 1) := by decide +kernel
theorem dL_isRigged_724 : decode cL_isRigged 724 = .ok (.if_icmp .ge 41, 3) := by decide +kernel
theorem dL_isRigged_727 : decode cL_isRigged 727 = .ok (.iload 9, 2) := by decide +kernel
theorem dL_isRigged_729 : decode cL_isRigged 729 = .ok (.aload_n 0, 1) := by decide +kernel
theorem dL_isRigged_730 : decode cL_isRigged 730 = .ok (.iload 10, 2) := by decide +kernel
theorem dL_isRigged_732 : decode cL_isRigged 732 = .ok (.iconst 0, 1) := by decide +kernel
theorem dL_isRigged_733 : decode cL_isRigged 733 = .ok (.invokevirtual 97, 3) := by decide +kernel
theorem dL_isRigged_736 : decode cL_isRigged 736 = .ok (.iload 4, 2) := by decide +kernel
theorem dL_isRigged_738 : decode cL_isRigged 738 = .ok (.if_icmp .ne 17, 3) := by decide +kernel
theorem dL_isRigged_741 : decode cL_isRigged 741 = .ok (.aload_n 0, 1) := by decide +kernel
theorem dL_isRigged_742 : decode cL_isRigged 742 = .ok (.iload 10, 2) := by decide +kernel
theorem dL_isRigged_744 : decode cL_isRigged 744 = .ok (.iconst 1, 1) := by decide +kernel
theorem dL_isRigged_745 : decode cL_isRigged 745 = .ok (.invokevirtual 97, 3) := by decide +kernel
theorem dL_isRigged_748 : decode cL_isRigged 748 = .ok (.ifCond .lt 7, 3) := by decide +kernel
theorem dL_isRigged_751 : decode cL_isRigged 751 = .ok (.iconst 1, 1) := by decide +kernel
theorem dL_isRigged_752 : decode cL_isRigged 752 = .ok (.goto 4, 3) := by decide +kernel
theorem dL_isRigged_755 : decode cL_isRigged 755 = .ok (.iconst 0, 1) := by decide +kernel
theorem dL_isRigged_756 : decode cL_isRigged 756 = .ok (.iadd, 1) := by decide +kernel
theorem dL_isRigged_757 : decode cL_isRigged 757 = .ok (.istore 9, 2) := by decide +kernel
theorem dL_isRigged_759 : decode cL_isRigged 759 = .ok (.iinc 10 1, 3) := by decide +kernel
theorem dL_isRigged_762 : decode cL_isRigged 762 = .ok (.goto (-43), 3) := by decide +kernel
theorem dL_isRigged_765 : decode cL_isRigged 765 = .ok (.aload_n 0, 1) := by decide +kernel
theorem dL_isRigged_766 : decode cL_isRigged 766 = .ok (.bipush 24, 2) := by decide +kernel
theorem dL_isRigged_768 : decode cL_isRigged 768 = .ok (.iload 4, 2) := by decide +kernel
theorem dL_isRigged_770 : decode cL_isRigged 770 = .ok (.iconst 1, 1) := by decide +kernel
theorem dL_isRigged_771 : decode cL_isRigged 771 = .ok (.iconst 0, 1) := by decide +kernel
theorem dL_isRigged_772 : decode cL_isRigged 772 = .ok (.iconst 0, 1) := by decide +kernel
theorem dL_isRigged_773 : decode cL_isRigged 773 = .ok (.invokestatic 123, 3) := by decide +kernel
theorem dL_isRigged_776 : decode cL_isRigged 776 = .ok (.lstore 10, 2) := by decide +kernel
theorem dL_isRigged_778 : decode cL_isRigged 778 = .ok (.lload 10, 2) := by decide +kernel
theorem dL_isRigged_780 : decode cL_isRigged 780 = .ok (.ldc2_w 113, 3) := by decide +kernel
theorem dL_isRigged_783 : decode cL_isRigged 783 = .ok (.lcmp, 1) := by decide +kernel
theorem dL_isRigged_784 : decode cL_isRigged 784 = .ok (.ifCond .ne 16, 3) := by decide +kernel
theorem dL_isRigged_787 : decode cL_isRigged 787 = .ok (.iload 9, 2) := by decide +kernel
theorem dL_isRigged_789 : decode cL_isRigged 789 = .ok (.ifCond .ne 7, 3) := by decide +kernel
theorem dL_isRigged_792 : decode cL_isRigged 792 = .ok (.iconst 1, 1) := by decide +kernel
theorem dL_isRigged_793 : decode cL_isRigged 793 = .ok (.goto 21, 3) := by decide +kernel
theorem dL_isRigged_796 : decode cL_isRigged 796 = .ok (.iconst 0, 1) := by decide +kernel
theorem dL_isRigged_797 : decode cL_isRigged 797 = .ok (.goto 17, 3) := by decide +kernel
theorem dL_isRigged_800 : decode cL_isRigged 800 = .ok (.lload 10, 2) := by decide +kernel
theorem dL_isRigged_802 : decode cL_isRigged 802 = .ok (.iload 9, 2) := by decide +kernel
theorem dL_isRigged_804 : decode cL_isRigged 804 = .ok (.i2l, 1) := by decide +kernel
theorem dL_isRigged_805 : decode cL_isRigged 805 = .ok (.lcmp, 1) := by decide +kernel
theorem dL_isRigged_806 : decode cL_isRigged 806 = .ok (.ifCond .ne 7, 3) := by decide +kernel
theorem dL_isRigged_809 : decode cL_isRigged 809 = .ok (.iconst 1, 1) := by decide +kernel
theorem dL_isRigged_810 : decode cL_isRigged 810 = .ok (.goto 4, 3) := by decide +kernel
theorem dL_isRigged_813 : decode cL_isRigged 813 = .ok (.iconst 0, 1) := by decide +kernel
theorem dL_isRigged_814 : decode cL_isRigged 814 = .ok (.istore 12, 2) := by decide +kernel
theorem dL_isRigged_816 : decode cL_isRigged 816 = .ok (.iconst 0, 1) := by decide +kernel
theorem dL_isRigged_817 : decode cL_isRigged 817 = .ok (.istore 13, 2) := by decide +kernel
theorem dL_isRigged_819 : decode cL_isRigged 819 = .ok (.iload 13, 2) := by decide +kernel
theorem dL_isRigged_821 : decode cL_isRigged 821 = .ok (.aload_n 1, 1) := by decide +kernel
theorem dL_isRigged_822 : decode cL_isRigged 822 = .ok (.iconst 4, 1) := by decide +kernel
theorem dL_isRigged_823 : decode cL_isRigged 823 = .ok (.iaload, 1) := by decide +kernel
theorem dL_isRigged_824 : decode cL_isRigged 824 = .ok (.if_icmp .ge 62, 3) := by decide +kernel
theorem dL_isRigged_827 : decode cL_isRigged 827 = .ok (.iload 12, 2) := by decide +kernel
theorem dL_isRigged_829 : decode cL_isRigged 829 = .ok (.ifCond .eq 57, 3) := by decide +kernel
theorem dL_isRigged_832 : decode cL_isRigged 832 = .ok (.aload_n 0, 1) := by decide +kernel
theorem dL_isRigged_833 : decode cL_isRigged 833 = .ok (.iload 13, 2) := by decide +kernel
theorem dL_isRigged_835 : decode cL_isRigged 835 = .ok (.iconst 0, 1) := by decide +kernel
theorem dL_isRigged_836 : decode cL_isRigged 836 = .ok (.invokevirtual 97, 3) := by decide +kernel
theorem dL_isRigged_839 : decode cL_isRigged 839 = .ok (.iload 4, 2) := by decide +kernel
theorem dL_isRigged_841 : decode cL_isRigged 841 = .ok (.if_icmp .ne 32, 3) := by decide +kernel
theorem dL_isRigged_844 : decode cL_isRigged 844 = .ok (.aload_n 0, 1) := by decide +kernel
theorem dL_isRigged_845 : decode cL_isRigged 845 = .ok (.iload 13, 2) := by decide +kernel
theorem dL_isRigged_847 : decode cL_isRigged 847 = .ok (.iconst 1, 1) := by decide +kernel
theorem dL_isRigged_848 : decode cL_isRigged 848 = .ok (.invokevirtual 97, 3) := by decide +kernel
theorem dL_isRigged_851 : decode cL_isRigged 851 = .ok (.iconst (-1), 1) := by decide +kernel
theorem dL_isRigged_852 : decode cL_isRigged 852 = .ok (.if_icmp .ne 25, 3) := by decide +kernel
theorem dL_isRigged_855 : decode cL_isRigged 855 = .ok (.aload_n 0, 1) := by decide +kernel
theorem dL_isRigged_856 : decode cL_isRigged 856 = .ok (.bipush 21, 2) := by decide +kernel
theorem dL_isRigged_858 : decode cL_isRigged 858 = .ok (.iload 13, 2) := by decide +kernel
theorem dL_isRigged_860 : decode cL_isRigged 860 = .ok (.iconst 0, 1) := by decide +kernel
theorem dL_isRigged_861 : decode cL_isRigged 861 = .ok (.iconst 0, 1) := by decide +kernel
theorem dL_isRigged_862 : decode cL_isRigged 862 = .ok (.iconst 0, 1) := by decide +kernel
theorem dL_isRigged_863 : decode cL_isRigged 863 = .ok (.invokestatic 123, 3) := by decide +kernel
theorem dL_isRigged_866 : decode cL_isRigged 866 = .ok (.ldc2_w 113, 3) := by decide +kernel
theorem dL_isRigged_869 : decode cL_isRigged 869 = .ok (.lcmp, 1) := by decide +kernel
theorem dL_isRigged_870 : decode cL_isRigged 870 = .ok (.ifCond .ne 7, 3) := by decide +kernel
theorem dL_isRigged_873 : decode cL_isRigged 873 = .ok (.iconst 1, 1) := by decide +kernel
theorem dL_isRigged_874 : decode cL_isRigged 874 = .ok (.goto 4, 3) := by decide +kernel
theorem dL_isRigged_877 : decode cL_isRigged 877 = .ok (.iconst 0, 1) := by decide +kernel
theorem dL_isRigged_878 : decode cL_isRigged 878 = .ok (.istore 12, 2) := by decide +kernel
theorem dL_isRigged_880 : decode cL_isRigged 880 = .ok (.iinc 13 1, 3) := by decide +kernel
theorem dL_isRigged_883 : decode cL_isRigged 883 = .ok (.goto (-64), 3) := by decide +kernel
theorem dL_isRigged_886 : decode cL_isRigged 886 = .ok (.iload 12, 2) := by decide +kernel
theorem dL_isRigged_888 : decode cL_isRigged 888 = .ok (.ifCond .eq 66, 3) := by decide +kernel
theorem dL_isRigged_891 : decode cL_isRigged 891 = .ok (.aload_n 0, 1) := by decide +kernel
theorem dL_isRigged_892 : decode cL_isRigged 892 = .ok (.bipush 24, 2) := by decide +kernel
theorem dL_isRigged_894 : decode cL_isRigged 894 = .ok (.iload 4, 2) := by decide +kernel
theorem dL_isRigged_896 : decode cL_isRigged 896 = .ok (.iconst 1, 1) := by decide +kernel
theorem dL_isRigged_897 : decode cL_isRigged 897 = .ok (.iconst 0, 1) := by decide +kernel
theorem dL_isRigged_898 : decode cL_isRigged 898 = .ok (.iconst 0, 1) := by decide +kernel
theorem dL_isRigged_899 : decode cL_isRigged 899 = .ok (.invokestatic 123, 3) := by decide +kernel
theorem dL_isRigged_902 : decode cL_isRigged 902 = .ok (.ldc2_w 113, 3) := by decide +kernel
theorem dL_isRigged_905 : decode cL_isRigged 905 = .ok (.lcmp, 1) := by decide +kernel
theorem dL_isRigged_906 : decode cL_isRigged 906 = .ok (.ifCond .ne 48, 3) := by decide +kernel
theorem dL_isRigged_909 : decode cL_isRigged 909 = .ok (.iload 6, 2) := by decide +kernel
theorem dL_isRigged_911 : decode cL_isRigged 911 = .ok (.iconst 3, 1) := by decide +kernel
theorem dL_isRigged_912 : decode cL_isRigged 912 = .ok (.irem, 1) := by decide +kernel
theorem dL_isRigged_913 : decode cL_isRigged 913 = .ok (.ifCond .eq 37, 3) := by decide +kernel
theorem dL_isRigged_916 : decode cL_isRigged 916 = .ok (.aload_n 0, 1) := by decide +kernel
theorem dL_isRigged_917 : decode cL_isRigged 917 = .ok (.bipush 24, 2) := by decide +kernel
theorem dL_isRigged_919 : decode cL_isRigged 919 = .ok (.iload 4, 2) := by decide +kernel
theorem dL_isRigged_921 : decode cL_isRigged 921 = .ok (.iconst 0, 1) := by decide +kernel
theorem dL_isRigged_922 : decode cL_isRigged 922 = .ok (.iconst 0, 1) := by decide +kernel
theorem dL_isRigged_923 : decode cL_isRigged 923 = .ok (.iconst 0, 1) := by decide +kernel
theorem dL_isRigged_924 : decode cL_isRigged 924 = .ok (.invokestatic 123, 3) := by decide +kernel
theorem dL_isRigged_927 : decode cL_isRigged 927 = .ok (.lconst 0, 1) := by decide +kernel
theorem dL_isRigged_928 : decode cL_isRigged 928 = .ok (.lcmp, 1) := by decide +kernel
theorem dL_isRigged_929 : decode cL_isRigged 929 = .ok (.ifCond .ne 25, 3) := by decide +kernel
theorem dL_isRigged_932 : decode cL_isRigged 932 = .ok (.aload_n 0, 1) := by decide +kernel
theorem dL_isRigged_933 : decode cL_isRigged 933 = .ok (.bipush 24, 2) := by decide +kernel
theorem dL_isRigged_935 : decode cL_isRigged 935 = .ok (.iload 4, 2) := by decide +kernel
theorem dL_isRigged_937 : decode cL_isRigged 937 = .ok (.iconst 0, 1) := by decide +kernel
theorem dL_isRigged_938 : decode cL_isRigged 938 = .ok (.iconst 0, 1) := by decide +kernel
theorem dL_isRigged_939 : decode cL_isRigged 939 = .ok (.iconst 0, 1) := by decide +kernel
theorem dL_isRigged_940 : decode cL_isRigged 940 = .ok (.invokestatic 123, 3) := by decide +kernel
theorem dL_isRigged_943 : decode cL_isRigged 943 = .ok (.ldc2_w 113, 3) := by decide +kernel
theorem dL_isRigged_946 : decode cL_isRigged 946 = .ok (.lcmp, 1) := by decide +kernel
theorem dL_isRigged_947 : decode cL_isRigged 947 = .ok (.ifCond .ne 7, 3) := by decide +kernel
theorem dL_isRigged_950 : decode cL_isRigged 950 = .ok (.iconst 1, 1) := by decide +kernel
theorem dL_isRigged_951 : decode cL_isRigged 951 = .ok (.goto 4, 3) := by decide +kernel
theorem dL_isRigged_954 : decode cL_isRigged 954 = .ok (.iconst 0, 1) := by decide +kernel
theorem dL_isRigged_955 : decode cL_isRigged 955 = .ok (.ireturn, 1) := by decide +kernel
