theorem dL_isRefused_696 : decode cL_isRefused 696 = .ok (.iload 6, 2) := by decide +kernel
theorem dL_isRefused_698 : decode cL_isRefused 698 = .ok (.bipush 9, 2) := by decide +kernel
theorem dL_isRefused_700 : decode cL_isRefused 700 = .ok (.iconst 0, 1) := by decide +kernel
theorem dL_isRefused_701 : decode cL_isRefused 701 = .ok (.iconst 0, 1) := by decide +kernel
theorem dL_isRefused_702 : decode cL_isRefused 702 = .ok (.invokestatic 146, 3) := by decide +kernel
theorem dL_isRefused_705 : decode cL_isRefused 705 = .ok (.ifCond .eq 136, 3) := by decide +kernel
theorem dL_isRefused_708 : decode cL_isRefused 708 = .ok (.aload_n 0, 1) := by decide +kernel
theorem dL_isRefused_709 : decode cL_isRefused 709 = .ok (.bipush 26, 2) := by decide +kernel
theorem dL_isRefused_711 : decode cL_isRefused 711 = .ok (.iload 6, 2) := by decide +kernel
theorem dL_isRefused_713 : decode cL_isRefused 713 = .ok (.iconst 0, 1) := by decide +kernel
theorem dL_isRefused_714 : decode cL_isRefused 714 = .ok (.iconst 0, 1) := by decide +kernel
theorem dL_isRefused_715 : decode cL_isRefused 715 = .ok (.iconst 0, 1) := by decide +kernel
theorem dL_isRefused_716 : decode cL_isRefused 716 = .ok (.invokestatic 146, 3) := by decide +kernel
theorem dL_isRefused_719 : decode cL_isRefused 719 = .ok (.ifCond .eq 122, 3) := by decide +kernel
theorem dL_isRefused_722 : decode cL_isRefused 722 = .ok (.aload_n 0, 1) := by decide +kernel
theorem dL_isRefused_723 : decode cL_isRefused 723 = .ok (.iconst 5, 1) := by decide +kernel
theorem dL_isRefused_724 : decode cL_isRefused 724 = .ok (.iload_n 3, 1) := by decide +kernel
theorem dL_isRefused_725 : decode cL_isRefused 725 = .ok (.ifCond .eq 15, 3) := by decide +kernel
theorem dL_isRefused_728 : decode cL_isRefused 728 = .ok (.ldc2_w 151, 3) := by decide +kernel
theorem dL_isRefused_731 : decode cL_isRefused 731 = .ok (.iload_n 2, 1) := by decide +kernel
theorem dL_isRefused_732 : decode cL_isRefused 732 = .ok (.bipush 30, 2) := by decide +kernel
theorem dL_isRefused_734 : decode cL_isRefused 734 = .ok (.irem, 1) := by decide +kernel
theorem dL_isRefused_735 : decode cL_isRefused 735 = .ok (.i2l, 1) := by decide +kernel
theorem dL_isRefused_736 : decode cL_isRefused 736 = .ok (.lsub, 1) := by decide +kernel
theorem dL_isRefused_737 : decode cL_isRefused 737 = .ok (.goto 6, 3) := by decide +kernel
theorem dL_isRefused_740 : decode cL_isRefused 740 = .ok (.ldc2_w 153, 3) := by decide +kernel
theorem dL_isRefused_743 : decode cL_isRefused 743 = .ok (.invokestatic 155, 3) := by decide +kernel
theorem dL_isRefused_746 : decode cL_isRefused 746 = .ok (.ldc2_w 109, 3) := by decide +kernel
theorem dL_isRefused_749 : decode cL_isRefused 749 = .ok (.lcmp, 1) := by decide +kernel
theorem dL_isRefused_750 : decode cL_isRefused 750 = .ok (.ifCond .ne 91, 3) := by decide +kernel
theorem dL_isRefused_753 : decode cL_isRefused 753 = .ok (.aload_n 0, 1) := by decide +kernel
theorem dL_isRefused_754 : decode cL_isRefused 754 = .ok (.iload_n 3, 1) := by decide +kernel
theorem dL_isRefused_755 : decode cL_isRefused 755 = .ok (.ifCond .eq 7, 3) := by decide +kernel
theorem dL_isRefused_758 : decode cL_isRefused 758 = .ok (.iconst 0, 1) := by decide +kernel
theorem dL_isRefused_759 : decode cL_isRefused 759 = .ok (.goto 10, 3) := by decide +kernel
theorem dL_isRefused_762 : decode cL_isRefused 762 = .ok (.bipush 101, 2) := by decide +kernel
theorem dL_isRefused_764 : decode cL_isRefused 764 = .ok (.iload_n 2, 1) := by decide +kernel
theorem dL_isRefused_765 : decode cL_isRefused 765 = .ok (.bipush 30, 2) := by decide +kernel
theorem dL_isRefused_767 : decode cL_isRefused 767 = .ok (.irem, 1) := by decide +kernel
theorem dL_isRefused_768 : decode cL_isRefused 768 = .ok (.iadd, 1) := by decide +kernel
theorem dL_isRefused_769 : decode cL_isRefused 769 = .ok (.ldc2_w 158, 3) := by decide +kernel
theorem dL_isRefused_772 : decode cL_isRefused 772 = .ok (.invokestatic 155, 3) := by decide +kernel
theorem dL_isRefused_775 : decode cL_isRefused 775 = .ok (.ldc2_w 109, 3) := by decide +kernel
theorem dL_isRefused_778 : decode cL_isRefused 778 = .ok (.lcmp, 1) := by decide +kernel
theorem dL_isRefused_779 : decode cL_isRefused 779 = .ok (.ifCond .ne 62, 3) := by decide +kernel
theorem dL_isRefused_782 : decode cL_isRefused 782 = .ok (.aload_n 0, 1) := by decide +kernel
theorem dL_isRefused_783 : decode cL_isRefused 783 = .ok (.bipush (-9), 2) := by decide +kernel
theorem dL_isRefused_785 : decode cL_isRefused 785 = .ok (.iload_n 3, 1) := by decide +kernel
theorem dL_isRefused_786 : decode cL_isRefused 786 = .ok (.ifCond .eq 15, 3) := by decide +kernel
theorem dL_isRefused_789 : decode cL_isRefused 789 = .ok (.ldc2_w 151, 3) := by decide +kernel
theorem dL_isRefused_792 : decode cL_isRefused 792 = .ok (.iload_n 2, 1) := by decide +kernel
theorem dL_isRefused_793 : decode cL_isRefused 793 = .ok (.bipush 30, 2) := by decide +kernel
theorem dL_isRefused_795 : decode cL_isRefused 795 = .ok (.irem, 1) := by decide +kernel
theorem dL_isRefused_796 : decode cL_isRefused 796 = .ok (.i2l, 1) := by decide +kernel
theorem dL_isRefused_797 : decode cL_isRefused 797 = .ok (.lsub, 1) := by decide +kernel
theorem dL_isRefused_798 : decode cL_isRefused 798 = .ok (.goto 6, 3) := by decide +kernel
theorem dL_isRefused_801 : decode cL_isRefused 801 = .ok (.ldc2_w 160, 3) := by decide +kernel
theorem dL_isRefused_804 : decode cL_isRefused 804 = .ok (.invokestatic 155, 3) := by decide +kernel
theorem dL_isRefused_807 : decode cL_isRefused 807 = .ok (.ldc2_w 109, 3) := by decide +kernel
theorem dL_isRefused_810 : decode cL_isRefused 810 = .ok (.lcmp, 1) := by decide +kernel
theorem dL_isRefused_811 : decode cL_isRefused 811 = .ok (.ifCond .ne 30, 3) := by decide +kernel
theorem dL_isRefused_814 : decode cL_isRefused 814 = .ok (.aload_n 1, 1) := by decide +kernel
theorem dL_isRefused_815 : decode cL_isRefused 815 = .ok (.iconst 3, 1) := by decide +kernel
theorem dL_isRefused_816 : decode cL_isRefused 816 = .ok (.iaload, 1) := by decide +kernel
theorem dL_isRefused_817 : decode cL_isRefused 817 = .ok (.bipush 8, 2) := by decide +kernel
theorem dL_isRefused_819 : decode cL_isRefused 819 = .ok (.if_icmp .lt 18, 3) := by decide +kernel
theorem dL_isRefused_822 : decode cL_isRefused 822 = .ok (.aload_n 0, 1) := by decide +kernel
theorem dL_isRefused_823 : decode cL_isRefused 823 = .ok (.iconst 5, 1) := by decide +kernel
theorem dL_isRefused_824 : decode cL_isRefused 824 = .ok (.ldc2_w 158, 3) := by decide +kernel
theorem dL_isRefused_827 : decode cL_isRefused 827 = .ok (.invokestatic 155, 3) := by decide +kernel
theorem dL_isRefused_830 : decode cL_isRefused 830 = .ok (.ldc2_w 113, 3) := by decide +kernel
theorem dL_isRefused_833 : decode cL_isRefused 833 = .ok (.lcmp, 1) := by decide +kernel
theorem dL_isRefused_834 : decode cL_isRefused 834 = .ok (.ifCond .ne 7, 3) := by decide +kernel
theorem dL_isRefused_837 : decode cL_isRefused 837 = .ok (.iconst 1, 1) := by decide +kernel
theorem dL_isRefused_838 : decode cL_isRefused 838 = .ok (.goto 4, 3) := by decide +kernel
theorem dL_isRefused_841 : decode cL_isRefused 841 = .ok (.iconst 0, 1) := by decide +kernel
theorem dL_isRefused_842 : decode cL_isRefused 842 = .ok (.istore 12, 2) := by decide +kernel
theorem dL_isRefused_844 : decode cL_isRefused 844 = .ok (.iconst 0, 1) := by decide +kernel
theorem dL_isRefused_845 : decode cL_isRefused 845 = .ok (.istore 13, 2) := by decide +kernel
theorem dL_isRefused_847 : decode cL_isRefused 847 = .ok (.iload 13, 2) := by decide +kernel
theorem dL_isRefused_849 : decode cL_isRefused 849 = .ok (.aload_n 1, 1) := by decide +kernel
theorem dL_isRefused_850 : decode cL_isRefused 850 = .ok (.iconst 0, 1) := by decide +kernel
theorem dL_isRefused_851 : decode cL_isRefused 851 = .ok (.iaload, 1) := by decide +kernel
theorem dL_isRefused_852 : decode cL_isRefused 852 = .ok (.if_icmp .ge 202, 3) := by decide +kernel
theorem dL_isRefused_855 : decode cL_isRefused 855 = .ok (.iload 12, 2) := by decide +kernel
theorem dL_isRefused_857 : decode cL_isRefused 857 = .ok (.ifCond .eq 197, 3) := by decide +kernel
theorem dL_isRefused_860 : decode cL_isRefused 860 = .ok (.aload_n 0, 1) := by decide +kernel
theorem dL_isRefused_861 : decode cL_isRefused 861 = .ok (.iconst 1, 1) := by decide +kernel
theorem dL_isRefused_862 : decode cL_isRefused 862 = .ok (.iload 13, 2) := by decide +kernel
theorem dL_isRefused_864 : decode cL_isRefused 864 = .ok (.iload_n 3, 1) := by decide +kernel
theorem dL_isRefused_865 : decode cL_isRefused 865 = .ok (.ifCond .eq 12, 3) := by decide +kernel
theorem dL_isRefused_868 : decode cL_isRefused 868 = .ok (.iconst 0, 1) := by decide +kernel
theorem dL_isRefused_869 : decode cL_isRefused 869 = .ok (.iload_n 2, 1) := by decide +kernel
theorem dL_isRefused_870 : decode cL_isRefused 870 = .ok (.bipush 30, 2) := by decide +kernel
theorem dL_isRefused_872 : decode cL_isRefused 872 = .ok (.irem, 1) := by decide +kernel
theorem dL_isRefused_873 : decode cL_isRefused 873 = .ok (.isub, 1) := by decide +kernel
theorem dL_isRefused_874 : decode cL_isRefused 874 = .ok (.goto 6, 3) := by decide +kernel
theorem dL_isRefused_877 : decode cL_isRefused 877 = .ok (.sipush 10001, 3) := by decide +kernel
theorem dL_isRefused_880 : decode cL_isRefused 880 = .ok (.iconst 0, 1) := by decide +kernel
theorem dL_isRefused_881 : decode cL_isRefused 881 = .ok (.iconst 0, 1) := by decide +kernel
theorem dL_isRefused_882 : decode cL_isRefused 882 = .ok (.invokestatic 142, 3) := by decide +kernel
theorem dL_isRefused_885 : decode cL_isRefused 885 = .ok (.ifCond .eq 160, 3) := by decide +kernel
theorem dL_isRefused_888 : decode cL_isRefused 888 = .ok (.aload_n 0, 1) := by decide +kernel
theorem dL_isRefused_889 : decode cL_isRefused 889 = .ok (.iconst 2, 1) := by decide +kernel
theorem dL_isRefused_890 : decode cL_isRefused 890 = .ok (.iload 13, 2) := by decide +kernel
theorem dL_isRefused_892 : decode cL_isRefused 892 = .ok (.iload_n 3, 1) := by decide +kernel
theorem dL_isRefused_893 : decode cL_isRefused 893 = .ok (.ifCond .eq 7, 3) := by decide +kernel
theorem dL_isRefused_896 : decode cL_isRefused 896 = .ok (.iconst 0, 1) := by decide +kernel
theorem dL_isRefused_897 : decode cL_isRefused 897 = .ok (.goto 11, 3) := by decide +kernel
theorem dL_isRefused_900 : decode cL_isRefused 900 = .ok (.sipush 151, 3) := by decide +kernel
theorem dL_isRefused_903 : decode cL_isRefused 903 = .ok (.iload_n 2, 1) := by decide +kernel
theorem dL_isRefused_904 : decode cL_isRefused 904 = .ok (.bipush 30, 2) := by decide +kernel
theorem dL_isRefused_906 : decode cL_isRefused 906 = .ok (.irem, 1) := by decide +kernel
theorem dL_isRefused_907 : decode cL_isRefused 907 = .ok (.iadd, 1) := by decide +kernel
theorem dL_isRefused_908 : decode cL_isRefused 908 = .ok (.iconst 5, 1) := by decide +kernel
theorem dL_isRefused_909 : decode cL_isRefused 909 = .ok (.iconst 0, 1) := by decide +kernel
theorem dL_isRefused_910 : decode cL_isRefused 910 = .ok (.invokestatic 142, 3) := by decide +kernel
theorem dL_isRefused_913 : decode cL_isRefused 913 = .ok (.ifCond .eq 132, 3) := by decide +kernel
theorem dL_isRefused_916 : decode cL_isRefused 916 = .ok (.aload_n 0, 1) := by decide +kernel
theorem dL_isRefused_917 : decode cL_isRefused 917 = .ok (.iconst 2, 1) := by decide +kernel
theorem dL_isRefused_918 : decode cL_isRefused 918 = .ok (.iload 13, 2) := by decide +kernel
theorem dL_isRefused_920 : decode cL_isRefused 920 = .ok (.iconst 5, 1) := by decide +kernel
theorem dL_isRefused_921 : decode cL_isRefused 921 = .ok (.iload_n 3, 1) := by decide +kernel
theorem dL_isRefused_922 : decode cL_isRefused 922 = .ok (.ifCond .eq 12, 3) := by decide +kernel
theorem dL_isRefused_925 : decode cL_isRefused 925 = .ok (.iconst 0, 1) := by decide +kernel
theorem dL_isRefused_926 : decode cL_isRefused 926 = .ok (.iload_n 2, 1) := by decide +kernel
theorem dL_isRefused_927 : decode cL_isRefused 927 = .ok (.bipush 30, 2) := by decide +kernel
theorem dL_isRefused_929 : decode cL_isRefused 929 = .ok (.irem, 1) := by decide +kernel
theorem dL_isRefused_930 : decode cL_isRefused 930 = .ok (.isub, 1) := by decide +kernel
theorem dL_isRefused_931 : decode cL_isRefused 931 = .ok (.goto 6, 3) := by decide +kernel
theorem dL_isRefused_934 : decode cL_isRefused 934 = .ok (.sipush 151, 3) := by decide +kernel
theorem dL_isRefused_937 : decode cL_isRefused 937 = .ok (.iconst 0, 1) := by decide +kernel
theorem dL_isRefused_938 : decode cL_isRefused 938 = .ok (.invokestatic 142, 3) := by decide +kernel
theorem dL_isRefused_941 : decode cL_isRefused 941 = .ok (.ifCond .eq 104, 3) := by decide +kernel
theorem dL_isRefused_944 : decode cL_isRefused 944 = .ok (.aload_n 0, 1) := by decide +kernel
theorem dL_isRefused_945 : decode cL_isRefused 945 = .ok (.iconst 2, 1) := by decide +kernel
theorem dL_isRefused_946 : decode cL_isRefused 946 = .ok (.iload 13, 2) := by decide +kernel
theorem dL_isRefused_948 : decode cL_isRefused 948 = .ok (.iconst 5, 1) := by decide +kernel
theorem dL_isRefused_949 : decode cL_isRefused 949 = .ok (.iconst 5, 1) := by decide +kernel
