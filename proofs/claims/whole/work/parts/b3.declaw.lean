/-! decode rows of the law (written by program) -/
theorem d_lw_742 : decode code 742 = .ok (.goto 411, 3) := by decide +kernel
theorem d_lw_745 : decode code 745 = .ok (.aload_n 1, 1) := by decide +kernel
theorem d_lw_746 : decode code 746 = .ok (.aload_n 0, 1) := by decide +kernel
theorem d_lw_747 : decode code 747 = .ok (.iload 4, 2) := by decide +kernel
theorem d_lw_749 : decode code 749 = .ok (.iconst 1, 1) := by decide +kernel
theorem d_lw_750 : decode code 750 = .ok (.iadd, 1) := by decide +kernel
theorem d_lw_751 : decode code 751 = .ok (.iaload, 1) := by decide +kernel
theorem d_lw_752 : decode code 752 = .ok (.aload_n 0, 1) := by decide +kernel
theorem d_lw_753 : decode code 753 = .ok (.iload 4, 2) := by decide +kernel
theorem d_lw_755 : decode code 755 = .ok (.iconst 2, 1) := by decide +kernel
theorem d_lw_756 : decode code 756 = .ok (.iadd, 1) := by decide +kernel
theorem d_lw_757 : decode code 757 = .ok (.iaload, 1) := by decide +kernel
theorem d_lw_758 : decode code 758 = .ok (.aload_n 3, 1) := by decide +kernel
theorem d_lw_759 : decode code 759 = .ok (.invokestatic 123, 3) := by decide +kernel
theorem d_lw_762 : decode code 762 = .ok (.istore 5, 2) := by decide +kernel
theorem d_lw_764 : decode code 764 = .ok (.aload_n 2, 1) := by decide +kernel
theorem d_lw_765 : decode code 765 = .ok (.aload_n 0, 1) := by decide +kernel
theorem d_lw_766 : decode code 766 = .ok (.iload 4, 2) := by decide +kernel
theorem d_lw_768 : decode code 768 = .ok (.iconst 1, 1) := by decide +kernel
theorem d_lw_769 : decode code 769 = .ok (.iadd, 1) := by decide +kernel
theorem d_lw_770 : decode code 770 = .ok (.iaload, 1) := by decide +kernel
theorem d_lw_771 : decode code 771 = .ok (.aload_n 0, 1) := by decide +kernel
theorem d_lw_772 : decode code 772 = .ok (.iload 4, 2) := by decide +kernel
theorem d_lw_774 : decode code 774 = .ok (.iconst 2, 1) := by decide +kernel
theorem d_lw_775 : decode code 775 = .ok (.iadd, 1) := by decide +kernel
theorem d_lw_776 : decode code 776 = .ok (.iaload, 1) := by decide +kernel
theorem d_lw_777 : decode code 777 = .ok (.invokevirtual 125, 3) := by decide +kernel
theorem d_lw_780 : decode code 780 = .ok (.istore 6, 2) := by decide +kernel
theorem d_lw_782 : decode code 782 = .ok (.aload_n 2, 1) := by decide +kernel
theorem d_lw_783 : decode code 783 = .ok (.invokevirtual 85, 3) := by decide +kernel
theorem d_lw_786 : decode code 786 = .ok (.iload 5, 2) := by decide +kernel
theorem d_lw_788 : decode code 788 = .ok (.if_icmp .eq 5, 3) := by decide +kernel
theorem d_lw_791 : decode code 791 = .ok (.iconst 0, 1) := by decide +kernel
theorem d_lw_792 : decode code 792 = .ok (.ireturn, 1) := by decide +kernel
theorem d_lw_793 : decode code 793 = .ok (.iload 5, 2) := by decide +kernel
theorem d_lw_795 : decode code 795 = .ok (.ifCond .ne 15, 3) := by decide +kernel
theorem d_lw_798 : decode code 798 = .ok (.aload_n 3, 1) := by decide +kernel
theorem d_lw_799 : decode code 799 = .ok (.iconst 0, 1) := by decide +kernel
theorem d_lw_800 : decode code 800 = .ok (.laload, 1) := by decide +kernel
theorem d_lw_801 : decode code 801 = .ok (.iload 6, 2) := by decide +kernel
theorem d_lw_803 : decode code 803 = .ok (.i2l, 1) := by decide +kernel
theorem d_lw_804 : decode code 804 = .ok (.lcmp, 1) := by decide +kernel
theorem d_lw_805 : decode code 805 = .ok (.ifCond .eq 5, 3) := by decide +kernel
theorem d_lw_808 : decode code 808 = .ok (.iconst 0, 1) := by decide +kernel
theorem d_lw_809 : decode code 809 = .ok (.ireturn, 1) := by decide +kernel
theorem d_lw_810 : decode code 810 = .ok (.goto 343, 3) := by decide +kernel
theorem d_lw_813 : decode code 813 = .ok (.aload_n 1, 1) := by decide +kernel
theorem d_lw_814 : decode code 814 = .ok (.aload_n 0, 1) := by decide +kernel
theorem d_lw_815 : decode code 815 = .ok (.iload 4, 2) := by decide +kernel
theorem d_lw_817 : decode code 817 = .ok (.iconst 1, 1) := by decide +kernel
theorem d_lw_818 : decode code 818 = .ok (.iadd, 1) := by decide +kernel
theorem d_lw_819 : decode code 819 = .ok (.iaload, 1) := by decide +kernel
theorem d_lw_820 : decode code 820 = .ok (.aload_n 0, 1) := by decide +kernel
theorem d_lw_821 : decode code 821 = .ok (.iload 4, 2) := by decide +kernel
theorem d_lw_823 : decode code 823 = .ok (.iconst 2, 1) := by decide +kernel
theorem d_lw_824 : decode code 824 = .ok (.iadd, 1) := by decide +kernel
theorem d_lw_825 : decode code 825 = .ok (.iaload, 1) := by decide +kernel
theorem d_lw_826 : decode code 826 = .ok (.aload_n 3, 1) := by decide +kernel
theorem d_lw_827 : decode code 827 = .ok (.invokestatic 126, 3) := by decide +kernel
theorem d_lw_830 : decode code 830 = .ok (.istore 5, 2) := by decide +kernel
theorem d_lw_832 : decode code 832 = .ok (.aload_n 2, 1) := by decide +kernel
theorem d_lw_833 : decode code 833 = .ok (.aload_n 0, 1) := by decide +kernel
theorem d_lw_834 : decode code 834 = .ok (.iload 4, 2) := by decide +kernel
theorem d_lw_836 : decode code 836 = .ok (.iconst 1, 1) := by decide +kernel
theorem d_lw_837 : decode code 837 = .ok (.iadd, 1) := by decide +kernel
theorem d_lw_838 : decode code 838 = .ok (.iaload, 1) := by decide +kernel
theorem d_lw_839 : decode code 839 = .ok (.aload_n 0, 1) := by decide +kernel
theorem d_lw_840 : decode code 840 = .ok (.iload 4, 2) := by decide +kernel
theorem d_lw_842 : decode code 842 = .ok (.iconst 2, 1) := by decide +kernel
theorem d_lw_843 : decode code 843 = .ok (.iadd, 1) := by decide +kernel
theorem d_lw_844 : decode code 844 = .ok (.iaload, 1) := by decide +kernel
theorem d_lw_845 : decode code 845 = .ok (.invokevirtual 128, 3) := by decide +kernel
theorem d_lw_848 : decode code 848 = .ok (.istore 6, 2) := by decide +kernel
theorem d_lw_850 : decode code 850 = .ok (.aload_n 2, 1) := by decide +kernel
theorem d_lw_851 : decode code 851 = .ok (.invokevirtual 85, 3) := by decide +kernel
theorem d_lw_854 : decode code 854 = .ok (.iload 5, 2) := by decide +kernel
theorem d_lw_856 : decode code 856 = .ok (.if_icmp .eq 5, 3) := by decide +kernel
theorem d_lw_859 : decode code 859 = .ok (.iconst 0, 1) := by decide +kernel
theorem d_lw_860 : decode code 860 = .ok (.ireturn, 1) := by decide +kernel
theorem d_lw_861 : decode code 861 = .ok (.iload 5, 2) := by decide +kernel
theorem d_lw_863 : decode code 863 = .ok (.ifCond .ne 15, 3) := by decide +kernel
theorem d_lw_866 : decode code 866 = .ok (.aload_n 3, 1) := by decide +kernel
theorem d_lw_867 : decode code 867 = .ok (.iconst 0, 1) := by decide +kernel
theorem d_lw_868 : decode code 868 = .ok (.laload, 1) := by decide +kernel
theorem d_lw_869 : decode code 869 = .ok (.iload 6, 2) := by decide +kernel
theorem d_lw_871 : decode code 871 = .ok (.i2l, 1) := by decide +kernel
theorem d_lw_872 : decode code 872 = .ok (.lcmp, 1) := by decide +kernel
theorem d_lw_873 : decode code 873 = .ok (.ifCond .eq 5, 3) := by decide +kernel
theorem d_lw_876 : decode code 876 = .ok (.iconst 0, 1) := by decide +kernel
theorem d_lw_877 : decode code 877 = .ok (.ireturn, 1) := by decide +kernel
theorem d_lw_878 : decode code 878 = .ok (.goto 275, 3) := by decide +kernel
theorem d_lw_881 : decode code 881 = .ok (.aload_n 1, 1) := by decide +kernel
theorem d_lw_882 : decode code 882 = .ok (.aload_n 0, 1) := by decide +kernel
theorem d_lw_883 : decode code 883 = .ok (.iload 4, 2) := by decide +kernel
theorem d_lw_885 : decode code 885 = .ok (.iconst 1, 1) := by decide +kernel
theorem d_lw_886 : decode code 886 = .ok (.iadd, 1) := by decide +kernel
theorem d_lw_887 : decode code 887 = .ok (.iaload, 1) := by decide +kernel
theorem d_lw_888 : decode code 888 = .ok (.aload_n 3, 1) := by decide +kernel
theorem d_lw_889 : decode code 889 = .ok (.invokestatic 129, 3) := by decide +kernel
theorem d_lw_892 : decode code 892 = .ok (.istore 5, 2) := by decide +kernel
theorem d_lw_894 : decode code 894 = .ok (.aload_n 2, 1) := by decide +kernel
theorem d_lw_895 : decode code 895 = .ok (.aload_n 0, 1) := by decide +kernel
theorem d_lw_896 : decode code 896 = .ok (.iload 4, 2) := by decide +kernel
theorem d_lw_898 : decode code 898 = .ok (.iconst 1, 1) := by decide +kernel
theorem d_lw_899 : decode code 899 = .ok (.iadd, 1) := by decide +kernel
theorem d_lw_900 : decode code 900 = .ok (.iaload, 1) := by decide +kernel
theorem d_lw_901 : decode code 901 = .ok (.invokevirtual 131, 3) := by decide +kernel
theorem d_lw_904 : decode code 904 = .ok (.istore 6, 2) := by decide +kernel
theorem d_lw_906 : decode code 906 = .ok (.aload_n 2, 1) := by decide +kernel
theorem d_lw_907 : decode code 907 = .ok (.invokevirtual 85, 3) := by decide +kernel
theorem d_lw_910 : decode code 910 = .ok (.iload 5, 2) := by decide +kernel
theorem d_lw_912 : decode code 912 = .ok (.if_icmp .eq 5, 3) := by decide +kernel
theorem d_lw_915 : decode code 915 = .ok (.iconst 0, 1) := by decide +kernel
theorem d_lw_916 : decode code 916 = .ok (.ireturn, 1) := by decide +kernel
theorem d_lw_917 : decode code 917 = .ok (.iload 5, 2) := by decide +kernel
theorem d_lw_919 : decode code 919 = .ok (.ifCond .ne 15, 3) := by decide +kernel
theorem d_lw_922 : decode code 922 = .ok (.aload_n 3, 1) := by decide +kernel
theorem d_lw_923 : decode code 923 = .ok (.iconst 0, 1) := by decide +kernel
theorem d_lw_924 : decode code 924 = .ok (.laload, 1) := by decide +kernel
theorem d_lw_925 : decode code 925 = .ok (.iload 6, 2) := by decide +kernel
theorem d_lw_927 : decode code 927 = .ok (.i2l, 1) := by decide +kernel
theorem d_lw_928 : decode code 928 = .ok (.lcmp, 1) := by decide +kernel
theorem d_lw_929 : decode code 929 = .ok (.ifCond .eq 5, 3) := by decide +kernel
theorem d_lw_932 : decode code 932 = .ok (.iconst 0, 1) := by decide +kernel
theorem d_lw_933 : decode code 933 = .ok (.ireturn, 1) := by decide +kernel
theorem d_lw_934 : decode code 934 = .ok (.goto 219, 3) := by decide +kernel
theorem d_lw_937 : decode code 937 = .ok (.aload_n 1, 1) := by decide +kernel
theorem d_lw_938 : decode code 938 = .ok (.aload_n 0, 1) := by decide +kernel
theorem d_lw_939 : decode code 939 = .ok (.iload 4, 2) := by decide +kernel
theorem d_lw_941 : decode code 941 = .ok (.iconst 1, 1) := by decide +kernel
theorem d_lw_942 : decode code 942 = .ok (.iadd, 1) := by decide +kernel
theorem d_lw_943 : decode code 943 = .ok (.iaload, 1) := by decide +kernel
theorem d_lw_944 : decode code 944 = .ok (.aload_n 0, 1) := by decide +kernel
theorem d_lw_945 : decode code 945 = .ok (.iload 4, 2) := by decide +kernel
theorem d_lw_947 : decode code 947 = .ok (.iconst 2, 1) := by decide +kernel
theorem d_lw_948 : decode code 948 = .ok (.iadd, 1) := by decide +kernel
theorem d_lw_949 : decode code 949 = .ok (.iaload, 1) := by decide +kernel
theorem d_lw_950 : decode code 950 = .ok (.aload_n 3, 1) := by decide +kernel
theorem d_lw_951 : decode code 951 = .ok (.invokestatic 132, 3) := by decide +kernel
theorem d_lw_954 : decode code 954 = .ok (.istore 5, 2) := by decide +kernel
