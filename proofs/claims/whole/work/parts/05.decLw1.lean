theorem d_Lw_law_730 : decode b_Lw_law 730 = .ok (.aload_n 3, 1) := by decide +kernel
theorem d_Lw_law_731 : decode b_Lw_law 731 = .ok (.iconst 0, 1) := by decide +kernel
theorem d_Lw_law_732 : decode b_Lw_law 732 = .ok (.laload, 1) := by decide +kernel
theorem d_Lw_law_733 : decode b_Lw_law 733 = .ok (.iload 6, 2) := by decide +kernel
theorem d_Lw_law_735 : decode b_Lw_law 735 = .ok (.ifCond .eq 7, 3) := by decide +kernel
theorem d_Lw_law_738 : decode b_Lw_law 738 = .ok (.lconst 1, 1) := by decide +kernel
theorem d_Lw_law_739 : decode b_Lw_law 739 = .ok (.goto 4, 3) := by decide +kernel
theorem d_Lw_law_742 : decode b_Lw_law 742 = .ok (.lconst 0, 1) := by decide +kernel
theorem d_Lw_law_743 : decode b_Lw_law 743 = .ok (.lcmp, 1) := by decide +kernel
theorem d_Lw_law_744 : decode b_Lw_law 744 = .ok (.ifCond .eq 5, 3) := by decide +kernel
theorem d_Lw_law_747 : decode b_Lw_law 747 = .ok (.iconst 0, 1) := by decide +kernel
theorem d_Lw_law_748 : decode b_Lw_law 748 = .ok (.ireturn, 1) := by decide +kernel
theorem d_Lw_law_749 : decode b_Lw_law 749 = .ok (.goto 656, 3) := by decide +kernel
theorem d_Lw_law_752 : decode b_Lw_law 752 = .ok (.aload_n 1, 1) := by decide +kernel
theorem d_Lw_law_753 : decode b_Lw_law 753 = .ok (.aload_n 0, 1) := by decide +kernel
theorem d_Lw_law_754 : decode b_Lw_law 754 = .ok (.iload 4, 2) := by decide +kernel
theorem d_Lw_law_756 : decode b_Lw_law 756 = .ok (.iconst 1, 1) := by decide +kernel
theorem d_Lw_law_757 : decode b_Lw_law 757 = .ok (.iadd, 1) := by decide +kernel
theorem d_Lw_law_758 : decode b_Lw_law 758 = .ok (.iaload, 1) := by decide +kernel
theorem d_Lw_law_759 : decode b_Lw_law 759 = .ok (.aload_n 3, 1) := by decide +kernel
theorem d_Lw_law_760 : decode b_Lw_law 760 = .ok (.invokestatic 132, 3) := by decide +kernel
theorem d_Lw_law_763 : decode b_Lw_law 763 = .ok (.istore 5, 2) := by decide +kernel
theorem d_Lw_law_765 : decode b_Lw_law 765 = .ok (.aload_n 2, 1) := by decide +kernel
theorem d_Lw_law_766 : decode b_Lw_law 766 = .ok (.aload_n 0, 1) := by decide +kernel
theorem d_Lw_law_767 : decode b_Lw_law 767 = .ok (.iload 4, 2) := by decide +kernel
theorem d_Lw_law_769 : decode b_Lw_law 769 = .ok (.iconst 1, 1) := by decide +kernel
theorem d_Lw_law_770 : decode b_Lw_law 770 = .ok (.iadd, 1) := by decide +kernel
theorem d_Lw_law_771 : decode b_Lw_law 771 = .ok (.iaload, 1) := by decide +kernel
theorem d_Lw_law_772 : decode b_Lw_law 772 = .ok (.invokevirtual 134, 3) := by decide +kernel
theorem d_Lw_law_775 : decode b_Lw_law 775 = .ok (.istore 6, 2) := by decide +kernel
theorem d_Lw_law_777 : decode b_Lw_law 777 = .ok (.aload_n 2, 1) := by decide +kernel
theorem d_Lw_law_778 : decode b_Lw_law 778 = .ok (.invokevirtual 93, 3) := by decide +kernel
theorem d_Lw_law_781 : decode b_Lw_law 781 = .ok (.iload 5, 2) := by decide +kernel
theorem d_Lw_law_783 : decode b_Lw_law 783 = .ok (.if_icmp .eq 5, 3) := by decide +kernel
theorem d_Lw_law_786 : decode b_Lw_law 786 = .ok (.iconst 0, 1) := by decide +kernel
theorem d_Lw_law_787 : decode b_Lw_law 787 = .ok (.ireturn, 1) := by decide +kernel
theorem d_Lw_law_788 : decode b_Lw_law 788 = .ok (.iload 5, 2) := by decide +kernel
theorem d_Lw_law_790 : decode b_Lw_law 790 = .ok (.ifCond .ne 15, 3) := by decide +kernel
theorem d_Lw_law_793 : decode b_Lw_law 793 = .ok (.aload_n 3, 1) := by decide +kernel
theorem d_Lw_law_794 : decode b_Lw_law 794 = .ok (.iconst 0, 1) := by decide +kernel
theorem d_Lw_law_795 : decode b_Lw_law 795 = .ok (.laload, 1) := by decide +kernel
theorem d_Lw_law_796 : decode b_Lw_law 796 = .ok (.iload 6, 2) := by decide +kernel
theorem d_Lw_law_798 : decode b_Lw_law 798 = .ok (.i2l, 1) := by decide +kernel
theorem d_Lw_law_799 : decode b_Lw_law 799 = .ok (.lcmp, 1) := by decide +kernel
theorem d_Lw_law_800 : decode b_Lw_law 800 = .ok (.ifCond .eq 5, 3) := by decide +kernel
theorem d_Lw_law_803 : decode b_Lw_law 803 = .ok (.iconst 0, 1) := by decide +kernel
theorem d_Lw_law_804 : decode b_Lw_law 804 = .ok (.ireturn, 1) := by decide +kernel
theorem d_Lw_law_805 : decode b_Lw_law 805 = .ok (.goto 600, 3) := by decide +kernel
theorem d_Lw_law_808 : decode b_Lw_law 808 = .ok (.aload_n 1, 1) := by decide +kernel
theorem d_Lw_law_809 : decode b_Lw_law 809 = .ok (.aload_n 0, 1) := by decide +kernel
theorem d_Lw_law_810 : decode b_Lw_law 810 = .ok (.iload 4, 2) := by decide +kernel
theorem d_Lw_law_812 : decode b_Lw_law 812 = .ok (.iconst 1, 1) := by decide +kernel
theorem d_Lw_law_813 : decode b_Lw_law 813 = .ok (.iadd, 1) := by decide +kernel
theorem d_Lw_law_814 : decode b_Lw_law 814 = .ok (.iaload, 1) := by decide +kernel
theorem d_Lw_law_815 : decode b_Lw_law 815 = .ok (.aload_n 0, 1) := by decide +kernel
theorem d_Lw_law_816 : decode b_Lw_law 816 = .ok (.iload 4, 2) := by decide +kernel
theorem d_Lw_law_818 : decode b_Lw_law 818 = .ok (.iconst 2, 1) := by decide +kernel
theorem d_Lw_law_819 : decode b_Lw_law 819 = .ok (.iadd, 1) := by decide +kernel
theorem d_Lw_law_820 : decode b_Lw_law 820 = .ok (.iaload, 1) := by decide +kernel
theorem d_Lw_law_821 : decode b_Lw_law 821 = .ok (.aload_n 3, 1) := by decide +kernel
theorem d_Lw_law_822 : decode b_Lw_law 822 = .ok (.invokestatic 135, 3) := by decide +kernel
theorem d_Lw_law_825 : decode b_Lw_law 825 = .ok (.istore 5, 2) := by decide +kernel
theorem d_Lw_law_827 : decode b_Lw_law 827 = .ok (.aload_n 2, 1) := by decide +kernel
theorem d_Lw_law_828 : decode b_Lw_law 828 = .ok (.aload_n 0, 1) := by decide +kernel
theorem d_Lw_law_829 : decode b_Lw_law 829 = .ok (.iload 4, 2) := by decide +kernel
theorem d_Lw_law_831 : decode b_Lw_law 831 = .ok (.iconst 1, 1) := by decide +kernel
theorem d_Lw_law_832 : decode b_Lw_law 832 = .ok (.iadd, 1) := by decide +kernel
theorem d_Lw_law_833 : decode b_Lw_law 833 = .ok (.iaload, 1) := by decide +kernel
theorem d_Lw_law_834 : decode b_Lw_law 834 = .ok (.aload_n 0, 1) := by decide +kernel
theorem d_Lw_law_835 : decode b_Lw_law 835 = .ok (.iload 4, 2) := by decide +kernel
theorem d_Lw_law_837 : decode b_Lw_law 837 = .ok (.iconst 2, 1) := by decide +kernel
theorem d_Lw_law_838 : decode b_Lw_law 838 = .ok (.iadd, 1) := by decide +kernel
theorem d_Lw_law_839 : decode b_Lw_law 839 = .ok (.iaload, 1) := by decide +kernel
theorem d_Lw_law_840 : decode b_Lw_law 840 = .ok (.invokevirtual 137, 3) := by decide +kernel
theorem d_Lw_law_843 : decode b_Lw_law 843 = .ok (.istore 6, 2) := by decide +kernel
theorem d_Lw_law_845 : decode b_Lw_law 845 = .ok (.aload_n 2, 1) := by decide +kernel
theorem d_Lw_law_846 : decode b_Lw_law 846 = .ok (.invokevirtual 93, 3) := by decide +kernel
theorem d_Lw_law_849 : decode b_Lw_law 849 = .ok (.iload 5, 2) := by decide +kernel
theorem d_Lw_law_851 : decode b_Lw_law 851 = .ok (.if_icmp .eq 5, 3) := by decide +kernel
theorem d_Lw_law_854 : decode b_Lw_law 854 = .ok (.iconst 0, 1) := by decide +kernel
theorem d_Lw_law_855 : decode b_Lw_law 855 = .ok (.ireturn, 1) := by decide +kernel
theorem d_Lw_law_856 : decode b_Lw_law 856 = .ok (.iload 5, 2) := by decide +kernel
theorem d_Lw_law_858 : decode b_Lw_law 858 = .ok (.ifCond .ne 15, 3) := by decide +kernel
theorem d_Lw_law_861 : decode b_Lw_law 861 = .ok (.aload_n 3, 1) := by decide +kernel
theorem d_Lw_law_862 : decode b_Lw_law 862 = .ok (.iconst 0, 1) := by decide +kernel
theorem d_Lw_law_863 : decode b_Lw_law 863 = .ok (.laload, 1) := by decide +kernel
theorem d_Lw_law_864 : decode b_Lw_law 864 = .ok (.iload 6, 2) := by decide +kernel
theorem d_Lw_law_866 : decode b_Lw_law 866 = .ok (.i2l, 1) := by decide +kernel
theorem d_Lw_law_867 : decode b_Lw_law 867 = .ok (.lcmp, 1) := by decide +kernel
theorem d_Lw_law_868 : decode b_Lw_law 868 = .ok (.ifCond .eq 5, 3) := by decide +kernel
theorem d_Lw_law_871 : decode b_Lw_law 871 = .ok (.iconst 0, 1) := by decide +kernel
theorem d_Lw_law_872 : decode b_Lw_law 872 = .ok (.ireturn, 1) := by decide +kernel
theorem d_Lw_law_873 : decode b_Lw_law 873 = .ok (.goto 532, 3) := by decide +kernel
theorem d_Lw_law_876 : decode b_Lw_law 876 = .ok (.aload_n 1, 1) := by decide +kernel
theorem d_Lw_law_877 : decode b_Lw_law 877 = .ok (.aload_n 0, 1) := by decide +kernel
theorem d_Lw_law_878 : decode b_Lw_law 878 = .ok (.iload 4, 2) := by decide +kernel
theorem d_Lw_law_880 : decode b_Lw_law 880 = .ok (.iconst 1, 1) := by decide +kernel
theorem d_Lw_law_881 : decode b_Lw_law 881 = .ok (.iadd, 1) := by decide +kernel
theorem d_Lw_law_882 : decode b_Lw_law 882 = .ok (.iaload, 1) := by decide +kernel
theorem d_Lw_law_883 : decode b_Lw_law 883 = .ok (.aload_n 3, 1) := by decide +kernel
theorem d_Lw_law_884 : decode b_Lw_law 884 = .ok (.invokestatic 138, 3) := by decide +kernel
theorem d_Lw_law_887 : decode b_Lw_law 887 = .ok (.istore 5, 2) := by decide +kernel
theorem d_Lw_law_889 : decode b_Lw_law 889 = .ok (.aload_n 2, 1) := by decide +kernel
theorem d_Lw_law_890 : decode b_Lw_law 890 = .ok (.aload_n 0, 1) := by decide +kernel
theorem d_Lw_law_891 : decode b_Lw_law 891 = .ok (.iload 4, 2) := by decide +kernel
theorem d_Lw_law_893 : decode b_Lw_law 893 = .ok (.iconst 1, 1) := by decide +kernel
theorem d_Lw_law_894 : decode b_Lw_law 894 = .ok (.iadd, 1) := by decide +kernel
theorem d_Lw_law_895 : decode b_Lw_law 895 = .ok (.iaload, 1) := by decide +kernel
theorem d_Lw_law_896 : decode b_Lw_law 896 = .ok (.invokevirtual 140, 3) := by decide +kernel
theorem d_Lw_law_899 : decode b_Lw_law 899 = .ok (.istore 6, 2) := by decide +kernel
theorem d_Lw_law_901 : decode b_Lw_law 901 = .ok (.aload_n 2, 1) := by decide +kernel
theorem d_Lw_law_902 : decode b_Lw_law 902 = .ok (.invokevirtual 93, 3) := by decide +kernel
theorem d_Lw_law_905 : decode b_Lw_law 905 = .ok (.iload 5, 2) := by decide +kernel
theorem d_Lw_law_907 : decode b_Lw_law 907 = .ok (.if_icmp .eq 5, 3) := by decide +kernel
theorem d_Lw_law_910 : decode b_Lw_law 910 = .ok (.iconst 0, 1) := by decide +kernel
theorem d_Lw_law_911 : decode b_Lw_law 911 = .ok (.ireturn, 1) := by decide +kernel
theorem d_Lw_law_912 : decode b_Lw_law 912 = .ok (.iload 5, 2) := by decide +kernel
theorem d_Lw_law_914 : decode b_Lw_law 914 = .ok (.ifCond .ne 15, 3) := by decide +kernel
theorem d_Lw_law_917 : decode b_Lw_law 917 = .ok (.aload_n 3, 1) := by decide +kernel
theorem d_Lw_law_918 : decode b_Lw_law 918 = .ok (.iconst 0, 1) := by decide +kernel
theorem d_Lw_law_919 : decode b_Lw_law 919 = .ok (.laload, 1) := by decide +kernel
theorem d_Lw_law_920 : decode b_Lw_law 920 = .ok (.iload 6, 2) := by decide +kernel
theorem d_Lw_law_922 : decode b_Lw_law 922 = .ok (.i2l, 1) := by decide +kernel
theorem d_Lw_law_923 : decode b_Lw_law 923 = .ok (.lcmp, 1) := by decide +kernel
theorem d_Lw_law_924 : decode b_Lw_law 924 = .ok (.ifCond .eq 5, 3) := by decide +kernel
theorem d_Lw_law_927 : decode b_Lw_law 927 = .ok (.iconst 0, 1) := by decide +kernel
theorem d_Lw_law_928 : decode b_Lw_law 928 = .ok (.ireturn, 1) := by decide +kernel
theorem d_Lw_law_929 : decode b_Lw_law 929 = .ok (.goto 476, 3) := by decide +kernel
theorem d_Lw_law_932 : decode b_Lw_law 932 = .ok (.aload_n 1, 1) := by decide +kernel
theorem d_Lw_law_933 : decode b_Lw_law 933 = .ok (.aload_n 0, 1) := by decide +kernel
theorem d_Lw_law_934 : decode b_Lw_law 934 = .ok (.iload 4, 2) := by decide +kernel
theorem d_Lw_law_936 : decode b_Lw_law 936 = .ok (.iconst 1, 1) := by decide +kernel
theorem d_Lw_law_937 : decode b_Lw_law 937 = .ok (.iadd, 1) := by decide +kernel
theorem d_Lw_law_938 : decode b_Lw_law 938 = .ok (.iaload, 1) := by decide +kernel
theorem d_Lw_law_939 : decode b_Lw_law 939 = .ok (.aload_n 3, 1) := by decide +kernel
theorem d_Lw_law_940 : decode b_Lw_law 940 = .ok (.invokestatic 141, 3) := by decide +kernel
theorem d_Lw_law_943 : decode b_Lw_law 943 = .ok (.istore 5, 2) := by decide +kernel
theorem d_Lw_law_945 : decode b_Lw_law 945 = .ok (.aload_n 2, 1) := by decide +kernel
theorem d_Lw_law_946 : decode b_Lw_law 946 = .ok (.aload_n 0, 1) := by decide +kernel
theorem d_Lw_law_947 : decode b_Lw_law 947 = .ok (.iload 4, 2) := by decide +kernel
theorem d_Lw_law_949 : decode b_Lw_law 949 = .ok (.iconst 1, 1) := by decide +kernel
theorem d_Lw_law_950 : decode b_Lw_law 950 = .ok (.iadd, 1) := by decide +kernel
theorem d_Lw_law_951 : decode b_Lw_law 951 = .ok (.iaload, 1) := by decide +kernel
theorem d_Lw_law_952 : decode b_Lw_law 952 = .ok (.invokevirtual 143, 3) := by decide +kernel
theorem d_Lw_law_955 : decode b_Lw_law 955 = .ok (.istore 6, 2) := by decide +kernel
theorem d_Lw_law_957 : decode b_Lw_law 957 = .ok (.aload_n 2, 1) := by decide +kernel
theorem d_Lw_law_958 : decode b_Lw_law 958 = .ok (.invokevirtual 93, 3) := by decide +kernel
theorem d_Lw_law_961 : decode b_Lw_law 961 = .ok (.iload 5, 2) := by decide +kernel
theorem d_Lw_law_963 : decode b_Lw_law 963 = .ok (.if_icmp .eq 5, 3) := by decide +kernel
theorem d_Lw_law_966 : decode b_Lw_law 966 = .ok (.iconst 0, 1) := by decide +kernel
theorem d_Lw_law_967 : decode b_Lw_law 967 = .ok (.ireturn, 1) := by decide +kernel
theorem d_Lw_law_968 : decode b_Lw_law 968 = .ok (.iload 5, 2) := by decide +kernel
theorem d_Lw_law_970 : decode b_Lw_law 970 = .ok (.ifCond .ne 15, 3) := by decide +kernel
theorem d_Lw_law_973 : decode b_Lw_law 973 = .ok (.aload_n 3, 1) := by decide +kernel
theorem d_Lw_law_974 : decode b_Lw_law 974 = .ok (.iconst 0, 1) := by decide +kernel
theorem d_Lw_law_975 : decode b_Lw_law 975 = .ok (.laload, 1) := by decide +kernel
theorem d_Lw_law_976 : decode b_Lw_law 976 = .ok (.iload 6, 2) := by decide +kernel
theorem d_Lw_law_978 : decode b_Lw_law 978 = .ok (.i2l, 1) := by decide +kernel
theorem d_Lw_law_979 : decode b_Lw_law 979 = .ok (.lcmp, 1) := by decide +kernel
theorem d_Lw_law_980 : decode b_Lw_law 980 = .ok (.ifCond .eq 5, 3) := by decide +kernel
theorem d_Lw_law_983 : decode b_Lw_law 983 = .ok (.iconst 0, 1) := by decide +kernel
theorem d_Lw_law_984 : decode b_Lw_law 984 = .ok (.ireturn, 1) := by decide +kernel
theorem d_Lw_law_985 : decode b_Lw_law 985 = .ok (.goto 420, 3) := by decide +kernel
theorem d_Lw_law_988 : decode b_Lw_law 988 = .ok (.aload_n 1, 1) := by decide +kernel
theorem d_Lw_law_989 : decode b_Lw_law 989 = .ok (.aload_n 0, 1) := by decide +kernel
theorem d_Lw_law_990 : decode b_Lw_law 990 = .ok (.iload 4, 2) := by decide +kernel
theorem d_Lw_law_992 : decode b_Lw_law 992 = .ok (.iconst 1, 1) := by decide +kernel
theorem d_Lw_law_993 : decode b_Lw_law 993 = .ok (.iadd, 1) := by decide +kernel
theorem d_Lw_law_994 : decode b_Lw_law 994 = .ok (.iaload, 1) := by decide +kernel
theorem d_Lw_law_995 : decode b_Lw_law 995 = .ok (.aload_n 0, 1) := by decide +kernel
theorem d_Lw_law_996 : decode b_Lw_law 996 = .ok (.iload 4, 2) := by decide +kernel
theorem d_Lw_law_998 : decode b_Lw_law 998 = .ok (.iconst 2, 1) := by decide +kernel
theorem d_Lw_law_999 : decode b_Lw_law 999 = .ok (.iadd, 1) := by decide +kernel
theorem d_Lw_law_1000 : decode b_Lw_law 1000 = .ok (.iaload, 1) := by decide +kernel
theorem d_Lw_law_1001 : decode b_Lw_law 1001 = .ok (.aload_n 3, 1) := by decide +kernel
theorem d_Lw_law_1002 : decode b_Lw_law 1002 = .ok (.invokestatic 144, 3) := by decide +kernel
theorem d_Lw_law_1005 : decode b_Lw_law 1005 = .ok (.istore 5, 2) := by decide +kernel
theorem d_Lw_law_1007 : decode b_Lw_law 1007 = .ok (.aload_n 2, 1) := by decide +kernel
theorem d_Lw_law_1008 : decode b_Lw_law 1008 = .ok (.aload_n 0, 1) := by decide +kernel
theorem d_Lw_law_1009 : decode b_Lw_law 1009 = .ok (.iload 4, 2) := by decide +kernel
theorem d_Lw_law_1011 : decode b_Lw_law 1011 = .ok (.iconst 1, 1) := by decide +kernel
theorem d_Lw_law_1012 : decode b_Lw_law 1012 = .ok (.iadd, 1) := by decide +kernel
theorem d_Lw_law_1013 : decode b_Lw_law 1013 = .ok (.iaload, 1) := by decide +kernel
theorem d_Lw_law_1014 : decode b_Lw_law 1014 = .ok (.aload_n 0, 1) := by decide +kernel
theorem d_Lw_law_1015 : decode b_Lw_law 1015 = .ok (.iload 4, 2) := by decide +kernel
theorem d_Lw_law_1017 : decode b_Lw_law 1017 = .ok (.iconst 2, 1) := by decide +kernel
theorem d_Lw_law_1018 : decode b_Lw_law 1018 = .ok (.iadd, 1) := by decide +kernel
theorem d_Lw_law_1019 : decode b_Lw_law 1019 = .ok (.iaload, 1) := by decide +kernel
theorem d_Lw_law_1020 : decode b_Lw_law 1020 = .ok (.invokevirtual 146, 3) := by decide +kernel
theorem d_Lw_law_1023 : decode b_Lw_law 1023 = .ok (.istore 6, 2) := by decide +kernel
theorem d_Lw_law_1025 : decode b_Lw_law 1025 = .ok (.aload_n 2, 1) := by decide +kernel
theorem d_Lw_law_1026 : decode b_Lw_law 1026 = .ok (.invokevirtual 93, 3) := by decide +kernel
theorem d_Lw_law_1029 : decode b_Lw_law 1029 = .ok (.iload 5, 2) := by decide +kernel
theorem d_Lw_law_1031 : decode b_Lw_law 1031 = .ok (.if_icmp .eq 5, 3) := by decide +kernel
theorem d_Lw_law_1034 : decode b_Lw_law 1034 = .ok (.iconst 0, 1) := by decide +kernel
theorem d_Lw_law_1035 : decode b_Lw_law 1035 = .ok (.ireturn, 1) := by decide +kernel
theorem d_Lw_law_1036 : decode b_Lw_law 1036 = .ok (.iload 5, 2) := by decide +kernel
theorem d_Lw_law_1038 : decode b_Lw_law 1038 = .ok (.ifCond .ne 15, 3) := by decide +kernel
theorem d_Lw_law_1041 : decode b_Lw_law 1041 = .ok (.aload_n 3, 1) := by decide +kernel
theorem d_Lw_law_1042 : decode b_Lw_law 1042 = .ok (.iconst 0, 1) := by decide +kernel
theorem d_Lw_law_1043 : decode b_Lw_law 1043 = .ok (.laload, 1) := by decide +kernel
theorem d_Lw_law_1044 : decode b_Lw_law 1044 = .ok (.iload 6, 2) := by decide +kernel
theorem d_Lw_law_1046 : decode b_Lw_law 1046 = .ok (.i2l, 1) := by decide +kernel
theorem d_Lw_law_1047 : decode b_Lw_law 1047 = .ok (.lcmp, 1) := by decide +kernel
theorem d_Lw_law_1048 : decode b_Lw_law 1048 = .ok (.ifCond .eq 5, 3) := by decide +kernel
theorem d_Lw_law_1051 : decode b_Lw_law 1051 = .ok (.iconst 0, 1) := by decide +kernel
theorem d_Lw_law_1052 : decode b_Lw_law 1052 = .ok (.ireturn, 1) := by decide +kernel
theorem d_Lw_law_1053 : decode b_Lw_law 1053 = .ok (.goto 352, 3) := by decide +kernel
theorem d_Lw_law_1056 : decode b_Lw_law 1056 = .ok (.aload_n 1, 1) := by decide +kernel
theorem d_Lw_law_1057 : decode b_Lw_law 1057 = .ok (.aload_n 0, 1) := by decide +kernel
theorem d_Lw_law_1058 : decode b_Lw_law 1058 = .ok (.iload 4, 2) := by decide +kernel
theorem d_Lw_law_1060 : decode b_Lw_law 1060 = .ok (.iconst 1, 1) := by decide +kernel
theorem d_Lw_law_1061 : decode b_Lw_law 1061 = .ok (.iadd, 1) := by decide +kernel
theorem d_Lw_law_1062 : decode b_Lw_law 1062 = .ok (.iaload, 1) := by decide +kernel
theorem d_Lw_law_1063 : decode b_Lw_law 1063 = .ok (.aload_n 0, 1) := by decide +kernel
theorem d_Lw_law_1064 : decode b_Lw_law 1064 = .ok (.iload 4, 2) := by decide +kernel
theorem d_Lw_law_1066 : decode b_Lw_law 1066 = .ok (.iconst 2, 1) := by decide +kernel
theorem d_Lw_law_1067 : decode b_Lw_law 1067 = .ok (.iadd, 1) := by decide +kernel
theorem d_Lw_law_1068 : decode b_Lw_law 1068 = .ok (.iaload, 1) := by decide +kernel
theorem d_Lw_law_1069 : decode b_Lw_law 1069 = .ok (.aload_n 3, 1) := by decide +kernel
theorem d_Lw_law_1070 : decode b_Lw_law 1070 = .ok (.invokestatic 147, 3) := by decide +kernel
theorem d_Lw_law_1073 : decode b_Lw_law 1073 = .ok (.istore 5, 2) := by decide +kernel
theorem d_Lw_law_1075 : decode b_Lw_law 1075 = .ok (.aload_n 2, 1) := by decide +kernel
theorem d_Lw_law_1076 : decode b_Lw_law 1076 = .ok (.aload_n 0, 1) := by decide +kernel
theorem d_Lw_law_1077 : decode b_Lw_law 1077 = .ok (.iload 4, 2) := by decide +kernel
theorem d_Lw_law_1079 : decode b_Lw_law 1079 = .ok (.iconst 1, 1) := by decide +kernel
theorem d_Lw_law_1080 : decode b_Lw_law 1080 = .ok (.iadd, 1) := by decide +kernel
theorem d_Lw_law_1081 : decode b_Lw_law 1081 = .ok (.iaload, 1) := by decide +kernel
theorem d_Lw_law_1082 : decode b_Lw_law 1082 = .ok (.aload_n 0, 1) := by decide +kernel
theorem d_Lw_law_1083 : decode b_Lw_law 1083 = .ok (.iload 4, 2) := by decide +kernel
theorem d_Lw_law_1085 : decode b_Lw_law 1085 = .ok (.iconst 2, 1) := by decide +kernel
theorem d_Lw_law_1086 : decode b_Lw_law 1086 = .ok (.iadd, 1) := by decide +kernel
theorem d_Lw_law_1087 : decode b_Lw_law 1087 = .ok (.iaload, 1) := by decide +kernel
theorem d_Lw_law_1088 : decode b_Lw_law 1088 = .ok (.invokevirtual 149, 3) := by decide +kernel
theorem d_Lw_law_1091 : decode b_Lw_law 1091 = .ok (.istore 6, 2) := by decide +kernel
theorem d_Lw_law_1093 : decode b_Lw_law 1093 = .ok (.aload_n 2, 1) := by decide +kernel
theorem d_Lw_law_1094 : decode b_Lw_law 1094 = .ok (.invokevirtual 93, 3) := by decide +kernel
theorem d_Lw_law_1097 : decode b_Lw_law 1097 = .ok (.iload 5, 2) := by decide +kernel
theorem d_Lw_law_1099 : decode b_Lw_law 1099 = .ok (.if_icmp .eq 5, 3) := by decide +kernel
theorem d_Lw_law_1102 : decode b_Lw_law 1102 = .ok (.iconst 0, 1) := by decide +kernel
theorem d_Lw_law_1103 : decode b_Lw_law 1103 = .ok (.ireturn, 1) := by decide +kernel
theorem d_Lw_law_1104 : decode b_Lw_law 1104 = .ok (.iload 5, 2) := by decide +kernel
theorem d_Lw_law_1106 : decode b_Lw_law 1106 = .ok (.ifCond .ne 15, 3) := by decide +kernel
theorem d_Lw_law_1109 : decode b_Lw_law 1109 = .ok (.aload_n 3, 1) := by decide +kernel
theorem d_Lw_law_1110 : decode b_Lw_law 1110 = .ok (.iconst 0, 1) := by decide +kernel
theorem d_Lw_law_1111 : decode b_Lw_law 1111 = .ok (.laload, 1) := by decide +kernel
theorem d_Lw_law_1112 : decode b_Lw_law 1112 = .ok (.iload 6, 2) := by decide +kernel
theorem d_Lw_law_1114 : decode b_Lw_law 1114 = .ok (.i2l, 1) := by decide +kernel
theorem d_Lw_law_1115 : decode b_Lw_law 1115 = .ok (.lcmp, 1) := by decide +kernel
theorem d_Lw_law_1116 : decode b_Lw_law 1116 = .ok (.ifCond .eq 5, 3) := by decide +kernel
theorem d_Lw_law_1119 : decode b_Lw_law 1119 = .ok (.iconst 0, 1) := by decide +kernel
theorem d_Lw_law_1120 : decode b_Lw_law 1120 = .ok (.ireturn, 1) := by decide +kernel
theorem d_Lw_law_1121 : decode b_Lw_law 1121 = .ok (.goto 284, 3) := by decide +kernel
theorem d_Lw_law_1124 : decode b_Lw_law 1124 = .ok (.aload_n 1, 1) := by decide +kernel
theorem d_Lw_law_1125 : decode b_Lw_law 1125 = .ok (.aload_n 3, 1) := by decide +kernel
theorem d_Lw_law_1126 : decode b_Lw_law 1126 = .ok (.invokestatic 150, 3) := by decide +kernel
theorem d_Lw_law_1129 : decode b_Lw_law 1129 = .ok (.istore 5, 2) := by decide +kernel
theorem d_Lw_law_1131 : decode b_Lw_law 1131 = .ok (.aload_n 2, 1) := by decide +kernel
theorem d_Lw_law_1132 : decode b_Lw_law 1132 = .ok (.invokevirtual 152, 3) := by decide +kernel
theorem d_Lw_law_1135 : decode b_Lw_law 1135 = .ok (.istore 6, 2) := by decide +kernel
theorem d_Lw_law_1137 : decode b_Lw_law 1137 = .ok (.aload_n 2, 1) := by decide +kernel
theorem d_Lw_law_1138 : decode b_Lw_law 1138 = .ok (.invokevirtual 93, 3) := by decide +kernel
theorem d_Lw_law_1141 : decode b_Lw_law 1141 = .ok (.iload 5, 2) := by decide +kernel
theorem d_Lw_law_1143 : decode b_Lw_law 1143 = .ok (.if_icmp .eq 5, 3) := by decide +kernel
theorem d_Lw_law_1146 : decode b_Lw_law 1146 = .ok (.iconst 0, 1) := by decide +kernel
theorem d_Lw_law_1147 : decode b_Lw_law 1147 = .ok (.ireturn, 1) := by decide +kernel
theorem d_Lw_law_1148 : decode b_Lw_law 1148 = .ok (.iload 5, 2) := by decide +kernel
theorem d_Lw_law_1150 : decode b_Lw_law 1150 = .ok (.ifCond .ne 15, 3) := by decide +kernel
theorem d_Lw_law_1153 : decode b_Lw_law 1153 = .ok (.aload_n 3, 1) := by decide +kernel
theorem d_Lw_law_1154 : decode b_Lw_law 1154 = .ok (.iconst 0, 1) := by decide +kernel
theorem d_Lw_law_1155 : decode b_Lw_law 1155 = .ok (.laload, 1) := by decide +kernel
theorem d_Lw_law_1156 : decode b_Lw_law 1156 = .ok (.iload 6, 2) := by decide +kernel
theorem d_Lw_law_1158 : decode b_Lw_law 1158 = .ok (.i2l, 1) := by decide +kernel
theorem d_Lw_law_1159 : decode b_Lw_law 1159 = .ok (.lcmp, 1) := by decide +kernel
theorem d_Lw_law_1160 : decode b_Lw_law 1160 = .ok (.ifCond .eq 5, 3) := by decide +kernel
theorem d_Lw_law_1163 : decode b_Lw_law 1163 = .ok (.iconst 0, 1) := by decide +kernel
theorem d_Lw_law_1164 : decode b_Lw_law 1164 = .ok (.ireturn, 1) := by decide +kernel
theorem d_Lw_law_1165 : decode b_Lw_law 1165 = .ok (.goto 240, 3) := by decide +kernel
theorem d_Lw_law_1168 : decode b_Lw_law 1168 = .ok (.aload_n 1, 1) := by decide +kernel
theorem d_Lw_law_1169 : decode b_Lw_law 1169 = .ok (.aload_n 0, 1) := by decide +kernel
theorem d_Lw_law_1170 : decode b_Lw_law 1170 = .ok (.iload 4, 2) := by decide +kernel
theorem d_Lw_law_1172 : decode b_Lw_law 1172 = .ok (.iconst 1, 1) := by decide +kernel
theorem d_Lw_law_1173 : decode b_Lw_law 1173 = .ok (.iadd, 1) := by decide +kernel
theorem d_Lw_law_1174 : decode b_Lw_law 1174 = .ok (.iaload, 1) := by decide +kernel
theorem d_Lw_law_1175 : decode b_Lw_law 1175 = .ok (.aload_n 3, 1) := by decide +kernel
theorem d_Lw_law_1176 : decode b_Lw_law 1176 = .ok (.invokestatic 153, 3) := by decide +kernel
theorem d_Lw_law_1179 : decode b_Lw_law 1179 = .ok (.istore 5, 2) := by decide +kernel
theorem d_Lw_law_1181 : decode b_Lw_law 1181 = .ok (.aload_n 2, 1) := by decide +kernel
theorem d_Lw_law_1182 : decode b_Lw_law 1182 = .ok (.aload_n 0, 1) := by decide +kernel
theorem d_Lw_law_1183 : decode b_Lw_law 1183 = .ok (.iload 4, 2) := by decide +kernel
theorem d_Lw_law_1185 : decode b_Lw_law 1185 = .ok (.iconst 1, 1) := by decide +kernel
theorem d_Lw_law_1186 : decode b_Lw_law 1186 = .ok (.iadd, 1) := by decide +kernel
theorem d_Lw_law_1187 : decode b_Lw_law 1187 = .ok (.iaload, 1) := by decide +kernel
theorem d_Lw_law_1188 : decode b_Lw_law 1188 = .ok (.invokevirtual 155, 3) := by decide +kernel
theorem d_Lw_law_1191 : decode b_Lw_law 1191 = .ok (.istore 6, 2) := by decide +kernel
theorem d_Lw_law_1193 : decode b_Lw_law 1193 = .ok (.aload_n 2, 1) := by decide +kernel
theorem d_Lw_law_1194 : decode b_Lw_law 1194 = .ok (.invokevirtual 93, 3) := by decide +kernel
theorem d_Lw_law_1197 : decode b_Lw_law 1197 = .ok (.iload 5, 2) := by decide +kernel
theorem d_Lw_law_1199 : decode b_Lw_law 1199 = .ok (.if_icmp .eq 5, 3) := by decide +kernel
theorem d_Lw_law_1202 : decode b_Lw_law 1202 = .ok (.iconst 0, 1) := by decide +kernel
theorem d_Lw_law_1203 : decode b_Lw_law 1203 = .ok (.ireturn, 1) := by decide +kernel
theorem d_Lw_law_1204 : decode b_Lw_law 1204 = .ok (.iload 5, 2) := by decide +kernel
theorem d_Lw_law_1206 : decode b_Lw_law 1206 = .ok (.ifCond .ne 15, 3) := by decide +kernel
theorem d_Lw_law_1209 : decode b_Lw_law 1209 = .ok (.aload_n 3, 1) := by decide +kernel
theorem d_Lw_law_1210 : decode b_Lw_law 1210 = .ok (.iconst 0, 1) := by decide +kernel
theorem d_Lw_law_1211 : decode b_Lw_law 1211 = .ok (.laload, 1) := by decide +kernel
theorem d_Lw_law_1212 : decode b_Lw_law 1212 = .ok (.iload 6, 2) := by decide +kernel
theorem d_Lw_law_1214 : decode b_Lw_law 1214 = .ok (.i2l, 1) := by decide +kernel
theorem d_Lw_law_1215 : decode b_Lw_law 1215 = .ok (.lcmp, 1) := by decide +kernel
theorem d_Lw_law_1216 : decode b_Lw_law 1216 = .ok (.ifCond .eq 5, 3) := by decide +kernel
theorem d_Lw_law_1219 : decode b_Lw_law 1219 = .ok (.iconst 0, 1) := by decide +kernel
theorem d_Lw_law_1220 : decode b_Lw_law 1220 = .ok (.ireturn, 1) := by decide +kernel
theorem d_Lw_law_1221 : decode b_Lw_law 1221 = .ok (.goto 184, 3) := by decide +kernel
theorem d_Lw_law_1224 : decode b_Lw_law 1224 = .ok (.aload_n 1, 1) := by decide +kernel
theorem d_Lw_law_1225 : decode b_Lw_law 1225 = .ok (.aload_n 0, 1) := by decide +kernel
theorem d_Lw_law_1226 : decode b_Lw_law 1226 = .ok (.iload 4, 2) := by decide +kernel
theorem d_Lw_law_1228 : decode b_Lw_law 1228 = .ok (.iconst 1, 1) := by decide +kernel
theorem d_Lw_law_1229 : decode b_Lw_law 1229 = .ok (.iadd, 1) := by decide +kernel
theorem d_Lw_law_1230 : decode b_Lw_law 1230 = .ok (.iaload, 1) := by decide +kernel
theorem d_Lw_law_1231 : decode b_Lw_law 1231 = .ok (.aload_n 3, 1) := by decide +kernel
theorem d_Lw_law_1232 : decode b_Lw_law 1232 = .ok (.invokestatic 156, 3) := by decide +kernel
theorem d_Lw_law_1235 : decode b_Lw_law 1235 = .ok (.istore 5, 2) := by decide +kernel
theorem d_Lw_law_1237 : decode b_Lw_law 1237 = .ok (.aload_n 2, 1) := by decide +kernel
theorem d_Lw_law_1238 : decode b_Lw_law 1238 = .ok (.aload_n 0, 1) := by decide +kernel
theorem d_Lw_law_1239 : decode b_Lw_law 1239 = .ok (.iload 4, 2) := by decide +kernel
theorem d_Lw_law_1241 : decode b_Lw_law 1241 = .ok (.iconst 1, 1) := by decide +kernel
theorem d_Lw_law_1242 : decode b_Lw_law 1242 = .ok (.iadd, 1) := by decide +kernel
theorem d_Lw_law_1243 : decode b_Lw_law 1243 = .ok (.iaload, 1) := by decide +kernel
theorem d_Lw_law_1244 : decode b_Lw_law 1244 = .ok (.invokevirtual 158, 3) := by decide +kernel
theorem d_Lw_law_1247 : decode b_Lw_law 1247 = .ok (.istore 6, 2) := by decide +kernel
theorem d_Lw_law_1249 : decode b_Lw_law 1249 = .ok (.aload_n 2, 1) := by decide +kernel
theorem d_Lw_law_1250 : decode b_Lw_law 1250 = .ok (.invokevirtual 93, 3) := by decide +kernel
theorem d_Lw_law_1253 : decode b_Lw_law 1253 = .ok (.iload 5, 2) := by decide +kernel
theorem d_Lw_law_1255 : decode b_Lw_law 1255 = .ok (.if_icmp .eq 5, 3) := by decide +kernel
theorem d_Lw_law_1258 : decode b_Lw_law 1258 = .ok (.iconst 0, 1) := by decide +kernel
theorem d_Lw_law_1259 : decode b_Lw_law 1259 = .ok (.ireturn, 1) := by decide +kernel
theorem d_Lw_law_1260 : decode b_Lw_law 1260 = .ok (.iload 5, 2) := by decide +kernel
theorem d_Lw_law_1262 : decode b_Lw_law 1262 = .ok (.ifCond .ne 15, 3) := by decide +kernel
theorem d_Lw_law_1265 : decode b_Lw_law 1265 = .ok (.aload_n 3, 1) := by decide +kernel
theorem d_Lw_law_1266 : decode b_Lw_law 1266 = .ok (.iconst 0, 1) := by decide +kernel
theorem d_Lw_law_1267 : decode b_Lw_law 1267 = .ok (.laload, 1) := by decide +kernel
theorem d_Lw_law_1268 : decode b_Lw_law 1268 = .ok (.iload 6, 2) := by decide +kernel
theorem d_Lw_law_1270 : decode b_Lw_law 1270 = .ok (.i2l, 1) := by decide +kernel
theorem d_Lw_law_1271 : decode b_Lw_law 1271 = .ok (.lcmp, 1) := by decide +kernel
theorem d_Lw_law_1272 : decode b_Lw_law 1272 = .ok (.ifCond .eq 5, 3) := by decide +kernel
theorem d_Lw_law_1275 : decode b_Lw_law 1275 = .ok (.iconst 0, 1) := by decide +kernel
theorem d_Lw_law_1276 : decode b_Lw_law 1276 = .ok (.ireturn, 1) := by decide +kernel
theorem d_Lw_law_1277 : decode b_Lw_law 1277 = .ok (.goto 128, 3) := by decide +kernel
theorem d_Lw_law_1280 : decode b_Lw_law 1280 = .ok (.aload_n 1, 1) := by decide +kernel
theorem d_Lw_law_1281 : decode b_Lw_law 1281 = .ok (.aload_n 0, 1) := by decide +kernel
theorem d_Lw_law_1282 : decode b_Lw_law 1282 = .ok (.iload 4, 2) := by decide +kernel
theorem d_Lw_law_1284 : decode b_Lw_law 1284 = .ok (.iconst 1, 1) := by decide +kernel
theorem d_Lw_law_1285 : decode b_Lw_law 1285 = .ok (.iadd, 1) := by decide +kernel
theorem d_Lw_law_1286 : decode b_Lw_law 1286 = .ok (.iaload, 1) := by decide +kernel
theorem d_Lw_law_1287 : decode b_Lw_law 1287 = .ok (.aload_n 3, 1) := by decide +kernel
theorem d_Lw_law_1288 : decode b_Lw_law 1288 = .ok (.invokestatic 159, 3) := by decide +kernel
theorem d_Lw_law_1291 : decode b_Lw_law 1291 = .ok (.istore 5, 2) := by decide +kernel
theorem d_Lw_law_1293 : decode b_Lw_law 1293 = .ok (.aload_n 2, 1) := by decide +kernel
theorem d_Lw_law_1294 : decode b_Lw_law 1294 = .ok (.aload_n 0, 1) := by decide +kernel
theorem d_Lw_law_1295 : decode b_Lw_law 1295 = .ok (.iload 4, 2) := by decide +kernel
theorem d_Lw_law_1297 : decode b_Lw_law 1297 = .ok (.iconst 1, 1) := by decide +kernel
theorem d_Lw_law_1298 : decode b_Lw_law 1298 = .ok (.iadd, 1) := by decide +kernel
theorem d_Lw_law_1299 : decode b_Lw_law 1299 = .ok (.iaload, 1) := by decide +kernel
theorem d_Lw_law_1300 : decode b_Lw_law 1300 = .ok (.invokevirtual 161, 3) := by decide +kernel
theorem d_Lw_law_1303 : decode b_Lw_law 1303 = .ok (.istore 6, 2) := by decide +kernel
theorem d_Lw_law_1305 : decode b_Lw_law 1305 = .ok (.aload_n 2, 1) := by decide +kernel
theorem d_Lw_law_1306 : decode b_Lw_law 1306 = .ok (.invokevirtual 93, 3) := by decide +kernel
theorem d_Lw_law_1309 : decode b_Lw_law 1309 = .ok (.iload 5, 2) := by decide +kernel
theorem d_Lw_law_1311 : decode b_Lw_law 1311 = .ok (.if_icmp .eq 5, 3) := by decide +kernel
theorem d_Lw_law_1314 : decode b_Lw_law 1314 = .ok (.iconst 0, 1) := by decide +kernel
theorem d_Lw_law_1315 : decode b_Lw_law 1315 = .ok (.ireturn, 1) := by decide +kernel
theorem d_Lw_law_1316 : decode b_Lw_law 1316 = .ok (.iload 5, 2) := by decide +kernel
theorem d_Lw_law_1318 : decode b_Lw_law 1318 = .ok (.ifCond .ne 15, 3) := by decide +kernel
theorem d_Lw_law_1321 : decode b_Lw_law 1321 = .ok (.aload_n 3, 1) := by decide +kernel
theorem d_Lw_law_1322 : decode b_Lw_law 1322 = .ok (.iconst 0, 1) := by decide +kernel
theorem d_Lw_law_1323 : decode b_Lw_law 1323 = .ok (.laload, 1) := by decide +kernel
theorem d_Lw_law_1324 : decode b_Lw_law 1324 = .ok (.iload 6, 2) := by decide +kernel
theorem d_Lw_law_1326 : decode b_Lw_law 1326 = .ok (.i2l, 1) := by decide +kernel
theorem d_Lw_law_1327 : decode b_Lw_law 1327 = .ok (.lcmp, 1) := by decide +kernel
theorem d_Lw_law_1328 : decode b_Lw_law 1328 = .ok (.ifCond .eq 5, 3) := by decide +kernel
theorem d_Lw_law_1331 : decode b_Lw_law 1331 = .ok (.iconst 0, 1) := by decide +kernel
theorem d_Lw_law_1332 : decode b_Lw_law 1332 = .ok (.ireturn, 1) := by decide +kernel
theorem d_Lw_law_1333 : decode b_Lw_law 1333 = .ok (.goto 72, 3) := by decide +kernel
theorem d_Lw_law_1336 : decode b_Lw_law 1336 = .ok (.aload_n 1, 1) := by decide +kernel
theorem d_Lw_law_1337 : decode b_Lw_law 1337 = .ok (.invokevirtual 162, 3) := by decide +kernel
theorem d_Lw_law_1340 : decode b_Lw_law 1340 = .ok (.aload_n 2, 1) := by decide +kernel
theorem d_Lw_law_1341 : decode b_Lw_law 1341 = .ok (.invokevirtual 165, 3) := by decide +kernel
theorem d_Lw_law_1344 : decode b_Lw_law 1344 = .ok (.if_icmp .eq 61, 3) := by decide +kernel
theorem d_Lw_law_1347 : decode b_Lw_law 1347 = .ok (.iconst 0, 1) := by decide +kernel
theorem d_Lw_law_1348 : decode b_Lw_law 1348 = .ok (.ireturn, 1) := by decide +kernel
theorem d_Lw_law_1349 : decode b_Lw_law 1349 = .ok (.aload_n 1, 1) := by decide +kernel
theorem d_Lw_law_1350 : decode b_Lw_law 1350 = .ok (.aload_n 0, 1) := by decide +kernel
theorem d_Lw_law_1351 : decode b_Lw_law 1351 = .ok (.iload 4, 2) := by decide +kernel
theorem d_Lw_law_1353 : decode b_Lw_law 1353 = .ok (.iconst 1, 1) := by decide +kernel
theorem d_Lw_law_1354 : decode b_Lw_law 1354 = .ok (.iadd, 1) := by decide +kernel
theorem d_Lw_law_1355 : decode b_Lw_law 1355 = .ok (.iaload, 1) := by decide +kernel
theorem d_Lw_law_1356 : decode b_Lw_law 1356 = .ok (.aload_n 3, 1) := by decide +kernel
theorem d_Lw_law_1357 : decode b_Lw_law 1357 = .ok (.invokestatic 166, 3) := by decide +kernel
theorem d_Lw_law_1360 : decode b_Lw_law 1360 = .ok (.istore 5, 2) := by decide +kernel
theorem d_Lw_law_1362 : decode b_Lw_law 1362 = .ok (.aload_n 2, 1) := by decide +kernel
theorem d_Lw_law_1363 : decode b_Lw_law 1363 = .ok (.aload_n 0, 1) := by decide +kernel
theorem d_Lw_law_1364 : decode b_Lw_law 1364 = .ok (.iload 4, 2) := by decide +kernel
theorem d_Lw_law_1366 : decode b_Lw_law 1366 = .ok (.iconst 1, 1) := by decide +kernel
theorem d_Lw_law_1367 : decode b_Lw_law 1367 = .ok (.iadd, 1) := by decide +kernel
theorem d_Lw_law_1368 : decode b_Lw_law 1368 = .ok (.iaload, 1) := by decide +kernel
theorem d_Lw_law_1369 : decode b_Lw_law 1369 = .ok (.invokevirtual 168, 3) := by decide +kernel
theorem d_Lw_law_1372 : decode b_Lw_law 1372 = .ok (.istore 6, 2) := by decide +kernel
theorem d_Lw_law_1374 : decode b_Lw_law 1374 = .ok (.aload_n 2, 1) := by decide +kernel
theorem d_Lw_law_1375 : decode b_Lw_law 1375 = .ok (.invokevirtual 93, 3) := by decide +kernel
theorem d_Lw_law_1378 : decode b_Lw_law 1378 = .ok (.iload 5, 2) := by decide +kernel
theorem d_Lw_law_1380 : decode b_Lw_law 1380 = .ok (.if_icmp .eq 5, 3) := by decide +kernel
theorem d_Lw_law_1383 : decode b_Lw_law 1383 = .ok (.iconst 0, 1) := by decide +kernel
theorem d_Lw_law_1384 : decode b_Lw_law 1384 = .ok (.ireturn, 1) := by decide +kernel
theorem d_Lw_law_1385 : decode b_Lw_law 1385 = .ok (.iload 5, 2) := by decide +kernel
theorem d_Lw_law_1387 : decode b_Lw_law 1387 = .ok (.ifCond .ne 15, 3) := by decide +kernel
theorem d_Lw_law_1390 : decode b_Lw_law 1390 = .ok (.aload_n 3, 1) := by decide +kernel
theorem d_Lw_law_1391 : decode b_Lw_law 1391 = .ok (.iconst 0, 1) := by decide +kernel
theorem d_Lw_law_1392 : decode b_Lw_law 1392 = .ok (.laload, 1) := by decide +kernel
theorem d_Lw_law_1393 : decode b_Lw_law 1393 = .ok (.iload 6, 2) := by decide +kernel
theorem d_Lw_law_1395 : decode b_Lw_law 1395 = .ok (.i2l, 1) := by decide +kernel
theorem d_Lw_law_1396 : decode b_Lw_law 1396 = .ok (.lcmp, 1) := by decide +kernel
theorem d_Lw_law_1397 : decode b_Lw_law 1397 = .ok (.ifCond .eq 5, 3) := by decide +kernel
theorem d_Lw_law_1400 : decode b_Lw_law 1400 = .ok (.iconst 0, 1) := by decide +kernel
theorem d_Lw_law_1401 : decode b_Lw_law 1401 = .ok (.ireturn, 1) := by decide +kernel
theorem d_Lw_law_1402 : decode b_Lw_law 1402 = .ok (.goto 3, 3) := by decide +kernel
theorem d_Lw_law_1405 : decode b_Lw_law 1405 = .ok (.iinc 4 4, 3) := by decide +kernel
theorem d_Lw_law_1408 : decode b_Lw_law 1408 = .ok (.goto (-1385), 3) := by decide +kernel
theorem d_Lw_law_1411 : decode b_Lw_law 1411 = .ok (.iconst 1, 1) := by decide +kernel
theorem d_Lw_law_1412 : decode b_Lw_law 1412 = .ok (.ireturn, 1) := by decide +kernel
