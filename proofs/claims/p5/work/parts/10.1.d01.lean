theorem dLA_law_779 : decode bLA_law 779 = .ok (.iconst 4, 1) := by decide +kernel
theorem dLA_law_780 : decode bLA_law 780 = .ok (.iadd, 1) := by decide +kernel
theorem dLA_law_781 : decode bLA_law 781 = .ok (.iaload, 1) := by decide +kernel
theorem dLA_law_782 : decode bLA_law 782 = .ok (.i2l, 1) := by decide +kernel
theorem dLA_law_783 : decode bLA_law 783 = .ok (.bipush 32, 2) := by decide +kernel
theorem dLA_law_785 : decode bLA_law 785 = .ok (.lshl, 1) := by decide +kernel
theorem dLA_law_786 : decode bLA_law 786 = .ok (.aload_n 0, 1) := by decide +kernel
theorem dLA_law_787 : decode bLA_law 787 = .ok (.iload 4, 2) := by decide +kernel
theorem dLA_law_789 : decode bLA_law 789 = .ok (.iconst 5, 1) := by decide +kernel
theorem dLA_law_790 : decode bLA_law 790 = .ok (.iadd, 1) := by decide +kernel
theorem dLA_law_791 : decode bLA_law 791 = .ok (.iaload, 1) := by decide +kernel
theorem dLA_law_792 : decode bLA_law 792 = .ok (.i2l, 1) := by decide +kernel
theorem dLA_law_793 : decode bLA_law 793 = .ok (.ldc2_w 23, 3) := by decide +kernel
theorem dLA_law_796 : decode bLA_law 796 = .ok (.land, 1) := by decide +kernel
theorem dLA_law_797 : decode bLA_law 797 = .ok (.lor, 1) := by decide +kernel
theorem dLA_law_798 : decode bLA_law 798 = .ok (.invokevirtual 74, 3) := by decide +kernel
theorem dLA_law_801 : decode bLA_law 801 = .ok (.pop, 1) := by decide +kernel
theorem dLA_law_802 : decode bLA_law 802 = .ok (.goto 636, 3) := by decide +kernel
theorem dLA_law_805 : decode bLA_law 805 = .ok (.aload_n 1, 1) := by decide +kernel
theorem dLA_law_806 : decode bLA_law 806 = .ok (.aload_n 0, 1) := by decide +kernel
theorem dLA_law_807 : decode bLA_law 807 = .ok (.iload 4, 2) := by decide +kernel
theorem dLA_law_809 : decode bLA_law 809 = .ok (.iconst 1, 1) := by decide +kernel
theorem dLA_law_810 : decode bLA_law 810 = .ok (.iadd, 1) := by decide +kernel
theorem dLA_law_811 : decode bLA_law 811 = .ok (.iaload, 1) := by decide +kernel
theorem dLA_law_812 : decode bLA_law 812 = .ok (.aload_n 0, 1) := by decide +kernel
theorem dLA_law_813 : decode bLA_law 813 = .ok (.iload 4, 2) := by decide +kernel
theorem dLA_law_815 : decode bLA_law 815 = .ok (.iconst 2, 1) := by decide +kernel
theorem dLA_law_816 : decode bLA_law 816 = .ok (.iadd, 1) := by decide +kernel
theorem dLA_law_817 : decode bLA_law 817 = .ok (.iaload, 1) := by decide +kernel
theorem dLA_law_818 : decode bLA_law 818 = .ok (.invokevirtual 75, 3) := by decide +kernel
theorem dLA_law_821 : decode bLA_law 821 = .ok (.pop, 1) := by decide +kernel
theorem dLA_law_822 : decode bLA_law 822 = .ok (.aload_n 2, 1) := by decide +kernel
theorem dLA_law_823 : decode bLA_law 823 = .ok (.aload_n 0, 1) := by decide +kernel
theorem dLA_law_824 : decode bLA_law 824 = .ok (.iload 4, 2) := by decide +kernel
theorem dLA_law_826 : decode bLA_law 826 = .ok (.iconst 1, 1) := by decide +kernel
theorem dLA_law_827 : decode bLA_law 827 = .ok (.iadd, 1) := by decide +kernel
theorem dLA_law_828 : decode bLA_law 828 = .ok (.iaload, 1) := by decide +kernel
theorem dLA_law_829 : decode bLA_law 829 = .ok (.aload_n 0, 1) := by decide +kernel
theorem dLA_law_830 : decode bLA_law 830 = .ok (.iload 4, 2) := by decide +kernel
theorem dLA_law_832 : decode bLA_law 832 = .ok (.iconst 2, 1) := by decide +kernel
theorem dLA_law_833 : decode bLA_law 833 = .ok (.iadd, 1) := by decide +kernel
theorem dLA_law_834 : decode bLA_law 834 = .ok (.iaload, 1) := by decide +kernel
theorem dLA_law_835 : decode bLA_law 835 = .ok (.invokevirtual 78, 3) := by decide +kernel
theorem dLA_law_838 : decode bLA_law 838 = .ok (.pop, 1) := by decide +kernel
theorem dLA_law_839 : decode bLA_law 839 = .ok (.goto 599, 3) := by decide +kernel
theorem dLA_law_842 : decode bLA_law 842 = .ok (.aload_n 1, 1) := by decide +kernel
theorem dLA_law_843 : decode bLA_law 843 = .ok (.aload_n 0, 1) := by decide +kernel
theorem dLA_law_844 : decode bLA_law 844 = .ok (.iload 4, 2) := by decide +kernel
theorem dLA_law_846 : decode bLA_law 846 = .ok (.iconst 1, 1) := by decide +kernel
theorem dLA_law_847 : decode bLA_law 847 = .ok (.iadd, 1) := by decide +kernel
theorem dLA_law_848 : decode bLA_law 848 = .ok (.iaload, 1) := by decide +kernel
theorem dLA_law_849 : decode bLA_law 849 = .ok (.aload_n 0, 1) := by decide +kernel
theorem dLA_law_850 : decode bLA_law 850 = .ok (.iload 4, 2) := by decide +kernel
theorem dLA_law_852 : decode bLA_law 852 = .ok (.iconst 2, 1) := by decide +kernel
theorem dLA_law_853 : decode bLA_law 853 = .ok (.iadd, 1) := by decide +kernel
theorem dLA_law_854 : decode bLA_law 854 = .ok (.iaload, 1) := by decide +kernel
theorem dLA_law_855 : decode bLA_law 855 = .ok (.invokevirtual 79, 3) := by decide +kernel
theorem dLA_law_858 : decode bLA_law 858 = .ok (.pop2, 1) := by decide +kernel
theorem dLA_law_859 : decode bLA_law 859 = .ok (.aload_n 2, 1) := by decide +kernel
theorem dLA_law_860 : decode bLA_law 860 = .ok (.aload_n 0, 1) := by decide +kernel
theorem dLA_law_861 : decode bLA_law 861 = .ok (.iload 4, 2) := by decide +kernel
theorem dLA_law_863 : decode bLA_law 863 = .ok (.iconst 1, 1) := by decide +kernel
theorem dLA_law_864 : decode bLA_law 864 = .ok (.iadd, 1) := by decide +kernel
theorem dLA_law_865 : decode bLA_law 865 = .ok (.iaload, 1) := by decide +kernel
theorem dLA_law_866 : decode bLA_law 866 = .ok (.aload_n 0, 1) := by decide +kernel
theorem dLA_law_867 : decode bLA_law 867 = .ok (.iload 4, 2) := by decide +kernel
theorem dLA_law_869 : decode bLA_law 869 = .ok (.iconst 2, 1) := by decide +kernel
theorem dLA_law_870 : decode bLA_law 870 = .ok (.iadd, 1) := by decide +kernel
theorem dLA_law_871 : decode bLA_law 871 = .ok (.iaload, 1) := by decide +kernel
theorem dLA_law_872 : decode bLA_law 872 = .ok (.invokevirtual 82, 3) := by decide +kernel
theorem dLA_law_875 : decode bLA_law 875 = .ok (.pop2, 1) := by decide +kernel
theorem dLA_law_876 : decode bLA_law 876 = .ok (.goto 562, 3) := by decide +kernel
theorem dLA_law_879 : decode bLA_law 879 = .ok (.aload_n 1, 1) := by decide +kernel
theorem dLA_law_880 : decode bLA_law 880 = .ok (.aload_n 0, 1) := by decide +kernel
theorem dLA_law_881 : decode bLA_law 881 = .ok (.iload 4, 2) := by decide +kernel
theorem dLA_law_883 : decode bLA_law 883 = .ok (.iconst 1, 1) := by decide +kernel
theorem dLA_law_884 : decode bLA_law 884 = .ok (.iadd, 1) := by decide +kernel
theorem dLA_law_885 : decode bLA_law 885 = .ok (.iaload, 1) := by decide +kernel
theorem dLA_law_886 : decode bLA_law 886 = .ok (.aload_n 0, 1) := by decide +kernel
theorem dLA_law_887 : decode bLA_law 887 = .ok (.iload 4, 2) := by decide +kernel
theorem dLA_law_889 : decode bLA_law 889 = .ok (.iconst 2, 1) := by decide +kernel
theorem dLA_law_890 : decode bLA_law 890 = .ok (.iadd, 1) := by decide +kernel
theorem dLA_law_891 : decode bLA_law 891 = .ok (.iaload, 1) := by decide +kernel
theorem dLA_law_892 : decode bLA_law 892 = .ok (.aload_n 0, 1) := by decide +kernel
theorem dLA_law_893 : decode bLA_law 893 = .ok (.iload 4, 2) := by decide +kernel
theorem dLA_law_895 : decode bLA_law 895 = .ok (.iconst 3, 1) := by decide +kernel
theorem dLA_law_896 : decode bLA_law 896 = .ok (.iadd, 1) := by decide +kernel
theorem dLA_law_897 : decode bLA_law 897 = .ok (.iaload, 1) := by decide +kernel
theorem dLA_law_898 : decode bLA_law 898 = .ok (.i2l, 1) := by decide +kernel
theorem dLA_law_899 : decode bLA_law 899 = .ok (.bipush 32, 2) := by decide +kernel
theorem dLA_law_901 : decode bLA_law 901 = .ok (.lshl, 1) := by decide +kernel
theorem dLA_law_902 : decode bLA_law 902 = .ok (.aload_n 0, 1) := by decide +kernel
theorem dLA_law_903 : decode bLA_law 903 = .ok (.iload 4, 2) := by decide +kernel
theorem dLA_law_905 : decode bLA_law 905 = .ok (.iconst 4, 1) := by decide +kernel
theorem dLA_law_906 : decode bLA_law 906 = .ok (.iadd, 1) := by decide +kernel
theorem dLA_law_907 : decode bLA_law 907 = .ok (.iaload, 1) := by decide +kernel
theorem dLA_law_908 : decode bLA_law 908 = .ok (.i2l, 1) := by decide +kernel
theorem dLA_law_909 : decode bLA_law 909 = .ok (.ldc2_w 23, 3) := by decide +kernel
theorem dLA_law_912 : decode bLA_law 912 = .ok (.land, 1) := by decide +kernel
theorem dLA_law_913 : decode bLA_law 913 = .ok (.lor, 1) := by decide +kernel
theorem dLA_law_914 : decode bLA_law 914 = .ok (.invokevirtual 83, 3) := by decide +kernel
theorem dLA_law_917 : decode bLA_law 917 = .ok (.pop, 1) := by decide +kernel
theorem dLA_law_918 : decode bLA_law 918 = .ok (.aload_n 2, 1) := by decide +kernel
theorem dLA_law_919 : decode bLA_law 919 = .ok (.aload_n 0, 1) := by decide +kernel
theorem dLA_law_920 : decode bLA_law 920 = .ok (.iload 4, 2) := by decide +kernel
theorem dLA_law_922 : decode bLA_law 922 = .ok (.iconst 1, 1) := by decide +kernel
theorem dLA_law_923 : decode bLA_law 923 = .ok (.iadd, 1) := by decide +kernel
theorem dLA_law_924 : decode bLA_law 924 = .ok (.iaload, 1) := by decide +kernel
theorem dLA_law_925 : decode bLA_law 925 = .ok (.aload_n 0, 1) := by decide +kernel
theorem dLA_law_926 : decode bLA_law 926 = .ok (.iload 4, 2) := by decide +kernel
theorem dLA_law_928 : decode bLA_law 928 = .ok (.iconst 2, 1) := by decide +kernel
theorem dLA_law_929 : decode bLA_law 929 = .ok (.iadd, 1) := by decide +kernel
theorem dLA_law_930 : decode bLA_law 930 = .ok (.iaload, 1) := by decide +kernel
theorem dLA_law_931 : decode bLA_law 931 = .ok (.aload_n 0, 1) := by decide +kernel
theorem dLA_law_932 : decode bLA_law 932 = .ok (.iload 4, 2) := by decide +kernel
theorem dLA_law_934 : decode bLA_law 934 = .ok (.iconst 3, 1) := by decide +kernel
theorem dLA_law_935 : decode bLA_law 935 = .ok (.iadd, 1) := by decide +kernel
theorem dLA_law_936 : decode bLA_law 936 = .ok (.iaload, 1) := by decide +kernel
theorem dLA_law_937 : decode bLA_law 937 = .ok (.i2l, 1) := by decide +kernel
theorem dLA_law_938 : decode bLA_law 938 = .ok (.bipush 32, 2) := by decide +kernel
theorem dLA_law_940 : decode bLA_law 940 = .ok (.lshl, 1) := by decide +kernel
theorem dLA_law_941 : decode bLA_law 941 = .ok (.aload_n 0, 1) := by decide +kernel
theorem dLA_law_942 : decode bLA_law 942 = .ok (.iload 4, 2) := by decide +kernel
theorem dLA_law_944 : decode bLA_law 944 = .ok (.iconst 4, 1) := by decide +kernel
theorem dLA_law_945 : decode bLA_law 945 = .ok (.iadd, 1) := by decide +kernel
theorem dLA_law_946 : decode bLA_law 946 = .ok (.iaload, 1) := by decide +kernel
theorem dLA_law_947 : decode bLA_law 947 = .ok (.i2l, 1) := by decide +kernel
theorem dLA_law_948 : decode bLA_law 948 = .ok (.ldc2_w 23, 3) := by decide +kernel
theorem dLA_law_951 : decode bLA_law 951 = .ok (.land, 1) := by decide +kernel
theorem dLA_law_952 : decode bLA_law 952 = .ok (.lor, 1) := by decide +kernel
theorem dLA_law_953 : decode bLA_law 953 = .ok (.invokevirtual 86, 3) := by decide +kernel
theorem dLA_law_956 : decode bLA_law 956 = .ok (.pop, 1) := by decide +kernel
theorem dLA_law_957 : decode bLA_law 957 = .ok (.goto 481, 3) := by decide +kernel
theorem dLA_law_960 : decode bLA_law 960 = .ok (.aload_n 1, 1) := by decide +kernel
theorem dLA_law_961 : decode bLA_law 961 = .ok (.aload_n 0, 1) := by decide +kernel
theorem dLA_law_962 : decode bLA_law 962 = .ok (.iload 4, 2) := by decide +kernel
theorem dLA_law_964 : decode bLA_law 964 = .ok (.iconst 1, 1) := by decide +kernel
theorem dLA_law_965 : decode bLA_law 965 = .ok (.iadd, 1) := by decide +kernel
theorem dLA_law_966 : decode bLA_law 966 = .ok (.iaload, 1) := by decide +kernel
theorem dLA_law_967 : decode bLA_law 967 = .ok (.aload_n 0, 1) := by decide +kernel
theorem dLA_law_968 : decode bLA_law 968 = .ok (.iload 4, 2) := by decide +kernel
theorem dLA_law_970 : decode bLA_law 970 = .ok (.iconst 2, 1) := by decide +kernel
theorem dLA_law_971 : decode bLA_law 971 = .ok (.iadd, 1) := by decide +kernel
theorem dLA_law_972 : decode bLA_law 972 = .ok (.iaload, 1) := by decide +kernel
theorem dLA_law_973 : decode bLA_law 973 = .ok (.aload_n 0, 1) := by decide +kernel
theorem dLA_law_974 : decode bLA_law 974 = .ok (.iload 4, 2) := by decide +kernel
theorem dLA_law_976 : decode bLA_law 976 = .ok (.iconst 3, 1) := by decide +kernel
theorem dLA_law_977 : decode bLA_law 977 = .ok (.iadd, 1) := by decide +kernel
theorem dLA_law_978 : decode bLA_law 978 = .ok (.iaload, 1) := by decide +kernel
theorem dLA_law_979 : decode bLA_law 979 = .ok (.invokevirtual 87, 3) := by decide +kernel
theorem dLA_law_982 : decode bLA_law 982 = .ok (.pop2, 1) := by decide +kernel
theorem dLA_law_983 : decode bLA_law 983 = .ok (.aload_n 2, 1) := by decide +kernel
theorem dLA_law_984 : decode bLA_law 984 = .ok (.aload_n 0, 1) := by decide +kernel
theorem dLA_law_985 : decode bLA_law 985 = .ok (.iload 4, 2) := by decide +kernel
theorem dLA_law_987 : decode bLA_law 987 = .ok (.iconst 1, 1) := by decide +kernel
theorem dLA_law_988 : decode bLA_law 988 = .ok (.iadd, 1) := by decide +kernel
theorem dLA_law_989 : decode bLA_law 989 = .ok (.iaload, 1) := by decide +kernel
theorem dLA_law_990 : decode bLA_law 990 = .ok (.aload_n 0, 1) := by decide +kernel
theorem dLA_law_991 : decode bLA_law 991 = .ok (.iload 4, 2) := by decide +kernel
theorem dLA_law_993 : decode bLA_law 993 = .ok (.iconst 2, 1) := by decide +kernel
theorem dLA_law_994 : decode bLA_law 994 = .ok (.iadd, 1) := by decide +kernel
theorem dLA_law_995 : decode bLA_law 995 = .ok (.iaload, 1) := by decide +kernel
theorem dLA_law_996 : decode bLA_law 996 = .ok (.aload_n 0, 1) := by decide +kernel
theorem dLA_law_997 : decode bLA_law 997 = .ok (.iload 4, 2) := by decide +kernel
theorem dLA_law_999 : decode bLA_law 999 = .ok (.iconst 3, 1) := by decide +kernel
theorem dLA_law_1000 : decode bLA_law 1000 = .ok (.iadd, 1) := by decide +kernel
theorem dLA_law_1001 : decode bLA_law 1001 = .ok (.iaload, 1) := by decide +kernel
theorem dLA_law_1002 : decode bLA_law 1002 = .ok (.invokevirtual 91, 3) := by decide +kernel
theorem dLA_law_1005 : decode bLA_law 1005 = .ok (.pop2, 1) := by decide +kernel
theorem dLA_law_1006 : decode bLA_law 1006 = .ok (.goto 432, 3) := by decide +kernel
theorem dLA_law_1009 : decode bLA_law 1009 = .ok (.aload_n 1, 1) := by decide +kernel
theorem dLA_law_1010 : decode bLA_law 1010 = .ok (.invokevirtual 92, 3) := by decide +kernel
theorem dLA_law_1013 : decode bLA_law 1013 = .ok (.pop, 1) := by decide +kernel
theorem dLA_law_1014 : decode bLA_law 1014 = .ok (.aload_n 2, 1) := by decide +kernel
theorem dLA_law_1015 : decode bLA_law 1015 = .ok (.invokevirtual 95, 3) := by decide +kernel
theorem dLA_law_1018 : decode bLA_law 1018 = .ok (.pop, 1) := by decide +kernel
theorem dLA_law_1019 : decode bLA_law 1019 = .ok (.goto 419, 3) := by decide +kernel
theorem dLA_law_1022 : decode bLA_law 1022 = .ok (.aload_n 1, 1) := by decide +kernel
theorem dLA_law_1023 : decode bLA_law 1023 = .ok (.aload_n 0, 1) := by decide +kernel
theorem dLA_law_1024 : decode bLA_law 1024 = .ok (.iload 4, 2) := by decide +kernel
theorem dLA_law_1026 : decode bLA_law 1026 = .ok (.iconst 1, 1) := by decide +kernel
theorem dLA_law_1027 : decode bLA_law 1027 = .ok (.iadd, 1) := by decide +kernel
theorem dLA_law_1028 : decode bLA_law 1028 = .ok (.iaload, 1) := by decide +kernel
theorem dLA_law_1029 : decode bLA_law 1029 = .ok (.ifCond .eq 7, 3) := by decide +kernel
theorem dLA_law_1032 : decode bLA_law 1032 = .ok (.iconst 1, 1) := by decide +kernel
theorem dLA_law_1033 : decode bLA_law 1033 = .ok (.goto 4, 3) := by decide +kernel
theorem dLA_law_1036 : decode bLA_law 1036 = .ok (.iconst 0, 1) := by decide +kernel
theorem dLA_law_1037 : decode bLA_law 1037 = .ok (.invokevirtual 96, 3) := by decide +kernel
theorem dLA_law_1040 : decode bLA_law 1040 = .ok (.pop, 1) := by decide +kernel
theorem dLA_law_1041 : decode bLA_law 1041 = .ok (.aload_n 2, 1) := by decide +kernel
theorem dLA_law_1042 : decode bLA_law 1042 = .ok (.aload_n 0, 1) := by decide +kernel
theorem dLA_law_1043 : decode bLA_law 1043 = .ok (.iload 4, 2) := by decide +kernel
theorem dLA_law_1045 : decode bLA_law 1045 = .ok (.iconst 1, 1) := by decide +kernel
theorem dLA_law_1046 : decode bLA_law 1046 = .ok (.iadd, 1) := by decide +kernel
theorem dLA_law_1047 : decode bLA_law 1047 = .ok (.iaload, 1) := by decide +kernel
theorem dLA_law_1048 : decode bLA_law 1048 = .ok (.ifCond .eq 7, 3) := by decide +kernel
theorem dLA_law_1051 : decode bLA_law 1051 = .ok (.iconst 1, 1) := by decide +kernel
theorem dLA_law_1052 : decode bLA_law 1052 = .ok (.goto 4, 3) := by decide +kernel
theorem dLA_law_1055 : decode bLA_law 1055 = .ok (.iconst 0, 1) := by decide +kernel
theorem dLA_law_1056 : decode bLA_law 1056 = .ok (.invokevirtual 100, 3) := by decide +kernel
theorem dLA_law_1059 : decode bLA_law 1059 = .ok (.pop, 1) := by decide +kernel
theorem dLA_law_1060 : decode bLA_law 1060 = .ok (.goto 378, 3) := by decide +kernel
theorem dLA_law_1063 : decode bLA_law 1063 = .ok (.aload_n 1, 1) := by decide +kernel
theorem dLA_law_1064 : decode bLA_law 1064 = .ok (.aload_n 0, 1) := by decide +kernel
theorem dLA_law_1065 : decode bLA_law 1065 = .ok (.iload 4, 2) := by decide +kernel
theorem dLA_law_1067 : decode bLA_law 1067 = .ok (.iconst 1, 1) := by decide +kernel
theorem dLA_law_1068 : decode bLA_law 1068 = .ok (.iadd, 1) := by decide +kernel
theorem dLA_law_1069 : decode bLA_law 1069 = .ok (.iaload, 1) := by decide +kernel
theorem dLA_law_1070 : decode bLA_law 1070 = .ok (.invokevirtual 101, 3) := by decide +kernel
theorem dLA_law_1073 : decode bLA_law 1073 = .ok (.pop, 1) := by decide +kernel
theorem dLA_law_1074 : decode bLA_law 1074 = .ok (.aload_n 2, 1) := by decide +kernel
theorem dLA_law_1075 : decode bLA_law 1075 = .ok (.aload_n 0, 1) := by decide +kernel
theorem dLA_law_1076 : decode bLA_law 1076 = .ok (.iload 4, 2) := by decide +kernel
theorem dLA_law_1078 : decode bLA_law 1078 = .ok (.iconst 1, 1) := by decide +kernel
theorem dLA_law_1079 : decode bLA_law 1079 = .ok (.iadd, 1) := by decide +kernel
theorem dLA_law_1080 : decode bLA_law 1080 = .ok (.iaload, 1) := by decide +kernel
theorem dLA_law_1081 : decode bLA_law 1081 = .ok (.invokevirtual 105, 3) := by decide +kernel
theorem dLA_law_1084 : decode bLA_law 1084 = .ok (.pop, 1) := by decide +kernel
theorem dLA_law_1085 : decode bLA_law 1085 = .ok (.goto 353, 3) := by decide +kernel
theorem dLA_law_1088 : decode bLA_law 1088 = .ok (.aload_n 1, 1) := by decide +kernel
theorem dLA_law_1089 : decode bLA_law 1089 = .ok (.aload_n 0, 1) := by decide +kernel
theorem dLA_law_1090 : decode bLA_law 1090 = .ok (.iload 4, 2) := by decide +kernel
theorem dLA_law_1092 : decode bLA_law 1092 = .ok (.iconst 1, 1) := by decide +kernel
theorem dLA_law_1093 : decode bLA_law 1093 = .ok (.iadd, 1) := by decide +kernel
theorem dLA_law_1094 : decode bLA_law 1094 = .ok (.iaload, 1) := by decide +kernel
theorem dLA_law_1095 : decode bLA_law 1095 = .ok (.aload_n 0, 1) := by decide +kernel
theorem dLA_law_1096 : decode bLA_law 1096 = .ok (.iload 4, 2) := by decide +kernel
theorem dLA_law_1098 : decode bLA_law 1098 = .ok (.iconst 2, 1) := by decide +kernel
theorem dLA_law_1099 : decode bLA_law 1099 = .ok (.iadd, 1) := by decide +kernel
theorem dLA_law_1100 : decode bLA_law 1100 = .ok (.iaload, 1) := by decide +kernel
theorem dLA_law_1101 : decode bLA_law 1101 = .ok (.i2l, 1) := by decide +kernel
theorem dLA_law_1102 : decode bLA_law 1102 = .ok (.bipush 32, 2) := by decide +kernel
theorem dLA_law_1104 : decode bLA_law 1104 = .ok (.lshl, 1) := by decide +kernel
theorem dLA_law_1105 : decode bLA_law 1105 = .ok (.aload_n 0, 1) := by decide +kernel
theorem dLA_law_1106 : decode bLA_law 1106 = .ok (.iload 4, 2) := by decide +kernel
theorem dLA_law_1108 : decode bLA_law 1108 = .ok (.iconst 3, 1) := by decide +kernel
theorem dLA_law_1109 : decode bLA_law 1109 = .ok (.iadd, 1) := by decide +kernel
theorem dLA_law_1110 : decode bLA_law 1110 = .ok (.iaload, 1) := by decide +kernel
theorem dLA_law_1111 : decode bLA_law 1111 = .ok (.i2l, 1) := by decide +kernel
theorem dLA_law_1112 : decode bLA_law 1112 = .ok (.ldc2_w 23, 3) := by decide +kernel
theorem dLA_law_1115 : decode bLA_law 1115 = .ok (.land, 1) := by decide +kernel
theorem dLA_law_1116 : decode bLA_law 1116 = .ok (.lor, 1) := by decide +kernel
theorem dLA_law_1117 : decode bLA_law 1117 = .ok (.invokevirtual 106, 3) := by decide +kernel
theorem dLA_law_1120 : decode bLA_law 1120 = .ok (.pop, 1) := by decide +kernel
theorem dLA_law_1121 : decode bLA_law 1121 = .ok (.aload_n 2, 1) := by decide +kernel
theorem dLA_law_1122 : decode bLA_law 1122 = .ok (.aload_n 0, 1) := by decide +kernel
theorem dLA_law_1123 : decode bLA_law 1123 = .ok (.iload 4, 2) := by decide +kernel
theorem dLA_law_1125 : decode bLA_law 1125 = .ok (.iconst 1, 1) := by decide +kernel
theorem dLA_law_1126 : decode bLA_law 1126 = .ok (.iadd, 1) := by decide +kernel
theorem dLA_law_1127 : decode bLA_law 1127 = .ok (.iaload, 1) := by decide +kernel
theorem dLA_law_1128 : decode bLA_law 1128 = .ok (.aload_n 0, 1) := by decide +kernel
theorem dLA_law_1129 : decode bLA_law 1129 = .ok (.iload 4, 2) := by decide +kernel
theorem dLA_law_1131 : decode bLA_law 1131 = .ok (.iconst 2, 1) := by decide +kernel
theorem dLA_law_1132 : decode bLA_law 1132 = .ok (.iadd, 1) := by decide +kernel
theorem dLA_law_1133 : decode bLA_law 1133 = .ok (.iaload, 1) := by decide +kernel
theorem dLA_law_1134 : decode bLA_law 1134 = .ok (.i2l, 1) := by decide +kernel
theorem dLA_law_1135 : decode bLA_law 1135 = .ok (.bipush 32, 2) := by decide +kernel
theorem dLA_law_1137 : decode bLA_law 1137 = .ok (.lshl, 1) := by decide +kernel
theorem dLA_law_1138 : decode bLA_law 1138 = .ok (.aload_n 0, 1) := by decide +kernel
theorem dLA_law_1139 : decode bLA_law 1139 = .ok (.iload 4, 2) := by decide +kernel
theorem dLA_law_1141 : decode bLA_law 1141 = .ok (.iconst 3, 1) := by decide +kernel
theorem dLA_law_1142 : decode bLA_law 1142 = .ok (.iadd, 1) := by decide +kernel
theorem dLA_law_1143 : decode bLA_law 1143 = .ok (.iaload, 1) := by decide +kernel
theorem dLA_law_1144 : decode bLA_law 1144 = .ok (.i2l, 1) := by decide +kernel
theorem dLA_law_1145 : decode bLA_law 1145 = .ok (.ldc2_w 23, 3) := by decide +kernel
theorem dLA_law_1148 : decode bLA_law 1148 = .ok (.land, 1) := by decide +kernel
theorem dLA_law_1149 : decode bLA_law 1149 = .ok (.lor, 1) := by decide +kernel
theorem dLA_law_1150 : decode bLA_law 1150 = .ok (.invokevirtual 109, 3) := by decide +kernel
theorem dLA_law_1153 : decode bLA_law 1153 = .ok (.pop, 1) := by decide +kernel
theorem dLA_law_1154 : decode bLA_law 1154 = .ok (.goto 284, 3) := by decide +kernel
theorem dLA_law_1157 : decode bLA_law 1157 = .ok (.aload_n 1, 1) := by decide +kernel
theorem dLA_law_1158 : decode bLA_law 1158 = .ok (.aload_n 0, 1) := by decide +kernel
theorem dLA_law_1159 : decode bLA_law 1159 = .ok (.iload 4, 2) := by decide +kernel
theorem dLA_law_1161 : decode bLA_law 1161 = .ok (.iconst 1, 1) := by decide +kernel
theorem dLA_law_1162 : decode bLA_law 1162 = .ok (.iadd, 1) := by decide +kernel
theorem dLA_law_1163 : decode bLA_law 1163 = .ok (.iaload, 1) := by decide +kernel
theorem dLA_law_1164 : decode bLA_law 1164 = .ok (.aload_n 0, 1) := by decide +kernel
theorem dLA_law_1165 : decode bLA_law 1165 = .ok (.iload 4, 2) := by decide +kernel
theorem dLA_law_1167 : decode bLA_law 1167 = .ok (.iconst 2, 1) := by decide +kernel
theorem dLA_law_1168 : decode bLA_law 1168 = .ok (.iadd, 1) := by decide +kernel
theorem dLA_law_1169 : decode bLA_law 1169 = .ok (.iaload, 1) := by decide +kernel
theorem dLA_law_1170 : decode bLA_law 1170 = .ok (.i2l, 1) := by decide +kernel
theorem dLA_law_1171 : decode bLA_law 1171 = .ok (.bipush 32, 2) := by decide +kernel
theorem dLA_law_1173 : decode bLA_law 1173 = .ok (.lshl, 1) := by decide +kernel
theorem dLA_law_1174 : decode bLA_law 1174 = .ok (.aload_n 0, 1) := by decide +kernel
theorem dLA_law_1175 : decode bLA_law 1175 = .ok (.iload 4, 2) := by decide +kernel
theorem dLA_law_1177 : decode bLA_law 1177 = .ok (.iconst 3, 1) := by decide +kernel
theorem dLA_law_1178 : decode bLA_law 1178 = .ok (.iadd, 1) := by decide +kernel
theorem dLA_law_1179 : decode bLA_law 1179 = .ok (.iaload, 1) := by decide +kernel
theorem dLA_law_1180 : decode bLA_law 1180 = .ok (.i2l, 1) := by decide +kernel
theorem dLA_law_1181 : decode bLA_law 1181 = .ok (.ldc2_w 23, 3) := by decide +kernel
theorem dLA_law_1184 : decode bLA_law 1184 = .ok (.land, 1) := by decide +kernel
theorem dLA_law_1185 : decode bLA_law 1185 = .ok (.lor, 1) := by decide +kernel
theorem dLA_law_1186 : decode bLA_law 1186 = .ok (.aload_n 0, 1) := by decide +kernel
theorem dLA_law_1187 : decode bLA_law 1187 = .ok (.iload 4, 2) := by decide +kernel
theorem dLA_law_1189 : decode bLA_law 1189 = .ok (.iconst 4, 1) := by decide +kernel
theorem dLA_law_1190 : decode bLA_law 1190 = .ok (.iadd, 1) := by decide +kernel
theorem dLA_law_1191 : decode bLA_law 1191 = .ok (.iaload, 1) := by decide +kernel
theorem dLA_law_1192 : decode bLA_law 1192 = .ok (.invokevirtual 110, 3) := by decide +kernel
theorem dLA_law_1195 : decode bLA_law 1195 = .ok (.pop2, 1) := by decide +kernel
theorem dLA_law_1196 : decode bLA_law 1196 = .ok (.aload_n 2, 1) := by decide +kernel
theorem dLA_law_1197 : decode bLA_law 1197 = .ok (.aload_n 0, 1) := by decide +kernel
theorem dLA_law_1198 : decode bLA_law 1198 = .ok (.iload 4, 2) := by decide +kernel
theorem dLA_law_1200 : decode bLA_law 1200 = .ok (.iconst 1, 1) := by decide +kernel
theorem dLA_law_1201 : decode bLA_law 1201 = .ok (.iadd, 1) := by decide +kernel
theorem dLA_law_1202 : decode bLA_law 1202 = .ok (.iaload, 1) := by decide +kernel
theorem dLA_law_1203 : decode bLA_law 1203 = .ok (.aload_n 0, 1) := by decide +kernel
theorem dLA_law_1204 : decode bLA_law 1204 = .ok (.iload 4, 2) := by decide +kernel
theorem dLA_law_1206 : decode bLA_law 1206 = .ok (.iconst 2, 1) := by decide +kernel
theorem dLA_law_1207 : decode bLA_law 1207 = .ok (.iadd, 1) := by decide +kernel
theorem dLA_law_1208 : decode bLA_law 1208 = .ok (.iaload, 1) := by decide +kernel
theorem dLA_law_1209 : decode bLA_law 1209 = .ok (.i2l, 1) := by decide +kernel
theorem dLA_law_1210 : decode bLA_law 1210 = .ok (.bipush 32, 2) := by decide +kernel
theorem dLA_law_1212 : decode bLA_law 1212 = .ok (.lshl, 1) := by decide +kernel
theorem dLA_law_1213 : decode bLA_law 1213 = .ok (.aload_n 0, 1) := by decide +kernel
theorem dLA_law_1214 : decode bLA_law 1214 = .ok (.iload 4, 2) := by decide +kernel
theorem dLA_law_1216 : decode bLA_law 1216 = .ok (.iconst 3, 1) := by decide +kernel
theorem dLA_law_1217 : decode bLA_law 1217 = .ok (.iadd, 1) := by decide +kernel
theorem dLA_law_1218 : decode bLA_law 1218 = .ok (.iaload, 1) := by decide +kernel
theorem dLA_law_1219 : decode bLA_law 1219 = .ok (.i2l, 1) := by decide +kernel
theorem dLA_law_1220 : decode bLA_law 1220 = .ok (.ldc2_w 23, 3) := by decide +kernel
theorem dLA_law_1223 : decode bLA_law 1223 = .ok (.land, 1) := by decide +kernel
theorem dLA_law_1224 : decode bLA_law 1224 = .ok (.lor, 1) := by decide +kernel
theorem dLA_law_1225 : decode bLA_law 1225 = .ok (.aload_n 0, 1) := by decide +kernel
theorem dLA_law_1226 : decode bLA_law 1226 = .ok (.iload 4, 2) := by decide +kernel
theorem dLA_law_1228 : decode bLA_law 1228 = .ok (.iconst 4, 1) := by decide +kernel
theorem dLA_law_1229 : decode bLA_law 1229 = .ok (.iadd, 1) := by decide +kernel
theorem dLA_law_1230 : decode bLA_law 1230 = .ok (.iaload, 1) := by decide +kernel
theorem dLA_law_1231 : decode bLA_law 1231 = .ok (.invokevirtual 114, 3) := by decide +kernel
theorem dLA_law_1234 : decode bLA_law 1234 = .ok (.pop2, 1) := by decide +kernel
theorem dLA_law_1235 : decode bLA_law 1235 = .ok (.goto 203, 3) := by decide +kernel
theorem dLA_law_1238 : decode bLA_law 1238 = .ok (.aload_n 1, 1) := by decide +kernel
theorem dLA_law_1239 : decode bLA_law 1239 = .ok (.aload_n 0, 1) := by decide +kernel
theorem dLA_law_1240 : decode bLA_law 1240 = .ok (.iload 4, 2) := by decide +kernel
theorem dLA_law_1242 : decode bLA_law 1242 = .ok (.iconst 1, 1) := by decide +kernel
theorem dLA_law_1243 : decode bLA_law 1243 = .ok (.iadd, 1) := by decide +kernel
theorem dLA_law_1244 : decode bLA_law 1244 = .ok (.iaload, 1) := by decide +kernel
theorem dLA_law_1245 : decode bLA_law 1245 = .ok (.i2l, 1) := by decide +kernel
theorem dLA_law_1246 : decode bLA_law 1246 = .ok (.bipush 32, 2) := by decide +kernel
theorem dLA_law_1248 : decode bLA_law 1248 = .ok (.lshl, 1) := by decide +kernel
theorem dLA_law_1249 : decode bLA_law 1249 = .ok (.aload_n 0, 1) := by decide +kernel
theorem dLA_law_1250 : decode bLA_law 1250 = .ok (.iload 4, 2) := by decide +kernel
theorem dLA_law_1252 : decode bLA_law 1252 = .ok (.iconst 2, 1) := by decide +kernel
theorem dLA_law_1253 : decode bLA_law 1253 = .ok (.iadd, 1) := by decide +kernel
theorem dLA_law_1254 : decode bLA_law 1254 = .ok (.iaload, 1) := by decide +kernel
theorem dLA_law_1255 : decode bLA_law 1255 = .ok (.i2l, 1) := by decide +kernel
theorem dLA_law_1256 : decode bLA_law 1256 = .ok (.ldc2_w 23, 3) := by decide +kernel
theorem dLA_law_1259 : decode bLA_law 1259 = .ok (.land, 1) := by decide +kernel
theorem dLA_law_1260 : decode bLA_law 1260 = .ok (.lor, 1) := by decide +kernel
theorem dLA_law_1261 : decode bLA_law 1261 = .ok (.aload_n 0, 1) := by decide +kernel
theorem dLA_law_1262 : decode bLA_law 1262 = .ok (.iload 4, 2) := by decide +kernel
theorem dLA_law_1264 : decode bLA_law 1264 = .ok (.iconst 3, 1) := by decide +kernel
theorem dLA_law_1265 : decode bLA_law 1265 = .ok (.iadd, 1) := by decide +kernel
theorem dLA_law_1266 : decode bLA_law 1266 = .ok (.iaload, 1) := by decide +kernel
theorem dLA_law_1267 : decode bLA_law 1267 = .ok (.i2l, 1) := by decide +kernel
theorem dLA_law_1268 : decode bLA_law 1268 = .ok (.bipush 32, 2) := by decide +kernel
theorem dLA_law_1270 : decode bLA_law 1270 = .ok (.lshl, 1) := by decide +kernel
theorem dLA_law_1271 : decode bLA_law 1271 = .ok (.aload_n 0, 1) := by decide +kernel
theorem dLA_law_1272 : decode bLA_law 1272 = .ok (.iload 4, 2) := by decide +kernel
theorem dLA_law_1274 : decode bLA_law 1274 = .ok (.iconst 4, 1) := by decide +kernel
theorem dLA_law_1275 : decode bLA_law 1275 = .ok (.iadd, 1) := by decide +kernel
theorem dLA_law_1276 : decode bLA_law 1276 = .ok (.iaload, 1) := by decide +kernel
theorem dLA_law_1277 : decode bLA_law 1277 = .ok (.i2l, 1) := by decide +kernel
theorem dLA_law_1278 : decode bLA_law 1278 = .ok (.ldc2_w 23, 3) := by decide +kernel
theorem dLA_law_1281 : decode bLA_law 1281 = .ok (.land, 1) := by decide +kernel
theorem dLA_law_1282 : decode bLA_law 1282 = .ok (.lor, 1) := by decide +kernel
theorem dLA_law_1283 : decode bLA_law 1283 = .ok (.invokevirtual 115, 3) := by decide +kernel
theorem dLA_law_1286 : decode bLA_law 1286 = .ok (.pop, 1) := by decide +kernel
theorem dLA_law_1287 : decode bLA_law 1287 = .ok (.aload_n 2, 1) := by decide +kernel
theorem dLA_law_1288 : decode bLA_law 1288 = .ok (.aload_n 0, 1) := by decide +kernel
theorem dLA_law_1289 : decode bLA_law 1289 = .ok (.iload 4, 2) := by decide +kernel
theorem dLA_law_1291 : decode bLA_law 1291 = .ok (.iconst 1, 1) := by decide +kernel
theorem dLA_law_1292 : decode bLA_law 1292 = .ok (.iadd, 1) := by decide +kernel
theorem dLA_law_1293 : decode bLA_law 1293 = .ok (.iaload, 1) := by decide +kernel
theorem dLA_law_1294 : decode bLA_law 1294 = .ok (.i2l, 1) := by decide +kernel
theorem dLA_law_1295 : decode bLA_law 1295 = .ok (.bipush 32, 2) := by decide +kernel
theorem dLA_law_1297 : decode bLA_law 1297 = .ok (.lshl, 1) := by decide +kernel
theorem dLA_law_1298 : decode bLA_law 1298 = .ok (.aload_n 0, 1) := by decide +kernel
theorem dLA_law_1299 : decode bLA_law 1299 = .ok (.iload 4, 2) := by decide +kernel
theorem dLA_law_1301 : decode bLA_law 1301 = .ok (.iconst 2, 1) := by decide +kernel
theorem dLA_law_1302 : decode bLA_law 1302 = .ok (.iadd, 1) := by decide +kernel
theorem dLA_law_1303 : decode bLA_law 1303 = .ok (.iaload, 1) := by decide +kernel
theorem dLA_law_1304 : decode bLA_law 1304 = .ok (.i2l, 1) := by decide +kernel
theorem dLA_law_1305 : decode bLA_law 1305 = .ok (.ldc2_w 23, 3) := by decide +kernel
theorem dLA_law_1308 : decode bLA_law 1308 = .ok (.land, 1) := by decide +kernel
theorem dLA_law_1309 : decode bLA_law 1309 = .ok (.lor, 1) := by decide +kernel
theorem dLA_law_1310 : decode bLA_law 1310 = .ok (.aload_n 0, 1) := by decide +kernel
theorem dLA_law_1311 : decode bLA_law 1311 = .ok (.iload 4, 2) := by decide +kernel
theorem dLA_law_1313 : decode bLA_law 1313 = .ok (.iconst 3, 1) := by decide +kernel
theorem dLA_law_1314 : decode bLA_law 1314 = .ok (.iadd, 1) := by decide +kernel
theorem dLA_law_1315 : decode bLA_law 1315 = .ok (.iaload, 1) := by decide +kernel
theorem dLA_law_1316 : decode bLA_law 1316 = .ok (.i2l, 1) := by decide +kernel
theorem dLA_law_1317 : decode bLA_law 1317 = .ok (.bipush 32, 2) := by decide +kernel
theorem dLA_law_1319 : decode bLA_law 1319 = .ok (.lshl, 1) := by decide +kernel
theorem dLA_law_1320 : decode bLA_law 1320 = .ok (.aload_n 0, 1) := by decide +kernel
theorem dLA_law_1321 : decode bLA_law 1321 = .ok (.iload 4, 2) := by decide +kernel
theorem dLA_law_1323 : decode bLA_law 1323 = .ok (.iconst 4, 1) := by decide +kernel
theorem dLA_law_1324 : decode bLA_law 1324 = .ok (.iadd, 1) := by decide +kernel
theorem dLA_law_1325 : decode bLA_law 1325 = .ok (.iaload, 1) := by decide +kernel
theorem dLA_law_1326 : decode bLA_law 1326 = .ok (.i2l, 1) := by decide +kernel
theorem dLA_law_1327 : decode bLA_law 1327 = .ok (.ldc2_w 23, 3) := by decide +kernel
theorem dLA_law_1330 : decode bLA_law 1330 = .ok (.land, 1) := by decide +kernel
theorem dLA_law_1331 : decode bLA_law 1331 = .ok (.lor, 1) := by decide +kernel
theorem dLA_law_1332 : decode bLA_law 1332 = .ok (.invokevirtual 119, 3) := by decide +kernel
theorem dLA_law_1335 : decode bLA_law 1335 = .ok (.pop, 1) := by decide +kernel
theorem dLA_law_1336 : decode bLA_law 1336 = .ok (.goto 102, 3) := by decide +kernel
theorem dLA_law_1339 : decode bLA_law 1339 = .ok (.aload_n 1, 1) := by decide +kernel
theorem dLA_law_1340 : decode bLA_law 1340 = .ok (.aload_n 0, 1) := by decide +kernel
theorem dLA_law_1341 : decode bLA_law 1341 = .ok (.iload 4, 2) := by decide +kernel
theorem dLA_law_1343 : decode bLA_law 1343 = .ok (.iconst 1, 1) := by decide +kernel
theorem dLA_law_1344 : decode bLA_law 1344 = .ok (.iadd, 1) := by decide +kernel
theorem dLA_law_1345 : decode bLA_law 1345 = .ok (.iaload, 1) := by decide +kernel
theorem dLA_law_1346 : decode bLA_law 1346 = .ok (.aload_n 0, 1) := by decide +kernel
theorem dLA_law_1347 : decode bLA_law 1347 = .ok (.iload 4, 2) := by decide +kernel
theorem dLA_law_1349 : decode bLA_law 1349 = .ok (.iconst 2, 1) := by decide +kernel
theorem dLA_law_1350 : decode bLA_law 1350 = .ok (.iadd, 1) := by decide +kernel
theorem dLA_law_1351 : decode bLA_law 1351 = .ok (.iaload, 1) := by decide +kernel
theorem dLA_law_1352 : decode bLA_law 1352 = .ok (.aload_n 0, 1) := by decide +kernel
theorem dLA_law_1353 : decode bLA_law 1353 = .ok (.iload 4, 2) := by decide +kernel
theorem dLA_law_1355 : decode bLA_law 1355 = .ok (.iconst 3, 1) := by decide +kernel
theorem dLA_law_1356 : decode bLA_law 1356 = .ok (.iadd, 1) := by decide +kernel
theorem dLA_law_1357 : decode bLA_law 1357 = .ok (.iaload, 1) := by decide +kernel
theorem dLA_law_1358 : decode bLA_law 1358 = .ok (.invokevirtual 120, 3) := by decide +kernel
theorem dLA_law_1361 : decode bLA_law 1361 = .ok (.pop, 1) := by decide +kernel
theorem dLA_law_1362 : decode bLA_law 1362 = .ok (.aload_n 2, 1) := by decide +kernel
theorem dLA_law_1363 : decode bLA_law 1363 = .ok (.aload_n 0, 1) := by decide +kernel
theorem dLA_law_1364 : decode bLA_law 1364 = .ok (.iload 4, 2) := by decide +kernel
theorem dLA_law_1366 : decode bLA_law 1366 = .ok (.iconst 1, 1) := by decide +kernel
theorem dLA_law_1367 : decode bLA_law 1367 = .ok (.iadd, 1) := by decide +kernel
theorem dLA_law_1368 : decode bLA_law 1368 = .ok (.iaload, 1) := by decide +kernel
theorem dLA_law_1369 : decode bLA_law 1369 = .ok (.aload_n 0, 1) := by decide +kernel
theorem dLA_law_1370 : decode bLA_law 1370 = .ok (.iload 4, 2) := by decide +kernel
theorem dLA_law_1372 : decode bLA_law 1372 = .ok (.iconst 2, 1) := by decide +kernel
theorem dLA_law_1373 : decode bLA_law 1373 = .ok (.iadd, 1) := by decide +kernel
theorem dLA_law_1374 : decode bLA_law 1374 = .ok (.iaload, 1) := by decide +kernel
theorem dLA_law_1375 : decode bLA_law 1375 = .ok (.aload_n 0, 1) := by decide +kernel
theorem dLA_law_1376 : decode bLA_law 1376 = .ok (.iload 4, 2) := by decide +kernel
theorem dLA_law_1378 : decode bLA_law 1378 = .ok (.iconst 3, 1) := by decide +kernel
theorem dLA_law_1379 : decode bLA_law 1379 = .ok (.iadd, 1) := by decide +kernel
theorem dLA_law_1380 : decode bLA_law 1380 = .ok (.iaload, 1) := by decide +kernel
theorem dLA_law_1381 : decode bLA_law 1381 = .ok (.invokevirtual 124, 3) := by decide +kernel
theorem dLA_law_1384 : decode bLA_law 1384 = .ok (.pop, 1) := by decide +kernel
theorem dLA_law_1385 : decode bLA_law 1385 = .ok (.goto 53, 3) := by decide +kernel
theorem dLA_law_1388 : decode bLA_law 1388 = .ok (.aload_n 1, 1) := by decide +kernel
theorem dLA_law_1389 : decode bLA_law 1389 = .ok (.aload_n 0, 1) := by decide +kernel
theorem dLA_law_1390 : decode bLA_law 1390 = .ok (.iload 4, 2) := by decide +kernel
theorem dLA_law_1392 : decode bLA_law 1392 = .ok (.iconst 1, 1) := by decide +kernel
theorem dLA_law_1393 : decode bLA_law 1393 = .ok (.iadd, 1) := by decide +kernel
theorem dLA_law_1394 : decode bLA_law 1394 = .ok (.iaload, 1) := by decide +kernel
theorem dLA_law_1395 : decode bLA_law 1395 = .ok (.invokevirtual 125, 3) := by decide +kernel
theorem dLA_law_1398 : decode bLA_law 1398 = .ok (.pop2, 1) := by decide +kernel
theorem dLA_law_1399 : decode bLA_law 1399 = .ok (.aload_n 2, 1) := by decide +kernel
theorem dLA_law_1400 : decode bLA_law 1400 = .ok (.aload_n 0, 1) := by decide +kernel
theorem dLA_law_1401 : decode bLA_law 1401 = .ok (.iload 4, 2) := by decide +kernel
theorem dLA_law_1403 : decode bLA_law 1403 = .ok (.iconst 1, 1) := by decide +kernel
theorem dLA_law_1404 : decode bLA_law 1404 = .ok (.iadd, 1) := by decide +kernel
theorem dLA_law_1405 : decode bLA_law 1405 = .ok (.iaload, 1) := by decide +kernel
theorem dLA_law_1406 : decode bLA_law 1406 = .ok (.invokevirtual 129, 3) := by decide +kernel
theorem dLA_law_1409 : decode bLA_law 1409 = .ok (.pop2, 1) := by decide +kernel
theorem dLA_law_1410 : decode bLA_law 1410 = .ok (.goto 28, 3) := by decide +kernel
theorem dLA_law_1413 : decode bLA_law 1413 = .ok (.aload_n 1, 1) := by decide +kernel
theorem dLA_law_1414 : decode bLA_law 1414 = .ok (.aload_n 0, 1) := by decide +kernel
theorem dLA_law_1415 : decode bLA_law 1415 = .ok (.iload 4, 2) := by decide +kernel
theorem dLA_law_1417 : decode bLA_law 1417 = .ok (.iconst 1, 1) := by decide +kernel
theorem dLA_law_1418 : decode bLA_law 1418 = .ok (.iadd, 1) := by decide +kernel
theorem dLA_law_1419 : decode bLA_law 1419 = .ok (.iaload, 1) := by decide +kernel
theorem dLA_law_1420 : decode bLA_law 1420 = .ok (.invokevirtual 130, 3) := by decide +kernel
theorem dLA_law_1423 : decode bLA_law 1423 = .ok (.pop2, 1) := by decide +kernel
theorem dLA_law_1424 : decode bLA_law 1424 = .ok (.aload_n 2, 1) := by decide +kernel
theorem dLA_law_1425 : decode bLA_law 1425 = .ok (.aload_n 0, 1) := by decide +kernel
theorem dLA_law_1426 : decode bLA_law 1426 = .ok (.iload 4, 2) := by decide +kernel
theorem dLA_law_1428 : decode bLA_law 1428 = .ok (.iconst 1, 1) := by decide +kernel
theorem dLA_law_1429 : decode bLA_law 1429 = .ok (.iadd, 1) := by decide +kernel
theorem dLA_law_1430 : decode bLA_law 1430 = .ok (.iaload, 1) := by decide +kernel
theorem dLA_law_1431 : decode bLA_law 1431 = .ok (.invokevirtual 133, 3) := by decide +kernel
theorem dLA_law_1434 : decode bLA_law 1434 = .ok (.pop2, 1) := by decide +kernel
theorem dLA_law_1435 : decode bLA_law 1435 = .ok (.goto 3, 3) := by decide +kernel
theorem dLA_law_1438 : decode bLA_law 1438 = .ok (.iinc 4 6, 3) := by decide +kernel
theorem dLA_law_1441 : decode bLA_law 1441 = .ok (.goto (-1418), 3) := by decide +kernel
theorem dLA_law_1444 : decode bLA_law 1444 = .ok (.iconst 1, 1) := by decide +kernel
theorem dLA_law_1445 : decode bLA_law 1445 = .ok (.ireturn, 1) := by decide +kernel
