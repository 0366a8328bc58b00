theorem dLA_law_770 : decode bLA_law 770 = .ok (.invokevirtual 70, 3) := by decide +kernel
theorem dLA_law_773 : decode bLA_law 773 = .ok (.pop, 1) := by decide +kernel
theorem dLA_law_774 : decode bLA_law 774 = .ok (.goto 636, 3) := by decide +kernel
theorem dLA_law_777 : decode bLA_law 777 = .ok (.aload_n 1, 1) := by decide +kernel
theorem dLA_law_778 : decode bLA_law 778 = .ok (.aload_n 0, 1) := by decide +kernel
theorem dLA_law_779 : decode bLA_law 779 = .ok (.iload 4, 2) := by decide +kernel
theorem dLA_law_781 : decode bLA_law 781 = .ok (.iconst 1, 1) := by decide +kernel
theorem dLA_law_782 : decode bLA_law 782 = .ok (.iadd, 1) := by decide +kernel
theorem dLA_law_783 : decode bLA_law 783 = .ok (.iaload, 1) := by decide +kernel
theorem dLA_law_784 : decode bLA_law 784 = .ok (.aload_n 0, 1) := by decide +kernel
theorem dLA_law_785 : decode bLA_law 785 = .ok (.iload 4, 2) := by decide +kernel
theorem dLA_law_787 : decode bLA_law 787 = .ok (.iconst 2, 1) := by decide +kernel
theorem dLA_law_788 : decode bLA_law 788 = .ok (.iadd, 1) := by decide +kernel
theorem dLA_law_789 : decode bLA_law 789 = .ok (.iaload, 1) := by decide +kernel
theorem dLA_law_790 : decode bLA_law 790 = .ok (.invokevirtual 71, 3) := by decide +kernel
theorem dLA_law_793 : decode bLA_law 793 = .ok (.pop, 1) := by decide +kernel
theorem dLA_law_794 : decode bLA_law 794 = .ok (.aload_n 2, 1) := by decide +kernel
theorem dLA_law_795 : decode bLA_law 795 = .ok (.aload_n 0, 1) := by decide +kernel
theorem dLA_law_796 : decode bLA_law 796 = .ok (.iload 4, 2) := by decide +kernel
theorem dLA_law_798 : decode bLA_law 798 = .ok (.iconst 1, 1) := by decide +kernel
theorem dLA_law_799 : decode bLA_law 799 = .ok (.iadd, 1) := by decide +kernel
theorem dLA_law_800 : decode bLA_law 800 = .ok (.iaload, 1) := by decide +kernel
theorem dLA_law_801 : decode bLA_law 801 = .ok (.aload_n 0, 1) := by decide +kernel
theorem dLA_law_802 : decode bLA_law 802 = .ok (.iload 4, 2) := by decide +kernel
theorem dLA_law_804 : decode bLA_law 804 = .ok (.iconst 2, 1) := by decide +kernel
theorem dLA_law_805 : decode bLA_law 805 = .ok (.iadd, 1) := by decide +kernel
theorem dLA_law_806 : decode bLA_law 806 = .ok (.iaload, 1) := by decide +kernel
theorem dLA_law_807 : decode bLA_law 807 = .ok (.invokevirtual 74, 3) := by decide +kernel
theorem dLA_law_810 : decode bLA_law 810 = .ok (.pop, 1) := by decide +kernel
theorem dLA_law_811 : decode bLA_law 811 = .ok (.goto 599, 3) := by decide +kernel
theorem dLA_law_814 : decode bLA_law 814 = .ok (.aload_n 1, 1) := by decide +kernel
theorem dLA_law_815 : decode bLA_law 815 = .ok (.aload_n 0, 1) := by decide +kernel
theorem dLA_law_816 : decode bLA_law 816 = .ok (.iload 4, 2) := by decide +kernel
theorem dLA_law_818 : decode bLA_law 818 = .ok (.iconst 1, 1) := by decide +kernel
theorem dLA_law_819 : decode bLA_law 819 = .ok (.iadd, 1) := by decide +kernel
theorem dLA_law_820 : decode bLA_law 820 = .ok (.iaload, 1) := by decide +kernel
theorem dLA_law_821 : decode bLA_law 821 = .ok (.aload_n 0, 1) := by decide +kernel
theorem dLA_law_822 : decode bLA_law 822 = .ok (.iload 4, 2) := by decide +kernel
theorem dLA_law_824 : decode bLA_law 824 = .ok (.iconst 2, 1) := by decide +kernel
theorem dLA_law_825 : decode bLA_law 825 = .ok (.iadd, 1) := by decide +kernel
theorem dLA_law_826 : decode bLA_law 826 = .ok (.iaload, 1) := by decide +kernel
theorem dLA_law_827 : decode bLA_law 827 = .ok (.invokevirtual 75, 3) := by decide +kernel
theorem dLA_law_830 : decode bLA_law 830 = .ok (.pop2, 1) := by decide +kernel
theorem dLA_law_831 : decode bLA_law 831 = .ok (.aload_n 2, 1) := by decide +kernel
theorem dLA_law_832 : decode bLA_law 832 = .ok (.aload_n 0, 1) := by decide +kernel
theorem dLA_law_833 : decode bLA_law 833 = .ok (.iload 4, 2) := by decide +kernel
theorem dLA_law_835 : decode bLA_law 835 = .ok (.iconst 1, 1) := by decide +kernel
theorem dLA_law_836 : decode bLA_law 836 = .ok (.iadd, 1) := by decide +kernel
theorem dLA_law_837 : decode bLA_law 837 = .ok (.iaload, 1) := by decide +kernel
theorem dLA_law_838 : decode bLA_law 838 = .ok (.aload_n 0, 1) := by decide +kernel
theorem dLA_law_839 : decode bLA_law 839 = .ok (.iload 4, 2) := by decide +kernel
theorem dLA_law_841 : decode bLA_law 841 = .ok (.iconst 2, 1) := by decide +kernel
theorem dLA_law_842 : decode bLA_law 842 = .ok (.iadd, 1) := by decide +kernel
theorem dLA_law_843 : decode bLA_law 843 = .ok (.iaload, 1) := by decide +kernel
theorem dLA_law_844 : decode bLA_law 844 = .ok (.invokevirtual 78, 3) := by decide +kernel
theorem dLA_law_847 : decode bLA_law 847 = .ok (.pop2, 1) := by decide +kernel
theorem dLA_law_848 : decode bLA_law 848 = .ok (.goto 562, 3) := by decide +kernel
theorem dLA_law_851 : decode bLA_law 851 = .ok (.aload_n 1, 1) := by decide +kernel
theorem dLA_law_852 : decode bLA_law 852 = .ok (.aload_n 0, 1) := by decide +kernel
theorem dLA_law_853 : decode bLA_law 853 = .ok (.iload 4, 2) := by decide +kernel
theorem dLA_law_855 : decode bLA_law 855 = .ok (.iconst 1, 1) := by decide +kernel
theorem dLA_law_856 : decode bLA_law 856 = .ok (.iadd, 1) := by decide +kernel
theorem dLA_law_857 : decode bLA_law 857 = .ok (.iaload, 1) := by decide +kernel
theorem dLA_law_858 : decode bLA_law 858 = .ok (.aload_n 0, 1) := by decide +kernel
theorem dLA_law_859 : decode bLA_law 859 = .ok (.iload 4, 2) := by decide +kernel
theorem dLA_law_861 : decode bLA_law 861 = .ok (.iconst 2, 1) := by decide +kernel
theorem dLA_law_862 : decode bLA_law 862 = .ok (.iadd, 1) := by decide +kernel
theorem dLA_law_863 : decode bLA_law 863 = .ok (.iaload, 1) := by decide +kernel
theorem dLA_law_864 : decode bLA_law 864 = .ok (.aload_n 0, 1) := by decide +kernel
theorem dLA_law_865 : decode bLA_law 865 = .ok (.iload 4, 2) := by decide +kernel
theorem dLA_law_867 : decode bLA_law 867 = .ok (.iconst 3, 1) := by decide +kernel
theorem dLA_law_868 : decode bLA_law 868 = .ok (.iadd, 1) := by decide +kernel
theorem dLA_law_869 : decode bLA_law 869 = .ok (.iaload, 1) := by decide +kernel
theorem dLA_law_870 : decode bLA_law 870 = .ok (.i2l, 1) := by decide +kernel
theorem dLA_law_871 : decode bLA_law 871 = .ok (.bipush 32, 2) := by decide +kernel
theorem dLA_law_873 : decode bLA_law 873 = .ok (.lshl, 1) := by decide +kernel
theorem dLA_law_874 : decode bLA_law 874 = .ok (.aload_n 0, 1) := by decide +kernel
theorem dLA_law_875 : decode bLA_law 875 = .ok (.iload 4, 2) := by decide +kernel
theorem dLA_law_877 : decode bLA_law 877 = .ok (.iconst 4, 1) := by decide +kernel
theorem dLA_law_878 : decode bLA_law 878 = .ok (.iadd, 1) := by decide +kernel
theorem dLA_law_879 : decode bLA_law 879 = .ok (.iaload, 1) := by decide +kernel
theorem dLA_law_880 : decode bLA_law 880 = .ok (.i2l, 1) := by decide +kernel
theorem dLA_law_881 : decode bLA_law 881 = .ok (.ldc2_w 23, 3) := by decide +kernel
theorem dLA_law_884 : decode bLA_law 884 = .ok (.land, 1) := by decide +kernel
theorem dLA_law_885 : decode bLA_law 885 = .ok (.lor, 1) := by decide +kernel
theorem dLA_law_886 : decode bLA_law 886 = .ok (.invokevirtual 79, 3) := by decide +kernel
theorem dLA_law_889 : decode bLA_law 889 = .ok (.pop, 1) := by decide +kernel
theorem dLA_law_890 : decode bLA_law 890 = .ok (.aload_n 2, 1) := by decide +kernel
theorem dLA_law_891 : decode bLA_law 891 = .ok (.aload_n 0, 1) := by decide +kernel
theorem dLA_law_892 : decode bLA_law 892 = .ok (.iload 4, 2) := by decide +kernel
theorem dLA_law_894 : decode bLA_law 894 = .ok (.iconst 1, 1) := by decide +kernel
theorem dLA_law_895 : decode bLA_law 895 = .ok (.iadd, 1) := by decide +kernel
theorem dLA_law_896 : decode bLA_law 896 = .ok (.iaload, 1) := by decide +kernel
theorem dLA_law_897 : decode bLA_law 897 = .ok (.aload_n 0, 1) := by decide +kernel
theorem dLA_law_898 : decode bLA_law 898 = .ok (.iload 4, 2) := by decide +kernel
theorem dLA_law_900 : decode bLA_law 900 = .ok (.iconst 2, 1) := by decide +kernel
theorem dLA_law_901 : decode bLA_law 901 = .ok (.iadd, 1) := by decide +kernel
theorem dLA_law_902 : decode bLA_law 902 = .ok (.iaload, 1) := by decide +kernel
theorem dLA_law_903 : decode bLA_law 903 = .ok (.aload_n 0, 1) := by decide +kernel
theorem dLA_law_904 : decode bLA_law 904 = .ok (.iload 4, 2) := by decide +kernel
theorem dLA_law_906 : decode bLA_law 906 = .ok (.iconst 3, 1) := by decide +kernel
theorem dLA_law_907 : decode bLA_law 907 = .ok (.iadd, 1) := by decide +kernel
theorem dLA_law_908 : decode bLA_law 908 = .ok (.iaload, 1) := by decide +kernel
theorem dLA_law_909 : decode bLA_law 909 = .ok (.i2l, 1) := by decide +kernel
theorem dLA_law_910 : decode bLA_law 910 = .ok (.bipush 32, 2) := by decide +kernel
theorem dLA_law_912 : decode bLA_law 912 = .ok (.lshl, 1) := by decide +kernel
theorem dLA_law_913 : decode bLA_law 913 = .ok (.aload_n 0, 1) := by decide +kernel
theorem dLA_law_914 : decode bLA_law 914 = .ok (.iload 4, 2) := by decide +kernel
theorem dLA_law_916 : decode bLA_law 916 = .ok (.iconst 4, 1) := by decide +kernel
theorem dLA_law_917 : decode bLA_law 917 = .ok (.iadd, 1) := by decide +kernel
theorem dLA_law_918 : decode bLA_law 918 = .ok (.iaload, 1) := by decide +kernel
theorem dLA_law_919 : decode bLA_law 919 = .ok (.i2l, 1) := by decide +kernel
theorem dLA_law_920 : decode bLA_law 920 = .ok (.ldc2_w 23, 3) := by decide +kernel
theorem dLA_law_923 : decode bLA_law 923 = .ok (.land, 1) := by decide +kernel
theorem dLA_law_924 : decode bLA_law 924 = .ok (.lor, 1) := by decide +kernel
theorem dLA_law_925 : decode bLA_law 925 = .ok (.invokevirtual 82, 3) := by decide +kernel
theorem dLA_law_928 : decode bLA_law 928 = .ok (.pop, 1) := by decide +kernel
theorem dLA_law_929 : decode bLA_law 929 = .ok (.goto 481, 3) := by decide +kernel
theorem dLA_law_932 : decode bLA_law 932 = .ok (.aload_n 1, 1) := by decide +kernel
theorem dLA_law_933 : decode bLA_law 933 = .ok (.aload_n 0, 1) := by decide +kernel
theorem dLA_law_934 : decode bLA_law 934 = .ok (.iload 4, 2) := by decide +kernel
theorem dLA_law_936 : decode bLA_law 936 = .ok (.iconst 1, 1) := by decide +kernel
theorem dLA_law_937 : decode bLA_law 937 = .ok (.iadd, 1) := by decide +kernel
theorem dLA_law_938 : decode bLA_law 938 = .ok (.iaload, 1) := by decide +kernel
theorem dLA_law_939 : decode bLA_law 939 = .ok (.aload_n 0, 1) := by decide +kernel
theorem dLA_law_940 : decode bLA_law 940 = .ok (.iload 4, 2) := by decide +kernel
theorem dLA_law_942 : decode bLA_law 942 = .ok (.iconst 2, 1) := by decide +kernel
theorem dLA_law_943 : decode bLA_law 943 = .ok (.iadd, 1) := by decide +kernel
theorem dLA_law_944 : decode bLA_law 944 = .ok (.iaload, 1) := by decide +kernel
theorem dLA_law_945 : decode bLA_law 945 = .ok (.aload_n 0, 1) := by decide +kernel
theorem dLA_law_946 : decode bLA_law 946 = .ok (.iload 4, 2) := by decide +kernel
theorem dLA_law_948 : decode bLA_law 948 = .ok (.iconst 3, 1) := by decide +kernel
theorem dLA_law_949 : decode bLA_law 949 = .ok (.iadd, 1) := by decide +kernel
theorem dLA_law_950 : decode bLA_law 950 = .ok (.iaload, 1) := by decide +kernel
theorem dLA_law_951 : decode bLA_law 951 = .ok (.invokevirtual 83, 3) := by decide +kernel
theorem dLA_law_954 : decode bLA_law 954 = .ok (.pop2, 1) := by decide +kernel
theorem dLA_law_955 : decode bLA_law 955 = .ok (.aload_n 2, 1) := by decide +kernel
theorem dLA_law_956 : decode bLA_law 956 = .ok (.aload_n 0, 1) := by decide +kernel
theorem dLA_law_957 : decode bLA_law 957 = .ok (.iload 4, 2) := by decide +kernel
theorem dLA_law_959 : decode bLA_law 959 = .ok (.iconst 1, 1) := by decide +kernel
theorem dLA_law_960 : decode bLA_law 960 = .ok (.iadd, 1) := by decide +kernel
theorem dLA_law_961 : decode bLA_law 961 = .ok (.iaload, 1) := by decide +kernel
theorem dLA_law_962 : decode bLA_law 962 = .ok (.aload_n 0, 1) := by decide +kernel
theorem dLA_law_963 : decode bLA_law 963 = .ok (.iload 4, 2) := by decide +kernel
theorem dLA_law_965 : decode bLA_law 965 = .ok (.iconst 2, 1) := by decide +kernel
theorem dLA_law_966 : decode bLA_law 966 = .ok (.iadd, 1) := by decide +kernel
theorem dLA_law_967 : decode bLA_law 967 = .ok (.iaload, 1) := by decide +kernel
theorem dLA_law_968 : decode bLA_law 968 = .ok (.aload_n 0, 1) := by decide +kernel
theorem dLA_law_969 : decode bLA_law 969 = .ok (.iload 4, 2) := by decide +kernel
theorem dLA_law_971 : decode bLA_law 971 = .ok (.iconst 3, 1) := by decide +kernel
theorem dLA_law_972 : decode bLA_law 972 = .ok (.iadd, 1) := by decide +kernel
theorem dLA_law_973 : decode bLA_law 973 = .ok (.iaload, 1) := by decide +kernel
theorem dLA_law_974 : decode bLA_law 974 = .ok (.invokevirtual 87, 3) := by decide +kernel
theorem dLA_law_977 : decode bLA_law 977 = .ok (.pop2, 1) := by decide +kernel
theorem dLA_law_978 : decode bLA_law 978 = .ok (.goto 432, 3) := by decide +kernel
theorem dLA_law_981 : decode bLA_law 981 = .ok (.aload_n 1, 1) := by decide +kernel
theorem dLA_law_982 : decode bLA_law 982 = .ok (.invokevirtual 88, 3) := by decide +kernel
theorem dLA_law_985 : decode bLA_law 985 = .ok (.pop, 1) := by decide +kernel
theorem dLA_law_986 : decode bLA_law 986 = .ok (.aload_n 2, 1) := by decide +kernel
theorem dLA_law_987 : decode bLA_law 987 = .ok (.invokevirtual 92, 3) := by decide +kernel
theorem dLA_law_990 : decode bLA_law 990 = .ok (.pop, 1) := by decide +kernel
theorem dLA_law_991 : decode bLA_law 991 = .ok (.goto 419, 3) := by decide +kernel
theorem dLA_law_994 : decode bLA_law 994 = .ok (.aload_n 1, 1) := by decide +kernel
theorem dLA_law_995 : decode bLA_law 995 = .ok (.aload_n 0, 1) := by decide +kernel
theorem dLA_law_996 : decode bLA_law 996 = .ok (.iload 4, 2) := by decide +kernel
theorem dLA_law_998 : decode bLA_law 998 = .ok (.iconst 1, 1) := by decide +kernel
theorem dLA_law_999 : decode bLA_law 999 = .ok (.iadd, 1) := by decide +kernel
theorem dLA_law_1000 : decode bLA_law 1000 = .ok (.iaload, 1) := by decide +kernel
theorem dLA_law_1001 : decode bLA_law 1001 = .ok (.ifCond .eq 7, 3) := by decide +kernel
theorem dLA_law_1004 : decode bLA_law 1004 = .ok (.iconst 1, 1) := by decide +kernel
theorem dLA_law_1005 : decode bLA_law 1005 = .ok (.goto 4, 3) := by decide +kernel
theorem dLA_law_1008 : decode bLA_law 1008 = .ok (.iconst 0, 1) := by decide +kernel
theorem dLA_law_1009 : decode bLA_law 1009 = .ok (.invokevirtual 93, 3) := by decide +kernel
theorem dLA_law_1012 : decode bLA_law 1012 = .ok (.pop, 1) := by decide +kernel
theorem dLA_law_1013 : decode bLA_law 1013 = .ok (.aload_n 2, 1) := by decide +kernel
theorem dLA_law_1014 : decode bLA_law 1014 = .ok (.aload_n 0, 1) := by decide +kernel
theorem dLA_law_1015 : decode bLA_law 1015 = .ok (.iload 4, 2) := by decide +kernel
theorem dLA_law_1017 : decode bLA_law 1017 = .ok (.iconst 1, 1) := by decide +kernel
theorem dLA_law_1018 : decode bLA_law 1018 = .ok (.iadd, 1) := by decide +kernel
theorem dLA_law_1019 : decode bLA_law 1019 = .ok (.iaload, 1) := by decide +kernel
theorem dLA_law_1020 : decode bLA_law 1020 = .ok (.ifCond .eq 7, 3) := by decide +kernel
theorem dLA_law_1023 : decode bLA_law 1023 = .ok (.iconst 1, 1) := by decide +kernel
theorem dLA_law_1024 : decode bLA_law 1024 = .ok (.goto 4, 3) := by decide +kernel
theorem dLA_law_1027 : decode bLA_law 1027 = .ok (.iconst 0, 1) := by decide +kernel
theorem dLA_law_1028 : decode bLA_law 1028 = .ok (.invokevirtual 97, 3) := by decide +kernel
theorem dLA_law_1031 : decode bLA_law 1031 = .ok (.pop, 1) := by decide +kernel
theorem dLA_law_1032 : decode bLA_law 1032 = .ok (.goto 378, 3) := by decide +kernel
theorem dLA_law_1035 : decode bLA_law 1035 = .ok (.aload_n 1, 1) := by decide +kernel
theorem dLA_law_1036 : decode bLA_law 1036 = .ok (.aload_n 0, 1) := by decide +kernel
theorem dLA_law_1037 : decode bLA_law 1037 = .ok (.iload 4, 2) := by decide +kernel
theorem dLA_law_1039 : decode bLA_law 1039 = .ok (.iconst 1, 1) := by decide +kernel
theorem dLA_law_1040 : decode bLA_law 1040 = .ok (.iadd, 1) := by decide +kernel
theorem dLA_law_1041 : decode bLA_law 1041 = .ok (.iaload, 1) := by decide +kernel
theorem dLA_law_1042 : decode bLA_law 1042 = .ok (.invokevirtual 98, 3) := by decide +kernel
theorem dLA_law_1045 : decode bLA_law 1045 = .ok (.pop, 1) := by decide +kernel
theorem dLA_law_1046 : decode bLA_law 1046 = .ok (.aload_n 2, 1) := by decide +kernel
theorem dLA_law_1047 : decode bLA_law 1047 = .ok (.aload_n 0, 1) := by decide +kernel
theorem dLA_law_1048 : decode bLA_law 1048 = .ok (.iload 4, 2) := by decide +kernel
theorem dLA_law_1050 : decode bLA_law 1050 = .ok (.iconst 1, 1) := by decide +kernel
theorem dLA_law_1051 : decode bLA_law 1051 = .ok (.iadd, 1) := by decide +kernel
theorem dLA_law_1052 : decode bLA_law 1052 = .ok (.iaload, 1) := by decide +kernel
theorem dLA_law_1053 : decode bLA_law 1053 = .ok (.invokevirtual 102, 3) := by decide +kernel
theorem dLA_law_1056 : decode bLA_law 1056 = .ok (.pop, 1) := by decide +kernel
theorem dLA_law_1057 : decode bLA_law 1057 = .ok (.goto 353, 3) := by decide +kernel
theorem dLA_law_1060 : decode bLA_law 1060 = .ok (.aload_n 1, 1) := by decide +kernel
theorem dLA_law_1061 : decode bLA_law 1061 = .ok (.aload_n 0, 1) := by decide +kernel
theorem dLA_law_1062 : decode bLA_law 1062 = .ok (.iload 4, 2) := by decide +kernel
theorem dLA_law_1064 : decode bLA_law 1064 = .ok (.iconst 1, 1) := by decide +kernel
theorem dLA_law_1065 : decode bLA_law 1065 = .ok (.iadd, 1) := by decide +kernel
theorem dLA_law_1066 : decode bLA_law 1066 = .ok (.iaload, 1) := by decide +kernel
theorem dLA_law_1067 : decode bLA_law 1067 = .ok (.aload_n 0, 1) := by decide +kernel
theorem dLA_law_1068 : decode bLA_law 1068 = .ok (.iload 4, 2) := by decide +kernel
theorem dLA_law_1070 : decode bLA_law 1070 = .ok (.iconst 2, 1) := by decide +kernel
theorem dLA_law_1071 : decode bLA_law 1071 = .ok (.iadd, 1) := by decide +kernel
theorem dLA_law_1072 : decode bLA_law 1072 = .ok (.iaload, 1) := by decide +kernel
theorem dLA_law_1073 : decode bLA_law 1073 = .ok (.i2l, 1) := by decide +kernel
theorem dLA_law_1074 : decode bLA_law 1074 = .ok (.bipush 32, 2) := by decide +kernel
theorem dLA_law_1076 : decode bLA_law 1076 = .ok (.lshl, 1) := by decide +kernel
theorem dLA_law_1077 : decode bLA_law 1077 = .ok (.aload_n 0, 1) := by decide +kernel
theorem dLA_law_1078 : decode bLA_law 1078 = .ok (.iload 4, 2) := by decide +kernel
theorem dLA_law_1080 : decode bLA_law 1080 = .ok (.iconst 3, 1) := by decide +kernel
theorem dLA_law_1081 : decode bLA_law 1081 = .ok (.iadd, 1) := by decide +kernel
theorem dLA_law_1082 : decode bLA_law 1082 = .ok (.iaload, 1) := by decide +kernel
theorem dLA_law_1083 : decode bLA_law 1083 = .ok (.i2l, 1) := by decide +kernel
theorem dLA_law_1084 : decode bLA_law 1084 = .ok (.ldc2_w 23, 3) := by decide +kernel
theorem dLA_law_1087 : decode bLA_law 1087 = .ok (.land, 1) := by decide +kernel
theorem dLA_law_1088 : decode bLA_law 1088 = .ok (.lor, 1) := by decide +kernel
theorem dLA_law_1089 : decode bLA_law 1089 = .ok (.invokevirtual 103, 3) := by decide +kernel
theorem dLA_law_1092 : decode bLA_law 1092 = .ok (.pop, 1) := by decide +kernel
theorem dLA_law_1093 : decode bLA_law 1093 = .ok (.aload_n 2, 1) := by decide +kernel
theorem dLA_law_1094 : decode bLA_law 1094 = .ok (.aload_n 0, 1) := by decide +kernel
theorem dLA_law_1095 : decode bLA_law 1095 = .ok (.iload 4, 2) := by decide +kernel
theorem dLA_law_1097 : decode bLA_law 1097 = .ok (.iconst 1, 1) := by decide +kernel
theorem dLA_law_1098 : decode bLA_law 1098 = .ok (.iadd, 1) := by decide +kernel
theorem dLA_law_1099 : decode bLA_law 1099 = .ok (.iaload, 1) := by decide +kernel
theorem dLA_law_1100 : decode bLA_law 1100 = .ok (.aload_n 0, 1) := by decide +kernel
theorem dLA_law_1101 : decode bLA_law 1101 = .ok (.iload 4, 2) := by decide +kernel
theorem dLA_law_1103 : decode bLA_law 1103 = .ok (.iconst 2, 1) := by decide +kernel
theorem dLA_law_1104 : decode bLA_law 1104 = .ok (.iadd, 1) := by decide +kernel
theorem dLA_law_1105 : decode bLA_law 1105 = .ok (.iaload, 1) := by decide +kernel
theorem dLA_law_1106 : decode bLA_law 1106 = .ok (.i2l, 1) := by decide +kernel
theorem dLA_law_1107 : decode bLA_law 1107 = .ok (.bipush 32, 2) := by decide +kernel
theorem dLA_law_1109 : decode bLA_law 1109 = .ok (.lshl, 1) := by decide +kernel
theorem dLA_law_1110 : decode bLA_law 1110 = .ok (.aload_n 0, 1) := by decide +kernel
theorem dLA_law_1111 : decode bLA_law 1111 = .ok (.iload 4, 2) := by decide +kernel
theorem dLA_law_1113 : decode bLA_law 1113 = .ok (.iconst 3, 1) := by decide +kernel
theorem dLA_law_1114 : decode bLA_law 1114 = .ok (.iadd, 1) := by decide +kernel
theorem dLA_law_1115 : decode bLA_law 1115 = .ok (.iaload, 1) := by decide +kernel
theorem dLA_law_1116 : decode bLA_law 1116 = .ok (.i2l, 1) := by decide +kernel
theorem dLA_law_1117 : decode bLA_law 1117 = .ok (.ldc2_w 23, 3) := by decide +kernel
theorem dLA_law_1120 : decode bLA_law 1120 = .ok (.land, 1) := by decide +kernel
theorem dLA_law_1121 : decode bLA_law 1121 = .ok (.lor, 1) := by decide +kernel
theorem dLA_law_1122 : decode bLA_law 1122 = .ok (.invokevirtual 106, 3) := by decide +kernel
theorem dLA_law_1125 : decode bLA_law 1125 = .ok (.pop, 1) := by decide +kernel
theorem dLA_law_1126 : decode bLA_law 1126 = .ok (.goto 284, 3) := by decide +kernel
theorem dLA_law_1129 : decode bLA_law 1129 = .ok (.aload_n 1, 1) := by decide +kernel
theorem dLA_law_1130 : decode bLA_law 1130 = .ok (.aload_n 0, 1) := by decide +kernel
theorem dLA_law_1131 : decode bLA_law 1131 = .ok (.iload 4, 2) := by decide +kernel
theorem dLA_law_1133 : decode bLA_law 1133 = .ok (.iconst 1, 1) := by decide +kernel
theorem dLA_law_1134 : decode bLA_law 1134 = .ok (.iadd, 1) := by decide +kernel
theorem dLA_law_1135 : decode bLA_law 1135 = .ok (.iaload, 1) := by decide +kernel
theorem dLA_law_1136 : decode bLA_law 1136 = .ok (.aload_n 0, 1) := by decide +kernel
theorem dLA_law_1137 : decode bLA_law 1137 = .ok (.iload 4, 2) := by decide +kernel
theorem dLA_law_1139 : decode bLA_law 1139 = .ok (.iconst 2, 1) := by decide +kernel
theorem dLA_law_1140 : decode bLA_law 1140 = .ok (.iadd, 1) := by decide +kernel
theorem dLA_law_1141 : decode bLA_law 1141 = .ok (.iaload, 1) := by decide +kernel
theorem dLA_law_1142 : decode bLA_law 1142 = .ok (.i2l, 1) := by decide +kernel
theorem dLA_law_1143 : decode bLA_law 1143 = .ok (.bipush 32, 2) := by decide +kernel
theorem dLA_law_1145 : decode bLA_law 1145 = .ok (.lshl, 1) := by decide +kernel
theorem dLA_law_1146 : decode bLA_law 1146 = .ok (.aload_n 0, 1) := by decide +kernel
theorem dLA_law_1147 : decode bLA_law 1147 = .ok (.iload 4, 2) := by decide +kernel
theorem dLA_law_1149 : decode bLA_law 1149 = .ok (.iconst 3, 1) := by decide +kernel
theorem dLA_law_1150 : decode bLA_law 1150 = .ok (.iadd, 1) := by decide +kernel
theorem dLA_law_1151 : decode bLA_law 1151 = .ok (.iaload, 1) := by decide +kernel
theorem dLA_law_1152 : decode bLA_law 1152 = .ok (.i2l, 1) := by decide +kernel
theorem dLA_law_1153 : decode bLA_law 1153 = .ok (.ldc2_w 23, 3) := by decide +kernel
theorem dLA_law_1156 : decode bLA_law 1156 = .ok (.land, 1) := by decide +kernel
theorem dLA_law_1157 : decode bLA_law 1157 = .ok (.lor, 1) := by decide +kernel
theorem dLA_law_1158 : decode bLA_law 1158 = .ok (.aload_n 0, 1) := by decide +kernel
theorem dLA_law_1159 : decode bLA_law 1159 = .ok (.iload 4, 2) := by decide +kernel
theorem dLA_law_1161 : decode bLA_law 1161 = .ok (.iconst 4, 1) := by decide +kernel
theorem dLA_law_1162 : decode bLA_law 1162 = .ok (.iadd, 1) := by decide +kernel
theorem dLA_law_1163 : decode bLA_law 1163 = .ok (.iaload, 1) := by decide +kernel
theorem dLA_law_1164 : decode bLA_law 1164 = .ok (.invokevirtual 107, 3) := by decide +kernel
theorem dLA_law_1167 : decode bLA_law 1167 = .ok (.pop2, 1) := by decide +kernel
theorem dLA_law_1168 : decode bLA_law 1168 = .ok (.aload_n 2, 1) := by decide +kernel
theorem dLA_law_1169 : decode bLA_law 1169 = .ok (.aload_n 0, 1) := by decide +kernel
theorem dLA_law_1170 : decode bLA_law 1170 = .ok (.iload 4, 2) := by decide +kernel
theorem dLA_law_1172 : decode bLA_law 1172 = .ok (.iconst 1, 1) := by decide +kernel
theorem dLA_law_1173 : decode bLA_law 1173 = .ok (.iadd, 1) := by decide +kernel
theorem dLA_law_1174 : decode bLA_law 1174 = .ok (.iaload, 1) := by decide +kernel
theorem dLA_law_1175 : decode bLA_law 1175 = .ok (.aload_n 0, 1) := by decide +kernel
theorem dLA_law_1176 : decode bLA_law 1176 = .ok (.iload 4, 2) := by decide +kernel
theorem dLA_law_1178 : decode bLA_law 1178 = .ok (.iconst 2, 1) := by decide +kernel
theorem dLA_law_1179 : decode bLA_law 1179 = .ok (.iadd, 1) := by decide +kernel
theorem dLA_law_1180 : decode bLA_law 1180 = .ok (.iaload, 1) := by decide +kernel
theorem dLA_law_1181 : decode bLA_law 1181 = .ok (.i2l, 1) := by decide +kernel
theorem dLA_law_1182 : decode bLA_law 1182 = .ok (.bipush 32, 2) := by decide +kernel
theorem dLA_law_1184 : decode bLA_law 1184 = .ok (.lshl, 1) := by decide +kernel
theorem dLA_law_1185 : decode bLA_law 1185 = .ok (.aload_n 0, 1) := by decide +kernel
theorem dLA_law_1186 : decode bLA_law 1186 = .ok (.iload 4, 2) := by decide +kernel
theorem dLA_law_1188 : decode bLA_law 1188 = .ok (.iconst 3, 1) := by decide +kernel
theorem dLA_law_1189 : decode bLA_law 1189 = .ok (.iadd, 1) := by decide +kernel
theorem dLA_law_1190 : decode bLA_law 1190 = .ok (.iaload, 1) := by decide +kernel
theorem dLA_law_1191 : decode bLA_law 1191 = .ok (.i2l, 1) := by decide +kernel
theorem dLA_law_1192 : decode bLA_law 1192 = .ok (.ldc2_w 23, 3) := by decide +kernel
theorem dLA_law_1195 : decode bLA_law 1195 = .ok (.land, 1) := by decide +kernel
theorem dLA_law_1196 : decode bLA_law 1196 = .ok (.lor, 1) := by decide +kernel
theorem dLA_law_1197 : decode bLA_law 1197 = .ok (.aload_n 0, 1) := by decide +kernel
theorem dLA_law_1198 : decode bLA_law 1198 = .ok (.iload 4, 2) := by decide +kernel
theorem dLA_law_1200 : decode bLA_law 1200 = .ok (.iconst 4, 1) := by decide +kernel
theorem dLA_law_1201 : decode bLA_law 1201 = .ok (.iadd, 1) := by decide +kernel
theorem dLA_law_1202 : decode bLA_law 1202 = .ok (.iaload, 1) := by decide +kernel
theorem dLA_law_1203 : decode bLA_law 1203 = .ok (.invokevirtual 111, 3) := by decide +kernel
theorem dLA_law_1206 : decode bLA_law 1206 = .ok (.pop2, 1) := by decide +kernel
theorem dLA_law_1207 : decode bLA_law 1207 = .ok (.goto 203, 3) := by decide +kernel
theorem dLA_law_1210 : decode bLA_law 1210 = .ok (.aload_n 1, 1) := by decide +kernel
theorem dLA_law_1211 : decode bLA_law 1211 = .ok (.aload_n 0, 1) := by decide +kernel
theorem dLA_law_1212 : decode bLA_law 1212 = .ok (.iload 4, 2) := by decide +kernel
theorem dLA_law_1214 : decode bLA_law 1214 = .ok (.iconst 1, 1) := by decide +kernel
theorem dLA_law_1215 : decode bLA_law 1215 = .ok (.iadd, 1) := by decide +kernel
theorem dLA_law_1216 : decode bLA_law 1216 = .ok (.iaload, 1) := by decide +kernel
theorem dLA_law_1217 : decode bLA_law 1217 = .ok (.i2l, 1) := by decide +kernel
theorem dLA_law_1218 : decode bLA_law 1218 = .ok (.bipush 32, 2) := by decide +kernel
theorem dLA_law_1220 : decode bLA_law 1220 = .ok (.lshl, 1) := by decide +kernel
theorem dLA_law_1221 : decode bLA_law 1221 = .ok (.aload_n 0, 1) := by decide +kernel
theorem dLA_law_1222 : decode bLA_law 1222 = .ok (.iload 4, 2) := by decide +kernel
theorem dLA_law_1224 : decode bLA_law 1224 = .ok (.iconst 2, 1) := by decide +kernel
theorem dLA_law_1225 : decode bLA_law 1225 = .ok (.iadd, 1) := by decide +kernel
theorem dLA_law_1226 : decode bLA_law 1226 = .ok (.iaload, 1) := by decide +kernel
theorem dLA_law_1227 : decode bLA_law 1227 = .ok (.i2l, 1) := by decide +kernel
theorem dLA_law_1228 : decode bLA_law 1228 = .ok (.ldc2_w 23, 3) := by decide +kernel
theorem dLA_law_1231 : decode bLA_law 1231 = .ok (.land, 1) := by decide +kernel
theorem dLA_law_1232 : decode bLA_law 1232 = .ok (.lor, 1) := by decide +kernel
theorem dLA_law_1233 : decode bLA_law 1233 = .ok (.aload_n 0, 1) := by decide +kernel
theorem dLA_law_1234 : decode bLA_law 1234 = .ok (.iload 4, 2) := by decide +kernel
theorem dLA_law_1236 : decode bLA_law 1236 = .ok (.iconst 3, 1) := by decide +kernel
theorem dLA_law_1237 : decode bLA_law 1237 = .ok (.iadd, 1) := by decide +kernel
theorem dLA_law_1238 : decode bLA_law 1238 = .ok (.iaload, 1) := by decide +kernel
theorem dLA_law_1239 : decode bLA_law 1239 = .ok (.i2l, 1) := by decide +kernel
theorem dLA_law_1240 : decode bLA_law 1240 = .ok (.bipush 32, 2) := by decide +kernel
theorem dLA_law_1242 : decode bLA_law 1242 = .ok (.lshl, 1) := by decide +kernel
theorem dLA_law_1243 : decode bLA_law 1243 = .ok (.aload_n 0, 1) := by decide +kernel
theorem dLA_law_1244 : decode bLA_law 1244 = .ok (.iload 4, 2) := by decide +kernel
theorem dLA_law_1246 : decode bLA_law 1246 = .ok (.iconst 4, 1) := by decide +kernel
theorem dLA_law_1247 : decode bLA_law 1247 = .ok (.iadd, 1) := by decide +kernel
theorem dLA_law_1248 : decode bLA_law 1248 = .ok (.iaload, 1) := by decide +kernel
theorem dLA_law_1249 : decode bLA_law 1249 = .ok (.i2l, 1) := by decide +kernel
theorem dLA_law_1250 : decode bLA_law 1250 = .ok (.ldc2_w 23, 3) := by decide +kernel
theorem dLA_law_1253 : decode bLA_law 1253 = .ok (.land, 1) := by decide +kernel
theorem dLA_law_1254 : decode bLA_law 1254 = .ok (.lor, 1) := by decide +kernel
theorem dLA_law_1255 : decode bLA_law 1255 = .ok (.invokevirtual 112, 3) := by decide +kernel
theorem dLA_law_1258 : decode bLA_law 1258 = .ok (.pop, 1) := by decide +kernel
theorem dLA_law_1259 : decode bLA_law 1259 = .ok (.aload_n 2, 1) := by decide +kernel
theorem dLA_law_1260 : decode bLA_law 1260 = .ok (.aload_n 0, 1) := by decide +kernel
theorem dLA_law_1261 : decode bLA_law 1261 = .ok (.iload 4, 2) := by decide +kernel
theorem dLA_law_1263 : decode bLA_law 1263 = .ok (.iconst 1, 1) := by decide +kernel
theorem dLA_law_1264 : decode bLA_law 1264 = .ok (.iadd, 1) := by decide +kernel
theorem dLA_law_1265 : decode bLA_law 1265 = .ok (.iaload, 1) := by decide +kernel
theorem dLA_law_1266 : decode bLA_law 1266 = .ok (.i2l, 1) := by decide +kernel
theorem dLA_law_1267 : decode bLA_law 1267 = .ok (.bipush 32, 2) := by decide +kernel
theorem dLA_law_1269 : decode bLA_law 1269 = .ok (.lshl, 1) := by decide +kernel
theorem dLA_law_1270 : decode bLA_law 1270 = .ok (.aload_n 0, 1) := by decide +kernel
theorem dLA_law_1271 : decode bLA_law 1271 = .ok (.iload 4, 2) := by decide +kernel
theorem dLA_law_1273 : decode bLA_law 1273 = .ok (.iconst 2, 1) := by decide +kernel
theorem dLA_law_1274 : decode bLA_law 1274 = .ok (.iadd, 1) := by decide +kernel
theorem dLA_law_1275 : decode bLA_law 1275 = .ok (.iaload, 1) := by decide +kernel
theorem dLA_law_1276 : decode bLA_law 1276 = .ok (.i2l, 1) := by decide +kernel
theorem dLA_law_1277 : decode bLA_law 1277 = .ok (.ldc2_w 23, 3) := by decide +kernel
theorem dLA_law_1280 : decode bLA_law 1280 = .ok (.land, 1) := by decide +kernel
theorem dLA_law_1281 : decode bLA_law 1281 = .ok (.lor, 1) := by decide +kernel
theorem dLA_law_1282 : decode bLA_law 1282 = .ok (.aload_n 0, 1) := by decide +kernel
theorem dLA_law_1283 : decode bLA_law 1283 = .ok (.iload 4, 2) := by decide +kernel
theorem dLA_law_1285 : decode bLA_law 1285 = .ok (.iconst 3, 1) := by decide +kernel
theorem dLA_law_1286 : decode bLA_law 1286 = .ok (.iadd, 1) := by decide +kernel
theorem dLA_law_1287 : decode bLA_law 1287 = .ok (.iaload, 1) := by decide +kernel
theorem dLA_law_1288 : decode bLA_law 1288 = .ok (.i2l, 1) := by decide +kernel
theorem dLA_law_1289 : decode bLA_law 1289 = .ok (.bipush 32, 2) := by decide +kernel
theorem dLA_law_1291 : decode bLA_law 1291 = .ok (.lshl, 1) := by decide +kernel
theorem dLA_law_1292 : decode bLA_law 1292 = .ok (.aload_n 0, 1) := by decide +kernel
theorem dLA_law_1293 : decode bLA_law 1293 = .ok (.iload 4, 2) := by decide +kernel
theorem dLA_law_1295 : decode bLA_law 1295 = .ok (.iconst 4, 1) := by decide +kernel
theorem dLA_law_1296 : decode bLA_law 1296 = .ok (.iadd, 1) := by decide +kernel
theorem dLA_law_1297 : decode bLA_law 1297 = .ok (.iaload, 1) := by decide +kernel
theorem dLA_law_1298 : decode bLA_law 1298 = .ok (.i2l, 1) := by decide +kernel
theorem dLA_law_1299 : decode bLA_law 1299 = .ok (.ldc2_w 23, 3) := by decide +kernel
theorem dLA_law_1302 : decode bLA_law 1302 = .ok (.land, 1) := by decide +kernel
theorem dLA_law_1303 : decode bLA_law 1303 = .ok (.lor, 1) := by decide +kernel
theorem dLA_law_1304 : decode bLA_law 1304 = .ok (.invokevirtual 116, 3) := by decide +kernel
theorem dLA_law_1307 : decode bLA_law 1307 = .ok (.pop, 1) := by decide +kernel
theorem dLA_law_1308 : decode bLA_law 1308 = .ok (.goto 102, 3) := by decide +kernel
theorem dLA_law_1311 : decode bLA_law 1311 = .ok (.aload_n 1, 1) := by decide +kernel
theorem dLA_law_1312 : decode bLA_law 1312 = .ok (.aload_n 0, 1) := by decide +kernel
theorem dLA_law_1313 : decode bLA_law 1313 = .ok (.iload 4, 2) := by decide +kernel
theorem dLA_law_1315 : decode bLA_law 1315 = .ok (.iconst 1, 1) := by decide +kernel
theorem dLA_law_1316 : decode bLA_law 1316 = .ok (.iadd, 1) := by decide +kernel
theorem dLA_law_1317 : decode bLA_law 1317 = .ok (.iaload, 1) := by decide +kernel
theorem dLA_law_1318 : decode bLA_law 1318 = .ok (.aload_n 0, 1) := by decide +kernel
theorem dLA_law_1319 : decode bLA_law 1319 = .ok (.iload 4, 2) := by decide +kernel
theorem dLA_law_1321 : decode bLA_law 1321 = .ok (.iconst 2, 1) := by decide +kernel
theorem dLA_law_1322 : decode bLA_law 1322 = .ok (.iadd, 1) := by decide +kernel
theorem dLA_law_1323 : decode bLA_law 1323 = .ok (.iaload, 1) := by decide +kernel
theorem dLA_law_1324 : decode bLA_law 1324 = .ok (.aload_n 0, 1) := by decide +kernel
theorem dLA_law_1325 : decode bLA_law 1325 = .ok (.iload 4, 2) := by decide +kernel
theorem dLA_law_1327 : decode bLA_law 1327 = .ok (.iconst 3, 1) := by decide +kernel
theorem dLA_law_1328 : decode bLA_law 1328 = .ok (.iadd, 1) := by decide +kernel
theorem dLA_law_1329 : decode bLA_law 1329 = .ok (.iaload, 1) := by decide +kernel
theorem dLA_law_1330 : decode bLA_law 1330 = .ok (.invokevirtual 117, 3) := by decide +kernel
theorem dLA_law_1333 : decode bLA_law 1333 = .ok (.pop, 1) := by decide +kernel
theorem dLA_law_1334 : decode bLA_law 1334 = .ok (.aload_n 2, 1) := by decide +kernel
theorem dLA_law_1335 : decode bLA_law 1335 = .ok (.aload_n 0, 1) := by decide +kernel
theorem dLA_law_1336 : decode bLA_law 1336 = .ok (.iload 4, 2) := by decide +kernel
theorem dLA_law_1338 : decode bLA_law 1338 = .ok (.iconst 1, 1) := by decide +kernel
theorem dLA_law_1339 : decode bLA_law 1339 = .ok (.iadd, 1) := by decide +kernel
theorem dLA_law_1340 : decode bLA_law 1340 = .ok (.iaload, 1) := by decide +kernel
theorem dLA_law_1341 : decode bLA_law 1341 = .ok (.aload_n 0, 1) := by decide +kernel
theorem dLA_law_1342 : decode bLA_law 1342 = .ok (.iload 4, 2) := by decide +kernel
theorem dLA_law_1344 : decode bLA_law 1344 = .ok (.iconst 2, 1) := by decide +kernel
theorem dLA_law_1345 : decode bLA_law 1345 = .ok (.iadd, 1) := by decide +kernel
theorem dLA_law_1346 : decode bLA_law 1346 = .ok (.iaload, 1) := by decide +kernel
theorem dLA_law_1347 : decode bLA_law 1347 = .ok (.aload_n 0, 1) := by decide +kernel
theorem dLA_law_1348 : decode bLA_law 1348 = .ok (.iload 4, 2) := by decide +kernel
theorem dLA_law_1350 : decode bLA_law 1350 = .ok (.iconst 3, 1) := by decide +kernel
theorem dLA_law_1351 : decode bLA_law 1351 = .ok (.iadd, 1) := by decide +kernel
theorem dLA_law_1352 : decode bLA_law 1352 = .ok (.iaload, 1) := by decide +kernel
theorem dLA_law_1353 : decode bLA_law 1353 = .ok (.invokevirtual 121, 3) := by decide +kernel
theorem dLA_law_1356 : decode bLA_law 1356 = .ok (.pop, 1) := by decide +kernel
theorem dLA_law_1357 : decode bLA_law 1357 = .ok (.goto 53, 3) := by decide +kernel
theorem dLA_law_1360 : decode bLA_law 1360 = .ok (.aload_n 1, 1) := by decide +kernel
theorem dLA_law_1361 : decode bLA_law 1361 = .ok (.aload_n 0, 1) := by decide +kernel
theorem dLA_law_1362 : decode bLA_law 1362 = .ok (.iload 4, 2) := by decide +kernel
theorem dLA_law_1364 : decode bLA_law 1364 = .ok (.iconst 1, 1) := by decide +kernel
theorem dLA_law_1365 : decode bLA_law 1365 = .ok (.iadd, 1) := by decide +kernel
theorem dLA_law_1366 : decode bLA_law 1366 = .ok (.iaload, 1) := by decide +kernel
theorem dLA_law_1367 : decode bLA_law 1367 = .ok (.invokevirtual 122, 3) := by decide +kernel
theorem dLA_law_1370 : decode bLA_law 1370 = .ok (.pop2, 1) := by decide +kernel
theorem dLA_law_1371 : decode bLA_law 1371 = .ok (.aload_n 2, 1) := by decide +kernel
theorem dLA_law_1372 : decode bLA_law 1372 = .ok (.aload_n 0, 1) := by decide +kernel
theorem dLA_law_1373 : decode bLA_law 1373 = .ok (.iload 4, 2) := by decide +kernel
theorem dLA_law_1375 : decode bLA_law 1375 = .ok (.iconst 1, 1) := by decide +kernel
theorem dLA_law_1376 : decode bLA_law 1376 = .ok (.iadd, 1) := by decide +kernel
theorem dLA_law_1377 : decode bLA_law 1377 = .ok (.iaload, 1) := by decide +kernel
theorem dLA_law_1378 : decode bLA_law 1378 = .ok (.invokevirtual 126, 3) := by decide +kernel
theorem dLA_law_1381 : decode bLA_law 1381 = .ok (.pop2, 1) := by decide +kernel
theorem dLA_law_1382 : decode bLA_law 1382 = .ok (.goto 28, 3) := by decide +kernel
theorem dLA_law_1385 : decode bLA_law 1385 = .ok (.aload_n 1, 1) := by decide +kernel
theorem dLA_law_1386 : decode bLA_law 1386 = .ok (.aload_n 0, 1) := by decide +kernel
theorem dLA_law_1387 : decode bLA_law 1387 = .ok (.iload 4, 2) := by decide +kernel
theorem dLA_law_1389 : decode bLA_law 1389 = .ok (.iconst 1, 1) := by decide +kernel
theorem dLA_law_1390 : decode bLA_law 1390 = .ok (.iadd, 1) := by decide +kernel
theorem dLA_law_1391 : decode bLA_law 1391 = .ok (.iaload, 1) := by decide +kernel
theorem dLA_law_1392 : decode bLA_law 1392 = .ok (.invokevirtual 127, 3) := by decide +kernel
theorem dLA_law_1395 : decode bLA_law 1395 = .ok (.pop2, 1) := by decide +kernel
theorem dLA_law_1396 : decode bLA_law 1396 = .ok (.aload_n 2, 1) := by decide +kernel
theorem dLA_law_1397 : decode bLA_law 1397 = .ok (.aload_n 0, 1) := by decide +kernel
theorem dLA_law_1398 : decode bLA_law 1398 = .ok (.iload 4, 2) := by decide +kernel
theorem dLA_law_1400 : decode bLA_law 1400 = .ok (.iconst 1, 1) := by decide +kernel
theorem dLA_law_1401 : decode bLA_law 1401 = .ok (.iadd, 1) := by decide +kernel
theorem dLA_law_1402 : decode bLA_law 1402 = .ok (.iaload, 1) := by decide +kernel
theorem dLA_law_1403 : decode bLA_law 1403 = .ok (.invokevirtual 130, 3) := by decide +kernel
theorem dLA_law_1406 : decode bLA_law 1406 = .ok (.pop2, 1) := by decide +kernel
theorem dLA_law_1407 : decode bLA_law 1407 = .ok (.goto 3, 3) := by decide +kernel
theorem dLA_law_1410 : decode bLA_law 1410 = .ok (.iinc 4 6, 3) := by decide +kernel
theorem dLA_law_1413 : decode bLA_law 1413 = .ok (.goto (-1390), 3) := by decide +kernel
theorem dLA_law_1416 : decode bLA_law 1416 = .ok (.iconst 1, 1) := by decide +kernel
theorem dLA_law_1417 : decode bLA_law 1417 = .ok (.ireturn, 1) := by decide +kernel
