theorem dL_law_833 : decode cL_law 833 = .ok (.aload_n 1, 1) := by decide +kernel
theorem dL_law_834 : decode cL_law 834 = .ok (.aload_n 0, 1) := by decide +kernel
theorem dL_law_835 : decode cL_law 835 = .ok (.iload_n 3, 1) := by decide +kernel
theorem dL_law_836 : decode cL_law 836 = .ok (.iconst 1, 1) := by decide +kernel
theorem dL_law_837 : decode cL_law 837 = .ok (.iadd, 1) := by decide +kernel
theorem dL_law_838 : decode cL_law 838 = .ok (.iaload, 1) := by decide +kernel
theorem dL_law_839 : decode cL_law 839 = .ok (.aload_n 0, 1) := by decide +kernel
theorem dL_law_840 : decode cL_law 840 = .ok (.iload_n 3, 1) := by decide +kernel
theorem dL_law_841 : decode cL_law 841 = .ok (.iconst 2, 1) := by decide +kernel
theorem dL_law_842 : decode cL_law 842 = .ok (.iadd, 1) := by decide +kernel
theorem dL_law_843 : decode cL_law 843 = .ok (.iaload, 1) := by decide +kernel
theorem dL_law_844 : decode cL_law 844 = .ok (.aload_n 0, 1) := by decide +kernel
theorem dL_law_845 : decode cL_law 845 = .ok (.iload_n 3, 1) := by decide +kernel
theorem dL_law_846 : decode cL_law 846 = .ok (.iconst 3, 1) := by decide +kernel
theorem dL_law_847 : decode cL_law 847 = .ok (.iadd, 1) := by decide +kernel
theorem dL_law_848 : decode cL_law 848 = .ok (.iaload, 1) := by decide +kernel
theorem dL_law_849 : decode cL_law 849 = .ok (.invokevirtual 108, 3) := by decide +kernel
theorem dL_law_852 : decode cL_law 852 = .ok (.pop, 1) := by decide +kernel
theorem dL_law_853 : decode cL_law 853 = .ok (.aload_n 2, 1) := by decide +kernel
theorem dL_law_854 : decode cL_law 854 = .ok (.aload_n 0, 1) := by decide +kernel
theorem dL_law_855 : decode cL_law 855 = .ok (.iload_n 3, 1) := by decide +kernel
theorem dL_law_856 : decode cL_law 856 = .ok (.iconst 1, 1) := by decide +kernel
theorem dL_law_857 : decode cL_law 857 = .ok (.iadd, 1) := by decide +kernel
theorem dL_law_858 : decode cL_law 858 = .ok (.iaload, 1) := by decide +kernel
theorem dL_law_859 : decode cL_law 859 = .ok (.aload_n 0, 1) := by decide +kernel
theorem dL_law_860 : decode cL_law 860 = .ok (.iload_n 3, 1) := by decide +kernel
theorem dL_law_861 : decode cL_law 861 = .ok (.iconst 2, 1) := by decide +kernel
theorem dL_law_862 : decode cL_law 862 = .ok (.iadd, 1) := by decide +kernel
theorem dL_law_863 : decode cL_law 863 = .ok (.iaload, 1) := by decide +kernel
theorem dL_law_864 : decode cL_law 864 = .ok (.aload_n 0, 1) := by decide +kernel
theorem dL_law_865 : decode cL_law 865 = .ok (.iload_n 3, 1) := by decide +kernel
theorem dL_law_866 : decode cL_law 866 = .ok (.iconst 3, 1) := by decide +kernel
theorem dL_law_867 : decode cL_law 867 = .ok (.iadd, 1) := by decide +kernel
theorem dL_law_868 : decode cL_law 868 = .ok (.iaload, 1) := by decide +kernel
theorem dL_law_869 : decode cL_law 869 = .ok (.invokevirtual 111, 3) := by decide +kernel
theorem dL_law_872 : decode cL_law 872 = .ok (.pop, 1) := by decide +kernel
theorem dL_law_873 : decode cL_law 873 = .ok (.goto 536, 3) := by decide +kernel
theorem dL_law_876 : decode cL_law 876 = .ok (.aload_n 1, 1) := by decide +kernel
theorem dL_law_877 : decode cL_law 877 = .ok (.aload_n 0, 1) := by decide +kernel
theorem dL_law_878 : decode cL_law 878 = .ok (.iload_n 3, 1) := by decide +kernel
theorem dL_law_879 : decode cL_law 879 = .ok (.iconst 1, 1) := by decide +kernel
theorem dL_law_880 : decode cL_law 880 = .ok (.iadd, 1) := by decide +kernel
theorem dL_law_881 : decode cL_law 881 = .ok (.iaload, 1) := by decide +kernel
theorem dL_law_882 : decode cL_law 882 = .ok (.aload_n 0, 1) := by decide +kernel
theorem dL_law_883 : decode cL_law 883 = .ok (.iload_n 3, 1) := by decide +kernel
theorem dL_law_884 : decode cL_law 884 = .ok (.iconst 2, 1) := by decide +kernel
theorem dL_law_885 : decode cL_law 885 = .ok (.iadd, 1) := by decide +kernel
theorem dL_law_886 : decode cL_law 886 = .ok (.iaload, 1) := by decide +kernel
theorem dL_law_887 : decode cL_law 887 = .ok (.aload_n 0, 1) := by decide +kernel
theorem dL_law_888 : decode cL_law 888 = .ok (.iload_n 3, 1) := by decide +kernel
theorem dL_law_889 : decode cL_law 889 = .ok (.iconst 3, 1) := by decide +kernel
theorem dL_law_890 : decode cL_law 890 = .ok (.iadd, 1) := by decide +kernel
theorem dL_law_891 : decode cL_law 891 = .ok (.iaload, 1) := by decide +kernel
theorem dL_law_892 : decode cL_law 892 = .ok (.i2l, 1) := by decide +kernel
theorem dL_law_893 : decode cL_law 893 = .ok (.bipush 32, 2) := by decide +kernel
theorem dL_law_895 : decode cL_law 895 = .ok (.lshl, 1) := by decide +kernel
theorem dL_law_896 : decode cL_law 896 = .ok (.aload_n 0, 1) := by decide +kernel
theorem dL_law_897 : decode cL_law 897 = .ok (.iload_n 3, 1) := by decide +kernel
theorem dL_law_898 : decode cL_law 898 = .ok (.iconst 4, 1) := by decide +kernel
theorem dL_law_899 : decode cL_law 899 = .ok (.iadd, 1) := by decide +kernel
theorem dL_law_900 : decode cL_law 900 = .ok (.iaload, 1) := by decide +kernel
theorem dL_law_901 : decode cL_law 901 = .ok (.i2l, 1) := by decide +kernel
theorem dL_law_902 : decode cL_law 902 = .ok (.ldc2_w 13, 3) := by decide +kernel
theorem dL_law_905 : decode cL_law 905 = .ok (.land, 1) := by decide +kernel
theorem dL_law_906 : decode cL_law 906 = .ok (.lor, 1) := by decide +kernel
theorem dL_law_907 : decode cL_law 907 = .ok (.invokevirtual 112, 3) := by decide +kernel
theorem dL_law_910 : decode cL_law 910 = .ok (.pop, 1) := by decide +kernel
theorem dL_law_911 : decode cL_law 911 = .ok (.aload_n 2, 1) := by decide +kernel
theorem dL_law_912 : decode cL_law 912 = .ok (.aload_n 0, 1) := by decide +kernel
theorem dL_law_913 : decode cL_law 913 = .ok (.iload_n 3, 1) := by decide +kernel
theorem dL_law_914 : decode cL_law 914 = .ok (.iconst 1, 1) := by decide +kernel
theorem dL_law_915 : decode cL_law 915 = .ok (.iadd, 1) := by decide +kernel
theorem dL_law_916 : decode cL_law 916 = .ok (.iaload, 1) := by decide +kernel
theorem dL_law_917 : decode cL_law 917 = .ok (.aload_n 0, 1) := by decide +kernel
theorem dL_law_918 : decode cL_law 918 = .ok (.iload_n 3, 1) := by decide +kernel
theorem dL_law_919 : decode cL_law 919 = .ok (.iconst 2, 1) := by decide +kernel
theorem dL_law_920 : decode cL_law 920 = .ok (.iadd, 1) := by decide +kernel
theorem dL_law_921 : decode cL_law 921 = .ok (.iaload, 1) := by decide +kernel
theorem dL_law_922 : decode cL_law 922 = .ok (.aload_n 0, 1) := by decide +kernel
theorem dL_law_923 : decode cL_law 923 = .ok (.iload_n 3, 1) := by decide +kernel
theorem dL_law_924 : decode cL_law 924 = .ok (.iconst 3, 1) := by decide +kernel
theorem dL_law_925 : decode cL_law 925 = .ok (.iadd, 1) := by decide +kernel
theorem dL_law_926 : decode cL_law 926 = .ok (.iaload, 1) := by decide +kernel
theorem dL_law_927 : decode cL_law 927 = .ok (.i2l, 1) := by decide +kernel
theorem dL_law_928 : decode cL_law 928 = .ok (.bipush 32, 2) := by decide +kernel
theorem dL_law_930 : decode cL_law 930 = .ok (.lshl, 1) := by decide +kernel
theorem dL_law_931 : decode cL_law 931 = .ok (.aload_n 0, 1) := by decide +kernel
theorem dL_law_932 : decode cL_law 932 = .ok (.iload_n 3, 1) := by decide +kernel
theorem dL_law_933 : decode cL_law 933 = .ok (.iconst 4, 1) := by decide +kernel
theorem dL_law_934 : decode cL_law 934 = .ok (.iadd, 1) := by decide +kernel
theorem dL_law_935 : decode cL_law 935 = .ok (.iaload, 1) := by decide +kernel
theorem dL_law_936 : decode cL_law 936 = .ok (.i2l, 1) := by decide +kernel
theorem dL_law_937 : decode cL_law 937 = .ok (.ldc2_w 13, 3) := by decide +kernel
theorem dL_law_940 : decode cL_law 940 = .ok (.land, 1) := by decide +kernel
theorem dL_law_941 : decode cL_law 941 = .ok (.lor, 1) := by decide +kernel
theorem dL_law_942 : decode cL_law 942 = .ok (.invokevirtual 116, 3) := by decide +kernel
theorem dL_law_945 : decode cL_law 945 = .ok (.pop, 1) := by decide +kernel
theorem dL_law_946 : decode cL_law 946 = .ok (.goto 463, 3) := by decide +kernel
theorem dL_law_949 : decode cL_law 949 = .ok (.aload_n 1, 1) := by decide +kernel
theorem dL_law_950 : decode cL_law 950 = .ok (.aload_n 0, 1) := by decide +kernel
theorem dL_law_951 : decode cL_law 951 = .ok (.iload_n 3, 1) := by decide +kernel
theorem dL_law_952 : decode cL_law 952 = .ok (.iconst 1, 1) := by decide +kernel
theorem dL_law_953 : decode cL_law 953 = .ok (.iadd, 1) := by decide +kernel
theorem dL_law_954 : decode cL_law 954 = .ok (.iaload, 1) := by decide +kernel
theorem dL_law_955 : decode cL_law 955 = .ok (.aload_n 0, 1) := by decide +kernel
theorem dL_law_956 : decode cL_law 956 = .ok (.iload_n 3, 1) := by decide +kernel
theorem dL_law_957 : decode cL_law 957 = .ok (.iconst 2, 1) := by decide +kernel
theorem dL_law_958 : decode cL_law 958 = .ok (.iadd, 1) := by decide +kernel
theorem dL_law_959 : decode cL_law 959 = .ok (.iaload, 1) := by decide +kernel
theorem dL_law_960 : decode cL_law 960 = .ok (.aload_n 0, 1) := by decide +kernel
theorem dL_law_961 : decode cL_law 961 = .ok (.iload_n 3, 1) := by decide +kernel
theorem dL_law_962 : decode cL_law 962 = .ok (.iconst 3, 1) := by decide +kernel
theorem dL_law_963 : decode cL_law 963 = .ok (.iadd, 1) := by decide +kernel
theorem dL_law_964 : decode cL_law 964 = .ok (.iaload, 1) := by decide +kernel
theorem dL_law_965 : decode cL_law 965 = .ok (.i2l, 1) := by decide +kernel
theorem dL_law_966 : decode cL_law 966 = .ok (.bipush 32, 2) := by decide +kernel
theorem dL_law_968 : decode cL_law 968 = .ok (.lshl, 1) := by decide +kernel
theorem dL_law_969 : decode cL_law 969 = .ok (.aload_n 0, 1) := by decide +kernel
theorem dL_law_970 : decode cL_law 970 = .ok (.iload_n 3, 1) := by decide +kernel
theorem dL_law_971 : decode cL_law 971 = .ok (.iconst 4, 1) := by decide +kernel
theorem dL_law_972 : decode cL_law 972 = .ok (.iadd, 1) := by decide +kernel
theorem dL_law_973 : decode cL_law 973 = .ok (.iaload, 1) := by decide +kernel
theorem dL_law_974 : decode cL_law 974 = .ok (.i2l, 1) := by decide +kernel
theorem dL_law_975 : decode cL_law 975 = .ok (.ldc2_w 13, 3) := by decide +kernel
theorem dL_law_978 : decode cL_law 978 = .ok (.land, 1) := by decide +kernel
theorem dL_law_979 : decode cL_law 979 = .ok (.lor, 1) := by decide +kernel
theorem dL_law_980 : decode cL_law 980 = .ok (.aload_n 0, 1) := by decide +kernel
theorem dL_law_981 : decode cL_law 981 = .ok (.iload_n 3, 1) := by decide +kernel
theorem dL_law_982 : decode cL_law 982 = .ok (.iconst 5, 1) := by decide +kernel
theorem dL_law_983 : decode cL_law 983 = .ok (.iadd, 1) := by decide +kernel
theorem dL_law_984 : decode cL_law 984 = .ok (.iaload, 1) := by decide +kernel
theorem dL_law_985 : decode cL_law 985 = .ok (.invokevirtual 117, 3) := by decide +kernel
theorem dL_law_988 : decode cL_law 988 = .ok (.pop, 1) := by decide +kernel
theorem dL_law_989 : decode cL_law 989 = .ok (.aload_n 2, 1) := by decide +kernel
theorem dL_law_990 : decode cL_law 990 = .ok (.aload_n 0, 1) := by decide +kernel
theorem dL_law_991 : decode cL_law 991 = .ok (.iload_n 3, 1) := by decide +kernel
theorem dL_law_992 : decode cL_law 992 = .ok (.iconst 1, 1) := by decide +kernel
theorem dL_law_993 : decode cL_law 993 = .ok (.iadd, 1) := by decide +kernel
theorem dL_law_994 : decode cL_law 994 = .ok (.iaload, 1) := by decide +kernel
theorem dL_law_995 : decode cL_law 995 = .ok (.aload_n 0, 1) := by decide +kernel
theorem dL_law_996 : decode cL_law 996 = .ok (.iload_n 3, 1) := by decide +kernel
theorem dL_law_997 : decode cL_law 997 = .ok (.iconst 2, 1) := by decide +kernel
theorem dL_law_998 : decode cL_law 998 = .ok (.iadd, 1) := by decide +kernel
theorem dL_law_999 : decode cL_law 999 = .ok (.iaload, 1) := by decide +kernel
theorem dL_law_1000 : decode cL_law 1000 = .ok (.aload_n 0, 1) := by decide +kernel
theorem dL_law_1001 : decode cL_law 1001 = .ok (.iload_n 3, 1) := by decide +kernel
theorem dL_law_1002 : decode cL_law 1002 = .ok (.iconst 3, 1) := by decide +kernel
theorem dL_law_1003 : decode cL_law 1003 = .ok (.iadd, 1) := by decide +kernel
theorem dL_law_1004 : decode cL_law 1004 = .ok (.iaload, 1) := by decide +kernel
theorem dL_law_1005 : decode cL_law 1005 = .ok (.i2l, 1) := by decide +kernel
theorem dL_law_1006 : decode cL_law 1006 = .ok (.bipush 32, 2) := by decide +kernel
theorem dL_law_1008 : decode cL_law 1008 = .ok (.lshl, 1) := by decide +kernel
theorem dL_law_1009 : decode cL_law 1009 = .ok (.aload_n 0, 1) := by decide +kernel
theorem dL_law_1010 : decode cL_law 1010 = .ok (.iload_n 3, 1) := by decide +kernel
theorem dL_law_1011 : decode cL_law 1011 = .ok (.iconst 4, 1) := by decide +kernel
theorem dL_law_1012 : decode cL_law 1012 = .ok (.iadd, 1) := by decide +kernel
theorem dL_law_1013 : decode cL_law 1013 = .ok (.iaload, 1) := by decide +kernel
theorem dL_law_1014 : decode cL_law 1014 = .ok (.i2l, 1) := by decide +kernel
theorem dL_law_1015 : decode cL_law 1015 = .ok (.ldc2_w 13, 3) := by decide +kernel
theorem dL_law_1018 : decode cL_law 1018 = .ok (.land, 1) := by decide +kernel
theorem dL_law_1019 : decode cL_law 1019 = .ok (.lor, 1) := by decide +kernel
theorem dL_law_1020 : decode cL_law 1020 = .ok (.aload_n 0, 1) := by decide +kernel
theorem dL_law_1021 : decode cL_law 1021 = .ok (.iload_n 3, 1) := by decide +kernel
theorem dL_law_1022 : decode cL_law 1022 = .ok (.iconst 5, 1) := by decide +kernel
theorem dL_law_1023 : decode cL_law 1023 = .ok (.iadd, 1) := by decide +kernel
theorem dL_law_1024 : decode cL_law 1024 = .ok (.iaload, 1) := by decide +kernel
theorem dL_law_1025 : decode cL_law 1025 = .ok (.invokevirtual 121, 3) := by decide +kernel
theorem dL_law_1028 : decode cL_law 1028 = .ok (.pop, 1) := by decide +kernel
theorem dL_law_1029 : decode cL_law 1029 = .ok (.goto 380, 3) := by decide +kernel
theorem dL_law_1032 : decode cL_law 1032 = .ok (.aload_n 1, 1) := by decide +kernel
theorem dL_law_1033 : decode cL_law 1033 = .ok (.aload_n 0, 1) := by decide +kernel
theorem dL_law_1034 : decode cL_law 1034 = .ok (.iload_n 3, 1) := by decide +kernel
theorem dL_law_1035 : decode cL_law 1035 = .ok (.iconst 1, 1) := by decide +kernel
theorem dL_law_1036 : decode cL_law 1036 = .ok (.iadd, 1) := by decide +kernel
theorem dL_law_1037 : decode cL_law 1037 = .ok (.iaload, 1) := by decide +kernel
theorem dL_law_1038 : decode cL_law 1038 = .ok (.invokevirtual 122, 3) := by decide +kernel
theorem dL_law_1041 : decode cL_law 1041 = .ok (.pop, 1) := by decide +kernel
theorem dL_law_1042 : decode cL_law 1042 = .ok (.aload_n 2, 1) := by decide +kernel
theorem dL_law_1043 : decode cL_law 1043 = .ok (.aload_n 0, 1) := by decide +kernel
theorem dL_law_1044 : decode cL_law 1044 = .ok (.iload_n 3, 1) := by decide +kernel
theorem dL_law_1045 : decode cL_law 1045 = .ok (.iconst 1, 1) := by decide +kernel
theorem dL_law_1046 : decode cL_law 1046 = .ok (.iadd, 1) := by decide +kernel
theorem dL_law_1047 : decode cL_law 1047 = .ok (.iaload, 1) := by decide +kernel
theorem dL_law_1048 : decode cL_law 1048 = .ok (.invokevirtual 125, 3) := by decide +kernel
theorem dL_law_1051 : decode cL_law 1051 = .ok (.pop, 1) := by decide +kernel
theorem dL_law_1052 : decode cL_law 1052 = .ok (.goto 357, 3) := by decide +kernel
theorem dL_law_1055 : decode cL_law 1055 = .ok (.aload_n 1, 1) := by decide +kernel
theorem dL_law_1056 : decode cL_law 1056 = .ok (.aload_n 0, 1) := by decide +kernel
theorem dL_law_1057 : decode cL_law 1057 = .ok (.iload_n 3, 1) := by decide +kernel
theorem dL_law_1058 : decode cL_law 1058 = .ok (.iconst 1, 1) := by decide +kernel
theorem dL_law_1059 : decode cL_law 1059 = .ok (.iadd, 1) := by decide +kernel
theorem dL_law_1060 : decode cL_law 1060 = .ok (.iaload, 1) := by decide +kernel
theorem dL_law_1061 : decode cL_law 1061 = .ok (.aload_n 0, 1) := by decide +kernel
theorem dL_law_1062 : decode cL_law 1062 = .ok (.iload_n 3, 1) := by decide +kernel
theorem dL_law_1063 : decode cL_law 1063 = .ok (.iconst 2, 1) := by decide +kernel
theorem dL_law_1064 : decode cL_law 1064 = .ok (.iadd, 1) := by decide +kernel
theorem dL_law_1065 : decode cL_law 1065 = .ok (.iaload, 1) := by decide +kernel
theorem dL_law_1066 : decode cL_law 1066 = .ok (.aload_n 0, 1) := by decide +kernel
theorem dL_law_1067 : decode cL_law 1067 = .ok (.iload_n 3, 1) := by decide +kernel
theorem dL_law_1068 : decode cL_law 1068 = .ok (.iconst 3, 1) := by decide +kernel
theorem dL_law_1069 : decode cL_law 1069 = .ok (.iadd, 1) := by decide +kernel
theorem dL_law_1070 : decode cL_law 1070 = .ok (.iaload, 1) := by decide +kernel
theorem dL_law_1071 : decode cL_law 1071 = .ok (.invokevirtual 126, 3) := by decide +kernel
theorem dL_law_1074 : decode cL_law 1074 = .ok (.pop2, 1) := by decide +kernel
theorem dL_law_1075 : decode cL_law 1075 = .ok (.aload_n 2, 1) := by decide +kernel
theorem dL_law_1076 : decode cL_law 1076 = .ok (.aload_n 0, 1) := by decide +kernel
theorem dL_law_1077 : decode cL_law 1077 = .ok (.iload_n 3, 1) := by decide +kernel
theorem dL_law_1078 : decode cL_law 1078 = .ok (.iconst 1, 1) := by decide +kernel
theorem dL_law_1079 : decode cL_law 1079 = .ok (.iadd, 1) := by decide +kernel
theorem dL_law_1080 : decode cL_law 1080 = .ok (.iaload, 1) := by decide +kernel
theorem dL_law_1081 : decode cL_law 1081 = .ok (.aload_n 0, 1) := by decide +kernel
theorem dL_law_1082 : decode cL_law 1082 = .ok (.iload_n 3, 1) := by decide +kernel
theorem dL_law_1083 : decode cL_law 1083 = .ok (.iconst 2, 1) := by decide +kernel
theorem dL_law_1084 : decode cL_law 1084 = .ok (.iadd, 1) := by decide +kernel
theorem dL_law_1085 : decode cL_law 1085 = .ok (.iaload, 1) := by decide +kernel
theorem dL_law_1086 : decode cL_law 1086 = .ok (.aload_n 0, 1) := by decide +kernel
theorem dL_law_1087 : decode cL_law 1087 = .ok (.iload_n 3, 1) := by decide +kernel
theorem dL_law_1088 : decode cL_law 1088 = .ok (.iconst 3, 1) := by decide +kernel
theorem dL_law_1089 : decode cL_law 1089 = .ok (.iadd, 1) := by decide +kernel
theorem dL_law_1090 : decode cL_law 1090 = .ok (.iaload, 1) := by decide +kernel
theorem dL_law_1091 : decode cL_law 1091 = .ok (.invokevirtual 130, 3) := by decide +kernel
theorem dL_law_1094 : decode cL_law 1094 = .ok (.pop2, 1) := by decide +kernel
theorem dL_law_1095 : decode cL_law 1095 = .ok (.goto 314, 3) := by decide +kernel
theorem dL_law_1098 : decode cL_law 1098 = .ok (.aload_n 1, 1) := by decide +kernel
theorem dL_law_1099 : decode cL_law 1099 = .ok (.aload_n 0, 1) := by decide +kernel
theorem dL_law_1100 : decode cL_law 1100 = .ok (.iload_n 3, 1) := by decide +kernel
theorem dL_law_1101 : decode cL_law 1101 = .ok (.iconst 1, 1) := by decide +kernel
theorem dL_law_1102 : decode cL_law 1102 = .ok (.iadd, 1) := by decide +kernel
theorem dL_law_1103 : decode cL_law 1103 = .ok (.iaload, 1) := by decide +kernel
theorem dL_law_1104 : decode cL_law 1104 = .ok (.aload_n 0, 1) := by decide +kernel
theorem dL_law_1105 : decode cL_law 1105 = .ok (.iload_n 3, 1) := by decide +kernel
theorem dL_law_1106 : decode cL_law 1106 = .ok (.iconst 2, 1) := by decide +kernel
theorem dL_law_1107 : decode cL_law 1107 = .ok (.iadd, 1) := by decide +kernel
theorem dL_law_1108 : decode cL_law 1108 = .ok (.iaload, 1) := by decide +kernel
theorem dL_law_1109 : decode cL_law 1109 = .ok (.aload_n 0, 1) := by decide +kernel
theorem dL_law_1110 : decode cL_law 1110 = .ok (.iload_n 3, 1) := by decide +kernel
theorem dL_law_1111 : decode cL_law 1111 = .ok (.iconst 3, 1) := by decide +kernel
theorem dL_law_1112 : decode cL_law 1112 = .ok (.iadd, 1) := by decide +kernel
theorem dL_law_1113 : decode cL_law 1113 = .ok (.iaload, 1) := by decide +kernel
theorem dL_law_1114 : decode cL_law 1114 = .ok (.aload_n 0, 1) := by decide +kernel
theorem dL_law_1115 : decode cL_law 1115 = .ok (.iload_n 3, 1) := by decide +kernel
theorem dL_law_1116 : decode cL_law 1116 = .ok (.iconst 4, 1) := by decide +kernel
theorem dL_law_1117 : decode cL_law 1117 = .ok (.iadd, 1) := by decide +kernel
theorem dL_law_1118 : decode cL_law 1118 = .ok (.iaload, 1) := by decide +kernel
theorem dL_law_1119 : decode cL_law 1119 = .ok (.aload_n 0, 1) := by decide +kernel
theorem dL_law_1120 : decode cL_law 1120 = .ok (.iload_n 3, 1) := by decide +kernel
theorem dL_law_1121 : decode cL_law 1121 = .ok (.iconst 5, 1) := by decide +kernel
theorem dL_law_1122 : decode cL_law 1122 = .ok (.iadd, 1) := by decide +kernel
theorem dL_law_1123 : decode cL_law 1123 = .ok (.iaload, 1) := by decide +kernel
theorem dL_law_1124 : decode cL_law 1124 = .ok (.i2l, 1) := by decide +kernel
theorem dL_law_1125 : decode cL_law 1125 = .ok (.bipush 32, 2) := by decide +kernel
theorem dL_law_1127 : decode cL_law 1127 = .ok (.lshl, 1) := by decide +kernel
theorem dL_law_1128 : decode cL_law 1128 = .ok (.aload_n 0, 1) := by decide +kernel
theorem dL_law_1129 : decode cL_law 1129 = .ok (.iload_n 3, 1) := by decide +kernel
theorem dL_law_1130 : decode cL_law 1130 = .ok (.bipush 6, 2) := by decide +kernel
theorem dL_law_1132 : decode cL_law 1132 = .ok (.iadd, 1) := by decide +kernel
theorem dL_law_1133 : decode cL_law 1133 = .ok (.iaload, 1) := by decide +kernel
theorem dL_law_1134 : decode cL_law 1134 = .ok (.i2l, 1) := by decide +kernel
theorem dL_law_1135 : decode cL_law 1135 = .ok (.ldc2_w 13, 3) := by decide +kernel
theorem dL_law_1138 : decode cL_law 1138 = .ok (.land, 1) := by decide +kernel
theorem dL_law_1139 : decode cL_law 1139 = .ok (.lor, 1) := by decide +kernel
theorem dL_law_1140 : decode cL_law 1140 = .ok (.aload_n 0, 1) := by decide +kernel
theorem dL_law_1141 : decode cL_law 1141 = .ok (.iload_n 3, 1) := by decide +kernel
theorem dL_law_1142 : decode cL_law 1142 = .ok (.bipush 7, 2) := by decide +kernel
theorem dL_law_1144 : decode cL_law 1144 = .ok (.iadd, 1) := by decide +kernel
theorem dL_law_1145 : decode cL_law 1145 = .ok (.iaload, 1) := by decide +kernel
theorem dL_law_1146 : decode cL_law 1146 = .ok (.invokevirtual 131, 3) := by decide +kernel
theorem dL_law_1149 : decode cL_law 1149 = .ok (.pop2, 1) := by decide +kernel
theorem dL_law_1150 : decode cL_law 1150 = .ok (.aload_n 2, 1) := by decide +kernel
theorem dL_law_1151 : decode cL_law 1151 = .ok (.aload_n 0, 1) := by decide +kernel
theorem dL_law_1152 : decode cL_law 1152 = .ok (.iload_n 3, 1) := by decide +kernel
theorem dL_law_1153 : decode cL_law 1153 = .ok (.iconst 1, 1) := by decide +kernel
theorem dL_law_1154 : decode cL_law 1154 = .ok (.iadd, 1) := by decide +kernel
theorem dL_law_1155 : decode cL_law 1155 = .ok (.iaload, 1) := by decide +kernel
theorem dL_law_1156 : decode cL_law 1156 = .ok (.aload_n 0, 1) := by decide +kernel
theorem dL_law_1157 : decode cL_law 1157 = .ok (.iload_n 3, 1) := by decide +kernel
theorem dL_law_1158 : decode cL_law 1158 = .ok (.iconst 2, 1) := by decide +kernel
theorem dL_law_1159 : decode cL_law 1159 = .ok (.iadd, 1) := by decide +kernel
theorem dL_law_1160 : decode cL_law 1160 = .ok (.iaload, 1) := by decide +kernel
theorem dL_law_1161 : decode cL_law 1161 = .ok (.aload_n 0, 1) := by decide +kernel
theorem dL_law_1162 : decode cL_law 1162 = .ok (.iload_n 3, 1) := by decide +kernel
theorem dL_law_1163 : decode cL_law 1163 = .ok (.iconst 3, 1) := by decide +kernel
theorem dL_law_1164 : decode cL_law 1164 = .ok (.iadd, 1) := by decide +kernel
theorem dL_law_1165 : decode cL_law 1165 = .ok (.iaload, 1) := by decide +kernel
theorem dL_law_1166 : decode cL_law 1166 = .ok (.aload_n 0, 1) := by decide +kernel
theorem dL_law_1167 : decode cL_law 1167 = .ok (.iload_n 3, 1) := by decide +kernel
theorem dL_law_1168 : decode cL_law 1168 = .ok (.iconst 4, 1) := by decide +kernel
theorem dL_law_1169 : decode cL_law 1169 = .ok (.iadd, 1) := by decide +kernel
theorem dL_law_1170 : decode cL_law 1170 = .ok (.iaload, 1) := by decide +kernel
theorem dL_law_1171 : decode cL_law 1171 = .ok (.aload_n 0, 1) := by decide +kernel
theorem dL_law_1172 : decode cL_law 1172 = .ok (.iload_n 3, 1) := by decide +kernel
theorem dL_law_1173 : decode cL_law 1173 = .ok (.iconst 5, 1) := by decide +kernel
theorem dL_law_1174 : decode cL_law 1174 = .ok (.iadd, 1) := by decide +kernel
theorem dL_law_1175 : decode cL_law 1175 = .ok (.iaload, 1) := by decide +kernel
theorem dL_law_1176 : decode cL_law 1176 = .ok (.i2l, 1) := by decide +kernel
theorem dL_law_1177 : decode cL_law 1177 = .ok (.bipush 32, 2) := by decide +kernel
theorem dL_law_1179 : decode cL_law 1179 = .ok (.lshl, 1) := by decide +kernel
theorem dL_law_1180 : decode cL_law 1180 = .ok (.aload_n 0, 1) := by decide +kernel
theorem dL_law_1181 : decode cL_law 1181 = .ok (.iload_n 3, 1) := by decide +kernel
theorem dL_law_1182 : decode cL_law 1182 = .ok (.bipush 6, 2) := by decide +kernel
theorem dL_law_1184 : decode cL_law 1184 = .ok (.iadd, 1) := by decide +kernel
theorem dL_law_1185 : decode cL_law 1185 = .ok (.iaload, 1) := by decide +kernel
theorem dL_law_1186 : decode cL_law 1186 = .ok (.i2l, 1) := by decide +kernel
theorem dL_law_1187 : decode cL_law 1187 = .ok (.ldc2_w 13, 3) := by decide +kernel
theorem dL_law_1190 : decode cL_law 1190 = .ok (.land, 1) := by decide +kernel
theorem dL_law_1191 : decode cL_law 1191 = .ok (.lor, 1) := by decide +kernel
theorem dL_law_1192 : decode cL_law 1192 = .ok (.aload_n 0, 1) := by decide +kernel
theorem dL_law_1193 : decode cL_law 1193 = .ok (.iload_n 3, 1) := by decide +kernel
theorem dL_law_1194 : decode cL_law 1194 = .ok (.bipush 7, 2) := by decide +kernel
theorem dL_law_1196 : decode cL_law 1196 = .ok (.iadd, 1) := by decide +kernel
theorem dL_law_1197 : decode cL_law 1197 = .ok (.iaload, 1) := by decide +kernel
theorem dL_law_1198 : decode cL_law 1198 = .ok (.invokevirtual 135, 3) := by decide +kernel
theorem dL_law_1201 : decode cL_law 1201 = .ok (.pop2, 1) := by decide +kernel
theorem dL_law_1202 : decode cL_law 1202 = .ok (.goto 207, 3) := by decide +kernel
theorem dL_law_1205 : decode cL_law 1205 = .ok (.aload_n 1, 1) := by decide +kernel
theorem dL_law_1206 : decode cL_law 1206 = .ok (.aload_n 0, 1) := by decide +kernel
theorem dL_law_1207 : decode cL_law 1207 = .ok (.iload_n 3, 1) := by decide +kernel
theorem dL_law_1208 : decode cL_law 1208 = .ok (.iconst 1, 1) := by decide +kernel
theorem dL_law_1209 : decode cL_law 1209 = .ok (.iadd, 1) := by decide +kernel
theorem dL_law_1210 : decode cL_law 1210 = .ok (.iaload, 1) := by decide +kernel
theorem dL_law_1211 : decode cL_law 1211 = .ok (.invokevirtual 136, 3) := by decide +kernel
theorem dL_law_1214 : decode cL_law 1214 = .ok (.pop, 1) := by decide +kernel
theorem dL_law_1215 : decode cL_law 1215 = .ok (.aload_n 2, 1) := by decide +kernel
theorem dL_law_1216 : decode cL_law 1216 = .ok (.aload_n 0, 1) := by decide +kernel
theorem dL_law_1217 : decode cL_law 1217 = .ok (.iload_n 3, 1) := by decide +kernel
theorem dL_law_1218 : decode cL_law 1218 = .ok (.iconst 1, 1) := by decide +kernel
theorem dL_law_1219 : decode cL_law 1219 = .ok (.iadd, 1) := by decide +kernel
theorem dL_law_1220 : decode cL_law 1220 = .ok (.iaload, 1) := by decide +kernel
theorem dL_law_1221 : decode cL_law 1221 = .ok (.invokevirtual 139, 3) := by decide +kernel
theorem dL_law_1224 : decode cL_law 1224 = .ok (.pop, 1) := by decide +kernel
theorem dL_law_1225 : decode cL_law 1225 = .ok (.goto 184, 3) := by decide +kernel
set_option maxRecDepth 20000 in
theorem gu_L_X9_rain : GoodIn wsL_law (wsV RL 108 RX9 yX9_rain uX9_rain) := goodIn_r _ [827, 828, 829, 2, 830, 820, 821, 2, 168, 169, 51, 831, 832, 833, 50, 822, 170, 834, 835, 836, 837, 116, 838, 1064, 1065, 1066, 1067, 1068, 1069, 1070, 1071, 1072, 1073, 1074, 1075, 1076, 1077, 1078, 1079, 1080, 1081, 1147, 1148, 1149] rfl (by decide +kernel)
set_option maxRecDepth 20000 in
theorem gu_L_X10_rain : GoodIn wsL_law (wsV RL 111 RX10 yX10_rain uX10_rain) := goodIn_r _ [839, 840, 841, 5, 842, 575, 182, 183, 5, 843, 318, 154, 184, 1082, 1083, 1084, 1085, 1086, 1087, 1088, 1089, 1090, 1091, 1092, 1093, 1094, 1095, 1096, 1097, 1098, 1099, 1100, 1101, 1102, 1103, 1104, 1105, 1106, 1107, 1108, 1109, 1110, 1111, 1112, 1113, 1114, 1115, 1116, 1117] rfl (by decide +kernel)
set_option maxHeartbeats 4000000 in
set_option maxRecDepth 100000 in
theorem lc_21 {p : Program} {l : Launch} {e : Env} {s : State} {m : MethodId} {below : List Frame} {meth : Method} {c : Code} {cells slots : Nat} {Q : State → Prop} {b h0 L : Nat} {xs : Nat → Int32} {yi : Int32} {D : va_G} {cI cL cC : ClassId} {tx tm : Nat → Nat} {H : Heap} {locs : List Loc} {ls : Array Slot} {gC : Int32} {gE : Int32} {G : Nat} {gW : Nat → Int32} {gA : Nat → Int32} {gT : Nat → Int32} {gI : Int32} {gS : Int32} {gM : Int32} {K : Nat → Int32} {F : Nat → Int32} {S : Nat → Int32} {N : Nat → Int32} {gH : Int} {gJ : Int} {ge : Int32} {gk : Int32} {gf : Int32} {gs : Int32} {gg : Int32} {gr : Int32} {RN : Nat → Int32} (hx : p.tables.exec = Jvm.exec) (hb : c.code = cL_law) (hml : c.maxLocals = 4) (hown : s.vm.findClass RL = some m.cls) (hts : ∀ w ∈ wsL_law, w.before #[Value.ref b] s = true) (hE : EV D cI cL cC s) (hbl : b < h0) (hG : tG D (gF cI cL cC gC gE G gW gA) tx H) (hM : tG D (mF cI cL cC gC gE gW gA gT gI gS gM K F S N gH gJ ge gk gf gs gg gr RN) tm H) (kt : tx h0 = 1) (kt2 : tm (h0 + 92) = 40) (hx0 : ∀ q : Nat, q < h0 → tx q = 0) (hm00 : ∀ q : Nat, q < h0 → tm q = 0) (dj : ∀ q : Nat, tm q ≠ 0 → tx q = 0) (dj2 : ∀ q : Nat, tx q ≠ 0 → tm q = 0) (uq_gC : ∀ b c : Nat, tx b = 2 → tx c = 2 → b = c) (uq_gE : ∀ b c : Nat, tx b = 6 → tx c = 6 → b = c) (uq_gW : ∀ b c : Nat, tx b = 29 → tx c = 29 → b = c) (uq_gA : ∀ b c : Nat, tx b = 31 → tx c = 31 → b = c) (uqm : ∀ b c : Nat, tm b = tm c → tm b ≠ 0 → b = c) (hC0 : 0 ≤ gC.toInt) (hC4 : gC.toInt ≤ 400) (hI0 : 0 ≤ gI.toInt) (hI4 : gI.toInt ≤ 40) (hH0 : 0 ≤ gH) (hH9 : gH ≤ 96) (hm0 : 0 ≤ gM.toInt) (hm3 : gM.toInt ≤ 3) (hO0 : okM K F S N 0 gI.toInt) (hW : swM gS K F S N gI.toInt) (hGb : (G : Int) ≤ 3072 * yi.toInt) (hy0 : 0 ≤ yi.toInt) (hy8 : yi.toInt + 8 ≤ (L : Int)) (hL : L ≤ 4096) (hS : cF h0 s.heap H locs) (hX : va_X b L xs s H) (hl : lv_has ls 4 [(3, .int yi), (2, .ref (h0 + 92)), (1, .ref h0), (0, .ref b)]) (hcl : cells ≤ 600000) (hsl : slots ≤ 7302250) (kx : ∀ (H1 : Heap) (locs1 : List Loc) (gC' : Int32) (gE' : Int32) (G' : Nat) (gW' : Nat → Int32) (gA' : Nat → Int32) (gT' : Nat → Int32) (gI' : Int32) (gS' : Int32) (gM' : Int32) (K' : Nat → Int32) (F' : Nat → Int32) (S' : Nat → Int32) (N' : Nat → Int32) (gH' : Int) (gJ' : Int) (ge' : Int32) (gk' : Int32) (gf' : Int32) (gs' : Int32) (gg' : Int32) (gr' : Int32) (RN' : Nat → Int32), tG D (gF cI cL cC gC' gE' G' gW' gA') tx H1 → tG D (mF cI cL cC gC' gE' gW' gA' gT' gI' gS' gM' K' F' S' N' gH' gJ' ge' gk' gf' gs' gg' gr' RN') tm H1 → 0 ≤ gC'.toInt → gC'.toInt ≤ 400 → 0 ≤ gI'.toInt → gI'.toInt ≤ 40 → 0 ≤ gH' → gH' ≤ 96 → 0 ≤ gM'.toInt → gM'.toInt ≤ 3 → okM K' F' S' N' 0 gI'.toInt → swM gS' K' F' S' N' gI'.toInt → (G' : Int) ≤ 3072 * yi.toInt + 24576 → cF h0 s.heap H1 locs1 → va_X b L xs s H1 → W p l e room_1 s m #[Value.ref b] below meth c H1 locs1 cells slots Q (F0 m 1409 ls [])) : W p l e room_1 s m #[Value.ref b] below meth c H locs cells slots Q (F0 m 833 ls []) := by
  refine lv_aload_n hx hb dL_law_833 rfl (lv_at hl 2 rfl) ?_
  refine lv_aload_n hx hb dL_law_834 rfl (lv_at hl 3 rfl) ?_
  refine lv_iload_n hx hb dL_law_835 rfl (lv_at hl 0 rfl) ?_
  refine lv_iconst (v := 1) hx hb dL_law_836 (by decide) ?_
  refine lv_iadd hx hb dL_law_837 ?_
  refine lv_topi (fun x_1 e_2 => ?_)
  have i_x_1 : x_1.toInt = yi.toInt + 1 := by rw [e_2]; exact (q_add (by rw [show (1 : Int32).toInt = 1 by decide]; omega) (by rw [show (1 : Int32).toInt = 1 by decide]; omega)).trans (by rw [show (1 : Int32).toInt = 1 by decide])
  refine ty_sld hx hb hX (i := x_1) (q_in (by omega) (by omega)) dL_law_838 ?_
  refine lv_seti (y := xs (yi.toInt + 1).toNat) (congrArg (fun q : Int => xs q.toNat) (show x_1.toInt = yi.toInt + 1 by omega)) ?_
  refine lv_aload_n hx hb dL_law_839 rfl (lv_at hl 3 rfl) ?_
  refine lv_pc (pc2 := 840) rfl ?_
  refine lv_iload_n hx hb dL_law_840 rfl (lv_at hl 0 rfl) ?_
  refine lv_iconst (v := 2) hx hb dL_law_841 (by decide) ?_
  refine lv_iadd hx hb dL_law_842 ?_
  refine lv_topi (fun x_3 e_4 => ?_)
  have i_x_3 : x_3.toInt = yi.toInt + 2 := by rw [e_4]; exact (q_add (by rw [show (2 : Int32).toInt = 2 by decide]; omega) (by rw [show (2 : Int32).toInt = 2 by decide]; omega)).trans (by rw [show (2 : Int32).toInt = 2 by decide])
  refine ty_sld hx hb hX (i := x_3) (q_in (by omega) (by omega)) dL_law_843 ?_
  refine lv_seti (y := xs (yi.toInt + 2).toNat) (congrArg (fun q : Int => xs q.toNat) (show x_3.toInt = yi.toInt + 2 by omega)) ?_
  refine lv_aload_n hx hb dL_law_844 rfl (lv_at hl 3 rfl) ?_
  refine lv_iload_n hx hb dL_law_845 rfl (lv_at hl 0 rfl) ?_
  refine lv_iconst (v := 3) hx hb dL_law_846 (by decide) ?_
  refine lv_iadd hx hb dL_law_847 ?_
  refine lv_topi (fun x_5 e_6 => ?_)
  have i_x_5 : x_5.toInt = yi.toInt + 3 := by rw [e_6]; exact (q_add (by rw [show (3 : Int32).toInt = 3 by decide]; omega) (by rw [show (3 : Int32).toInt = 3 by decide]; omega)).trans (by rw [show (3 : Int32).toInt = 3 by decide])
  refine lv_pc (pc2 := 848) rfl ?_
  refine ty_sld hx hb hX (i := x_5) (q_in (by omega) (by omega)) dL_law_848 ?_
  refine lv_seti (y := xs (yi.toInt + 3).toNat) (congrArg (fun q : Int => xs q.toNat) (show x_5.toInt = yi.toInt + 3 by omega)) ?_
  obtain ⟨_, at_7⟩ := rcv1 hG kt
  refine lw_calli (W.runV (As := [.int (xs (yi.toInt + 1).toNat), .int (xs (yi.toInt + 2).toNat), .int (xs (yi.toInt + 3).toNat)]) (rest := []) ⟨hx, hb, hml, hown, hts⟩ (s_X9_rain l D tx cI cL cC gC gE G gW gA h0 (xs (yi.toInt + 1).toNat) (xs (yi.toInt + 2).toNat) (xs (yi.toInt + 3).toNat) uq_gA kt) (cwV 3 hts gu_L_X9_rain rfl rfl rfl (by decide +kernel) ⟨Nat.le_of_ble_eq_true rfl, Nat.le_of_ble_eq_true rfl⟩) (tP_V hG hE at_7 rfl) rfl rfl hl.1 rfl (lv_room (Nat.le_of_ble_eq_true rfl)) dL_law_849 ⟨hcl, hsl⟩) hS rfl hx0 (fun r_8 H locs hp_9 hG hS o_10 => ?_)
  replace hX := hX.kept (o_10 b (by rw [hx0 b hbl]; rfl))
  replace hM := tG.keptW hM o_10 (fun q h => by rw [dj q h]; rfl)
  refine lv_pop hx hb dL_law_852 rfl ?_
  refine lv_aload_n hx hb dL_law_853 rfl (lv_at hl 1 rfl) ?_
  refine lv_aload_n hx hb dL_law_854 rfl (lv_at hl 3 rfl) ?_
  refine lv_iload_n hx hb dL_law_855 rfl (lv_at hl 0 rfl) ?_
  refine lv_iconst (v := 1) hx hb dL_law_856 (by decide) ?_
  refine lv_iadd hx hb dL_law_857 ?_
  refine lv_topi (fun x_11 e_12 => ?_)
  have i_x_11 : x_11.toInt = yi.toInt + 1 := by rw [e_12]; exact (q_add (by rw [show (1 : Int32).toInt = 1 by decide]; omega) (by rw [show (1 : Int32).toInt = 1 by decide]; omega)).trans (by rw [show (1 : Int32).toInt = 1 by decide])
  refine lv_pc (pc2 := 858) rfl ?_
  refine ty_sld hx hb hX (i := x_11) (q_in (by omega) (by omega)) dL_law_858 ?_
  refine lv_seti (y := xs (yi.toInt + 1).toNat) (congrArg (fun q : Int => xs q.toNat) (show x_11.toInt = yi.toInt + 1 by omega)) ?_
  refine lv_aload_n hx hb dL_law_859 rfl (lv_at hl 3 rfl) ?_
  refine lv_iload_n hx hb dL_law_860 rfl (lv_at hl 0 rfl) ?_
  refine lv_iconst (v := 2) hx hb dL_law_861 (by decide) ?_
  refine lv_iadd hx hb dL_law_862 ?_
  refine lv_topi (fun x_13 e_14 => ?_)
  have i_x_13 : x_13.toInt = yi.toInt + 2 := by rw [e_14]; exact (q_add (by rw [show (2 : Int32).toInt = 2 by decide]; omega) (by rw [show (2 : Int32).toInt = 2 by decide]; omega)).trans (by rw [show (2 : Int32).toInt = 2 by decide])
  refine ty_sld hx hb hX (i := x_13) (q_in (by omega) (by omega)) dL_law_863 ?_
  refine lv_seti (y := xs (yi.toInt + 2).toNat) (congrArg (fun q : Int => xs q.toNat) (show x_13.toInt = yi.toInt + 2 by omega)) ?_
  refine lv_aload_n hx hb dL_law_864 rfl (lv_at hl 3 rfl) ?_
  refine lv_iload_n hx hb dL_law_865 rfl (lv_at hl 0 rfl) ?_
  refine lv_pc (pc2 := 866) rfl ?_
  refine lv_iconst (v := 3) hx hb dL_law_866 (by decide) ?_
  refine lv_iadd hx hb dL_law_867 ?_
  refine lv_topi (fun x_15 e_16 => ?_)
  have i_x_15 : x_15.toInt = yi.toInt + 3 := by rw [e_16]; exact (q_add (by rw [show (3 : Int32).toInt = 3 by decide]; omega) (by rw [show (3 : Int32).toInt = 3 by decide]; omega)).trans (by rw [show (3 : Int32).toInt = 3 by decide])
  refine ty_sld hx hb hX (i := x_15) (q_in (by omega) (by omega)) dL_law_868 ?_
  refine lv_seti (y := xs (yi.toInt + 3).toNat) (congrArg (fun q : Int => xs q.toNat) (show x_15.toInt = yi.toInt + 3 by omega)) ?_
  obtain ⟨_, at_17⟩ := rcv40 hM kt2
  refine lx_calli (W.runV (As := [.int (xs (yi.toInt + 1).toNat), .int (xs (yi.toInt + 2).toNat), .int (xs (yi.toInt + 3).toNat)]) (rest := []) ⟨hx, hb, hml, hown, hts⟩ (m_X10_rain l D tm cI cL cC gC gE gW gA gT gI gS gM K F S N gH gJ ge gk gf gs gg gr RN (h0 + 92) (xs (yi.toInt + 1).toNat) (xs (yi.toInt + 2).toNat) (xs (yi.toInt + 3).toNat) uqm hC0 hC4 hI0 hI4 hH0 hH9 hm0 hm3 hO0 hW kt2) (cwV 3 hts gu_L_X10_rain rfl rfl rfl (by decide +kernel) ⟨Nat.le_of_ble_eq_true rfl, Nat.le_of_ble_eq_true rfl⟩) (tP_V hM hE at_17 rfl) rfl rfl hl.1 rfl (lv_room (Nat.le_of_ble_eq_true rfl)) dL_law_869 ⟨hcl, hsl⟩) hS rfl hm00 (fun r_18 gA_21 H locs hp_19 hM hS o_20 => ?_)
  replace hX := hX.kept (o_20 b (by rw [hm00 b hbl]; rfl))
  replace hG := tG.keptW hG o_20 (fun q h => by rw [dj2 q h]; rfl)
  replace hM : tG D (mF cI cL cC gC gE gW gA_21 gT gI gS gM K F S N gH gJ ge gk gf gs gg gr RN) tm H := hM
  have hp_19 : r_18 = arw gA (xs (yi.toInt + 1).toNat) (xs (yi.toInt + 2).toNat) (xs (yi.toInt + 3).toNat) ∧ gA_21 = nrw gA (xs (yi.toInt + 1).toNat) (xs (yi.toInt + 2).toNat) (xs (yi.toInt + 3).toNat) := hp_19
  obtain ⟨p_23, p_24⟩ := hp_19
  refine lv_pop hx hb dL_law_872 rfl ?_
  refine lv_goto (tgt := 1409) hx hb dL_law_873 (by decide) ?_
  subst p_24
  exact kx H locs _ _ _ _ _ _ _ _ _ _ _ _ _ _ _ _ _ _ _ _ _ _ hG hM hC0 hC4 hI0 hI4 hH0 hH9 hm0 hm3 hO0 hW (by omega) hS hX

set_option maxRecDepth 20000 in
theorem gu_L_X9_chance : GoodIn wsL_law (wsV RL 112 RX9 yX9_chance uX9_chance) := goodIn_r _ [844, 845, 846, 2, 847, 608, 609, 2, 168, 169, 623, 624, 625, 848, 849, 850, 852, 853, 854, 610, 170, 626, 23, 43, 627, 628, 629, 42, 630, 98, 851, 35, 428, 855, 51, 819, 856, 857, 858, 859, 36, 861, 862, 863, 34, 866, 836, 837, 50, 20, 28, 750, 446, 447, 27, 751, 450, 451, 631, 632, 633, 860, 463, 464, 465, 749, 442, 443, 864, 86, 865, 724, 725, 726, 87, 88, 89, 90, 91, 92, 93, 838, 821, 116, 822, 448, 77, 452, 454, 455, 456, 453, 458, 459, 460, 489, 490, 491, 457, 461, 471, 353, 354, 19, 223, 479, 480, 481, 483, 484, 485, 466, 467, 468, 472, 473, 469, 475, 476, 477, 462, 470, 355, 66, 224, 482, 71, 68, 486, 487, 488, 474, 478, 250, 251, 252, 67, 352, 253, 492, 493, 494, 495, 496, 634, 637, 99, 636, 274, 635, 275, 444, 76, 1064, 1065, 1066, 1067, 1068, 1069, 1070, 1071, 1072, 1073, 1074, 1075, 1076, 1077, 1078, 1079, 1080, 1081, 1138, 1139, 1140, 1141, 1130, 1131, 1132, 1133, 1134, 1135, 1136, 1137, 1147, 1148, 1149, 1128, 1129, 1122, 1123, 1124, 1125, 1126, 1127] rfl (by decide +kernel)
set_option maxRecDepth 20000 in
theorem gu_L_X10_chance : GoodIn wsL_law (wsV RL 116 RX10 yX10_chance uX10_chance) := goodIn_r _ [867, 868, 869, 5, 870, 575, 182, 183, 5, 871, 872, 873, 874, 876, 877, 878, 184, 875, 642, 643, 644, 142, 501, 645, 370, 145, 879, 153, 880, 881, 882, 883, 785, 786, 787, 545, 789, 790, 791, 154, 141, 506, 507, 508, 646, 647, 648, 788, 143, 792, 509, 365, 137, 510, 511, 512, 138, 139, 140, 513, 514, 519, 520, 521, 320, 515, 516, 517, 522, 518, 381, 382, 383, 384, 649, 146, 1082, 1083, 1084, 1085, 1086, 1087, 1088, 1089, 1090, 1091, 1092, 1093, 1094, 1095, 1096, 1097, 1098, 1099, 1100, 1101, 1102, 1103, 1104, 1105, 1106, 1107, 1108, 1109, 1110, 1111, 1112, 1113, 1114, 1115, 1116, 1117] rfl (by decide +kernel)
set_option maxHeartbeats 4000000 in
set_option maxRecDepth 100000 in
theorem lc_22 {p : Program} {l : Launch} {e : Env} {s : State} {m : MethodId} {below : List Frame} {meth : Method} {c : Code} {cells slots : Nat} {Q : State → Prop} {b h0 L : Nat} {xs : Nat → Int32} {yi : Int32} {D : va_G} {cI cL cC : ClassId} {tx tm : Nat → Nat} {H : Heap} {locs : List Loc} {ls : Array Slot} {gC : Int32} {gE : Int32} {G : Nat} {gW : Nat → Int32} {gA : Nat → Int32} {gT : Nat → Int32} {gI : Int32} {gS : Int32} {gM : Int32} {K : Nat → Int32} {F : Nat → Int32} {S : Nat → Int32} {N : Nat → Int32} {gH : Int} {gJ : Int} {ge : Int32} {gk : Int32} {gf : Int32} {gs : Int32} {gg : Int32} {gr : Int32} {RN : Nat → Int32} (hx : p.tables.exec = Jvm.exec) (hb : c.code = cL_law) (hml : c.maxLocals = 4) (hown : s.vm.findClass RL = some m.cls) (hts : ∀ w ∈ wsL_law, w.before #[Value.ref b] s = true) (hE : EV D cI cL cC s) (hbl : b < h0) (hG : tG D (gF cI cL cC gC gE G gW gA) tx H) (hM : tG D (mF cI cL cC gC gE gW gA gT gI gS gM K F S N gH gJ ge gk gf gs gg gr RN) tm H) (kt : tx h0 = 1) (kt2 : tm (h0 + 92) = 40) (hx0 : ∀ q : Nat, q < h0 → tx q = 0) (hm00 : ∀ q : Nat, q < h0 → tm q = 0) (dj : ∀ q : Nat, tm q ≠ 0 → tx q = 0) (dj2 : ∀ q : Nat, tx q ≠ 0 → tm q = 0) (uq_gC : ∀ b c : Nat, tx b = 2 → tx c = 2 → b = c) (uq_gE : ∀ b c : Nat, tx b = 6 → tx c = 6 → b = c) (uq_gW : ∀ b c : Nat, tx b = 29 → tx c = 29 → b = c) (uq_gA : ∀ b c : Nat, tx b = 31 → tx c = 31 → b = c) (uqm : ∀ b c : Nat, tm b = tm c → tm b ≠ 0 → b = c) (hC0 : 0 ≤ gC.toInt) (hC4 : gC.toInt ≤ 400) (hI0 : 0 ≤ gI.toInt) (hI4 : gI.toInt ≤ 40) (hH0 : 0 ≤ gH) (hH9 : gH ≤ 96) (hm0 : 0 ≤ gM.toInt) (hm3 : gM.toInt ≤ 3) (hO0 : okM K F S N 0 gI.toInt) (hW : swM gS K F S N gI.toInt) (hGb : (G : Int) ≤ 3072 * yi.toInt) (hy0 : 0 ≤ yi.toInt) (hy8 : yi.toInt + 8 ≤ (L : Int)) (hL : L ≤ 4096) (hS : cF h0 s.heap H locs) (hX : va_X b L xs s H) (hl : lv_has ls 4 [(3, .int yi), (2, .ref (h0 + 92)), (1, .ref h0), (0, .ref b)]) (hcl : cells ≤ 600000) (hsl : slots ≤ 7302250) (kx : ∀ (H1 : Heap) (locs1 : List Loc) (gC' : Int32) (gE' : Int32) (G' : Nat) (gW' : Nat → Int32) (gA' : Nat → Int32) (gT' : Nat → Int32) (gI' : Int32) (gS' : Int32) (gM' : Int32) (K' : Nat → Int32) (F' : Nat → Int32) (S' : Nat → Int32) (N' : Nat → Int32) (gH' : Int) (gJ' : Int) (ge' : Int32) (gk' : Int32) (gf' : Int32) (gs' : Int32) (gg' : Int32) (gr' : Int32) (RN' : Nat → Int32), tG D (gF cI cL cC gC' gE' G' gW' gA') tx H1 → tG D (mF cI cL cC gC' gE' gW' gA' gT' gI' gS' gM' K' F' S' N' gH' gJ' ge' gk' gf' gs' gg' gr' RN') tm H1 → 0 ≤ gC'.toInt → gC'.toInt ≤ 400 → 0 ≤ gI'.toInt → gI'.toInt ≤ 40 → 0 ≤ gH' → gH' ≤ 96 → 0 ≤ gM'.toInt → gM'.toInt ≤ 3 → okM K' F' S' N' 0 gI'.toInt → swM gS' K' F' S' N' gI'.toInt → (G' : Int) ≤ 3072 * yi.toInt + 24576 → cF h0 s.heap H1 locs1 → va_X b L xs s H1 → W p l e room_1 s m #[Value.ref b] below meth c H1 locs1 cells slots Q (F0 m 1409 ls [])) : W p l e room_1 s m #[Value.ref b] below meth c H locs cells slots Q (F0 m 876 ls []) := by
  refine lv_aload_n hx hb dL_law_876 rfl (lv_at hl 2 rfl) ?_
  refine lv_aload_n hx hb dL_law_877 rfl (lv_at hl 3 rfl) ?_
  refine lv_iload_n hx hb dL_law_878 rfl (lv_at hl 0 rfl) ?_
  refine lv_iconst (v := 1) hx hb dL_law_879 (by decide) ?_
  refine lv_iadd hx hb dL_law_880 ?_
  refine lv_topi (fun x_1 e_2 => ?_)
  have i_x_1 : x_1.toInt = yi.toInt + 1 := by rw [e_2]; exact (q_add (by rw [show (1 : Int32).toInt = 1 by decide]; omega) (by rw [show (1 : Int32).toInt = 1 by decide]; omega)).trans (by rw [show (1 : Int32).toInt = 1 by decide])
  refine ty_sld hx hb hX (i := x_1) (q_in (by omega) (by omega)) dL_law_881 ?_
  refine lv_seti (y := xs (yi.toInt + 1).toNat) (congrArg (fun q : Int => xs q.toNat) (show x_1.toInt = yi.toInt + 1 by omega)) ?_
  refine lv_aload_n hx hb dL_law_882 rfl (lv_at hl 3 rfl) ?_
  refine lv_pc (pc2 := 883) rfl ?_
  refine lv_iload_n hx hb dL_law_883 rfl (lv_at hl 0 rfl) ?_
  refine lv_iconst (v := 2) hx hb dL_law_884 (by decide) ?_
  refine lv_iadd hx hb dL_law_885 ?_
  refine lv_topi (fun x_3 e_4 => ?_)
  have i_x_3 : x_3.toInt = yi.toInt + 2 := by rw [e_4]; exact (q_add (by rw [show (2 : Int32).toInt = 2 by decide]; omega) (by rw [show (2 : Int32).toInt = 2 by decide]; omega)).trans (by rw [show (2 : Int32).toInt = 2 by decide])
  refine ty_sld hx hb hX (i := x_3) (q_in (by omega) (by omega)) dL_law_886 ?_
  refine lv_seti (y := xs (yi.toInt + 2).toNat) (congrArg (fun q : Int => xs q.toNat) (show x_3.toInt = yi.toInt + 2 by omega)) ?_
  refine lv_aload_n hx hb dL_law_887 rfl (lv_at hl 3 rfl) ?_
  refine lv_iload_n hx hb dL_law_888 rfl (lv_at hl 0 rfl) ?_
  refine lv_iconst (v := 3) hx hb dL_law_889 (by decide) ?_
  refine lv_iadd hx hb dL_law_890 ?_
  refine lv_topi (fun x_5 e_6 => ?_)
  have i_x_5 : x_5.toInt = yi.toInt + 3 := by rw [e_6]; exact (q_add (by rw [show (3 : Int32).toInt = 3 by decide]; omega) (by rw [show (3 : Int32).toInt = 3 by decide]; omega)).trans (by rw [show (3 : Int32).toInt = 3 by decide])
  refine lv_pc (pc2 := 891) rfl ?_
  refine ty_sld hx hb hX (i := x_5) (q_in (by omega) (by omega)) dL_law_891 ?_
  refine lv_seti (y := xs (yi.toInt + 3).toNat) (congrArg (fun q : Int => xs q.toNat) (show x_5.toInt = yi.toInt + 3 by omega)) ?_
  refine lv_i2l (v := (xs (yi.toInt + 3).toNat).toInt64) hx hb dL_law_892 rfl ?_
  refine lv_bipush (v := 32) hx hb dL_law_893 (by decide) ?_
  refine lv_lshl hx hb dL_law_895 rfl ?_
  refine lv_topl (fun z_7 e_8 => ?_)
  refine lv_aload_n hx hb dL_law_896 rfl (lv_at hl 3 rfl) ?_
  refine lv_iload_n hx hb dL_law_897 rfl (lv_at hl 0 rfl) ?_
  refine lv_iconst (v := 4) hx hb dL_law_898 (by decide) ?_
  refine lv_iadd hx hb dL_law_899 ?_
  refine lv_topi (fun x_9 e_10 => ?_)
  have i_x_9 : x_9.toInt = yi.toInt + 4 := by rw [e_10]; exact (q_add (by rw [show (4 : Int32).toInt = 4 by decide]; omega) (by rw [show (4 : Int32).toInt = 4 by decide]; omega)).trans (by rw [show (4 : Int32).toInt = 4 by decide])
  refine lv_pc (pc2 := 900) rfl ?_
  refine ty_sld hx hb hX (i := x_9) (q_in (by omega) (by omega)) dL_law_900 ?_
  refine lv_seti (y := xs (yi.toInt + 4).toNat) (congrArg (fun q : Int => xs q.toNat) (show x_9.toInt = yi.toInt + 4 by omega)) ?_
  refine lv_i2l (v := (xs (yi.toInt + 4).toNat).toInt64) hx hb dL_law_901 rfl ?_
  refine lv_ldc2 hx hb hown (hts (.constantLong RL 13 (4294967295)) (List.mem_of_getElem? (i := 6) rfl)) dL_law_902 ?_
  refine lv_land hx hb dL_law_905 ?_
  refine lv_topl (fun z_11 e_12 => ?_)
  refine lv_lor hx hb dL_law_906 ?_
  refine lv_topl (fun z_13 e_14 => ?_)
  obtain ⟨_, at_15⟩ := rcv1 hG kt
  refine lw_calli (W.runV (As := [.int (xs (yi.toInt + 1).toNat), .int (xs (yi.toInt + 2).toNat), .long z_13]) (rest := []) ⟨hx, hb, hml, hown, hts⟩ (s_X9_chance l D tx cI cL cC gC gE G gW gA h0 (xs (yi.toInt + 1).toNat) (xs (yi.toInt + 2).toNat) z_13 (by omega) kt) (cwV 3 hts gu_L_X9_chance rfl rfl rfl (by decide +kernel) ⟨Nat.le_of_ble_eq_true rfl, Nat.le_of_ble_eq_true rfl⟩) (tP_V hG hE at_15 rfl) rfl rfl hl.1 rfl (lv_room (Nat.le_of_ble_eq_true rfl)) dL_law_907 ⟨hcl, hsl⟩) hS rfl hx0 (fun r_16 H locs hp_17 hG hS o_18 => ?_)
  replace hX := hX.kept (o_18 b (by rw [hx0 b hbl]; rfl))
  replace hM := tG.keptW hM o_18 (fun q h => by rw [dj q h]; rfl)
  refine lv_pop hx hb dL_law_910 rfl ?_
  refine lv_aload_n hx hb dL_law_911 rfl (lv_at hl 1 rfl) ?_
  refine lv_pc (pc2 := 912) rfl ?_
  refine lv_aload_n hx hb dL_law_912 rfl (lv_at hl 3 rfl) ?_
  refine lv_iload_n hx hb dL_law_913 rfl (lv_at hl 0 rfl) ?_
  refine lv_iconst (v := 1) hx hb dL_law_914 (by decide) ?_
  refine lv_iadd hx hb dL_law_915 ?_
  refine lv_topi (fun x_19 e_20 => ?_)
  have i_x_19 : x_19.toInt = yi.toInt + 1 := by rw [e_20]; exact (q_add (by rw [show (1 : Int32).toInt = 1 by decide]; omega) (by rw [show (1 : Int32).toInt = 1 by decide]; omega)).trans (by rw [show (1 : Int32).toInt = 1 by decide])
  refine ty_sld hx hb hX (i := x_19) (q_in (by omega) (by omega)) dL_law_916 ?_
  refine lv_seti (y := xs (yi.toInt + 1).toNat) (congrArg (fun q : Int => xs q.toNat) (show x_19.toInt = yi.toInt + 1 by omega)) ?_
  refine lv_aload_n hx hb dL_law_917 rfl (lv_at hl 3 rfl) ?_
  refine lv_iload_n hx hb dL_law_918 rfl (lv_at hl 0 rfl) ?_
  refine lv_iconst (v := 2) hx hb dL_law_919 (by decide) ?_
  refine lv_pc (pc2 := 920) rfl ?_
  refine lv_iadd hx hb dL_law_920 ?_
  refine lv_topi (fun x_21 e_22 => ?_)
  have i_x_21 : x_21.toInt = yi.toInt + 2 := by rw [e_22]; exact (q_add (by rw [show (2 : Int32).toInt = 2 by decide]; omega) (by rw [show (2 : Int32).toInt = 2 by decide]; omega)).trans (by rw [show (2 : Int32).toInt = 2 by decide])
  refine ty_sld hx hb hX (i := x_21) (q_in (by omega) (by omega)) dL_law_921 ?_
  refine lv_seti (y := xs (yi.toInt + 2).toNat) (congrArg (fun q : Int => xs q.toNat) (show x_21.toInt = yi.toInt + 2 by omega)) ?_
  refine lv_aload_n hx hb dL_law_922 rfl (lv_at hl 3 rfl) ?_
  refine lv_iload_n hx hb dL_law_923 rfl (lv_at hl 0 rfl) ?_
  refine lv_iconst (v := 3) hx hb dL_law_924 (by decide) ?_
  refine lv_iadd hx hb dL_law_925 ?_
  refine lv_topi (fun x_23 e_24 => ?_)
  have i_x_23 : x_23.toInt = yi.toInt + 3 := by rw [e_24]; exact (q_add (by rw [show (3 : Int32).toInt = 3 by decide]; omega) (by rw [show (3 : Int32).toInt = 3 by decide]; omega)).trans (by rw [show (3 : Int32).toInt = 3 by decide])
  refine ty_sld hx hb hX (i := x_23) (q_in (by omega) (by omega)) dL_law_926 ?_
  refine lv_seti (y := xs (yi.toInt + 3).toNat) (congrArg (fun q : Int => xs q.toNat) (show x_23.toInt = yi.toInt + 3 by omega)) ?_
  refine lv_i2l (v := (xs (yi.toInt + 3).toNat).toInt64) hx hb dL_law_927 rfl ?_
  refine lv_pc (pc2 := 928) rfl ?_
  refine lv_bipush (v := 32) hx hb dL_law_928 (by decide) ?_
  refine lv_lshl hx hb dL_law_930 rfl ?_
  refine lv_topl (fun z_25 e_26 => ?_)
  refine lv_aload_n hx hb dL_law_931 rfl (lv_at hl 3 rfl) ?_
  refine lv_iload_n hx hb dL_law_932 rfl (lv_at hl 0 rfl) ?_
  refine lv_iconst (v := 4) hx hb dL_law_933 (by decide) ?_
  refine lv_iadd hx hb dL_law_934 ?_
  refine lv_topi (fun x_27 e_28 => ?_)
  have i_x_27 : x_27.toInt = yi.toInt + 4 := by rw [e_28]; exact (q_add (by rw [show (4 : Int32).toInt = 4 by decide]; omega) (by rw [show (4 : Int32).toInt = 4 by decide]; omega)).trans (by rw [show (4 : Int32).toInt = 4 by decide])
  refine ty_sld hx hb hX (i := x_27) (q_in (by omega) (by omega)) dL_law_935 ?_
  refine lv_seti (y := xs (yi.toInt + 4).toNat) (congrArg (fun q : Int => xs q.toNat) (show x_27.toInt = yi.toInt + 4 by omega)) ?_
  refine lv_i2l (v := (xs (yi.toInt + 4).toNat).toInt64) hx hb dL_law_936 rfl ?_
  refine lv_pc (pc2 := 937) rfl ?_
  refine lv_ldc2 hx hb hown (hts (.constantLong RL 13 (4294967295)) (List.mem_of_getElem? (i := 6) rfl)) dL_law_937 ?_
  refine lv_land hx hb dL_law_940 ?_
  refine lv_topl (fun z_29 e_30 => ?_)
  refine lv_lor hx hb dL_law_941 ?_
  refine lv_topl (fun z_31 e_32 => ?_)
  obtain ⟨_, at_33⟩ := rcv40 hM kt2
  refine lx_calli (W.runV (As := [.int (xs (yi.toInt + 1).toNat), .int (xs (yi.toInt + 2).toNat), .long z_31]) (rest := []) ⟨hx, hb, hml, hown, hts⟩ (m_X10_chance l D tm cI cL cC gC gE gW gA gT gI gS gM K F S N gH gJ ge gk gf gs gg gr RN (h0 + 92) (xs (yi.toInt + 1).toNat) (xs (yi.toInt + 2).toNat) z_31 uqm hC0 hC4 hI0 hI4 hH0 hH9 hm0 hm3 hO0 hW kt2) (cwV 3 hts gu_L_X10_chance rfl rfl rfl (by decide +kernel) ⟨Nat.le_of_ble_eq_true rfl, Nat.le_of_ble_eq_true rfl⟩) (tP_V hM hE at_33 rfl) rfl rfl hl.1 rfl (lv_room (Nat.le_of_ble_eq_true rfl)) dL_law_942 ⟨hcl, hsl⟩) hS rfl hm00 (fun r_34 zz_39 H locs hp_35 hM hS o_36 => ?_)
  obtain ⟨gH_37, gJ_38⟩ := zz_39
  replace hX := hX.kept (o_36 b (by rw [hm00 b hbl]; rfl))
  replace hG := tG.keptW hG o_36 (fun q h => by rw [dj2 q h]; rfl)
  replace hM : tG D (mF cI cL cC gC gE gW gA gT gI gS gM K F S N gH_37 gJ_38 ge gk gf gs gg gr RN) tm H := hM
  have hp_35 : 0 ≤ gH_37 ∧ gH_37 ≤ 96 := hp_35
  obtain ⟨p_40, p_41⟩ := hp_35
  refine lv_pop hx hb dL_law_945 rfl ?_
  refine lv_goto (tgt := 1409) hx hb dL_law_946 (by decide) ?_
  exact kx H locs _ _ _ _ _ _ _ _ _ _ _ _ _ _ _ _ _ _ _ _ _ _ hG hM hC0 hC4 hI0 hI4 p_40 p_41 hm0 hm3 hO0 hW (by omega) hS hX

set_option maxRecDepth 20000 in
theorem gu_L_X9_warn : GoodIn wsL_law (wsV RL 117 RX9 yX9_warn uX9_warn) := goodIn_r _ [884, 885, 886, 2, 887, 608, 609, 2, 168, 169, 623, 624, 625, 848, 849, 850, 852, 853, 854, 51, 888, 889, 890, 50, 856, 857, 858, 892, 893, 894, 610, 170, 626, 23, 43, 627, 628, 629, 42, 630, 98, 851, 35, 428, 855, 819, 859, 36, 861, 862, 863, 34, 866, 836, 837, 20, 28, 750, 446, 447, 27, 751, 450, 451, 631, 632, 633, 860, 463, 464, 465, 749, 442, 443, 864, 86, 865, 724, 725, 726, 87, 88, 89, 90, 91, 92, 93, 838, 821, 116, 822, 448, 77, 452, 454, 455, 456, 453, 458, 459, 460, 489, 490, 491, 457, 461, 471, 353, 354, 19, 223, 479, 480, 481, 483, 484, 485, 466, 467, 468, 472, 473, 469, 475, 476, 477, 462, 470, 355, 66, 224, 482, 71, 68, 486, 487, 488, 474, 478, 250, 251, 252, 67, 352, 253, 492, 493, 494, 495, 496, 634, 637, 99, 636, 274, 635, 275, 444, 76, 891, 114, 895, 115, 1064, 1065, 1066, 1067, 1068, 1069, 1070, 1071, 1072, 1073, 1074, 1075, 1076, 1077, 1078, 1079, 1080, 1081, 1138, 1139, 1140, 1141, 1130, 1131, 1132, 1133, 1134, 1135, 1136, 1137, 1147, 1148, 1149, 1128, 1129, 1122, 1123, 1124, 1125, 1126, 1127] rfl (by decide +kernel)
set_option maxRecDepth 20000 in
theorem gu_L_X10_warn : GoodIn wsL_law (wsV RL 121 RX10 yX10_warn uX10_warn) := goodIn_r _ [896, 897, 898, 5, 899, 575, 182, 183, 5, 871, 320, 872, 873, 874, 153, 876, 877, 878, 880, 881, 882, 155, 184, 875, 642, 643, 644, 142, 501, 645, 370, 145, 879, 883, 785, 786, 787, 545, 789, 790, 791, 154, 141, 506, 507, 508, 646, 647, 648, 788, 143, 792, 509, 365, 137, 510, 511, 512, 138, 139, 140, 513, 514, 519, 520, 521, 515, 516, 517, 522, 518, 381, 382, 383, 384, 649, 146, 1082, 1083, 1084, 1085, 1086, 1087, 1088, 1089, 1090, 1091, 1092, 1093, 1094, 1095, 1096, 1097, 1098, 1099, 1100, 1101, 1102, 1103, 1104, 1105, 1106, 1107, 1108, 1109, 1110, 1111, 1112, 1113, 1114, 1115, 1116, 1117] rfl (by decide +kernel)
set_option maxHeartbeats 4000000 in
set_option maxRecDepth 100000 in
theorem lc_23 {p : Program} {l : Launch} {e : Env} {s : State} {m : MethodId} {below : List Frame} {meth : Method} {c : Code} {cells slots : Nat} {Q : State → Prop} {b h0 L : Nat} {xs : Nat → Int32} {yi : Int32} {D : va_G} {cI cL cC : ClassId} {tx tm : Nat → Nat} {H : Heap} {locs : List Loc} {ls : Array Slot} {gC : Int32} {gE : Int32} {G : Nat} {gW : Nat → Int32} {gA : Nat → Int32} {gT : Nat → Int32} {gI : Int32} {gS : Int32} {gM : Int32} {K : Nat → Int32} {F : Nat → Int32} {S : Nat → Int32} {N : Nat → Int32} {gH : Int} {gJ : Int} {ge : Int32} {gk : Int32} {gf : Int32} {gs : Int32} {gg : Int32} {gr : Int32} {RN : Nat → Int32} (hx : p.tables.exec = Jvm.exec) (hb : c.code = cL_law) (hml : c.maxLocals = 4) (hown : s.vm.findClass RL = some m.cls) (hts : ∀ w ∈ wsL_law, w.before #[Value.ref b] s = true) (hE : EV D cI cL cC s) (hbl : b < h0) (hG : tG D (gF cI cL cC gC gE G gW gA) tx H) (hM : tG D (mF cI cL cC gC gE gW gA gT gI gS gM K F S N gH gJ ge gk gf gs gg gr RN) tm H) (kt : tx h0 = 1) (kt2 : tm (h0 + 92) = 40) (hx0 : ∀ q : Nat, q < h0 → tx q = 0) (hm00 : ∀ q : Nat, q < h0 → tm q = 0) (dj : ∀ q : Nat, tm q ≠ 0 → tx q = 0) (dj2 : ∀ q : Nat, tx q ≠ 0 → tm q = 0) (uq_gC : ∀ b c : Nat, tx b = 2 → tx c = 2 → b = c) (uq_gE : ∀ b c : Nat, tx b = 6 → tx c = 6 → b = c) (uq_gW : ∀ b c : Nat, tx b = 29 → tx c = 29 → b = c) (uq_gA : ∀ b c : Nat, tx b = 31 → tx c = 31 → b = c) (uqm : ∀ b c : Nat, tm b = tm c → tm b ≠ 0 → b = c) (hC0 : 0 ≤ gC.toInt) (hC4 : gC.toInt ≤ 400) (hI0 : 0 ≤ gI.toInt) (hI4 : gI.toInt ≤ 40) (hH0 : 0 ≤ gH) (hH9 : gH ≤ 96) (hm0 : 0 ≤ gM.toInt) (hm3 : gM.toInt ≤ 3) (hO0 : okM K F S N 0 gI.toInt) (hW : swM gS K F S N gI.toInt) (hGb : (G : Int) ≤ 3072 * yi.toInt) (hy0 : 0 ≤ yi.toInt) (hy8 : yi.toInt + 8 ≤ (L : Int)) (hL : L ≤ 4096) (hS : cF h0 s.heap H locs) (hX : va_X b L xs s H) (hl : lv_has ls 4 [(3, .int yi), (2, .ref (h0 + 92)), (1, .ref h0), (0, .ref b)]) (hcl : cells ≤ 600000) (hsl : slots ≤ 7302250) (kx : ∀ (H1 : Heap) (locs1 : List Loc) (gC' : Int32) (gE' : Int32) (G' : Nat) (gW' : Nat → Int32) (gA' : Nat → Int32) (gT' : Nat → Int32) (gI' : Int32) (gS' : Int32) (gM' : Int32) (K' : Nat → Int32) (F' : Nat → Int32) (S' : Nat → Int32) (N' : Nat → Int32) (gH' : Int) (gJ' : Int) (ge' : Int32) (gk' : Int32) (gf' : Int32) (gs' : Int32) (gg' : Int32) (gr' : Int32) (RN' : Nat → Int32), tG D (gF cI cL cC gC' gE' G' gW' gA') tx H1 → tG D (mF cI cL cC gC' gE' gW' gA' gT' gI' gS' gM' K' F' S' N' gH' gJ' ge' gk' gf' gs' gg' gr' RN') tm H1 → 0 ≤ gC'.toInt → gC'.toInt ≤ 400 → 0 ≤ gI'.toInt → gI'.toInt ≤ 40 → 0 ≤ gH' → gH' ≤ 96 → 0 ≤ gM'.toInt → gM'.toInt ≤ 3 → okM K' F' S' N' 0 gI'.toInt → swM gS' K' F' S' N' gI'.toInt → (G' : Int) ≤ 3072 * yi.toInt + 24576 → cF h0 s.heap H1 locs1 → va_X b L xs s H1 → W p l e room_1 s m #[Value.ref b] below meth c H1 locs1 cells slots Q (F0 m 1409 ls [])) : W p l e room_1 s m #[Value.ref b] below meth c H locs cells slots Q (F0 m 949 ls []) := by
  refine lv_aload_n hx hb dL_law_949 rfl (lv_at hl 2 rfl) ?_
  refine lv_aload_n hx hb dL_law_950 rfl (lv_at hl 3 rfl) ?_
  refine lv_iload_n hx hb dL_law_951 rfl (lv_at hl 0 rfl) ?_
  refine lv_iconst (v := 1) hx hb dL_law_952 (by decide) ?_
  refine lv_iadd hx hb dL_law_953 ?_
  refine lv_topi (fun x_1 e_2 => ?_)
  have i_x_1 : x_1.toInt = yi.toInt + 1 := by rw [e_2]; exact (q_add (by rw [show (1 : Int32).toInt = 1 by decide]; omega) (by rw [show (1 : Int32).toInt = 1 by decide]; omega)).trans (by rw [show (1 : Int32).toInt = 1 by decide])
  refine ty_sld hx hb hX (i := x_1) (q_in (by omega) (by omega)) dL_law_954 ?_
  refine lv_seti (y := xs (yi.toInt + 1).toNat) (congrArg (fun q : Int => xs q.toNat) (show x_1.toInt = yi.toInt + 1 by omega)) ?_
  refine lv_aload_n hx hb dL_law_955 rfl (lv_at hl 3 rfl) ?_
  refine lv_pc (pc2 := 956) rfl ?_
  refine lv_iload_n hx hb dL_law_956 rfl (lv_at hl 0 rfl) ?_
  refine lv_iconst (v := 2) hx hb dL_law_957 (by decide) ?_
  refine lv_iadd hx hb dL_law_958 ?_
  refine lv_topi (fun x_3 e_4 => ?_)
  have i_x_3 : x_3.toInt = yi.toInt + 2 := by rw [e_4]; exact (q_add (by rw [show (2 : Int32).toInt = 2 by decide]; omega) (by rw [show (2 : Int32).toInt = 2 by decide]; omega)).trans (by rw [show (2 : Int32).toInt = 2 by decide])
  refine ty_sld hx hb hX (i := x_3) (q_in (by omega) (by omega)) dL_law_959 ?_
  refine lv_seti (y := xs (yi.toInt + 2).toNat) (congrArg (fun q : Int => xs q.toNat) (show x_3.toInt = yi.toInt + 2 by omega)) ?_
  refine lv_aload_n hx hb dL_law_960 rfl (lv_at hl 3 rfl) ?_
  refine lv_iload_n hx hb dL_law_961 rfl (lv_at hl 0 rfl) ?_
  refine lv_iconst (v := 3) hx hb dL_law_962 (by decide) ?_
  refine lv_iadd hx hb dL_law_963 ?_
  refine lv_topi (fun x_5 e_6 => ?_)
  have i_x_5 : x_5.toInt = yi.toInt + 3 := by rw [e_6]; exact (q_add (by rw [show (3 : Int32).toInt = 3 by decide]; omega) (by rw [show (3 : Int32).toInt = 3 by decide]; omega)).trans (by rw [show (3 : Int32).toInt = 3 by decide])
  refine lv_pc (pc2 := 964) rfl ?_
  refine ty_sld hx hb hX (i := x_5) (q_in (by omega) (by omega)) dL_law_964 ?_
  refine lv_seti (y := xs (yi.toInt + 3).toNat) (congrArg (fun q : Int => xs q.toNat) (show x_5.toInt = yi.toInt + 3 by omega)) ?_
  refine lv_i2l (v := (xs (yi.toInt + 3).toNat).toInt64) hx hb dL_law_965 rfl ?_
  refine lv_bipush (v := 32) hx hb dL_law_966 (by decide) ?_
  refine lv_lshl hx hb dL_law_968 rfl ?_
  refine lv_topl (fun z_7 e_8 => ?_)
  refine lv_aload_n hx hb dL_law_969 rfl (lv_at hl 3 rfl) ?_
  refine lv_iload_n hx hb dL_law_970 rfl (lv_at hl 0 rfl) ?_
  refine lv_iconst (v := 4) hx hb dL_law_971 (by decide) ?_
  refine lv_iadd hx hb dL_law_972 ?_
  refine lv_topi (fun x_9 e_10 => ?_)
  have i_x_9 : x_9.toInt = yi.toInt + 4 := by rw [e_10]; exact (q_add (by rw [show (4 : Int32).toInt = 4 by decide]; omega) (by rw [show (4 : Int32).toInt = 4 by decide]; omega)).trans (by rw [show (4 : Int32).toInt = 4 by decide])
  refine lv_pc (pc2 := 973) rfl ?_
  refine ty_sld hx hb hX (i := x_9) (q_in (by omega) (by omega)) dL_law_973 ?_
  refine lv_seti (y := xs (yi.toInt + 4).toNat) (congrArg (fun q : Int => xs q.toNat) (show x_9.toInt = yi.toInt + 4 by omega)) ?_
  refine lv_i2l (v := (xs (yi.toInt + 4).toNat).toInt64) hx hb dL_law_974 rfl ?_
  refine lv_ldc2 hx hb hown (hts (.constantLong RL 13 (4294967295)) (List.mem_of_getElem? (i := 6) rfl)) dL_law_975 ?_
  refine lv_land hx hb dL_law_978 ?_
  refine lv_topl (fun z_11 e_12 => ?_)
  refine lv_lor hx hb dL_law_979 ?_
  refine lv_topl (fun z_13 e_14 => ?_)
  refine lv_aload_n hx hb dL_law_980 rfl (lv_at hl 3 rfl) ?_
  refine lv_iload_n hx hb dL_law_981 rfl (lv_at hl 0 rfl) ?_
  refine lv_iconst (v := 5) hx hb dL_law_982 (by decide) ?_
  refine lv_pc (pc2 := 983) rfl ?_
  refine lv_iadd hx hb dL_law_983 ?_
  refine lv_topi (fun x_15 e_16 => ?_)
  have i_x_15 : x_15.toInt = yi.toInt + 5 := by rw [e_16]; exact (q_add (by rw [show (5 : Int32).toInt = 5 by decide]; omega) (by rw [show (5 : Int32).toInt = 5 by decide]; omega)).trans (by rw [show (5 : Int32).toInt = 5 by decide])
  refine ty_sld hx hb hX (i := x_15) (q_in (by omega) (by omega)) dL_law_984 ?_
  refine lv_seti (y := xs (yi.toInt + 5).toNat) (congrArg (fun q : Int => xs q.toNat) (show x_15.toInt = yi.toInt + 5 by omega)) ?_
  obtain ⟨_, at_17⟩ := rcv1 hG kt
  refine lw_calli (W.runV (As := [.int (xs (yi.toInt + 1).toNat), .int (xs (yi.toInt + 2).toNat), .long z_13, .int (xs (yi.toInt + 5).toNat)]) (rest := []) ⟨hx, hb, hml, hown, hts⟩ (s_X9_warn l D tx cI cL cC gC gE G gW gA h0 (xs (yi.toInt + 1).toNat) (xs (yi.toInt + 2).toNat) z_13 (xs (yi.toInt + 5).toNat) (by omega) kt) (cwV 4 hts gu_L_X9_warn rfl rfl rfl (by decide +kernel) ⟨Nat.le_of_ble_eq_true rfl, Nat.le_of_ble_eq_true rfl⟩) (tP_V hG hE at_17 rfl) rfl rfl hl.1 rfl (lv_room (Nat.le_of_ble_eq_true rfl)) dL_law_985 ⟨hcl, hsl⟩) hS rfl hx0 (fun r_18 H locs hp_19 hG hS o_20 => ?_)
  replace hX := hX.kept (o_20 b (by rw [hx0 b hbl]; rfl))
  replace hM := tG.keptW hM o_20 (fun q h => by rw [dj q h]; rfl)
  refine lv_pop hx hb dL_law_988 rfl ?_
  refine lv_aload_n hx hb dL_law_989 rfl (lv_at hl 1 rfl) ?_
  refine lv_aload_n hx hb dL_law_990 rfl (lv_at hl 3 rfl) ?_
  refine lv_iload_n hx hb dL_law_991 rfl (lv_at hl 0 rfl) ?_
  refine lv_iconst (v := 1) hx hb dL_law_992 (by decide) ?_
  refine lv_pc (pc2 := 993) rfl ?_
  refine lv_iadd hx hb dL_law_993 ?_
  refine lv_topi (fun x_21 e_22 => ?_)
  have i_x_21 : x_21.toInt = yi.toInt + 1 := by rw [e_22]; exact (q_add (by rw [show (1 : Int32).toInt = 1 by decide]; omega) (by rw [show (1 : Int32).toInt = 1 by decide]; omega)).trans (by rw [show (1 : Int32).toInt = 1 by decide])
  refine ty_sld hx hb hX (i := x_21) (q_in (by omega) (by omega)) dL_law_994 ?_
  refine lv_seti (y := xs (yi.toInt + 1).toNat) (congrArg (fun q : Int => xs q.toNat) (show x_21.toInt = yi.toInt + 1 by omega)) ?_
  refine lv_aload_n hx hb dL_law_995 rfl (lv_at hl 3 rfl) ?_
  refine lv_iload_n hx hb dL_law_996 rfl (lv_at hl 0 rfl) ?_
  refine lv_iconst (v := 2) hx hb dL_law_997 (by decide) ?_
  refine lv_iadd hx hb dL_law_998 ?_
  refine lv_topi (fun x_23 e_24 => ?_)
  have i_x_23 : x_23.toInt = yi.toInt + 2 := by rw [e_24]; exact (q_add (by rw [show (2 : Int32).toInt = 2 by decide]; omega) (by rw [show (2 : Int32).toInt = 2 by decide]; omega)).trans (by rw [show (2 : Int32).toInt = 2 by decide])
  refine ty_sld hx hb hX (i := x_23) (q_in (by omega) (by omega)) dL_law_999 ?_
  refine lv_seti (y := xs (yi.toInt + 2).toNat) (congrArg (fun q : Int => xs q.toNat) (show x_23.toInt = yi.toInt + 2 by omega)) ?_
  refine lv_aload_n hx hb dL_law_1000 rfl (lv_at hl 3 rfl) ?_
  refine lv_pc (pc2 := 1001) rfl ?_
  refine lv_iload_n hx hb dL_law_1001 rfl (lv_at hl 0 rfl) ?_
  refine lv_iconst (v := 3) hx hb dL_law_1002 (by decide) ?_
  refine lv_iadd hx hb dL_law_1003 ?_
  refine lv_topi (fun x_25 e_26 => ?_)
  have i_x_25 : x_25.toInt = yi.toInt + 3 := by rw [e_26]; exact (q_add (by rw [show (3 : Int32).toInt = 3 by decide]; omega) (by rw [show (3 : Int32).toInt = 3 by decide]; omega)).trans (by rw [show (3 : Int32).toInt = 3 by decide])
  refine ty_sld hx hb hX (i := x_25) (q_in (by omega) (by omega)) dL_law_1004 ?_
  refine lv_seti (y := xs (yi.toInt + 3).toNat) (congrArg (fun q : Int => xs q.toNat) (show x_25.toInt = yi.toInt + 3 by omega)) ?_
  refine lv_i2l (v := (xs (yi.toInt + 3).toNat).toInt64) hx hb dL_law_1005 rfl ?_
  refine lv_bipush (v := 32) hx hb dL_law_1006 (by decide) ?_
  refine lv_lshl hx hb dL_law_1008 rfl ?_
  refine lv_topl (fun z_27 e_28 => ?_)
  refine lv_aload_n hx hb dL_law_1009 rfl (lv_at hl 3 rfl) ?_
  refine lv_pc (pc2 := 1010) rfl ?_
  refine lv_iload_n hx hb dL_law_1010 rfl (lv_at hl 0 rfl) ?_
  refine lv_iconst (v := 4) hx hb dL_law_1011 (by decide) ?_
  refine lv_iadd hx hb dL_law_1012 ?_
  refine lv_topi (fun x_29 e_30 => ?_)
  have i_x_29 : x_29.toInt = yi.toInt + 4 := by rw [e_30]; exact (q_add (by rw [show (4 : Int32).toInt = 4 by decide]; omega) (by rw [show (4 : Int32).toInt = 4 by decide]; omega)).trans (by rw [show (4 : Int32).toInt = 4 by decide])
  refine ty_sld hx hb hX (i := x_29) (q_in (by omega) (by omega)) dL_law_1013 ?_
  refine lv_seti (y := xs (yi.toInt + 4).toNat) (congrArg (fun q : Int => xs q.toNat) (show x_29.toInt = yi.toInt + 4 by omega)) ?_
  refine lv_i2l (v := (xs (yi.toInt + 4).toNat).toInt64) hx hb dL_law_1014 rfl ?_
  refine lv_ldc2 hx hb hown (hts (.constantLong RL 13 (4294967295)) (List.mem_of_getElem? (i := 6) rfl)) dL_law_1015 ?_
  refine lv_land hx hb dL_law_1018 ?_
  refine lv_topl (fun z_31 e_32 => ?_)
  refine lv_lor hx hb dL_law_1019 ?_
  refine lv_topl (fun z_33 e_34 => ?_)
  refine lv_pc (pc2 := 1020) rfl ?_
  refine lv_aload_n hx hb dL_law_1020 rfl (lv_at hl 3 rfl) ?_
  refine lv_iload_n hx hb dL_law_1021 rfl (lv_at hl 0 rfl) ?_
  refine lv_iconst (v := 5) hx hb dL_law_1022 (by decide) ?_
  refine lv_iadd hx hb dL_law_1023 ?_
  refine lv_topi (fun x_35 e_36 => ?_)
  have i_x_35 : x_35.toInt = yi.toInt + 5 := by rw [e_36]; exact (q_add (by rw [show (5 : Int32).toInt = 5 by decide]; omega) (by rw [show (5 : Int32).toInt = 5 by decide]; omega)).trans (by rw [show (5 : Int32).toInt = 5 by decide])
  refine ty_sld hx hb hX (i := x_35) (q_in (by omega) (by omega)) dL_law_1024 ?_
  refine lv_seti (y := xs (yi.toInt + 5).toNat) (congrArg (fun q : Int => xs q.toNat) (show x_35.toInt = yi.toInt + 5 by omega)) ?_
  obtain ⟨_, at_37⟩ := rcv40 hM kt2
  refine lx_calli (W.runV (As := [.int (xs (yi.toInt + 1).toNat), .int (xs (yi.toInt + 2).toNat), .long z_33, .int (xs (yi.toInt + 5).toNat)]) (rest := []) ⟨hx, hb, hml, hown, hts⟩ (m_X10_warn l D tm cI cL cC gC gE gW gA gT gI gS gM K F S N gH gJ ge gk gf gs gg gr RN (h0 + 92) (xs (yi.toInt + 1).toNat) (xs (yi.toInt + 2).toNat) z_33 (xs (yi.toInt + 5).toNat) uqm hC0 hC4 hI0 hI4 hH0 hH9 hm0 hm3 hO0 hW kt2) (cwV 4 hts gu_L_X10_warn rfl rfl rfl (by decide +kernel) ⟨Nat.le_of_ble_eq_true rfl, Nat.le_of_ble_eq_true rfl⟩) (tP_V hM hE at_37 rfl) rfl rfl hl.1 rfl (lv_room (Nat.le_of_ble_eq_true rfl)) dL_law_1025 ⟨hcl, hsl⟩) hS rfl hm00 (fun r_38 zz_43 H locs hp_39 hM hS o_40 => ?_)
  obtain ⟨gH_41, gJ_42⟩ := zz_43
  replace hX := hX.kept (o_40 b (by rw [hm00 b hbl]; rfl))
  replace hG := tG.keptW hG o_40 (fun q h => by rw [dj2 q h]; rfl)
  replace hM : tG D (mF cI cL cC gC gE gW gA gT gI gS gM K F S N gH_41 gJ_42 ge gk gf gs gg gr RN) tm H := hM
  have hp_39 : 0 ≤ gH_41 ∧ gH_41 ≤ 96 := hp_39
  obtain ⟨p_44, p_45⟩ := hp_39
  refine lv_pop hx hb dL_law_1028 rfl ?_
  refine lv_goto (tgt := 1409) hx hb dL_law_1029 (by decide) ?_
  exact kx H locs _ _ _ _ _ _ _ _ _ _ _ _ _ _ _ _ _ _ _ _ _ _ hG hM hC0 hC4 hI0 hI4 p_44 p_45 hm0 hm3 hO0 hW (by omega) hS hX

set_option maxRecDepth 20000 in
theorem gu_L_X9_booked : GoodIn wsL_law (wsV RL 122 RX9 yX9_booked uX9_booked) := goodIn_r _ [900, 901, 902, 2, 903, 168, 169, 2, 51, 904, 170, 1064, 1065, 1066, 1067, 1068, 1069, 1070, 1071, 1072, 1073, 1074, 1075, 1076, 1077, 1078, 1079, 1080, 1081, 1147, 1148, 1149] rfl (by decide +kernel)
set_option maxRecDepth 20000 in
theorem gu_L_X10_booked : GoodIn wsL_law (wsV RL 125 RX10 yX10_booked uX10_booked) := goodIn_r _ [905, 906, 907, 5, 908, 575, 182, 183, 5, 155, 184, 1082, 1083, 1084, 1085, 1086, 1087, 1088, 1089, 1090, 1091, 1092, 1093, 1094, 1095, 1096, 1097, 1098, 1099, 1100, 1101, 1102, 1103, 1104, 1105, 1106, 1107, 1108, 1109, 1110, 1111, 1112, 1113, 1114, 1115, 1116, 1117] rfl (by decide +kernel)
set_option maxHeartbeats 4000000 in
set_option maxRecDepth 100000 in
theorem lc_24 {p : Program} {l : Launch} {e : Env} {s : State} {m : MethodId} {below : List Frame} {meth : Method} {c : Code} {cells slots : Nat} {Q : State → Prop} {b h0 L : Nat} {xs : Nat → Int32} {yi : Int32} {D : va_G} {cI cL cC : ClassId} {tx tm : Nat → Nat} {H : Heap} {locs : List Loc} {ls : Array Slot} {gC : Int32} {gE : Int32} {G : Nat} {gW : Nat → Int32} {gA : Nat → Int32} {gT : Nat → Int32} {gI : Int32} {gS : Int32} {gM : Int32} {K : Nat → Int32} {F : Nat → Int32} {S : Nat → Int32} {N : Nat → Int32} {gH : Int} {gJ : Int} {ge : Int32} {gk : Int32} {gf : Int32} {gs : Int32} {gg : Int32} {gr : Int32} {RN : Nat → Int32} (hx : p.tables.exec = Jvm.exec) (hb : c.code = cL_law) (hml : c.maxLocals = 4) (hown : s.vm.findClass RL = some m.cls) (hts : ∀ w ∈ wsL_law, w.before #[Value.ref b] s = true) (hE : EV D cI cL cC s) (hbl : b < h0) (hG : tG D (gF cI cL cC gC gE G gW gA) tx H) (hM : tG D (mF cI cL cC gC gE gW gA gT gI gS gM K F S N gH gJ ge gk gf gs gg gr RN) tm H) (kt : tx h0 = 1) (kt2 : tm (h0 + 92) = 40) (hx0 : ∀ q : Nat, q < h0 → tx q = 0) (hm00 : ∀ q : Nat, q < h0 → tm q = 0) (dj : ∀ q : Nat, tm q ≠ 0 → tx q = 0) (dj2 : ∀ q : Nat, tx q ≠ 0 → tm q = 0) (uq_gC : ∀ b c : Nat, tx b = 2 → tx c = 2 → b = c) (uq_gE : ∀ b c : Nat, tx b = 6 → tx c = 6 → b = c) (uq_gW : ∀ b c : Nat, tx b = 29 → tx c = 29 → b = c) (uq_gA : ∀ b c : Nat, tx b = 31 → tx c = 31 → b = c) (uqm : ∀ b c : Nat, tm b = tm c → tm b ≠ 0 → b = c) (hC0 : 0 ≤ gC.toInt) (hC4 : gC.toInt ≤ 400) (hI0 : 0 ≤ gI.toInt) (hI4 : gI.toInt ≤ 40) (hH0 : 0 ≤ gH) (hH9 : gH ≤ 96) (hm0 : 0 ≤ gM.toInt) (hm3 : gM.toInt ≤ 3) (hO0 : okM K F S N 0 gI.toInt) (hW : swM gS K F S N gI.toInt) (hGb : (G : Int) ≤ 3072 * yi.toInt) (hy0 : 0 ≤ yi.toInt) (hy8 : yi.toInt + 8 ≤ (L : Int)) (hL : L ≤ 4096) (hS : cF h0 s.heap H locs) (hX : va_X b L xs s H) (hl : lv_has ls 4 [(3, .int yi), (2, .ref (h0 + 92)), (1, .ref h0), (0, .ref b)]) (hcl : cells ≤ 600000) (hsl : slots ≤ 7302250) (kx : ∀ (H1 : Heap) (locs1 : List Loc) (gC' : Int32) (gE' : Int32) (G' : Nat) (gW' : Nat → Int32) (gA' : Nat → Int32) (gT' : Nat → Int32) (gI' : Int32) (gS' : Int32) (gM' : Int32) (K' : Nat → Int32) (F' : Nat → Int32) (S' : Nat → Int32) (N' : Nat → Int32) (gH' : Int) (gJ' : Int) (ge' : Int32) (gk' : Int32) (gf' : Int32) (gs' : Int32) (gg' : Int32) (gr' : Int32) (RN' : Nat → Int32), tG D (gF cI cL cC gC' gE' G' gW' gA') tx H1 → tG D (mF cI cL cC gC' gE' gW' gA' gT' gI' gS' gM' K' F' S' N' gH' gJ' ge' gk' gf' gs' gg' gr' RN') tm H1 → 0 ≤ gC'.toInt → gC'.toInt ≤ 400 → 0 ≤ gI'.toInt → gI'.toInt ≤ 40 → 0 ≤ gH' → gH' ≤ 96 → 0 ≤ gM'.toInt → gM'.toInt ≤ 3 → okM K' F' S' N' 0 gI'.toInt → swM gS' K' F' S' N' gI'.toInt → (G' : Int) ≤ 3072 * yi.toInt + 24576 → cF h0 s.heap H1 locs1 → va_X b L xs s H1 → W p l e room_1 s m #[Value.ref b] below meth c H1 locs1 cells slots Q (F0 m 1409 ls [])) : W p l e room_1 s m #[Value.ref b] below meth c H locs cells slots Q (F0 m 1032 ls []) := by
  refine lv_aload_n hx hb dL_law_1032 rfl (lv_at hl 2 rfl) ?_
  refine lv_aload_n hx hb dL_law_1033 rfl (lv_at hl 3 rfl) ?_
  refine lv_iload_n hx hb dL_law_1034 rfl (lv_at hl 0 rfl) ?_
  refine lv_iconst (v := 1) hx hb dL_law_1035 (by decide) ?_
  refine lv_iadd hx hb dL_law_1036 ?_
  refine lv_topi (fun x_1 e_2 => ?_)
  have i_x_1 : x_1.toInt = yi.toInt + 1 := by rw [e_2]; exact (q_add (by rw [show (1 : Int32).toInt = 1 by decide]; omega) (by rw [show (1 : Int32).toInt = 1 by decide]; omega)).trans (by rw [show (1 : Int32).toInt = 1 by decide])
  refine ty_sld hx hb hX (i := x_1) (q_in (by omega) (by omega)) dL_law_1037 ?_
  refine lv_seti (y := xs (yi.toInt + 1).toNat) (congrArg (fun q : Int => xs q.toNat) (show x_1.toInt = yi.toInt + 1 by omega)) ?_
  obtain ⟨_, at_3⟩ := rcv1 hG kt
  refine lw_calli (W.runV (As := [.int (xs (yi.toInt + 1).toNat)]) (rest := []) ⟨hx, hb, hml, hown, hts⟩ (s_X9_booked l D tx cI cL cC gC gE G gW gA h0 (xs (yi.toInt + 1).toNat) kt) (cwV 1 hts gu_L_X9_booked rfl rfl rfl (by decide +kernel) ⟨Nat.le_of_ble_eq_true rfl, Nat.le_of_ble_eq_true rfl⟩) (tP_V hG hE at_3 rfl) rfl rfl hl.1 rfl (lv_room (Nat.le_of_ble_eq_true rfl)) dL_law_1038 ⟨hcl, hsl⟩) hS rfl hx0 (fun r_4 H locs hp_5 hG hS o_6 => ?_)
  replace hX := hX.kept (o_6 b (by rw [hx0 b hbl]; rfl))
  replace hM := tG.keptW hM o_6 (fun q h => by rw [dj q h]; rfl)
  refine lv_pc (pc2 := 1041) rfl ?_
  refine lv_pop hx hb dL_law_1041 rfl ?_
  refine lv_aload_n hx hb dL_law_1042 rfl (lv_at hl 1 rfl) ?_
  refine lv_aload_n hx hb dL_law_1043 rfl (lv_at hl 3 rfl) ?_
  refine lv_iload_n hx hb dL_law_1044 rfl (lv_at hl 0 rfl) ?_
  refine lv_iconst (v := 1) hx hb dL_law_1045 (by decide) ?_
  refine lv_iadd hx hb dL_law_1046 ?_
  refine lv_topi (fun x_7 e_8 => ?_)
  have i_x_7 : x_7.toInt = yi.toInt + 1 := by rw [e_8]; exact (q_add (by rw [show (1 : Int32).toInt = 1 by decide]; omega) (by rw [show (1 : Int32).toInt = 1 by decide]; omega)).trans (by rw [show (1 : Int32).toInt = 1 by decide])
  refine ty_sld hx hb hX (i := x_7) (q_in (by omega) (by omega)) dL_law_1047 ?_
  refine lv_seti (y := xs (yi.toInt + 1).toNat) (congrArg (fun q : Int => xs q.toNat) (show x_7.toInt = yi.toInt + 1 by omega)) ?_
  obtain ⟨_, at_9⟩ := rcv40 hM kt2
  refine lw_calli (W.runV (As := [.int (xs (yi.toInt + 1).toNat)]) (rest := []) ⟨hx, hb, hml, hown, hts⟩ (m_X10_booked l D tm cI cL cC gC gE gW gA gT gI gS gM K F S N gH gJ ge gk gf gs gg gr RN (h0 + 92) (xs (yi.toInt + 1).toNat) uqm hC0 hC4 hI0 hI4 hH0 hH9 hm0 hm3 hO0 hW kt2) (cwV 1 hts gu_L_X10_booked rfl rfl rfl (by decide +kernel) ⟨Nat.le_of_ble_eq_true rfl, Nat.le_of_ble_eq_true rfl⟩) (tP_V hM hE at_9 rfl) rfl rfl hl.1 rfl (lv_room (Nat.le_of_ble_eq_true rfl)) dL_law_1048 ⟨hcl, hsl⟩) hS rfl hm00 (fun r_10 H locs hp_11 hM hS o_12 => ?_)
  replace hX := hX.kept (o_12 b (by rw [hm00 b hbl]; rfl))
  replace hG := tG.keptW hG o_12 (fun q h => by rw [dj2 q h]; rfl)
  refine lv_pc (pc2 := 1051) rfl ?_
  refine lv_pop hx hb dL_law_1051 rfl ?_
  refine lv_goto (tgt := 1409) hx hb dL_law_1052 (by decide) ?_
  exact kx H locs _ _ _ _ _ _ _ _ _ _ _ _ _ _ _ _ _ _ _ _ _ _ hG hM hC0 hC4 hI0 hI4 hH0 hH9 hm0 hm3 hO0 hW (by omega) hS hX

set_option maxRecDepth 20000 in
theorem gu_L_X9_peak : GoodIn wsL_law (wsV RL 126 RX9 yX9_peak uX9_peak) := goodIn_r _ [909, 910, 911, 2, 912, 608, 609, 2, 527, 168, 169, 623, 624, 625, 848, 849, 850, 856, 857, 858, 528, 610, 170, 626, 23, 43, 627, 628, 629, 42, 630, 98, 851, 35, 428, 859, 36, 861, 862, 863, 34, 51, 866, 836, 837, 50, 20, 28, 750, 446, 447, 27, 751, 450, 451, 631, 632, 633, 860, 463, 464, 465, 749, 442, 443, 864, 86, 865, 724, 725, 726, 87, 88, 89, 90, 91, 92, 93, 838, 821, 116, 822, 448, 77, 452, 454, 455, 456, 453, 458, 459, 460, 489, 490, 491, 457, 461, 471, 353, 354, 19, 223, 479, 480, 481, 483, 484, 485, 466, 467, 468, 472, 473, 469, 475, 476, 477, 462, 470, 355, 66, 224, 482, 71, 68, 486, 487, 488, 474, 478, 250, 251, 252, 67, 352, 253, 492, 493, 494, 495, 496, 634, 637, 99, 636, 274, 635, 275, 444, 76, 1064, 1065, 1066, 1067, 1068, 1069, 1070, 1071, 1072, 1073, 1074, 1075, 1076, 1077, 1078, 1079, 1080, 1081, 1138, 1139, 1140, 1141, 1130, 1131, 1132, 1133, 1134, 1135, 1136, 1137, 1147, 1148, 1149, 1128, 1129, 1122, 1123, 1124, 1125, 1126, 1127] rfl (by decide +kernel)
set_option maxRecDepth 20000 in
theorem gu_L_X10_peak : GoodIn wsL_law (wsV RL 130 RX10 yX10_peak uX10_peak) := goodIn_r _ [913, 914, 915, 5, 916, 575, 182, 183, 5, 871, 545, 872, 873, 874, 880, 881, 882, 546, 184, 875, 642, 643, 644, 142, 501, 645, 370, 145, 883, 785, 786, 787, 789, 790, 791, 154, 141, 506, 507, 508, 646, 647, 648, 788, 143, 792, 509, 365, 137, 510, 511, 512, 138, 139, 140, 513, 514, 519, 520, 521, 320, 515, 516, 517, 522, 518, 381, 382, 383, 384, 649, 146, 1082, 1083, 1084, 1085, 1086, 1087, 1088, 1089, 1090, 1091, 1092, 1093, 1094, 1095, 1096, 1097, 1098, 1099, 1100, 1101, 1102, 1103, 1104, 1105, 1106, 1107, 1108, 1109, 1110, 1111, 1112, 1113, 1114, 1115, 1116, 1117] rfl (by decide +kernel)
set_option maxHeartbeats 4000000 in
set_option maxRecDepth 100000 in
theorem lc_25 {p : Program} {l : Launch} {e : Env} {s : State} {m : MethodId} {below : List Frame} {meth : Method} {c : Code} {cells slots : Nat} {Q : State → Prop} {b h0 L : Nat} {xs : Nat → Int32} {yi : Int32} {D : va_G} {cI cL cC : ClassId} {tx tm : Nat → Nat} {H : Heap} {locs : List Loc} {ls : Array Slot} {gC : Int32} {gE : Int32} {G : Nat} {gW : Nat → Int32} {gA : Nat → Int32} {gT : Nat → Int32} {gI : Int32} {gS : Int32} {gM : Int32} {K : Nat → Int32} {F : Nat → Int32} {S : Nat → Int32} {N : Nat → Int32} {gH : Int} {gJ : Int} {ge : Int32} {gk : Int32} {gf : Int32} {gs : Int32} {gg : Int32} {gr : Int32} {RN : Nat → Int32} (hx : p.tables.exec = Jvm.exec) (hb : c.code = cL_law) (hml : c.maxLocals = 4) (hown : s.vm.findClass RL = some m.cls) (hts : ∀ w ∈ wsL_law, w.before #[Value.ref b] s = true) (hE : EV D cI cL cC s) (hbl : b < h0) (hG : tG D (gF cI cL cC gC gE G gW gA) tx H) (hM : tG D (mF cI cL cC gC gE gW gA gT gI gS gM K F S N gH gJ ge gk gf gs gg gr RN) tm H) (kt : tx h0 = 1) (kt2 : tm (h0 + 92) = 40) (hx0 : ∀ q : Nat, q < h0 → tx q = 0) (hm00 : ∀ q : Nat, q < h0 → tm q = 0) (dj : ∀ q : Nat, tm q ≠ 0 → tx q = 0) (dj2 : ∀ q : Nat, tx q ≠ 0 → tm q = 0) (uq_gC : ∀ b c : Nat, tx b = 2 → tx c = 2 → b = c) (uq_gE : ∀ b c : Nat, tx b = 6 → tx c = 6 → b = c) (uq_gW : ∀ b c : Nat, tx b = 29 → tx c = 29 → b = c) (uq_gA : ∀ b c : Nat, tx b = 31 → tx c = 31 → b = c) (uqm : ∀ b c : Nat, tm b = tm c → tm b ≠ 0 → b = c) (hC0 : 0 ≤ gC.toInt) (hC4 : gC.toInt ≤ 400) (hI0 : 0 ≤ gI.toInt) (hI4 : gI.toInt ≤ 40) (hH0 : 0 ≤ gH) (hH9 : gH ≤ 96) (hm0 : 0 ≤ gM.toInt) (hm3 : gM.toInt ≤ 3) (hO0 : okM K F S N 0 gI.toInt) (hW : swM gS K F S N gI.toInt) (hGb : (G : Int) ≤ 3072 * yi.toInt) (hy0 : 0 ≤ yi.toInt) (hy8 : yi.toInt + 8 ≤ (L : Int)) (hL : L ≤ 4096) (hS : cF h0 s.heap H locs) (hX : va_X b L xs s H) (hl : lv_has ls 4 [(3, .int yi), (2, .ref (h0 + 92)), (1, .ref h0), (0, .ref b)]) (hcl : cells ≤ 600000) (hsl : slots ≤ 7302250) (kx : ∀ (H1 : Heap) (locs1 : List Loc) (gC' : Int32) (gE' : Int32) (G' : Nat) (gW' : Nat → Int32) (gA' : Nat → Int32) (gT' : Nat → Int32) (gI' : Int32) (gS' : Int32) (gM' : Int32) (K' : Nat → Int32) (F' : Nat → Int32) (S' : Nat → Int32) (N' : Nat → Int32) (gH' : Int) (gJ' : Int) (ge' : Int32) (gk' : Int32) (gf' : Int32) (gs' : Int32) (gg' : Int32) (gr' : Int32) (RN' : Nat → Int32), tG D (gF cI cL cC gC' gE' G' gW' gA') tx H1 → tG D (mF cI cL cC gC' gE' gW' gA' gT' gI' gS' gM' K' F' S' N' gH' gJ' ge' gk' gf' gs' gg' gr' RN') tm H1 → 0 ≤ gC'.toInt → gC'.toInt ≤ 400 → 0 ≤ gI'.toInt → gI'.toInt ≤ 40 → 0 ≤ gH' → gH' ≤ 96 → 0 ≤ gM'.toInt → gM'.toInt ≤ 3 → okM K' F' S' N' 0 gI'.toInt → swM gS' K' F' S' N' gI'.toInt → (G' : Int) ≤ 3072 * yi.toInt + 24576 → cF h0 s.heap H1 locs1 → va_X b L xs s H1 → W p l e room_1 s m #[Value.ref b] below meth c H1 locs1 cells slots Q (F0 m 1409 ls [])) : W p l e room_1 s m #[Value.ref b] below meth c H locs cells slots Q (F0 m 1055 ls []) := by
  refine lv_aload_n hx hb dL_law_1055 rfl (lv_at hl 2 rfl) ?_
  refine lv_aload_n hx hb dL_law_1056 rfl (lv_at hl 3 rfl) ?_
  refine lv_iload_n hx hb dL_law_1057 rfl (lv_at hl 0 rfl) ?_
  refine lv_iconst (v := 1) hx hb dL_law_1058 (by decide) ?_
  refine lv_iadd hx hb dL_law_1059 ?_
  refine lv_topi (fun x_1 e_2 => ?_)
  have i_x_1 : x_1.toInt = yi.toInt + 1 := by rw [e_2]; exact (q_add (by rw [show (1 : Int32).toInt = 1 by decide]; omega) (by rw [show (1 : Int32).toInt = 1 by decide]; omega)).trans (by rw [show (1 : Int32).toInt = 1 by decide])
  refine ty_sld hx hb hX (i := x_1) (q_in (by omega) (by omega)) dL_law_1060 ?_
  refine lv_seti (y := xs (yi.toInt + 1).toNat) (congrArg (fun q : Int => xs q.toNat) (show x_1.toInt = yi.toInt + 1 by omega)) ?_
  refine lv_aload_n hx hb dL_law_1061 rfl (lv_at hl 3 rfl) ?_
  refine lv_pc (pc2 := 1062) rfl ?_
  refine lv_iload_n hx hb dL_law_1062 rfl (lv_at hl 0 rfl) ?_
  refine lv_iconst (v := 2) hx hb dL_law_1063 (by decide) ?_
  refine lv_iadd hx hb dL_law_1064 ?_
  refine lv_topi (fun x_3 e_4 => ?_)
  have i_x_3 : x_3.toInt = yi.toInt + 2 := by rw [e_4]; exact (q_add (by rw [show (2 : Int32).toInt = 2 by decide]; omega) (by rw [show (2 : Int32).toInt = 2 by decide]; omega)).trans (by rw [show (2 : Int32).toInt = 2 by decide])
  refine ty_sld hx hb hX (i := x_3) (q_in (by omega) (by omega)) dL_law_1065 ?_
  refine lv_seti (y := xs (yi.toInt + 2).toNat) (congrArg (fun q : Int => xs q.toNat) (show x_3.toInt = yi.toInt + 2 by omega)) ?_
  refine lv_aload_n hx hb dL_law_1066 rfl (lv_at hl 3 rfl) ?_
  refine lv_iload_n hx hb dL_law_1067 rfl (lv_at hl 0 rfl) ?_
  refine lv_iconst (v := 3) hx hb dL_law_1068 (by decide) ?_
  refine lv_iadd hx hb dL_law_1069 ?_
  refine lv_topi (fun x_5 e_6 => ?_)
  have i_x_5 : x_5.toInt = yi.toInt + 3 := by rw [e_6]; exact (q_add (by rw [show (3 : Int32).toInt = 3 by decide]; omega) (by rw [show (3 : Int32).toInt = 3 by decide]; omega)).trans (by rw [show (3 : Int32).toInt = 3 by decide])
  refine lv_pc (pc2 := 1070) rfl ?_
  refine ty_sld hx hb hX (i := x_5) (q_in (by omega) (by omega)) dL_law_1070 ?_
  refine lv_seti (y := xs (yi.toInt + 3).toNat) (congrArg (fun q : Int => xs q.toNat) (show x_5.toInt = yi.toInt + 3 by omega)) ?_
  obtain ⟨_, at_7⟩ := rcv1 hG kt
  refine lw_calll (W.runV (As := [.int (xs (yi.toInt + 1).toNat), .int (xs (yi.toInt + 2).toNat), .int (xs (yi.toInt + 3).toNat)]) (rest := []) ⟨hx, hb, hml, hown, hts⟩ (s_X9_peak l D tx cI cL cC gC gE G gW gA h0 (xs (yi.toInt + 1).toNat) (xs (yi.toInt + 2).toNat) (xs (yi.toInt + 3).toNat) (by omega) kt) (cwV 3 hts gu_L_X9_peak rfl rfl rfl (by decide +kernel) ⟨Nat.le_of_ble_eq_true rfl, Nat.le_of_ble_eq_true rfl⟩) (tP_V hG hE at_7 rfl) rfl rfl hl.1 rfl (lv_room (Nat.le_of_ble_eq_true rfl)) dL_law_1071 ⟨hcl, hsl⟩) hS rfl hx0 (fun r_8 H locs hp_9 hG hS o_10 => ?_)
  replace hX := hX.kept (o_10 b (by rw [hx0 b hbl]; rfl))
  replace hM := tG.keptW hM o_10 (fun q h => by rw [dj q h]; rfl)
  refine lv_pop2_2 hx hb dL_law_1074 rfl ?_
  refine lv_aload_n hx hb dL_law_1075 rfl (lv_at hl 1 rfl) ?_
  refine lv_aload_n hx hb dL_law_1076 rfl (lv_at hl 3 rfl) ?_
  refine lv_iload_n hx hb dL_law_1077 rfl (lv_at hl 0 rfl) ?_
  refine lv_iconst (v := 1) hx hb dL_law_1078 (by decide) ?_
  refine lv_iadd hx hb dL_law_1079 ?_
  refine lv_topi (fun x_11 e_12 => ?_)
  have i_x_11 : x_11.toInt = yi.toInt + 1 := by rw [e_12]; exact (q_add (by rw [show (1 : Int32).toInt = 1 by decide]; omega) (by rw [show (1 : Int32).toInt = 1 by decide]; omega)).trans (by rw [show (1 : Int32).toInt = 1 by decide])
  refine lv_pc (pc2 := 1080) rfl ?_
  refine ty_sld hx hb hX (i := x_11) (q_in (by omega) (by omega)) dL_law_1080 ?_
  refine lv_seti (y := xs (yi.toInt + 1).toNat) (congrArg (fun q : Int => xs q.toNat) (show x_11.toInt = yi.toInt + 1 by omega)) ?_
  refine lv_aload_n hx hb dL_law_1081 rfl (lv_at hl 3 rfl) ?_
  refine lv_iload_n hx hb dL_law_1082 rfl (lv_at hl 0 rfl) ?_
  refine lv_iconst (v := 2) hx hb dL_law_1083 (by decide) ?_
  refine lv_iadd hx hb dL_law_1084 ?_
  refine lv_topi (fun x_13 e_14 => ?_)
  have i_x_13 : x_13.toInt = yi.toInt + 2 := by rw [e_14]; exact (q_add (by rw [show (2 : Int32).toInt = 2 by decide]; omega) (by rw [show (2 : Int32).toInt = 2 by decide]; omega)).trans (by rw [show (2 : Int32).toInt = 2 by decide])
  refine ty_sld hx hb hX (i := x_13) (q_in (by omega) (by omega)) dL_law_1085 ?_
  refine lv_seti (y := xs (yi.toInt + 2).toNat) (congrArg (fun q : Int => xs q.toNat) (show x_13.toInt = yi.toInt + 2 by omega)) ?_
  refine lv_aload_n hx hb dL_law_1086 rfl (lv_at hl 3 rfl) ?_
  refine lv_iload_n hx hb dL_law_1087 rfl (lv_at hl 0 rfl) ?_
  refine lv_pc (pc2 := 1088) rfl ?_
  refine lv_iconst (v := 3) hx hb dL_law_1088 (by decide) ?_
  refine lv_iadd hx hb dL_law_1089 ?_
  refine lv_topi (fun x_15 e_16 => ?_)
  have i_x_15 : x_15.toInt = yi.toInt + 3 := by rw [e_16]; exact (q_add (by rw [show (3 : Int32).toInt = 3 by decide]; omega) (by rw [show (3 : Int32).toInt = 3 by decide]; omega)).trans (by rw [show (3 : Int32).toInt = 3 by decide])
  refine ty_sld hx hb hX (i := x_15) (q_in (by omega) (by omega)) dL_law_1090 ?_
  refine lv_seti (y := xs (yi.toInt + 3).toNat) (congrArg (fun q : Int => xs q.toNat) (show x_15.toInt = yi.toInt + 3 by omega)) ?_
  obtain ⟨_, at_17⟩ := rcv40 hM kt2
  refine lx_calll (W.runV (As := [.int (xs (yi.toInt + 1).toNat), .int (xs (yi.toInt + 2).toNat), .int (xs (yi.toInt + 3).toNat)]) (rest := []) ⟨hx, hb, hml, hown, hts⟩ (m_X10_peak l D tm cI cL cC gC gE gW gA gT gI gS gM K F S N gH gJ ge gk gf gs gg gr RN (h0 + 92) (xs (yi.toInt + 1).toNat) (xs (yi.toInt + 2).toNat) (xs (yi.toInt + 3).toNat) uqm hC0 hC4 hI0 hI4 hH0 hH9 hm0 hm3 hO0 hW kt2) (cwV 3 hts gu_L_X10_peak rfl rfl rfl (by decide +kernel) ⟨Nat.le_of_ble_eq_true rfl, Nat.le_of_ble_eq_true rfl⟩) (tP_V hM hE at_17 rfl) rfl rfl hl.1 rfl (lv_room (Nat.le_of_ble_eq_true rfl)) dL_law_1091 ⟨hcl, hsl⟩) hS rfl hm00 (fun r_18 zz_23 H locs hp_19 hM hS o_20 => ?_)
  obtain ⟨gH_21, gJ_22⟩ := zz_23
  replace hX := hX.kept (o_20 b (by rw [hm00 b hbl]; rfl))
  replace hG := tG.keptW hG o_20 (fun q h => by rw [dj2 q h]; rfl)
  replace hM : tG D (mF cI cL cC gC gE gW gA gT gI gS gM K F S N gH_21 gJ_22 ge gk gf gs gg gr RN) tm H := hM
  have hp_19 : 0 ≤ gH_21 ∧ gH_21 ≤ 96 := hp_19
  obtain ⟨p_24, p_25⟩ := hp_19
  refine lv_pop2_2 hx hb dL_law_1094 rfl ?_
  refine lv_goto (tgt := 1409) hx hb dL_law_1095 (by decide) ?_
  exact kx H locs _ _ _ _ _ _ _ _ _ _ _ _ _ _ _ _ _ _ _ _ _ _ hG hM hC0 hC4 hI0 hI4 p_24 p_25 hm0 hm3 hO0 hW (by omega) hS hX

set_option maxRecDepth 20000 in
theorem gu_L_X9_best : GoodIn wsL_law (wsV RL 131 RX9 yX9_best uX9_best) := goodIn_r _ [917, 918, 919, 2, 920, 565, 487, 2, 527, 168, 169, 608, 609, 530, 223, 566, 567, 568, 623, 624, 625, 531, 532, 533, 848, 849, 850, 55, 925, 926, 927, 54, 20, 28, 43, 35, 929, 930, 921, 924, 923, 922, 528, 488, 170, 610, 224, 569, 23, 570, 626, 627, 628, 629, 42, 630, 98, 534, 535, 251, 252, 19, 253, 67, 851, 428, 928, 127, 128, 129, 130, 131, 125, 931, 122, 123, 933, 862, 863, 34, 934, 935, 936, 932, 951, 126, 864, 86, 865, 724, 725, 726, 87, 88, 89, 90, 91, 92, 93, 937, 938, 939, 942, 442, 443, 27, 943, 446, 447, 944, 450, 451, 940, 945, 632, 633, 941, 463, 464, 465, 444, 76, 448, 77, 452, 454, 455, 456, 453, 458, 459, 460, 489, 490, 491, 457, 461, 471, 353, 354, 479, 480, 481, 483, 484, 485, 466, 467, 468, 472, 473, 469, 475, 476, 477, 462, 470, 355, 66, 482, 71, 68, 486, 474, 478, 250, 352, 492, 493, 494, 495, 496, 634, 637, 99, 636, 274, 635, 275, 946, 947, 948, 949, 124, 950, 1064, 1065, 1066, 1067, 1068, 1069, 1070, 1071, 1072, 1073, 1074, 1075, 1076, 1077, 1078, 1079, 1080, 1081, 1150, 1151, 1152, 1153, 1154, 1155, 1156, 1157, 1158, 1159, 1122, 1123, 1124, 1125, 1126, 1127, 1138, 1139, 1140, 1141, 1130, 1131, 1132, 1133, 1134, 1135, 1136, 1137, 1128, 1129] rfl (by decide +kernel)
set_option maxRecDepth 20000 in
theorem gu_L_X10_best : GoodIn wsL_law (wsV RL 135 RX10 yX10_best uX10_best) := goodIn_r _ [952, 953, 954, 5, 955, 575, 182, 183, 5, 956, 544, 545, 872, 873, 874, 576, 577, 578, 546, 392, 393, 394, 697, 957, 958, 959, 960, 184, 875, 642, 643, 644, 142, 501, 645, 370, 145, 579, 365, 137, 395, 381, 382, 383, 384, 138, 961, 785, 786, 787, 789, 790, 791, 502, 503, 504, 646, 647, 648, 788, 143, 792, 505, 141, 506, 507, 508, 509, 510, 511, 512, 139, 140, 513, 514, 519, 520, 521, 320, 515, 516, 517, 522, 518, 649, 146, 1082, 1083, 1084, 1085, 1086, 1087, 1088, 1089, 1090, 1091, 1092, 1093, 1094, 1095, 1096, 1097, 1098, 1099, 1100, 1101, 1102, 1103, 1104, 1105, 1106, 1107, 1108, 1109, 1110, 1111, 1112, 1113, 1114, 1115, 1116, 1117] rfl (by decide +kernel)
set_option maxHeartbeats 4000000 in
set_option maxRecDepth 100000 in
theorem lc_26 {p : Program} {l : Launch} {e : Env} {s : State} {m : MethodId} {below : List Frame} {meth : Method} {c : Code} {cells slots : Nat} {Q : State → Prop} {b h0 L : Nat} {xs : Nat → Int32} {yi : Int32} {D : va_G} {cI cL cC : ClassId} {tx tm : Nat → Nat} {H : Heap} {locs : List Loc} {ls : Array Slot} {gC : Int32} {gE : Int32} {G : Nat} {gW : Nat → Int32} {gA : Nat → Int32} {gT : Nat → Int32} {gI : Int32} {gS : Int32} {gM : Int32} {K : Nat → Int32} {F : Nat → Int32} {S : Nat → Int32} {N : Nat → Int32} {gH : Int} {gJ : Int} {ge : Int32} {gk : Int32} {gf : Int32} {gs : Int32} {gg : Int32} {gr : Int32} {RN : Nat → Int32} (hx : p.tables.exec = Jvm.exec) (hb : c.code = cL_law) (hml : c.maxLocals = 4) (hown : s.vm.findClass RL = some m.cls) (hts : ∀ w ∈ wsL_law, w.before #[Value.ref b] s = true) (hE : EV D cI cL cC s) (hbl : b < h0) (hG : tG D (gF cI cL cC gC gE G gW gA) tx H) (hM : tG D (mF cI cL cC gC gE gW gA gT gI gS gM K F S N gH gJ ge gk gf gs gg gr RN) tm H) (kt : tx h0 = 1) (kt2 : tm (h0 + 92) = 40) (hx0 : ∀ q : Nat, q < h0 → tx q = 0) (hm00 : ∀ q : Nat, q < h0 → tm q = 0) (dj : ∀ q : Nat, tm q ≠ 0 → tx q = 0) (dj2 : ∀ q : Nat, tx q ≠ 0 → tm q = 0) (uq_gC : ∀ b c : Nat, tx b = 2 → tx c = 2 → b = c) (uq_gE : ∀ b c : Nat, tx b = 6 → tx c = 6 → b = c) (uq_gW : ∀ b c : Nat, tx b = 29 → tx c = 29 → b = c) (uq_gA : ∀ b c : Nat, tx b = 31 → tx c = 31 → b = c) (uqm : ∀ b c : Nat, tm b = tm c → tm b ≠ 0 → b = c) (hC0 : 0 ≤ gC.toInt) (hC4 : gC.toInt ≤ 400) (hI0 : 0 ≤ gI.toInt) (hI4 : gI.toInt ≤ 40) (hH0 : 0 ≤ gH) (hH9 : gH ≤ 96) (hm0 : 0 ≤ gM.toInt) (hm3 : gM.toInt ≤ 3) (hO0 : okM K F S N 0 gI.toInt) (hW : swM gS K F S N gI.toInt) (hGb : (G : Int) ≤ 3072 * yi.toInt) (hy0 : 0 ≤ yi.toInt) (hy8 : yi.toInt + 8 ≤ (L : Int)) (hL : L ≤ 4096) (hS : cF h0 s.heap H locs) (hX : va_X b L xs s H) (hl : lv_has ls 4 [(3, .int yi), (2, .ref (h0 + 92)), (1, .ref h0), (0, .ref b)]) (hcl : cells ≤ 600000) (hsl : slots ≤ 7302250) (kx : ∀ (H1 : Heap) (locs1 : List Loc) (gC' : Int32) (gE' : Int32) (G' : Nat) (gW' : Nat → Int32) (gA' : Nat → Int32) (gT' : Nat → Int32) (gI' : Int32) (gS' : Int32) (gM' : Int32) (K' : Nat → Int32) (F' : Nat → Int32) (S' : Nat → Int32) (N' : Nat → Int32) (gH' : Int) (gJ' : Int) (ge' : Int32) (gk' : Int32) (gf' : Int32) (gs' : Int32) (gg' : Int32) (gr' : Int32) (RN' : Nat → Int32), tG D (gF cI cL cC gC' gE' G' gW' gA') tx H1 → tG D (mF cI cL cC gC' gE' gW' gA' gT' gI' gS' gM' K' F' S' N' gH' gJ' ge' gk' gf' gs' gg' gr' RN') tm H1 → 0 ≤ gC'.toInt → gC'.toInt ≤ 400 → 0 ≤ gI'.toInt → gI'.toInt ≤ 40 → 0 ≤ gH' → gH' ≤ 96 → 0 ≤ gM'.toInt → gM'.toInt ≤ 3 → okM K' F' S' N' 0 gI'.toInt → swM gS' K' F' S' N' gI'.toInt → (G' : Int) ≤ 3072 * yi.toInt + 24576 → cF h0 s.heap H1 locs1 → va_X b L xs s H1 → W p l e room_1 s m #[Value.ref b] below meth c H1 locs1 cells slots Q (F0 m 1409 ls [])) : W p l e room_1 s m #[Value.ref b] below meth c H locs cells slots Q (F0 m 1098 ls []) := by
  refine lv_aload_n hx hb dL_law_1098 rfl (lv_at hl 2 rfl) ?_
  refine lv_aload_n hx hb dL_law_1099 rfl (lv_at hl 3 rfl) ?_
  refine lv_iload_n hx hb dL_law_1100 rfl (lv_at hl 0 rfl) ?_
  refine lv_iconst (v := 1) hx hb dL_law_1101 (by decide) ?_
  refine lv_iadd hx hb dL_law_1102 ?_
  refine lv_topi (fun x_1 e_2 => ?_)
  have i_x_1 : x_1.toInt = yi.toInt + 1 := by rw [e_2]; exact (q_add (by rw [show (1 : Int32).toInt = 1 by decide]; omega) (by rw [show (1 : Int32).toInt = 1 by decide]; omega)).trans (by rw [show (1 : Int32).toInt = 1 by decide])
  refine ty_sld hx hb hX (i := x_1) (q_in (by omega) (by omega)) dL_law_1103 ?_
  refine lv_seti (y := xs (yi.toInt + 1).toNat) (congrArg (fun q : Int => xs q.toNat) (show x_1.toInt = yi.toInt + 1 by omega)) ?_
  refine lv_aload_n hx hb dL_law_1104 rfl (lv_at hl 3 rfl) ?_
  refine lv_pc (pc2 := 1105) rfl ?_
  refine lv_iload_n hx hb dL_law_1105 rfl (lv_at hl 0 rfl) ?_
  refine lv_iconst (v := 2) hx hb dL_law_1106 (by decide) ?_
  refine lv_iadd hx hb dL_law_1107 ?_
  refine lv_topi (fun x_3 e_4 => ?_)
  have i_x_3 : x_3.toInt = yi.toInt + 2 := by rw [e_4]; exact (q_add (by rw [show (2 : Int32).toInt = 2 by decide]; omega) (by rw [show (2 : Int32).toInt = 2 by decide]; omega)).trans (by rw [show (2 : Int32).toInt = 2 by decide])
  refine ty_sld hx hb hX (i := x_3) (q_in (by omega) (by omega)) dL_law_1108 ?_
  refine lv_seti (y := xs (yi.toInt + 2).toNat) (congrArg (fun q : Int => xs q.toNat) (show x_3.toInt = yi.toInt + 2 by omega)) ?_
  refine lv_aload_n hx hb dL_law_1109 rfl (lv_at hl 3 rfl) ?_
  refine lv_iload_n hx hb dL_law_1110 rfl (lv_at hl 0 rfl) ?_
  refine lv_iconst (v := 3) hx hb dL_law_1111 (by decide) ?_
  refine lv_iadd hx hb dL_law_1112 ?_
  refine lv_topi (fun x_5 e_6 => ?_)
  have i_x_5 : x_5.toInt = yi.toInt + 3 := by rw [e_6]; exact (q_add (by rw [show (3 : Int32).toInt = 3 by decide]; omega) (by rw [show (3 : Int32).toInt = 3 by decide]; omega)).trans (by rw [show (3 : Int32).toInt = 3 by decide])
  refine lv_pc (pc2 := 1113) rfl ?_
  refine ty_sld hx hb hX (i := x_5) (q_in (by omega) (by omega)) dL_law_1113 ?_
  refine lv_seti (y := xs (yi.toInt + 3).toNat) (congrArg (fun q : Int => xs q.toNat) (show x_5.toInt = yi.toInt + 3 by omega)) ?_
  refine lv_aload_n hx hb dL_law_1114 rfl (lv_at hl 3 rfl) ?_
  refine lv_iload_n hx hb dL_law_1115 rfl (lv_at hl 0 rfl) ?_
  refine lv_iconst (v := 4) hx hb dL_law_1116 (by decide) ?_
  refine lv_iadd hx hb dL_law_1117 ?_
  refine lv_topi (fun x_7 e_8 => ?_)
  have i_x_7 : x_7.toInt = yi.toInt + 4 := by rw [e_8]; exact (q_add (by rw [show (4 : Int32).toInt = 4 by decide]; omega) (by rw [show (4 : Int32).toInt = 4 by decide]; omega)).trans (by rw [show (4 : Int32).toInt = 4 by decide])
  refine ty_sld hx hb hX (i := x_7) (q_in (by omega) (by omega)) dL_law_1118 ?_
  refine lv_seti (y := xs (yi.toInt + 4).toNat) (congrArg (fun q : Int => xs q.toNat) (show x_7.toInt = yi.toInt + 4 by omega)) ?_
  refine lv_aload_n hx hb dL_law_1119 rfl (lv_at hl 3 rfl) ?_
  refine lv_iload_n hx hb dL_law_1120 rfl (lv_at hl 0 rfl) ?_
  refine lv_pc (pc2 := 1121) rfl ?_
  refine lv_iconst (v := 5) hx hb dL_law_1121 (by decide) ?_
  refine lv_iadd hx hb dL_law_1122 ?_
  refine lv_topi (fun x_9 e_10 => ?_)
  have i_x_9 : x_9.toInt = yi.toInt + 5 := by rw [e_10]; exact (q_add (by rw [show (5 : Int32).toInt = 5 by decide]; omega) (by rw [show (5 : Int32).toInt = 5 by decide]; omega)).trans (by rw [show (5 : Int32).toInt = 5 by decide])
  refine ty_sld hx hb hX (i := x_9) (q_in (by omega) (by omega)) dL_law_1123 ?_
  refine lv_seti (y := xs (yi.toInt + 5).toNat) (congrArg (fun q : Int => xs q.toNat) (show x_9.toInt = yi.toInt + 5 by omega)) ?_
  refine lv_i2l (v := (xs (yi.toInt + 5).toNat).toInt64) hx hb dL_law_1124 rfl ?_
  refine lv_bipush (v := 32) hx hb dL_law_1125 (by decide) ?_
  refine lv_lshl hx hb dL_law_1127 rfl ?_
  refine lv_topl (fun z_11 e_12 => ?_)
  refine lv_aload_n hx hb dL_law_1128 rfl (lv_at hl 3 rfl) ?_
  refine lv_iload_n hx hb dL_law_1129 rfl (lv_at hl 0 rfl) ?_
  refine lv_pc (pc2 := 1130) rfl ?_
  refine lv_bipush (v := 6) hx hb dL_law_1130 (by decide) ?_
  refine lv_iadd hx hb dL_law_1132 ?_
  refine lv_topi (fun x_13 e_14 => ?_)
  have i_x_13 : x_13.toInt = yi.toInt + 6 := by rw [e_14]; exact (q_add (by rw [show (6 : Int32).toInt = 6 by decide]; omega) (by rw [show (6 : Int32).toInt = 6 by decide]; omega)).trans (by rw [show (6 : Int32).toInt = 6 by decide])
  refine ty_sld hx hb hX (i := x_13) (q_in (by omega) (by omega)) dL_law_1133 ?_
  refine lv_seti (y := xs (yi.toInt + 6).toNat) (congrArg (fun q : Int => xs q.toNat) (show x_13.toInt = yi.toInt + 6 by omega)) ?_
  refine lv_i2l (v := (xs (yi.toInt + 6).toNat).toInt64) hx hb dL_law_1134 rfl ?_
  refine lv_ldc2 hx hb hown (hts (.constantLong RL 13 (4294967295)) (List.mem_of_getElem? (i := 6) rfl)) dL_law_1135 ?_
  refine lv_land hx hb dL_law_1138 ?_
  refine lv_topl (fun z_15 e_16 => ?_)
  refine lv_lor hx hb dL_law_1139 ?_
  refine lv_topl (fun z_17 e_18 => ?_)
  refine lv_aload_n hx hb dL_law_1140 rfl (lv_at hl 3 rfl) ?_
  refine lv_pc (pc2 := 1141) rfl ?_
  refine lv_iload_n hx hb dL_law_1141 rfl (lv_at hl 0 rfl) ?_
  refine lv_bipush (v := 7) hx hb dL_law_1142 (by decide) ?_
  refine lv_iadd hx hb dL_law_1144 ?_
  refine lv_topi (fun x_19 e_20 => ?_)
  have i_x_19 : x_19.toInt = yi.toInt + 7 := by rw [e_20]; exact (q_add (by rw [show (7 : Int32).toInt = 7 by decide]; omega) (by rw [show (7 : Int32).toInt = 7 by decide]; omega)).trans (by rw [show (7 : Int32).toInt = 7 by decide])
  refine ty_sld hx hb hX (i := x_19) (q_in (by omega) (by omega)) dL_law_1145 ?_
  refine lv_seti (y := xs (yi.toInt + 7).toNat) (congrArg (fun q : Int => xs q.toNat) (show x_19.toInt = yi.toInt + 7 by omega)) ?_
  obtain ⟨_, at_21⟩ := rcv1 hG kt
  refine lw_calll (W.runV (As := [.int (xs (yi.toInt + 1).toNat), .int (xs (yi.toInt + 2).toNat), .int (xs (yi.toInt + 3).toNat), .int (xs (yi.toInt + 4).toNat), .long z_17, .int (xs (yi.toInt + 7).toNat)]) (rest := []) ⟨hx, hb, hml, hown, hts⟩ (s_X9_best l D tx cI cL cC gC gE G gW gA h0 (xs (yi.toInt + 1).toNat) (xs (yi.toInt + 2).toNat) (xs (yi.toInt + 3).toNat) (xs (yi.toInt + 4).toNat) z_17 (xs (yi.toInt + 7).toNat) (by omega) kt) (cwV 6 hts gu_L_X9_best rfl rfl rfl (by decide +kernel) ⟨Nat.le_of_ble_eq_true rfl, Nat.le_of_ble_eq_true rfl⟩) (tP_V hG hE at_21 rfl) rfl rfl hl.1 rfl (lv_room (Nat.le_of_ble_eq_true rfl)) dL_law_1146 ⟨hcl, hsl⟩) hS rfl hx0 (fun r_22 H locs hp_23 hG hS o_24 => ?_)
  replace hX := hX.kept (o_24 b (by rw [hx0 b hbl]; rfl))
  replace hM := tG.keptW hM o_24 (fun q h => by rw [dj q h]; rfl)
  refine lv_pop2_2 hx hb dL_law_1149 rfl ?_
  refine lv_aload_n hx hb dL_law_1150 rfl (lv_at hl 1 rfl) ?_
  refine lv_aload_n hx hb dL_law_1151 rfl (lv_at hl 3 rfl) ?_
  refine lv_pc (pc2 := 1152) rfl ?_
  refine lv_iload_n hx hb dL_law_1152 rfl (lv_at hl 0 rfl) ?_
  refine lv_iconst (v := 1) hx hb dL_law_1153 (by decide) ?_
  refine lv_iadd hx hb dL_law_1154 ?_
  refine lv_topi (fun x_25 e_26 => ?_)
  have i_x_25 : x_25.toInt = yi.toInt + 1 := by rw [e_26]; exact (q_add (by rw [show (1 : Int32).toInt = 1 by decide]; omega) (by rw [show (1 : Int32).toInt = 1 by decide]; omega)).trans (by rw [show (1 : Int32).toInt = 1 by decide])
  refine ty_sld hx hb hX (i := x_25) (q_in (by omega) (by omega)) dL_law_1155 ?_
  refine lv_seti (y := xs (yi.toInt + 1).toNat) (congrArg (fun q : Int => xs q.toNat) (show x_25.toInt = yi.toInt + 1 by omega)) ?_
  refine lv_aload_n hx hb dL_law_1156 rfl (lv_at hl 3 rfl) ?_
  refine lv_iload_n hx hb dL_law_1157 rfl (lv_at hl 0 rfl) ?_
  refine lv_iconst (v := 2) hx hb dL_law_1158 (by decide) ?_
  refine lv_iadd hx hb dL_law_1159 ?_
  refine lv_topi (fun x_27 e_28 => ?_)
  have i_x_27 : x_27.toInt = yi.toInt + 2 := by rw [e_28]; exact (q_add (by rw [show (2 : Int32).toInt = 2 by decide]; omega) (by rw [show (2 : Int32).toInt = 2 by decide]; omega)).trans (by rw [show (2 : Int32).toInt = 2 by decide])
  refine lv_pc (pc2 := 1160) rfl ?_
  refine ty_sld hx hb hX (i := x_27) (q_in (by omega) (by omega)) dL_law_1160 ?_
  refine lv_seti (y := xs (yi.toInt + 2).toNat) (congrArg (fun q : Int => xs q.toNat) (show x_27.toInt = yi.toInt + 2 by omega)) ?_
  refine lv_aload_n hx hb dL_law_1161 rfl (lv_at hl 3 rfl) ?_
  refine lv_iload_n hx hb dL_law_1162 rfl (lv_at hl 0 rfl) ?_
  refine lv_iconst (v := 3) hx hb dL_law_1163 (by decide) ?_
  refine lv_iadd hx hb dL_law_1164 ?_
  refine lv_topi (fun x_29 e_30 => ?_)
  have i_x_29 : x_29.toInt = yi.toInt + 3 := by rw [e_30]; exact (q_add (by rw [show (3 : Int32).toInt = 3 by decide]; omega) (by rw [show (3 : Int32).toInt = 3 by decide]; omega)).trans (by rw [show (3 : Int32).toInt = 3 by decide])
  refine ty_sld hx hb hX (i := x_29) (q_in (by omega) (by omega)) dL_law_1165 ?_
  refine lv_seti (y := xs (yi.toInt + 3).toNat) (congrArg (fun q : Int => xs q.toNat) (show x_29.toInt = yi.toInt + 3 by omega)) ?_
  refine lv_aload_n hx hb dL_law_1166 rfl (lv_at hl 3 rfl) ?_
  refine lv_iload_n hx hb dL_law_1167 rfl (lv_at hl 0 rfl) ?_
  refine lv_pc (pc2 := 1168) rfl ?_
  refine lv_iconst (v := 4) hx hb dL_law_1168 (by decide) ?_
  refine lv_iadd hx hb dL_law_1169 ?_
  refine lv_topi (fun x_31 e_32 => ?_)
  have i_x_31 : x_31.toInt = yi.toInt + 4 := by rw [e_32]; exact (q_add (by rw [show (4 : Int32).toInt = 4 by decide]; omega) (by rw [show (4 : Int32).toInt = 4 by decide]; omega)).trans (by rw [show (4 : Int32).toInt = 4 by decide])
  refine ty_sld hx hb hX (i := x_31) (q_in (by omega) (by omega)) dL_law_1170 ?_
  refine lv_seti (y := xs (yi.toInt + 4).toNat) (congrArg (fun q : Int => xs q.toNat) (show x_31.toInt = yi.toInt + 4 by omega)) ?_
  refine lv_aload_n hx hb dL_law_1171 rfl (lv_at hl 3 rfl) ?_
  refine lv_iload_n hx hb dL_law_1172 rfl (lv_at hl 0 rfl) ?_
  refine lv_iconst (v := 5) hx hb dL_law_1173 (by decide) ?_
  refine lv_iadd hx hb dL_law_1174 ?_
  refine lv_topi (fun x_33 e_34 => ?_)
  have i_x_33 : x_33.toInt = yi.toInt + 5 := by rw [e_34]; exact (q_add (by rw [show (5 : Int32).toInt = 5 by decide]; omega) (by rw [show (5 : Int32).toInt = 5 by decide]; omega)).trans (by rw [show (5 : Int32).toInt = 5 by decide])
  refine ty_sld hx hb hX (i := x_33) (q_in (by omega) (by omega)) dL_law_1175 ?_
  refine lv_seti (y := xs (yi.toInt + 5).toNat) (congrArg (fun q : Int => xs q.toNat) (show x_33.toInt = yi.toInt + 5 by omega)) ?_
  refine lv_pc (pc2 := 1176) rfl ?_
  refine lv_i2l (v := (xs (yi.toInt + 5).toNat).toInt64) hx hb dL_law_1176 rfl ?_
  refine lv_bipush (v := 32) hx hb dL_law_1177 (by decide) ?_
  refine lv_lshl hx hb dL_law_1179 rfl ?_
  refine lv_topl (fun z_35 e_36 => ?_)
  refine lv_aload_n hx hb dL_law_1180 rfl (lv_at hl 3 rfl) ?_
  refine lv_iload_n hx hb dL_law_1181 rfl (lv_at hl 0 rfl) ?_
  refine lv_bipush (v := 6) hx hb dL_law_1182 (by decide) ?_
  refine lv_iadd hx hb dL_law_1184 ?_
  refine lv_topi (fun x_37 e_38 => ?_)
  have i_x_37 : x_37.toInt = yi.toInt + 6 := by rw [e_38]; exact (q_add (by rw [show (6 : Int32).toInt = 6 by decide]; omega) (by rw [show (6 : Int32).toInt = 6 by decide]; omega)).trans (by rw [show (6 : Int32).toInt = 6 by decide])
  refine ty_sld hx hb hX (i := x_37) (q_in (by omega) (by omega)) dL_law_1185 ?_
  refine lv_seti (y := xs (yi.toInt + 6).toNat) (congrArg (fun q : Int => xs q.toNat) (show x_37.toInt = yi.toInt + 6 by omega)) ?_
  refine lv_pc (pc2 := 1186) rfl ?_
  refine lv_i2l (v := (xs (yi.toInt + 6).toNat).toInt64) hx hb dL_law_1186 rfl ?_
  refine lv_ldc2 hx hb hown (hts (.constantLong RL 13 (4294967295)) (List.mem_of_getElem? (i := 6) rfl)) dL_law_1187 ?_
  refine lv_land hx hb dL_law_1190 ?_
  refine lv_topl (fun z_39 e_40 => ?_)
  refine lv_lor hx hb dL_law_1191 ?_
  refine lv_topl (fun z_41 e_42 => ?_)
  refine lv_aload_n hx hb dL_law_1192 rfl (lv_at hl 3 rfl) ?_
  refine lv_iload_n hx hb dL_law_1193 rfl (lv_at hl 0 rfl) ?_
  refine lv_bipush (v := 7) hx hb dL_law_1194 (by decide) ?_
  refine lv_iadd hx hb dL_law_1196 ?_
  refine lv_topi (fun x_43 e_44 => ?_)
  have i_x_43 : x_43.toInt = yi.toInt + 7 := by rw [e_44]; exact (q_add (by rw [show (7 : Int32).toInt = 7 by decide]; omega) (by rw [show (7 : Int32).toInt = 7 by decide]; omega)).trans (by rw [show (7 : Int32).toInt = 7 by decide])
  refine lv_pc (pc2 := 1197) rfl ?_
  refine ty_sld hx hb hX (i := x_43) (q_in (by omega) (by omega)) dL_law_1197 ?_
  refine lv_seti (y := xs (yi.toInt + 7).toNat) (congrArg (fun q : Int => xs q.toNat) (show x_43.toInt = yi.toInt + 7 by omega)) ?_
  obtain ⟨_, at_45⟩ := rcv40 hM kt2
  refine lx_calll (W.runV (As := [.int (xs (yi.toInt + 1).toNat), .int (xs (yi.toInt + 2).toNat), .int (xs (yi.toInt + 3).toNat), .int (xs (yi.toInt + 4).toNat), .long z_41, .int (xs (yi.toInt + 7).toNat)]) (rest := []) ⟨hx, hb, hml, hown, hts⟩ (m_X10_best l D tm cI cL cC gC gE gW gA gT gI gS gM K F S N gH gJ ge gk gf gs gg gr RN (h0 + 92) (xs (yi.toInt + 1).toNat) (xs (yi.toInt + 2).toNat) (xs (yi.toInt + 3).toNat) (xs (yi.toInt + 4).toNat) z_41 (xs (yi.toInt + 7).toNat) uqm hC0 hC4 hI0 hI4 hH0 hH9 hm0 hm3 hO0 hW kt2) (cwV 6 hts gu_L_X10_best rfl rfl rfl (by decide +kernel) ⟨Nat.le_of_ble_eq_true rfl, Nat.le_of_ble_eq_true rfl⟩) (tP_V hM hE at_45 rfl) rfl rfl hl.1 rfl (lv_room (Nat.le_of_ble_eq_true rfl)) dL_law_1198 ⟨hcl, hsl⟩) hS rfl hm00 (fun r_46 zz_51 H locs hp_47 hM hS o_48 => ?_)
  obtain ⟨gH_49, gJ_50⟩ := zz_51
  replace hX := hX.kept (o_48 b (by rw [hm00 b hbl]; rfl))
  replace hG := tG.keptW hG o_48 (fun q h => by rw [dj2 q h]; rfl)
  replace hM : tG D (mF cI cL cC gC gE gW gA gT gI gS gM K F S N gH_49 gJ_50 ge gk gf gs gg gr RN) tm H := hM
  have hp_47 : 0 ≤ gH_49 ∧ gH_49 ≤ 96 := hp_47
  obtain ⟨p_52, p_53⟩ := hp_47
  refine lv_pop2_2 hx hb dL_law_1201 rfl ?_
  refine lv_goto (tgt := 1409) hx hb dL_law_1202 (by decide) ?_
  exact kx H locs _ _ _ _ _ _ _ _ _ _ _ _ _ _ _ _ _ _ _ _ _ _ hG hM hC0 hC4 hI0 hI4 p_52 p_53 hm0 hm3 hO0 hW (by omega) hS hX

set_option maxRecDepth 20000 in
theorem gu_L_X9_swap : GoodIn wsL_law (wsV RL 136 RX9 yX9_swap uX9_swap) := goodIn_r _ [962, 963, 964, 2, 965, 400, 274, 2, 401, 402, 403, 16, 967, 968, 969, 15, 20, 966, 971, 972, 973, 19, 22, 719, 720, 721, 975, 267, 268, 24, 275, 404, 23, 330, 970, 62, 206, 207, 208, 61, 209, 60, 210, 79, 80, 211, 212, 213, 215, 216, 217, 225, 226, 228, 229, 230, 219, 220, 221, 81, 214, 59, 218, 227, 231, 232, 233, 234, 235, 169, 170, 222, 223, 224, 974, 352, 353, 354, 240, 241, 254, 255, 256, 355, 66, 242, 243, 244, 245, 247, 248, 246, 249, 257, 258, 259, 260, 261, 250, 251, 252, 67, 253, 722, 723, 724, 725, 726, 68, 69, 70, 71, 269, 270, 271, 272, 273, 1064, 1065, 1066, 1067, 1068, 1069, 1070, 1071, 1072, 1073, 1074, 1075, 1076, 1077, 1078, 1079, 1080, 1081, 1118, 1119, 1120, 1121, 1122, 1123, 1124, 1125, 1126, 1127] rfl (by decide +kernel)
set_option maxRecDepth 20000 in
theorem gu_L_X10_swap : GoodIn wsL_law (wsV RL 139 RX10 yX10_swap uX10_swap) := goodIn_r _ [976, 977, 978, 5, 979, 410, 182, 183, 5, 370, 365, 137, 288, 289, 290, 287, 180, 285, 373, 374, 375, 321, 322, 323, 371, 286, 138, 184, 291, 293, 294, 295, 297, 298, 300, 301, 292, 157, 313, 314, 305, 306, 307, 296, 136, 299, 302, 303, 304, 315, 317, 318, 316, 320, 319, 308, 309, 312, 310, 311, 376, 140, 139, 324, 1082, 1083, 1084, 1085, 1086, 1087, 1088, 1089, 1090, 1091, 1092, 1093, 1094, 1095, 1096, 1097, 1098, 1099, 1100, 1101, 1102, 1103, 1104, 1105, 1106, 1107, 1108, 1109, 1110, 1111, 1112, 1113, 1114, 1115, 1116, 1117] rfl (by decide +kernel)
set_option maxHeartbeats 4000000 in
set_option maxRecDepth 100000 in
theorem lc_27 {p : Program} {l : Launch} {e : Env} {s : State} {m : MethodId} {below : List Frame} {meth : Method} {c : Code} {cells slots : Nat} {Q : State → Prop} {b h0 L : Nat} {xs : Nat → Int32} {yi : Int32} {D : va_G} {cI cL cC : ClassId} {tx tm : Nat → Nat} {H : Heap} {locs : List Loc} {ls : Array Slot} {gC : Int32} {gE : Int32} {G : Nat} {gW : Nat → Int32} {gA : Nat → Int32} {gT : Nat → Int32} {gI : Int32} {gS : Int32} {gM : Int32} {K : Nat → Int32} {F : Nat → Int32} {S : Nat → Int32} {N : Nat → Int32} {gH : Int} {gJ : Int} {ge : Int32} {gk : Int32} {gf : Int32} {gs : Int32} {gg : Int32} {gr : Int32} {RN : Nat → Int32} (hx : p.tables.exec = Jvm.exec) (hb : c.code = cL_law) (hml : c.maxLocals = 4) (hown : s.vm.findClass RL = some m.cls) (hts : ∀ w ∈ wsL_law, w.before #[Value.ref b] s = true) (hE : EV D cI cL cC s) (hbl : b < h0) (hG : tG D (gF cI cL cC gC gE G gW gA) tx H) (hM : tG D (mF cI cL cC gC gE gW gA gT gI gS gM K F S N gH gJ ge gk gf gs gg gr RN) tm H) (kt : tx h0 = 1) (kt2 : tm (h0 + 92) = 40) (hx0 : ∀ q : Nat, q < h0 → tx q = 0) (hm00 : ∀ q : Nat, q < h0 → tm q = 0) (dj : ∀ q : Nat, tm q ≠ 0 → tx q = 0) (dj2 : ∀ q : Nat, tx q ≠ 0 → tm q = 0) (uq_gC : ∀ b c : Nat, tx b = 2 → tx c = 2 → b = c) (uq_gE : ∀ b c : Nat, tx b = 6 → tx c = 6 → b = c) (uq_gW : ∀ b c : Nat, tx b = 29 → tx c = 29 → b = c) (uq_gA : ∀ b c : Nat, tx b = 31 → tx c = 31 → b = c) (uqm : ∀ b c : Nat, tm b = tm c → tm b ≠ 0 → b = c) (hC0 : 0 ≤ gC.toInt) (hC4 : gC.toInt ≤ 400) (hI0 : 0 ≤ gI.toInt) (hI4 : gI.toInt ≤ 40) (hH0 : 0 ≤ gH) (hH9 : gH ≤ 96) (hm0 : 0 ≤ gM.toInt) (hm3 : gM.toInt ≤ 3) (hO0 : okM K F S N 0 gI.toInt) (hW : swM gS K F S N gI.toInt) (hGb : (G : Int) ≤ 3072 * yi.toInt) (hy0 : 0 ≤ yi.toInt) (hy8 : yi.toInt + 8 ≤ (L : Int)) (hL : L ≤ 4096) (hS : cF h0 s.heap H locs) (hX : va_X b L xs s H) (hl : lv_has ls 4 [(3, .int yi), (2, .ref (h0 + 92)), (1, .ref h0), (0, .ref b)]) (hcl : cells ≤ 600000) (hsl : slots ≤ 7302250) (kx : ∀ (H1 : Heap) (locs1 : List Loc) (gC' : Int32) (gE' : Int32) (G' : Nat) (gW' : Nat → Int32) (gA' : Nat → Int32) (gT' : Nat → Int32) (gI' : Int32) (gS' : Int32) (gM' : Int32) (K' : Nat → Int32) (F' : Nat → Int32) (S' : Nat → Int32) (N' : Nat → Int32) (gH' : Int) (gJ' : Int) (ge' : Int32) (gk' : Int32) (gf' : Int32) (gs' : Int32) (gg' : Int32) (gr' : Int32) (RN' : Nat → Int32), tG D (gF cI cL cC gC' gE' G' gW' gA') tx H1 → tG D (mF cI cL cC gC' gE' gW' gA' gT' gI' gS' gM' K' F' S' N' gH' gJ' ge' gk' gf' gs' gg' gr' RN') tm H1 → 0 ≤ gC'.toInt → gC'.toInt ≤ 400 → 0 ≤ gI'.toInt → gI'.toInt ≤ 40 → 0 ≤ gH' → gH' ≤ 96 → 0 ≤ gM'.toInt → gM'.toInt ≤ 3 → okM K' F' S' N' 0 gI'.toInt → swM gS' K' F' S' N' gI'.toInt → (G' : Int) ≤ 3072 * yi.toInt + 24576 → cF h0 s.heap H1 locs1 → va_X b L xs s H1 → W p l e room_1 s m #[Value.ref b] below meth c H1 locs1 cells slots Q (F0 m 1409 ls [])) : W p l e room_1 s m #[Value.ref b] below meth c H locs cells slots Q (F0 m 1205 ls []) := by
  refine lv_aload_n hx hb dL_law_1205 rfl (lv_at hl 2 rfl) ?_
  refine lv_aload_n hx hb dL_law_1206 rfl (lv_at hl 3 rfl) ?_
  refine lv_iload_n hx hb dL_law_1207 rfl (lv_at hl 0 rfl) ?_
  refine lv_iconst (v := 1) hx hb dL_law_1208 (by decide) ?_
  refine lv_iadd hx hb dL_law_1209 ?_
  refine lv_topi (fun x_1 e_2 => ?_)
  have i_x_1 : x_1.toInt = yi.toInt + 1 := by rw [e_2]; exact (q_add (by rw [show (1 : Int32).toInt = 1 by decide]; omega) (by rw [show (1 : Int32).toInt = 1 by decide]; omega)).trans (by rw [show (1 : Int32).toInt = 1 by decide])
  refine ty_sld hx hb hX (i := x_1) (q_in (by omega) (by omega)) dL_law_1210 ?_
  refine lv_seti (y := xs (yi.toInt + 1).toNat) (congrArg (fun q : Int => xs q.toNat) (show x_1.toInt = yi.toInt + 1 by omega)) ?_
  obtain ⟨_, at_3⟩ := rcv1 hG kt
  refine lw_calli (W.runV (As := [.int (xs (yi.toInt + 1).toNat)]) (rest := []) ⟨hx, hb, hml, hown, hts⟩ (s_X9_swap l D tx cI cL cC gC gE G gW gA h0 (xs (yi.toInt + 1).toNat) kt) (cwV 1 hts gu_L_X9_swap rfl rfl rfl (by decide +kernel) ⟨Nat.le_of_ble_eq_true rfl, Nat.le_of_ble_eq_true rfl⟩) (tP_V hG hE at_3 rfl) rfl rfl hl.1 rfl (lv_room (Nat.le_of_ble_eq_true rfl)) dL_law_1211 ⟨hcl, hsl⟩) hS rfl hx0 (fun r_4 H locs hp_5 hG hS o_6 => ?_)
  replace hX := hX.kept (o_6 b (by rw [hx0 b hbl]; rfl))
  replace hM := tG.keptW hM o_6 (fun q h => by rw [dj q h]; rfl)
  refine lv_pc (pc2 := 1214) rfl ?_
  refine lv_pop hx hb dL_law_1214 rfl ?_
  refine lv_aload_n hx hb dL_law_1215 rfl (lv_at hl 1 rfl) ?_
  refine lv_aload_n hx hb dL_law_1216 rfl (lv_at hl 3 rfl) ?_
  refine lv_iload_n hx hb dL_law_1217 rfl (lv_at hl 0 rfl) ?_
  refine lv_iconst (v := 1) hx hb dL_law_1218 (by decide) ?_
  refine lv_iadd hx hb dL_law_1219 ?_
  refine lv_topi (fun x_7 e_8 => ?_)
  have i_x_7 : x_7.toInt = yi.toInt + 1 := by rw [e_8]; exact (q_add (by rw [show (1 : Int32).toInt = 1 by decide]; omega) (by rw [show (1 : Int32).toInt = 1 by decide]; omega)).trans (by rw [show (1 : Int32).toInt = 1 by decide])
  refine ty_sld hx hb hX (i := x_7) (q_in (by omega) (by omega)) dL_law_1220 ?_
  refine lv_seti (y := xs (yi.toInt + 1).toNat) (congrArg (fun q : Int => xs q.toNat) (show x_7.toInt = yi.toInt + 1 by omega)) ?_
  obtain ⟨_, at_9⟩ := rcv40 hM kt2
  refine lx_calli (W.runV (As := [.int (xs (yi.toInt + 1).toNat)]) (rest := []) ⟨hx, hb, hml, hown, hts⟩ (m_X10_swap l D tm cI cL cC gC gE gW gA gT gI gS gM K F S N gH gJ ge gk gf gs gg gr RN (h0 + 92) (xs (yi.toInt + 1).toNat) uqm hC0 hC4 hI0 hI4 hH0 hH9 hm0 hm3 hO0 hW kt2) (cwV 1 hts gu_L_X10_swap rfl rfl rfl (by decide +kernel) ⟨Nat.le_of_ble_eq_true rfl, Nat.le_of_ble_eq_true rfl⟩) (tP_V hM hE at_9 rfl) rfl rfl hl.1 rfl (lv_room (Nat.le_of_ble_eq_true rfl)) dL_law_1221 ⟨hcl, hsl⟩) hS rfl hm00 (fun r_10 zz_24 H locs hp_11 hM hS o_12 => ?_)
  obtain ⟨ge_13, gk_14, gf_15, gs_16, gg_17, RN_18, K_19, F_20, S_21, N_22, gS_23⟩ := zz_24
  replace hX := hX.kept (o_12 b (by rw [hm00 b hbl]; rfl))
  replace hG := tG.keptW hG o_12 (fun q h => by rw [dj2 q h]; rfl)
  replace hM : tG D (mF cI cL cC gC gE gW gA gT gI gS_23 gM K_19 F_20 S_21 N_22 gH gJ ge_13 gk_14 gf_15 gs_16 gg_17 gr RN_18) tm H := hM
  have hp_11 : okM K_19 F_20 S_21 N_22 0 gI.toInt ∧ swM gS_23 K_19 F_20 S_21 N_22 gI.toInt := hp_11
  obtain ⟨p_25, p_26⟩ := hp_11
  refine lv_pc (pc2 := 1224) rfl ?_
  refine lv_pop hx hb dL_law_1224 rfl ?_
  refine lv_goto (tgt := 1409) hx hb dL_law_1225 (by decide) ?_
  exact kx H locs _ _ _ _ _ _ _ _ _ _ _ _ _ _ _ _ _ _ _ _ _ _ hG hM hC0 hC4 hI0 hI4 hH0 hH9 hm0 hm3 p_25 p_26 (by omega) hS hX
