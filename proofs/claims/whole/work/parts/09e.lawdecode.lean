theorem dW_law_879 : decode code 879 = .ok (.lshl, 1) := by decide +kernel
theorem dW_law_880 : decode code 880 = .ok (.aload_n 0, 1) := by decide +kernel
theorem dW_law_881 : decode code 881 = .ok (.iload_n 3, 1) := by decide +kernel
theorem dW_law_882 : decode code 882 = .ok (.iconst 4, 1) := by decide +kernel
theorem dW_law_883 : decode code 883 = .ok (.iadd, 1) := by decide +kernel
theorem dW_law_884 : decode code 884 = .ok (.iaload, 1) := by decide +kernel
theorem dW_law_885 : decode code 885 = .ok (.i2l, 1) := by decide +kernel
theorem dW_law_886 : decode code 886 = .ok (.ldc2_w 22, 3) := by decide +kernel
theorem dW_law_889 : decode code 889 = .ok (.land, 1) := by decide +kernel
theorem dW_law_890 : decode code 890 = .ok (.lor, 1) := by decide +kernel
theorem dW_law_891 : decode code 891 = .ok (.aload_n 0, 1) := by decide +kernel
theorem dW_law_892 : decode code 892 = .ok (.iload_n 3, 1) := by decide +kernel
theorem dW_law_893 : decode code 893 = .ok (.iconst 5, 1) := by decide +kernel
theorem dW_law_894 : decode code 894 = .ok (.iadd, 1) := by decide +kernel
theorem dW_law_895 : decode code 895 = .ok (.iaload, 1) := by decide +kernel
theorem dW_law_896 : decode code 896 = .ok (.i2l, 1) := by decide +kernel
theorem dW_law_897 : decode code 897 = .ok (.bipush 32, 2) := by decide +kernel
theorem dW_law_899 : decode code 899 = .ok (.lshl, 1) := by decide +kernel
theorem dW_law_900 : decode code 900 = .ok (.aload_n 0, 1) := by decide +kernel
theorem dW_law_901 : decode code 901 = .ok (.iload_n 3, 1) := by decide +kernel
theorem dW_law_902 : decode code 902 = .ok (.bipush 6, 2) := by decide +kernel
theorem dW_law_904 : decode code 904 = .ok (.iadd, 1) := by decide +kernel
theorem dW_law_905 : decode code 905 = .ok (.iaload, 1) := by decide +kernel
theorem dW_law_906 : decode code 906 = .ok (.i2l, 1) := by decide +kernel
theorem dW_law_907 : decode code 907 = .ok (.ldc2_w 22, 3) := by decide +kernel
theorem dW_law_910 : decode code 910 = .ok (.land, 1) := by decide +kernel
theorem dW_law_911 : decode code 911 = .ok (.lor, 1) := by decide +kernel
theorem dW_law_912 : decode code 912 = .ok (.invokevirtual 105, 3) := by decide +kernel
theorem dW_law_915 : decode code 915 = .ok (.aload_n 2, 1) := by decide +kernel
theorem dW_law_916 : decode code 916 = .ok (.aload_n 0, 1) := by decide +kernel
theorem dW_law_917 : decode code 917 = .ok (.iload_n 3, 1) := by decide +kernel
theorem dW_law_918 : decode code 918 = .ok (.iconst 1, 1) := by decide +kernel
theorem dW_law_919 : decode code 919 = .ok (.iadd, 1) := by decide +kernel
theorem dW_law_920 : decode code 920 = .ok (.iaload, 1) := by decide +kernel
theorem dW_law_921 : decode code 921 = .ok (.aload_n 0, 1) := by decide +kernel
theorem dW_law_922 : decode code 922 = .ok (.iload_n 3, 1) := by decide +kernel
theorem dW_law_923 : decode code 923 = .ok (.iconst 2, 1) := by decide +kernel
theorem dW_law_924 : decode code 924 = .ok (.iadd, 1) := by decide +kernel
theorem dW_law_925 : decode code 925 = .ok (.iaload, 1) := by decide +kernel
theorem dW_law_926 : decode code 926 = .ok (.aload_n 0, 1) := by decide +kernel
theorem dW_law_927 : decode code 927 = .ok (.iload_n 3, 1) := by decide +kernel
theorem dW_law_928 : decode code 928 = .ok (.iconst 3, 1) := by decide +kernel
theorem dW_law_929 : decode code 929 = .ok (.iadd, 1) := by decide +kernel
theorem dW_law_930 : decode code 930 = .ok (.iaload, 1) := by decide +kernel
theorem dW_law_931 : decode code 931 = .ok (.i2l, 1) := by decide +kernel
theorem dW_law_932 : decode code 932 = .ok (.bipush 32, 2) := by decide +kernel
theorem dW_law_934 : decode code 934 = .ok (.lshl, 1) := by decide +kernel
theorem dW_law_935 : decode code 935 = .ok (.aload_n 0, 1) := by decide +kernel
theorem dW_law_936 : decode code 936 = .ok (.iload_n 3, 1) := by decide +kernel
theorem dW_law_937 : decode code 937 = .ok (.iconst 4, 1) := by decide +kernel
theorem dW_law_938 : decode code 938 = .ok (.iadd, 1) := by decide +kernel
theorem dW_law_939 : decode code 939 = .ok (.iaload, 1) := by decide +kernel
theorem dW_law_940 : decode code 940 = .ok (.i2l, 1) := by decide +kernel
theorem dW_law_941 : decode code 941 = .ok (.ldc2_w 22, 3) := by decide +kernel
theorem dW_law_944 : decode code 944 = .ok (.land, 1) := by decide +kernel
theorem dW_law_945 : decode code 945 = .ok (.lor, 1) := by decide +kernel
theorem dW_law_946 : decode code 946 = .ok (.aload_n 0, 1) := by decide +kernel
theorem dW_law_947 : decode code 947 = .ok (.iload_n 3, 1) := by decide +kernel
theorem dW_law_948 : decode code 948 = .ok (.iconst 5, 1) := by decide +kernel
theorem dW_law_949 : decode code 949 = .ok (.iadd, 1) := by decide +kernel
theorem dW_law_950 : decode code 950 = .ok (.iaload, 1) := by decide +kernel
theorem dW_law_951 : decode code 951 = .ok (.i2l, 1) := by decide +kernel
theorem dW_law_952 : decode code 952 = .ok (.bipush 32, 2) := by decide +kernel
theorem dW_law_954 : decode code 954 = .ok (.lshl, 1) := by decide +kernel
theorem dW_law_955 : decode code 955 = .ok (.aload_n 0, 1) := by decide +kernel
theorem dW_law_956 : decode code 956 = .ok (.iload_n 3, 1) := by decide +kernel
theorem dW_law_957 : decode code 957 = .ok (.bipush 6, 2) := by decide +kernel
theorem dW_law_959 : decode code 959 = .ok (.iadd, 1) := by decide +kernel
theorem dW_law_960 : decode code 960 = .ok (.iaload, 1) := by decide +kernel
theorem dW_law_961 : decode code 961 = .ok (.i2l, 1) := by decide +kernel
theorem dW_law_962 : decode code 962 = .ok (.ldc2_w 22, 3) := by decide +kernel
theorem dW_law_965 : decode code 965 = .ok (.land, 1) := by decide +kernel
theorem dW_law_966 : decode code 966 = .ok (.lor, 1) := by decide +kernel
theorem dW_law_967 : decode code 967 = .ok (.invokevirtual 109, 3) := by decide +kernel
theorem dW_law_970 : decode code 970 = .ok (.if_icmp .eq 151, 3) := by decide +kernel
theorem dW_law_973 : decode code 973 = .ok (.iconst 0, 1) := by decide +kernel
theorem dW_law_974 : decode code 974 = .ok (.ireturn, 1) := by decide +kernel
theorem dW_law_975 : decode code 975 = .ok (.aload_n 1, 1) := by decide +kernel
theorem dW_law_976 : decode code 976 = .ok (.aload_n 0, 1) := by decide +kernel
theorem dW_law_977 : decode code 977 = .ok (.iload_n 3, 1) := by decide +kernel
theorem dW_law_978 : decode code 978 = .ok (.iconst 1, 1) := by decide +kernel
theorem dW_law_979 : decode code 979 = .ok (.iadd, 1) := by decide +kernel
theorem dW_law_980 : decode code 980 = .ok (.iaload, 1) := by decide +kernel
theorem dW_law_981 : decode code 981 = .ok (.invokevirtual 110, 3) := by decide +kernel
theorem dW_law_984 : decode code 984 = .ok (.aload_n 2, 1) := by decide +kernel
theorem dW_law_985 : decode code 985 = .ok (.aload_n 0, 1) := by decide +kernel
theorem dW_law_986 : decode code 986 = .ok (.iload_n 3, 1) := by decide +kernel
theorem dW_law_987 : decode code 987 = .ok (.iconst 1, 1) := by decide +kernel
theorem dW_law_988 : decode code 988 = .ok (.iadd, 1) := by decide +kernel
theorem dW_law_989 : decode code 989 = .ok (.iaload, 1) := by decide +kernel
theorem dW_law_990 : decode code 990 = .ok (.invokevirtual 114, 3) := by decide +kernel
theorem dW_law_993 : decode code 993 = .ok (.if_icmp .eq 128, 3) := by decide +kernel
theorem dW_law_996 : decode code 996 = .ok (.iconst 0, 1) := by decide +kernel
theorem dW_law_997 : decode code 997 = .ok (.ireturn, 1) := by decide +kernel
theorem dW_law_998 : decode code 998 = .ok (.aload_n 1, 1) := by decide +kernel
theorem dW_law_999 : decode code 999 = .ok (.aload_n 0, 1) := by decide +kernel
theorem dW_law_1000 : decode code 1000 = .ok (.iload_n 3, 1) := by decide +kernel
theorem dW_law_1001 : decode code 1001 = .ok (.iconst 1, 1) := by decide +kernel
theorem dW_law_1002 : decode code 1002 = .ok (.iadd, 1) := by decide +kernel
theorem dW_law_1003 : decode code 1003 = .ok (.iaload, 1) := by decide +kernel
theorem dW_law_1004 : decode code 1004 = .ok (.aload_n 0, 1) := by decide +kernel
theorem dW_law_1005 : decode code 1005 = .ok (.iload_n 3, 1) := by decide +kernel
theorem dW_law_1006 : decode code 1006 = .ok (.iconst 2, 1) := by decide +kernel
theorem dW_law_1007 : decode code 1007 = .ok (.iadd, 1) := by decide +kernel
theorem dW_law_1008 : decode code 1008 = .ok (.iaload, 1) := by decide +kernel
theorem dW_law_1009 : decode code 1009 = .ok (.invokevirtual 115, 3) := by decide +kernel
theorem dW_law_1012 : decode code 1012 = .ok (.aload_n 2, 1) := by decide +kernel
theorem dW_law_1013 : decode code 1013 = .ok (.aload_n 0, 1) := by decide +kernel
theorem dW_law_1014 : decode code 1014 = .ok (.iload_n 3, 1) := by decide +kernel
theorem dW_law_1015 : decode code 1015 = .ok (.iconst 1, 1) := by decide +kernel
theorem dW_law_1016 : decode code 1016 = .ok (.iadd, 1) := by decide +kernel
theorem dW_law_1017 : decode code 1017 = .ok (.iaload, 1) := by decide +kernel
theorem dW_law_1018 : decode code 1018 = .ok (.aload_n 0, 1) := by decide +kernel
theorem dW_law_1019 : decode code 1019 = .ok (.iload_n 3, 1) := by decide +kernel
theorem dW_law_1020 : decode code 1020 = .ok (.iconst 2, 1) := by decide +kernel
theorem dW_law_1021 : decode code 1021 = .ok (.iadd, 1) := by decide +kernel
theorem dW_law_1022 : decode code 1022 = .ok (.iaload, 1) := by decide +kernel
theorem dW_law_1023 : decode code 1023 = .ok (.invokevirtual 118, 3) := by decide +kernel
theorem dW_law_1026 : decode code 1026 = .ok (.if_icmp .eq 95, 3) := by decide +kernel
theorem dW_law_1029 : decode code 1029 = .ok (.iconst 0, 1) := by decide +kernel
theorem dW_law_1030 : decode code 1030 = .ok (.ireturn, 1) := by decide +kernel
theorem dW_law_1031 : decode code 1031 = .ok (.aload_n 1, 1) := by decide +kernel
theorem dW_law_1032 : decode code 1032 = .ok (.aload_n 0, 1) := by decide +kernel
theorem dW_law_1033 : decode code 1033 = .ok (.iload_n 3, 1) := by decide +kernel
theorem dW_law_1034 : decode code 1034 = .ok (.iconst 1, 1) := by decide +kernel
theorem dW_law_1035 : decode code 1035 = .ok (.iadd, 1) := by decide +kernel
theorem dW_law_1036 : decode code 1036 = .ok (.iaload, 1) := by decide +kernel
theorem dW_law_1037 : decode code 1037 = .ok (.aload_n 0, 1) := by decide +kernel
theorem dW_law_1038 : decode code 1038 = .ok (.iload_n 3, 1) := by decide +kernel
theorem dW_law_1039 : decode code 1039 = .ok (.iconst 2, 1) := by decide +kernel
theorem dW_law_1040 : decode code 1040 = .ok (.iadd, 1) := by decide +kernel
theorem dW_law_1041 : decode code 1041 = .ok (.iaload, 1) := by decide +kernel
theorem dW_law_1042 : decode code 1042 = .ok (.invokevirtual 119, 3) := by decide +kernel
theorem dW_law_1045 : decode code 1045 = .ok (.aload_n 2, 1) := by decide +kernel
theorem dW_law_1046 : decode code 1046 = .ok (.aload_n 0, 1) := by decide +kernel
theorem dW_law_1047 : decode code 1047 = .ok (.iload_n 3, 1) := by decide +kernel
theorem dW_law_1048 : decode code 1048 = .ok (.iconst 1, 1) := by decide +kernel
theorem dW_law_1049 : decode code 1049 = .ok (.iadd, 1) := by decide +kernel
theorem dW_law_1050 : decode code 1050 = .ok (.iaload, 1) := by decide +kernel
theorem dW_law_1051 : decode code 1051 = .ok (.aload_n 0, 1) := by decide +kernel
theorem dW_law_1052 : decode code 1052 = .ok (.iload_n 3, 1) := by decide +kernel
theorem dW_law_1053 : decode code 1053 = .ok (.iconst 2, 1) := by decide +kernel
theorem dW_law_1054 : decode code 1054 = .ok (.iadd, 1) := by decide +kernel
theorem dW_law_1055 : decode code 1055 = .ok (.iaload, 1) := by decide +kernel
theorem dW_law_1056 : decode code 1056 = .ok (.invokevirtual 123, 3) := by decide +kernel
theorem dW_law_1059 : decode code 1059 = .ok (.lcmp, 1) := by decide +kernel
theorem dW_law_1060 : decode code 1060 = .ok (.ifCond .eq 61, 3) := by decide +kernel
theorem dW_law_1063 : decode code 1063 = .ok (.iconst 0, 1) := by decide +kernel
theorem dW_law_1064 : decode code 1064 = .ok (.ireturn, 1) := by decide +kernel
theorem dW_law_1065 : decode code 1065 = .ok (.aload_n 1, 1) := by decide +kernel
theorem dW_law_1066 : decode code 1066 = .ok (.aload_n 0, 1) := by decide +kernel
theorem dW_law_1067 : decode code 1067 = .ok (.iload_n 3, 1) := by decide +kernel
theorem dW_law_1068 : decode code 1068 = .ok (.iconst 1, 1) := by decide +kernel
theorem dW_law_1069 : decode code 1069 = .ok (.iadd, 1) := by decide +kernel
theorem dW_law_1070 : decode code 1070 = .ok (.iaload, 1) := by decide +kernel
theorem dW_law_1071 : decode code 1071 = .ok (.aload_n 0, 1) := by decide +kernel
theorem dW_law_1072 : decode code 1072 = .ok (.iload_n 3, 1) := by decide +kernel
theorem dW_law_1073 : decode code 1073 = .ok (.iconst 2, 1) := by decide +kernel
theorem dW_law_1074 : decode code 1074 = .ok (.iadd, 1) := by decide +kernel
theorem dW_law_1075 : decode code 1075 = .ok (.iaload, 1) := by decide +kernel
theorem dW_law_1076 : decode code 1076 = .ok (.invokevirtual 124, 3) := by decide +kernel
theorem dW_law_1079 : decode code 1079 = .ok (.aload_n 2, 1) := by decide +kernel
theorem dW_law_1080 : decode code 1080 = .ok (.aload_n 0, 1) := by decide +kernel
theorem dW_law_1081 : decode code 1081 = .ok (.iload_n 3, 1) := by decide +kernel
theorem dW_law_1082 : decode code 1082 = .ok (.iconst 1, 1) := by decide +kernel
theorem dW_law_1083 : decode code 1083 = .ok (.iadd, 1) := by decide +kernel
theorem dW_law_1084 : decode code 1084 = .ok (.iaload, 1) := by decide +kernel
theorem dW_law_1085 : decode code 1085 = .ok (.aload_n 0, 1) := by decide +kernel
theorem dW_law_1086 : decode code 1086 = .ok (.iload_n 3, 1) := by decide +kernel
theorem dW_law_1087 : decode code 1087 = .ok (.iconst 2, 1) := by decide +kernel
theorem dW_law_1088 : decode code 1088 = .ok (.iadd, 1) := by decide +kernel
theorem dW_law_1089 : decode code 1089 = .ok (.iaload, 1) := by decide +kernel
theorem dW_law_1090 : decode code 1090 = .ok (.invokevirtual 127, 3) := by decide +kernel
theorem dW_law_1093 : decode code 1093 = .ok (.if_icmp .eq 28, 3) := by decide +kernel
theorem dW_law_1096 : decode code 1096 = .ok (.iconst 0, 1) := by decide +kernel
theorem dW_law_1097 : decode code 1097 = .ok (.ireturn, 1) := by decide +kernel
theorem dW_law_1098 : decode code 1098 = .ok (.aload_n 1, 1) := by decide +kernel
theorem dW_law_1099 : decode code 1099 = .ok (.aload_n 0, 1) := by decide +kernel
theorem dW_law_1100 : decode code 1100 = .ok (.iload_n 3, 1) := by decide +kernel
theorem dW_law_1101 : decode code 1101 = .ok (.iconst 1, 1) := by decide +kernel
theorem dW_law_1102 : decode code 1102 = .ok (.iadd, 1) := by decide +kernel
theorem dW_law_1103 : decode code 1103 = .ok (.iaload, 1) := by decide +kernel
theorem dW_law_1104 : decode code 1104 = .ok (.invokevirtual 128, 3) := by decide +kernel
theorem dW_law_1107 : decode code 1107 = .ok (.aload_n 2, 1) := by decide +kernel
theorem dW_law_1108 : decode code 1108 = .ok (.aload_n 0, 1) := by decide +kernel
theorem dW_law_1109 : decode code 1109 = .ok (.iload_n 3, 1) := by decide +kernel
theorem dW_law_1110 : decode code 1110 = .ok (.iconst 1, 1) := by decide +kernel
theorem dW_law_1111 : decode code 1111 = .ok (.iadd, 1) := by decide +kernel
theorem dW_law_1112 : decode code 1112 = .ok (.iaload, 1) := by decide +kernel
theorem dW_law_1113 : decode code 1113 = .ok (.invokevirtual 131, 3) := by decide +kernel
theorem dW_law_1116 : decode code 1116 = .ok (.if_icmp .eq 5, 3) := by decide +kernel
theorem dW_law_1119 : decode code 1119 = .ok (.iconst 0, 1) := by decide +kernel
theorem dW_law_1120 : decode code 1120 = .ok (.ireturn, 1) := by decide +kernel
theorem dW_law_1121 : decode code 1121 = .ok (.iinc 3 7, 3) := by decide +kernel
theorem dW_law_1124 : decode code 1124 = .ok (.goto (-1106), 3) := by decide +kernel
theorem dW_law_1127 : decode code 1127 = .ok (.iconst 1, 1) := by decide +kernel
theorem dW_law_1128 : decode code 1128 = .ok (.ireturn, 1) := by decide +kernel

