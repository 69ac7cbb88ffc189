theorem d_L_law_936 : decode code 936 = .ok (.if_icmp .eq 266, 3) := by decide +kernel
theorem d_L_law_939 : decode code 939 = .ok (.iconst 0, 1) := by decide +kernel
theorem d_L_law_940 : decode code 940 = .ok (.ireturn, 1) := by decide +kernel
theorem d_L_law_941 : decode code 941 = .ok (.aload_n 1, 1) := by decide +kernel
theorem d_L_law_942 : decode code 942 = .ok (.aload_n 0, 1) := by decide +kernel
theorem d_L_law_943 : decode code 943 = .ok (.iload_n 3, 1) := by decide +kernel
theorem d_L_law_944 : decode code 944 = .ok (.iconst 1, 1) := by decide +kernel
theorem d_L_law_945 : decode code 945 = .ok (.iadd, 1) := by decide +kernel
theorem d_L_law_946 : decode code 946 = .ok (.iaload, 1) := by decide +kernel
theorem d_L_law_947 : decode code 947 = .ok (.aload_n 0, 1) := by decide +kernel
theorem d_L_law_948 : decode code 948 = .ok (.iload_n 3, 1) := by decide +kernel
theorem d_L_law_949 : decode code 949 = .ok (.iconst 2, 1) := by decide +kernel
theorem d_L_law_950 : decode code 950 = .ok (.iadd, 1) := by decide +kernel
theorem d_L_law_951 : decode code 951 = .ok (.iaload, 1) := by decide +kernel
theorem d_L_law_952 : decode code 952 = .ok (.i2l, 1) := by decide +kernel
theorem d_L_law_953 : decode code 953 = .ok (.bipush 32, 2) := by decide +kernel
theorem d_L_law_955 : decode code 955 = .ok (.lshl, 1) := by decide +kernel
theorem d_L_law_956 : decode code 956 = .ok (.aload_n 0, 1) := by decide +kernel
theorem d_L_law_957 : decode code 957 = .ok (.iload_n 3, 1) := by decide +kernel
theorem d_L_law_958 : decode code 958 = .ok (.iconst 3, 1) := by decide +kernel
theorem d_L_law_959 : decode code 959 = .ok (.iadd, 1) := by decide +kernel
theorem d_L_law_960 : decode code 960 = .ok (.iaload, 1) := by decide +kernel
theorem d_L_law_961 : decode code 961 = .ok (.i2l, 1) := by decide +kernel
theorem d_L_law_962 : decode code 962 = .ok (.ldc2_w 13, 3) := by decide +kernel
theorem d_L_law_965 : decode code 965 = .ok (.land, 1) := by decide +kernel
theorem d_L_law_966 : decode code 966 = .ok (.lor, 1) := by decide +kernel
theorem d_L_law_967 : decode code 967 = .ok (.aload_n 0, 1) := by decide +kernel
theorem d_L_law_968 : decode code 968 = .ok (.iload_n 3, 1) := by decide +kernel
theorem d_L_law_969 : decode code 969 = .ok (.iconst 4, 1) := by decide +kernel
theorem d_L_law_970 : decode code 970 = .ok (.iadd, 1) := by decide +kernel
theorem d_L_law_971 : decode code 971 = .ok (.iaload, 1) := by decide +kernel
theorem d_L_law_972 : decode code 972 = .ok (.invokevirtual 73, 3) := by decide +kernel
theorem d_L_law_975 : decode code 975 = .ok (.aload_n 2, 1) := by decide +kernel
theorem d_L_law_976 : decode code 976 = .ok (.aload_n 0, 1) := by decide +kernel
theorem d_L_law_977 : decode code 977 = .ok (.iload_n 3, 1) := by decide +kernel
theorem d_L_law_978 : decode code 978 = .ok (.iconst 1, 1) := by decide +kernel
theorem d_L_law_979 : decode code 979 = .ok (.iadd, 1) := by decide +kernel
theorem d_L_law_980 : decode code 980 = .ok (.iaload, 1) := by decide +kernel
theorem d_L_law_981 : decode code 981 = .ok (.aload_n 0, 1) := by decide +kernel
theorem d_L_law_982 : decode code 982 = .ok (.iload_n 3, 1) := by decide +kernel
theorem d_L_law_983 : decode code 983 = .ok (.iconst 2, 1) := by decide +kernel
theorem d_L_law_984 : decode code 984 = .ok (.iadd, 1) := by decide +kernel
theorem d_L_law_985 : decode code 985 = .ok (.iaload, 1) := by decide +kernel
theorem d_L_law_986 : decode code 986 = .ok (.i2l, 1) := by decide +kernel
theorem d_L_law_987 : decode code 987 = .ok (.bipush 32, 2) := by decide +kernel
theorem d_L_law_989 : decode code 989 = .ok (.lshl, 1) := by decide +kernel
theorem d_L_law_990 : decode code 990 = .ok (.aload_n 0, 1) := by decide +kernel
theorem d_L_law_991 : decode code 991 = .ok (.iload_n 3, 1) := by decide +kernel
theorem d_L_law_992 : decode code 992 = .ok (.iconst 3, 1) := by decide +kernel
theorem d_L_law_993 : decode code 993 = .ok (.iadd, 1) := by decide +kernel
theorem d_L_law_994 : decode code 994 = .ok (.iaload, 1) := by decide +kernel
theorem d_L_law_995 : decode code 995 = .ok (.i2l, 1) := by decide +kernel
theorem d_L_law_996 : decode code 996 = .ok (.ldc2_w 13, 3) := by decide +kernel
theorem d_L_law_999 : decode code 999 = .ok (.land, 1) := by decide +kernel
theorem d_L_law_1000 : decode code 1000 = .ok (.lor, 1) := by decide +kernel
theorem d_L_law_1001 : decode code 1001 = .ok (.aload_n 0, 1) := by decide +kernel
theorem d_L_law_1002 : decode code 1002 = .ok (.iload_n 3, 1) := by decide +kernel
theorem d_L_law_1003 : decode code 1003 = .ok (.iconst 4, 1) := by decide +kernel
theorem d_L_law_1004 : decode code 1004 = .ok (.iadd, 1) := by decide +kernel
theorem d_L_law_1005 : decode code 1005 = .ok (.iaload, 1) := by decide +kernel
theorem d_L_law_1006 : decode code 1006 = .ok (.invokevirtual 77, 3) := by decide +kernel
theorem d_L_law_1009 : decode code 1009 = .ok (.if_icmp .eq 193, 3) := by decide +kernel
theorem d_L_law_1012 : decode code 1012 = .ok (.iconst 0, 1) := by decide +kernel
theorem d_L_law_1013 : decode code 1013 = .ok (.ireturn, 1) := by decide +kernel
theorem d_L_law_1014 : decode code 1014 = .ok (.aload_n 1, 1) := by decide +kernel
theorem d_L_law_1015 : decode code 1015 = .ok (.aload_n 0, 1) := by decide +kernel
theorem d_L_law_1016 : decode code 1016 = .ok (.iload_n 3, 1) := by decide +kernel
theorem d_L_law_1017 : decode code 1017 = .ok (.iconst 1, 1) := by decide +kernel
theorem d_L_law_1018 : decode code 1018 = .ok (.iadd, 1) := by decide +kernel
theorem d_L_law_1019 : decode code 1019 = .ok (.iaload, 1) := by decide +kernel
theorem d_L_law_1020 : decode code 1020 = .ok (.invokevirtual 78, 3) := by decide +kernel
theorem d_L_law_1023 : decode code 1023 = .ok (.aload_n 2, 1) := by decide +kernel
theorem d_L_law_1024 : decode code 1024 = .ok (.aload_n 0, 1) := by decide +kernel
theorem d_L_law_1025 : decode code 1025 = .ok (.iload_n 3, 1) := by decide +kernel
theorem d_L_law_1026 : decode code 1026 = .ok (.iconst 1, 1) := by decide +kernel
theorem d_L_law_1027 : decode code 1027 = .ok (.iadd, 1) := by decide +kernel
theorem d_L_law_1028 : decode code 1028 = .ok (.iaload, 1) := by decide +kernel
theorem d_L_law_1029 : decode code 1029 = .ok (.invokevirtual 81, 3) := by decide +kernel
theorem d_L_law_1032 : decode code 1032 = .ok (.if_icmp .eq 170, 3) := by decide +kernel
theorem d_L_law_1035 : decode code 1035 = .ok (.iconst 0, 1) := by decide +kernel
theorem d_L_law_1036 : decode code 1036 = .ok (.ireturn, 1) := by decide +kernel
theorem d_L_law_1037 : decode code 1037 = .ok (.aload_n 1, 1) := by decide +kernel
theorem d_L_law_1038 : decode code 1038 = .ok (.aload_n 0, 1) := by decide +kernel
theorem d_L_law_1039 : decode code 1039 = .ok (.iload_n 3, 1) := by decide +kernel
theorem d_L_law_1040 : decode code 1040 = .ok (.iconst 1, 1) := by decide +kernel
theorem d_L_law_1041 : decode code 1041 = .ok (.iadd, 1) := by decide +kernel
theorem d_L_law_1042 : decode code 1042 = .ok (.iaload, 1) := by decide +kernel
theorem d_L_law_1043 : decode code 1043 = .ok (.i2l, 1) := by decide +kernel
theorem d_L_law_1044 : decode code 1044 = .ok (.bipush 32, 2) := by decide +kernel
theorem d_L_law_1046 : decode code 1046 = .ok (.lshl, 1) := by decide +kernel
theorem d_L_law_1047 : decode code 1047 = .ok (.aload_n 0, 1) := by decide +kernel
theorem d_L_law_1048 : decode code 1048 = .ok (.iload_n 3, 1) := by decide +kernel
theorem d_L_law_1049 : decode code 1049 = .ok (.iconst 2, 1) := by decide +kernel
theorem d_L_law_1050 : decode code 1050 = .ok (.iadd, 1) := by decide +kernel
theorem d_L_law_1051 : decode code 1051 = .ok (.iaload, 1) := by decide +kernel
theorem d_L_law_1052 : decode code 1052 = .ok (.i2l, 1) := by decide +kernel
theorem d_L_law_1053 : decode code 1053 = .ok (.ldc2_w 13, 3) := by decide +kernel
theorem d_L_law_1056 : decode code 1056 = .ok (.land, 1) := by decide +kernel
theorem d_L_law_1057 : decode code 1057 = .ok (.lor, 1) := by decide +kernel
theorem d_L_law_1058 : decode code 1058 = .ok (.invokevirtual 82, 3) := by decide +kernel
theorem d_L_law_1061 : decode code 1061 = .ok (.aload_n 2, 1) := by decide +kernel
theorem d_L_law_1062 : decode code 1062 = .ok (.aload_n 0, 1) := by decide +kernel
theorem d_L_law_1063 : decode code 1063 = .ok (.iload_n 3, 1) := by decide +kernel
theorem d_L_law_1064 : decode code 1064 = .ok (.iconst 1, 1) := by decide +kernel
theorem d_L_law_1065 : decode code 1065 = .ok (.iadd, 1) := by decide +kernel
theorem d_L_law_1066 : decode code 1066 = .ok (.iaload, 1) := by decide +kernel
theorem d_L_law_1067 : decode code 1067 = .ok (.i2l, 1) := by decide +kernel
theorem d_L_law_1068 : decode code 1068 = .ok (.bipush 32, 2) := by decide +kernel
theorem d_L_law_1070 : decode code 1070 = .ok (.lshl, 1) := by decide +kernel
theorem d_L_law_1071 : decode code 1071 = .ok (.aload_n 0, 1) := by decide +kernel
theorem d_L_law_1072 : decode code 1072 = .ok (.iload_n 3, 1) := by decide +kernel
theorem d_L_law_1073 : decode code 1073 = .ok (.iconst 2, 1) := by decide +kernel
theorem d_L_law_1074 : decode code 1074 = .ok (.iadd, 1) := by decide +kernel
theorem d_L_law_1075 : decode code 1075 = .ok (.iaload, 1) := by decide +kernel
theorem d_L_law_1076 : decode code 1076 = .ok (.i2l, 1) := by decide +kernel
theorem d_L_law_1077 : decode code 1077 = .ok (.ldc2_w 13, 3) := by decide +kernel
theorem d_L_law_1080 : decode code 1080 = .ok (.land, 1) := by decide +kernel
theorem d_L_law_1081 : decode code 1081 = .ok (.lor, 1) := by decide +kernel
theorem d_L_law_1082 : decode code 1082 = .ok (.invokevirtual 85, 3) := by decide +kernel
theorem d_L_law_1085 : decode code 1085 = .ok (.if_icmp .eq 117, 3) := by decide +kernel
theorem d_L_law_1088 : decode code 1088 = .ok (.iconst 0, 1) := by decide +kernel
theorem d_L_law_1089 : decode code 1089 = .ok (.ireturn, 1) := by decide +kernel
theorem d_L_law_1090 : decode code 1090 = .ok (.aload_n 1, 1) := by decide +kernel
theorem d_L_law_1091 : decode code 1091 = .ok (.aload_n 0, 1) := by decide +kernel
theorem d_L_law_1092 : decode code 1092 = .ok (.iload_n 3, 1) := by decide +kernel
theorem d_L_law_1093 : decode code 1093 = .ok (.iconst 1, 1) := by decide +kernel
theorem d_L_law_1094 : decode code 1094 = .ok (.iadd, 1) := by decide +kernel
theorem d_L_law_1095 : decode code 1095 = .ok (.iaload, 1) := by decide +kernel
theorem d_L_law_1096 : decode code 1096 = .ok (.i2l, 1) := by decide +kernel
theorem d_L_law_1097 : decode code 1097 = .ok (.bipush 32, 2) := by decide +kernel
theorem d_L_law_1099 : decode code 1099 = .ok (.lshl, 1) := by decide +kernel
theorem d_L_law_1100 : decode code 1100 = .ok (.aload_n 0, 1) := by decide +kernel
theorem d_L_law_1101 : decode code 1101 = .ok (.iload_n 3, 1) := by decide +kernel
theorem d_L_law_1102 : decode code 1102 = .ok (.iconst 2, 1) := by decide +kernel
theorem d_L_law_1103 : decode code 1103 = .ok (.iadd, 1) := by decide +kernel
theorem d_L_law_1104 : decode code 1104 = .ok (.iaload, 1) := by decide +kernel
theorem d_L_law_1105 : decode code 1105 = .ok (.i2l, 1) := by decide +kernel
theorem d_L_law_1106 : decode code 1106 = .ok (.ldc2_w 13, 3) := by decide +kernel
theorem d_L_law_1109 : decode code 1109 = .ok (.land, 1) := by decide +kernel
theorem d_L_law_1110 : decode code 1110 = .ok (.lor, 1) := by decide +kernel
theorem d_L_law_1111 : decode code 1111 = .ok (.aload_n 0, 1) := by decide +kernel
theorem d_L_law_1112 : decode code 1112 = .ok (.iload_n 3, 1) := by decide +kernel
theorem d_L_law_1113 : decode code 1113 = .ok (.iconst 3, 1) := by decide +kernel
theorem d_L_law_1114 : decode code 1114 = .ok (.iadd, 1) := by decide +kernel
theorem d_L_law_1115 : decode code 1115 = .ok (.iaload, 1) := by decide +kernel
theorem d_L_law_1116 : decode code 1116 = .ok (.invokevirtual 86, 3) := by decide +kernel
theorem d_L_law_1119 : decode code 1119 = .ok (.aload_n 2, 1) := by decide +kernel
theorem d_L_law_1120 : decode code 1120 = .ok (.aload_n 0, 1) := by decide +kernel
theorem d_L_law_1121 : decode code 1121 = .ok (.iload_n 3, 1) := by decide +kernel
theorem d_L_law_1122 : decode code 1122 = .ok (.iconst 1, 1) := by decide +kernel
theorem d_L_law_1123 : decode code 1123 = .ok (.iadd, 1) := by decide +kernel
theorem d_L_law_1124 : decode code 1124 = .ok (.iaload, 1) := by decide +kernel
theorem d_L_law_1125 : decode code 1125 = .ok (.i2l, 1) := by decide +kernel
theorem d_L_law_1126 : decode code 1126 = .ok (.bipush 32, 2) := by decide +kernel
theorem d_L_law_1128 : decode code 1128 = .ok (.lshl, 1) := by decide +kernel
theorem d_L_law_1129 : decode code 1129 = .ok (.aload_n 0, 1) := by decide +kernel
theorem d_L_law_1130 : decode code 1130 = .ok (.iload_n 3, 1) := by decide +kernel
theorem d_L_law_1131 : decode code 1131 = .ok (.iconst 2, 1) := by decide +kernel
theorem d_L_law_1132 : decode code 1132 = .ok (.iadd, 1) := by decide +kernel
theorem d_L_law_1133 : decode code 1133 = .ok (.iaload, 1) := by decide +kernel
theorem d_L_law_1134 : decode code 1134 = .ok (.i2l, 1) := by decide +kernel
theorem d_L_law_1135 : decode code 1135 = .ok (.ldc2_w 13, 3) := by decide +kernel
theorem d_L_law_1138 : decode code 1138 = .ok (.land, 1) := by decide +kernel
theorem d_L_law_1139 : decode code 1139 = .ok (.lor, 1) := by decide +kernel
theorem d_L_law_1140 : decode code 1140 = .ok (.aload_n 0, 1) := by decide +kernel
theorem d_L_law_1141 : decode code 1141 = .ok (.iload_n 3, 1) := by decide +kernel
theorem d_L_law_1142 : decode code 1142 = .ok (.iconst 3, 1) := by decide +kernel
theorem d_L_law_1143 : decode code 1143 = .ok (.iadd, 1) := by decide +kernel
theorem d_L_law_1144 : decode code 1144 = .ok (.iaload, 1) := by decide +kernel
theorem d_L_law_1145 : decode code 1145 = .ok (.invokevirtual 90, 3) := by decide +kernel
