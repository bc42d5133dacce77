theorem d_L_law_942 : decode code 942 = .ok (.istore 5, 2) := by decide +kernel
theorem d_L_law_944 : decode code 944 = .ok (.aload_n 2, 1) := by decide +kernel
theorem d_L_law_945 : decode code 945 = .ok (.aload_n 0, 1) := by decide +kernel
theorem d_L_law_946 : decode code 946 = .ok (.iload 4, 2) := by decide +kernel
theorem d_L_law_948 : decode code 948 = .ok (.iconst 1, 1) := by decide +kernel
theorem d_L_law_949 : decode code 949 = .ok (.iadd, 1) := by decide +kernel
theorem d_L_law_950 : decode code 950 = .ok (.iaload, 1) := by decide +kernel
theorem d_L_law_951 : decode code 951 = .ok (.aload_n 0, 1) := by decide +kernel
theorem d_L_law_952 : decode code 952 = .ok (.iload 4, 2) := by decide +kernel
theorem d_L_law_954 : decode code 954 = .ok (.iconst 2, 1) := by decide +kernel
theorem d_L_law_955 : decode code 955 = .ok (.iadd, 1) := by decide +kernel
theorem d_L_law_956 : decode code 956 = .ok (.iaload, 1) := by decide +kernel
theorem d_L_law_957 : decode code 957 = .ok (.i2l, 1) := by decide +kernel
theorem d_L_law_958 : decode code 958 = .ok (.bipush 32, 2) := by decide +kernel
theorem d_L_law_960 : decode code 960 = .ok (.lshl, 1) := by decide +kernel
theorem d_L_law_961 : decode code 961 = .ok (.aload_n 0, 1) := by decide +kernel
theorem d_L_law_962 : decode code 962 = .ok (.iload 4, 2) := by decide +kernel
theorem d_L_law_964 : decode code 964 = .ok (.iconst 3, 1) := by decide +kernel
theorem d_L_law_965 : decode code 965 = .ok (.iadd, 1) := by decide +kernel
theorem d_L_law_966 : decode code 966 = .ok (.iaload, 1) := by decide +kernel
theorem d_L_law_967 : decode code 967 = .ok (.i2l, 1) := by decide +kernel
theorem d_L_law_968 : decode code 968 = .ok (.ldc2_w 79, 3) := by decide +kernel
theorem d_L_law_971 : decode code 971 = .ok (.land, 1) := by decide +kernel
theorem d_L_law_972 : decode code 972 = .ok (.lor, 1) := by decide +kernel
theorem d_L_law_973 : decode code 973 = .ok (.aload_n 0, 1) := by decide +kernel
theorem d_L_law_974 : decode code 974 = .ok (.iload 4, 2) := by decide +kernel
theorem d_L_law_976 : decode code 976 = .ok (.iconst 4, 1) := by decide +kernel
theorem d_L_law_977 : decode code 977 = .ok (.iadd, 1) := by decide +kernel
theorem d_L_law_978 : decode code 978 = .ok (.iaload, 1) := by decide +kernel
theorem d_L_law_979 : decode code 979 = .ok (.i2l, 1) := by decide +kernel
theorem d_L_law_980 : decode code 980 = .ok (.bipush 32, 2) := by decide +kernel
theorem d_L_law_982 : decode code 982 = .ok (.lshl, 1) := by decide +kernel
theorem d_L_law_983 : decode code 983 = .ok (.aload_n 0, 1) := by decide +kernel
theorem d_L_law_984 : decode code 984 = .ok (.iload 4, 2) := by decide +kernel
theorem d_L_law_986 : decode code 986 = .ok (.iconst 5, 1) := by decide +kernel
theorem d_L_law_987 : decode code 987 = .ok (.iadd, 1) := by decide +kernel
theorem d_L_law_988 : decode code 988 = .ok (.iaload, 1) := by decide +kernel
theorem d_L_law_989 : decode code 989 = .ok (.i2l, 1) := by decide +kernel
theorem d_L_law_990 : decode code 990 = .ok (.ldc2_w 79, 3) := by decide +kernel
theorem d_L_law_993 : decode code 993 = .ok (.land, 1) := by decide +kernel
theorem d_L_law_994 : decode code 994 = .ok (.lor, 1) := by decide +kernel
theorem d_L_law_995 : decode code 995 = .ok (.invokevirtual 111, 3) := by decide +kernel
theorem d_L_law_998 : decode code 998 = .ok (.istore 6, 2) := by decide +kernel
theorem d_L_law_1000 : decode code 1000 = .ok (.aload_n 2, 1) := by decide +kernel
theorem d_L_law_1001 : decode code 1001 = .ok (.invokevirtual 85, 3) := by decide +kernel
theorem d_L_law_1004 : decode code 1004 = .ok (.iload 5, 2) := by decide +kernel
theorem d_L_law_1006 : decode code 1006 = .ok (.if_icmp .eq 5, 3) := by decide +kernel
theorem d_L_law_1009 : decode code 1009 = .ok (.iconst 0, 1) := by decide +kernel
theorem d_L_law_1010 : decode code 1010 = .ok (.ireturn, 1) := by decide +kernel
theorem d_L_law_1011 : decode code 1011 = .ok (.iload 5, 2) := by decide +kernel
theorem d_L_law_1013 : decode code 1013 = .ok (.ifCond .ne 22, 3) := by decide +kernel
theorem d_L_law_1016 : decode code 1016 = .ok (.aload_n 3, 1) := by decide +kernel
theorem d_L_law_1017 : decode code 1017 = .ok (.iconst 0, 1) := by decide +kernel
theorem d_L_law_1018 : decode code 1018 = .ok (.laload, 1) := by decide +kernel
theorem d_L_law_1019 : decode code 1019 = .ok (.iload 6, 2) := by decide +kernel
theorem d_L_law_1021 : decode code 1021 = .ok (.ifCond .eq 7, 3) := by decide +kernel
theorem d_L_law_1024 : decode code 1024 = .ok (.lconst 1, 1) := by decide +kernel
theorem d_L_law_1025 : decode code 1025 = .ok (.goto 4, 3) := by decide +kernel
theorem d_L_law_1028 : decode code 1028 = .ok (.lconst 0, 1) := by decide +kernel
theorem d_L_law_1029 : decode code 1029 = .ok (.lcmp, 1) := by decide +kernel
theorem d_L_law_1030 : decode code 1030 = .ok (.ifCond .eq 5, 3) := by decide +kernel
theorem d_L_law_1033 : decode code 1033 = .ok (.iconst 0, 1) := by decide +kernel
theorem d_L_law_1034 : decode code 1034 = .ok (.ireturn, 1) := by decide +kernel
theorem d_L_law_1035 : decode code 1035 = .ok (.goto 564, 3) := by decide +kernel
theorem d_L_law_1038 : decode code 1038 = .ok (.aload_n 1, 1) := by decide +kernel
theorem d_L_law_1039 : decode code 1039 = .ok (.aload_n 0, 1) := by decide +kernel
theorem d_L_law_1040 : decode code 1040 = .ok (.iload 4, 2) := by decide +kernel
theorem d_L_law_1042 : decode code 1042 = .ok (.iconst 1, 1) := by decide +kernel
theorem d_L_law_1043 : decode code 1043 = .ok (.iadd, 1) := by decide +kernel
theorem d_L_law_1044 : decode code 1044 = .ok (.iaload, 1) := by decide +kernel
theorem d_L_law_1045 : decode code 1045 = .ok (.aload_n 0, 1) := by decide +kernel
theorem d_L_law_1046 : decode code 1046 = .ok (.iload 4, 2) := by decide +kernel
theorem d_L_law_1048 : decode code 1048 = .ok (.iconst 2, 1) := by decide +kernel
theorem d_L_law_1049 : decode code 1049 = .ok (.iadd, 1) := by decide +kernel
theorem d_L_law_1050 : decode code 1050 = .ok (.iaload, 1) := by decide +kernel
theorem d_L_law_1051 : decode code 1051 = .ok (.aload_n 0, 1) := by decide +kernel
theorem d_L_law_1052 : decode code 1052 = .ok (.iload 4, 2) := by decide +kernel
theorem d_L_law_1054 : decode code 1054 = .ok (.iconst 3, 1) := by decide +kernel
theorem d_L_law_1055 : decode code 1055 = .ok (.iadd, 1) := by decide +kernel
theorem d_L_law_1056 : decode code 1056 = .ok (.iaload, 1) := by decide +kernel
theorem d_L_law_1057 : decode code 1057 = .ok (.aload_n 3, 1) := by decide +kernel
theorem d_L_law_1058 : decode code 1058 = .ok (.invokestatic 112, 3) := by decide +kernel
theorem d_L_law_1061 : decode code 1061 = .ok (.istore 5, 2) := by decide +kernel
theorem d_L_law_1063 : decode code 1063 = .ok (.aload_n 2, 1) := by decide +kernel
theorem d_L_law_1064 : decode code 1064 = .ok (.aload_n 0, 1) := by decide +kernel
theorem d_L_law_1065 : decode code 1065 = .ok (.iload 4, 2) := by decide +kernel
theorem d_L_law_1067 : decode code 1067 = .ok (.iconst 1, 1) := by decide +kernel
theorem d_L_law_1068 : decode code 1068 = .ok (.iadd, 1) := by decide +kernel
theorem d_L_law_1069 : decode code 1069 = .ok (.iaload, 1) := by decide +kernel
theorem d_L_law_1070 : decode code 1070 = .ok (.aload_n 0, 1) := by decide +kernel
theorem d_L_law_1071 : decode code 1071 = .ok (.iload 4, 2) := by decide +kernel
theorem d_L_law_1073 : decode code 1073 = .ok (.iconst 2, 1) := by decide +kernel
theorem d_L_law_1074 : decode code 1074 = .ok (.iadd, 1) := by decide +kernel
theorem d_L_law_1075 : decode code 1075 = .ok (.iaload, 1) := by decide +kernel
theorem d_L_law_1076 : decode code 1076 = .ok (.aload_n 0, 1) := by decide +kernel
theorem d_L_law_1077 : decode code 1077 = .ok (.iload 4, 2) := by decide +kernel
theorem d_L_law_1079 : decode code 1079 = .ok (.iconst 3, 1) := by decide +kernel
theorem d_L_law_1080 : decode code 1080 = .ok (.iadd, 1) := by decide +kernel
theorem d_L_law_1081 : decode code 1081 = .ok (.iaload, 1) := by decide +kernel
theorem d_L_law_1082 : decode code 1082 = .ok (.invokevirtual 114, 3) := by decide +kernel
theorem d_L_law_1085 : decode code 1085 = .ok (.istore 6, 2) := by decide +kernel
theorem d_L_law_1087 : decode code 1087 = .ok (.aload_n 2, 1) := by decide +kernel
theorem d_L_law_1088 : decode code 1088 = .ok (.invokevirtual 85, 3) := by decide +kernel
theorem d_L_law_1091 : decode code 1091 = .ok (.iload 5, 2) := by decide +kernel
theorem d_L_law_1093 : decode code 1093 = .ok (.if_icmp .eq 5, 3) := by decide +kernel
theorem d_L_law_1096 : decode code 1096 = .ok (.iconst 0, 1) := by decide +kernel
theorem d_L_law_1097 : decode code 1097 = .ok (.ireturn, 1) := by decide +kernel
theorem d_L_law_1098 : decode code 1098 = .ok (.iload 5, 2) := by decide +kernel
theorem d_L_law_1100 : decode code 1100 = .ok (.ifCond .ne 15, 3) := by decide +kernel
theorem d_L_law_1103 : decode code 1103 = .ok (.aload_n 3, 1) := by decide +kernel
theorem d_L_law_1104 : decode code 1104 = .ok (.iconst 0, 1) := by decide +kernel
theorem d_L_law_1105 : decode code 1105 = .ok (.laload, 1) := by decide +kernel
theorem d_L_law_1106 : decode code 1106 = .ok (.iload 6, 2) := by decide +kernel
theorem d_L_law_1108 : decode code 1108 = .ok (.i2l, 1) := by decide +kernel
theorem d_L_law_1109 : decode code 1109 = .ok (.lcmp, 1) := by decide +kernel
theorem d_L_law_1110 : decode code 1110 = .ok (.ifCond .eq 5, 3) := by decide +kernel
theorem d_L_law_1113 : decode code 1113 = .ok (.iconst 0, 1) := by decide +kernel
theorem d_L_law_1114 : decode code 1114 = .ok (.ireturn, 1) := by decide +kernel
theorem d_L_law_1115 : decode code 1115 = .ok (.goto 484, 3) := by decide +kernel
theorem d_L_law_1118 : decode code 1118 = .ok (.aload_n 1, 1) := by decide +kernel
theorem d_L_law_1119 : decode code 1119 = .ok (.aload_n 0, 1) := by decide +kernel
theorem d_L_law_1120 : decode code 1120 = .ok (.iload 4, 2) := by decide +kernel
theorem d_L_law_1122 : decode code 1122 = .ok (.iconst 1, 1) := by decide +kernel
theorem d_L_law_1123 : decode code 1123 = .ok (.iadd, 1) := by decide +kernel
theorem d_L_law_1124 : decode code 1124 = .ok (.iaload, 1) := by decide +kernel
theorem d_L_law_1125 : decode code 1125 = .ok (.aload_n 0, 1) := by decide +kernel
theorem d_L_law_1126 : decode code 1126 = .ok (.iload 4, 2) := by decide +kernel
theorem d_L_law_1128 : decode code 1128 = .ok (.iconst 2, 1) := by decide +kernel
theorem d_L_law_1129 : decode code 1129 = .ok (.iadd, 1) := by decide +kernel
theorem d_L_law_1130 : decode code 1130 = .ok (.iaload, 1) := by decide +kernel
theorem d_L_law_1131 : decode code 1131 = .ok (.aload_n 0, 1) := by decide +kernel
theorem d_L_law_1132 : decode code 1132 = .ok (.iload 4, 2) := by decide +kernel
theorem d_L_law_1134 : decode code 1134 = .ok (.iconst 3, 1) := by decide +kernel
theorem d_L_law_1135 : decode code 1135 = .ok (.iadd, 1) := by decide +kernel
theorem d_L_law_1136 : decode code 1136 = .ok (.iaload, 1) := by decide +kernel
theorem d_L_law_1137 : decode code 1137 = .ok (.aload_n 3, 1) := by decide +kernel
theorem d_L_law_1138 : decode code 1138 = .ok (.invokestatic 115, 3) := by decide +kernel
theorem d_L_law_1141 : decode code 1141 = .ok (.istore 5, 2) := by decide +kernel
theorem d_L_law_1143 : decode code 1143 = .ok (.aload_n 2, 1) := by decide +kernel
theorem d_L_law_1144 : decode code 1144 = .ok (.aload_n 0, 1) := by decide +kernel
theorem d_L_law_1145 : decode code 1145 = .ok (.iload 4, 2) := by decide +kernel
theorem d_L_law_1147 : decode code 1147 = .ok (.iconst 1, 1) := by decide +kernel
theorem d_L_law_1148 : decode code 1148 = .ok (.iadd, 1) := by decide +kernel
theorem d_L_law_1149 : decode code 1149 = .ok (.iaload, 1) := by decide +kernel
theorem d_L_law_1150 : decode code 1150 = .ok (.aload_n 0, 1) := by decide +kernel
theorem d_L_law_1151 : decode code 1151 = .ok (.iload 4, 2) := by decide +kernel
theorem d_L_law_1153 : decode code 1153 = .ok (.iconst 2, 1) := by decide +kernel
theorem d_L_law_1154 : decode code 1154 = .ok (.iadd, 1) := by decide +kernel
theorem d_L_law_1155 : decode code 1155 = .ok (.iaload, 1) := by decide +kernel
theorem d_L_law_1156 : decode code 1156 = .ok (.aload_n 0, 1) := by decide +kernel
