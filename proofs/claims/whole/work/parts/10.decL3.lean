theorem dLw_law_933 : decode mLw_law.2.1 933 = .ok (.i2l, 1) := by decide +kernel
theorem dLw_law_934 : decode mLw_law.2.1 934 = .ok (.bipush 32, 2) := by decide +kernel
theorem dLw_law_936 : decode mLw_law.2.1 936 = .ok (.lshl, 1) := by decide +kernel
theorem dLw_law_937 : decode mLw_law.2.1 937 = .ok (.aload_n 0, 1) := by decide +kernel
theorem dLw_law_938 : decode mLw_law.2.1 938 = .ok (.iload_n 3, 1) := by decide +kernel
theorem dLw_law_939 : decode mLw_law.2.1 939 = .ok (.iconst 3, 1) := by decide +kernel
theorem dLw_law_940 : decode mLw_law.2.1 940 = .ok (.iadd, 1) := by decide +kernel
theorem dLw_law_941 : decode mLw_law.2.1 941 = .ok (.iaload, 1) := by decide +kernel
theorem dLw_law_942 : decode mLw_law.2.1 942 = .ok (.i2l, 1) := by decide +kernel
theorem dLw_law_943 : decode mLw_law.2.1 943 = .ok (.ldc2_w 13, 3) := by decide +kernel
theorem dLw_law_946 : decode mLw_law.2.1 946 = .ok (.land, 1) := by decide +kernel
theorem dLw_law_947 : decode mLw_law.2.1 947 = .ok (.lor, 1) := by decide +kernel
theorem dLw_law_948 : decode mLw_law.2.1 948 = .ok (.aload_n 0, 1) := by decide +kernel
theorem dLw_law_949 : decode mLw_law.2.1 949 = .ok (.iload_n 3, 1) := by decide +kernel
theorem dLw_law_950 : decode mLw_law.2.1 950 = .ok (.iconst 4, 1) := by decide +kernel
theorem dLw_law_951 : decode mLw_law.2.1 951 = .ok (.iadd, 1) := by decide +kernel
theorem dLw_law_952 : decode mLw_law.2.1 952 = .ok (.iaload, 1) := by decide +kernel
theorem dLw_law_953 : decode mLw_law.2.1 953 = .ok (.invokevirtual 104, 3) := by decide +kernel
theorem dLw_law_956 : decode mLw_law.2.1 956 = .ok (.if_icmp .eq 212, 3) := by decide +kernel
theorem dLw_law_959 : decode mLw_law.2.1 959 = .ok (.iconst 0, 1) := by decide +kernel
theorem dLw_law_960 : decode mLw_law.2.1 960 = .ok (.ireturn, 1) := by decide +kernel
theorem dLw_law_961 : decode mLw_law.2.1 961 = .ok (.aload_n 1, 1) := by decide +kernel
theorem dLw_law_962 : decode mLw_law.2.1 962 = .ok (.aload_n 0, 1) := by decide +kernel
theorem dLw_law_963 : decode mLw_law.2.1 963 = .ok (.iload_n 3, 1) := by decide +kernel
theorem dLw_law_964 : decode mLw_law.2.1 964 = .ok (.iconst 1, 1) := by decide +kernel
theorem dLw_law_965 : decode mLw_law.2.1 965 = .ok (.iadd, 1) := by decide +kernel
theorem dLw_law_966 : decode mLw_law.2.1 966 = .ok (.iaload, 1) := by decide +kernel
theorem dLw_law_967 : decode mLw_law.2.1 967 = .ok (.aload_n 0, 1) := by decide +kernel
theorem dLw_law_968 : decode mLw_law.2.1 968 = .ok (.iload_n 3, 1) := by decide +kernel
theorem dLw_law_969 : decode mLw_law.2.1 969 = .ok (.iconst 2, 1) := by decide +kernel
theorem dLw_law_970 : decode mLw_law.2.1 970 = .ok (.iadd, 1) := by decide +kernel
theorem dLw_law_971 : decode mLw_law.2.1 971 = .ok (.iaload, 1) := by decide +kernel
theorem dLw_law_972 : decode mLw_law.2.1 972 = .ok (.i2l, 1) := by decide +kernel
theorem dLw_law_973 : decode mLw_law.2.1 973 = .ok (.bipush 32, 2) := by decide +kernel
theorem dLw_law_975 : decode mLw_law.2.1 975 = .ok (.lshl, 1) := by decide +kernel
theorem dLw_law_976 : decode mLw_law.2.1 976 = .ok (.aload_n 0, 1) := by decide +kernel
theorem dLw_law_977 : decode mLw_law.2.1 977 = .ok (.iload_n 3, 1) := by decide +kernel
theorem dLw_law_978 : decode mLw_law.2.1 978 = .ok (.iconst 3, 1) := by decide +kernel
theorem dLw_law_979 : decode mLw_law.2.1 979 = .ok (.iadd, 1) := by decide +kernel
theorem dLw_law_980 : decode mLw_law.2.1 980 = .ok (.iaload, 1) := by decide +kernel
theorem dLw_law_981 : decode mLw_law.2.1 981 = .ok (.i2l, 1) := by decide +kernel
theorem dLw_law_982 : decode mLw_law.2.1 982 = .ok (.ldc2_w 13, 3) := by decide +kernel
theorem dLw_law_985 : decode mLw_law.2.1 985 = .ok (.land, 1) := by decide +kernel
theorem dLw_law_986 : decode mLw_law.2.1 986 = .ok (.lor, 1) := by decide +kernel
theorem dLw_law_987 : decode mLw_law.2.1 987 = .ok (.aload_n 0, 1) := by decide +kernel
theorem dLw_law_988 : decode mLw_law.2.1 988 = .ok (.iload_n 3, 1) := by decide +kernel
theorem dLw_law_989 : decode mLw_law.2.1 989 = .ok (.iconst 4, 1) := by decide +kernel
theorem dLw_law_990 : decode mLw_law.2.1 990 = .ok (.iadd, 1) := by decide +kernel
theorem dLw_law_991 : decode mLw_law.2.1 991 = .ok (.iaload, 1) := by decide +kernel
theorem dLw_law_992 : decode mLw_law.2.1 992 = .ok (.invokevirtual 105, 3) := by decide +kernel
theorem dLw_law_995 : decode mLw_law.2.1 995 = .ok (.aload_n 2, 1) := by decide +kernel
theorem dLw_law_996 : decode mLw_law.2.1 996 = .ok (.aload_n 0, 1) := by decide +kernel
theorem dLw_law_997 : decode mLw_law.2.1 997 = .ok (.iload_n 3, 1) := by decide +kernel
theorem dLw_law_998 : decode mLw_law.2.1 998 = .ok (.iconst 1, 1) := by decide +kernel
theorem dLw_law_999 : decode mLw_law.2.1 999 = .ok (.iadd, 1) := by decide +kernel
theorem dLw_law_1000 : decode mLw_law.2.1 1000 = .ok (.iaload, 1) := by decide +kernel
theorem dLw_law_1001 : decode mLw_law.2.1 1001 = .ok (.aload_n 0, 1) := by decide +kernel
theorem dLw_law_1002 : decode mLw_law.2.1 1002 = .ok (.iload_n 3, 1) := by decide +kernel
theorem dLw_law_1003 : decode mLw_law.2.1 1003 = .ok (.iconst 2, 1) := by decide +kernel
theorem dLw_law_1004 : decode mLw_law.2.1 1004 = .ok (.iadd, 1) := by decide +kernel
theorem dLw_law_1005 : decode mLw_law.2.1 1005 = .ok (.iaload, 1) := by decide +kernel
theorem dLw_law_1006 : decode mLw_law.2.1 1006 = .ok (.i2l, 1) := by decide +kernel
theorem dLw_law_1007 : decode mLw_law.2.1 1007 = .ok (.bipush 32, 2) := by decide +kernel
theorem dLw_law_1009 : decode mLw_law.2.1 1009 = .ok (.lshl, 1) := by decide +kernel
theorem dLw_law_1010 : decode mLw_law.2.1 1010 = .ok (.aload_n 0, 1) := by decide +kernel
theorem dLw_law_1011 : decode mLw_law.2.1 1011 = .ok (.iload_n 3, 1) := by decide +kernel
theorem dLw_law_1012 : decode mLw_law.2.1 1012 = .ok (.iconst 3, 1) := by decide +kernel
theorem dLw_law_1013 : decode mLw_law.2.1 1013 = .ok (.iadd, 1) := by decide +kernel
theorem dLw_law_1014 : decode mLw_law.2.1 1014 = .ok (.iaload, 1) := by decide +kernel
theorem dLw_law_1015 : decode mLw_law.2.1 1015 = .ok (.i2l, 1) := by decide +kernel
theorem dLw_law_1016 : decode mLw_law.2.1 1016 = .ok (.ldc2_w 13, 3) := by decide +kernel
theorem dLw_law_1019 : decode mLw_law.2.1 1019 = .ok (.land, 1) := by decide +kernel
theorem dLw_law_1020 : decode mLw_law.2.1 1020 = .ok (.lor, 1) := by decide +kernel
theorem dLw_law_1021 : decode mLw_law.2.1 1021 = .ok (.aload_n 0, 1) := by decide +kernel
theorem dLw_law_1022 : decode mLw_law.2.1 1022 = .ok (.iload_n 3, 1) := by decide +kernel
theorem dLw_law_1023 : decode mLw_law.2.1 1023 = .ok (.iconst 4, 1) := by decide +kernel
theorem dLw_law_1024 : decode mLw_law.2.1 1024 = .ok (.iadd, 1) := by decide +kernel
theorem dLw_law_1025 : decode mLw_law.2.1 1025 = .ok (.iaload, 1) := by decide +kernel
theorem dLw_law_1026 : decode mLw_law.2.1 1026 = .ok (.invokevirtual 108, 3) := by decide +kernel
theorem dLw_law_1029 : decode mLw_law.2.1 1029 = .ok (.if_icmp .eq 139, 3) := by decide +kernel
theorem dLw_law_1032 : decode mLw_law.2.1 1032 = .ok (.iconst 0, 1) := by decide +kernel
theorem dLw_law_1033 : decode mLw_law.2.1 1033 = .ok (.ireturn, 1) := by decide +kernel
theorem dLw_law_1034 : decode mLw_law.2.1 1034 = .ok (.aload_n 1, 1) := by decide +kernel
theorem dLw_law_1035 : decode mLw_law.2.1 1035 = .ok (.aload_n 0, 1) := by decide +kernel
theorem dLw_law_1036 : decode mLw_law.2.1 1036 = .ok (.iload_n 3, 1) := by decide +kernel
theorem dLw_law_1037 : decode mLw_law.2.1 1037 = .ok (.iconst 1, 1) := by decide +kernel
theorem dLw_law_1038 : decode mLw_law.2.1 1038 = .ok (.iadd, 1) := by decide +kernel
theorem dLw_law_1039 : decode mLw_law.2.1 1039 = .ok (.iaload, 1) := by decide +kernel
theorem dLw_law_1040 : decode mLw_law.2.1 1040 = .ok (.aload_n 0, 1) := by decide +kernel
theorem dLw_law_1041 : decode mLw_law.2.1 1041 = .ok (.iload_n 3, 1) := by decide +kernel
theorem dLw_law_1042 : decode mLw_law.2.1 1042 = .ok (.iconst 2, 1) := by decide +kernel
theorem dLw_law_1043 : decode mLw_law.2.1 1043 = .ok (.iadd, 1) := by decide +kernel
theorem dLw_law_1044 : decode mLw_law.2.1 1044 = .ok (.iaload, 1) := by decide +kernel
theorem dLw_law_1045 : decode mLw_law.2.1 1045 = .ok (.invokevirtual 109, 3) := by decide +kernel
theorem dLw_law_1048 : decode mLw_law.2.1 1048 = .ok (.aload_n 2, 1) := by decide +kernel
theorem dLw_law_1049 : decode mLw_law.2.1 1049 = .ok (.aload_n 0, 1) := by decide +kernel
theorem dLw_law_1050 : decode mLw_law.2.1 1050 = .ok (.iload_n 3, 1) := by decide +kernel
theorem dLw_law_1051 : decode mLw_law.2.1 1051 = .ok (.iconst 1, 1) := by decide +kernel
theorem dLw_law_1052 : decode mLw_law.2.1 1052 = .ok (.iadd, 1) := by decide +kernel
theorem dLw_law_1053 : decode mLw_law.2.1 1053 = .ok (.iaload, 1) := by decide +kernel
theorem dLw_law_1054 : decode mLw_law.2.1 1054 = .ok (.aload_n 0, 1) := by decide +kernel
theorem dLw_law_1055 : decode mLw_law.2.1 1055 = .ok (.iload_n 3, 1) := by decide +kernel
theorem dLw_law_1056 : decode mLw_law.2.1 1056 = .ok (.iconst 2, 1) := by decide +kernel
theorem dLw_law_1057 : decode mLw_law.2.1 1057 = .ok (.iadd, 1) := by decide +kernel
theorem dLw_law_1058 : decode mLw_law.2.1 1058 = .ok (.iaload, 1) := by decide +kernel
theorem dLw_law_1059 : decode mLw_law.2.1 1059 = .ok (.invokevirtual 112, 3) := by decide +kernel
theorem dLw_law_1062 : decode mLw_law.2.1 1062 = .ok (.lcmp, 1) := by decide +kernel
theorem dLw_law_1063 : decode mLw_law.2.1 1063 = .ok (.ifCond .eq 105, 3) := by decide +kernel
theorem dLw_law_1066 : decode mLw_law.2.1 1066 = .ok (.iconst 0, 1) := by decide +kernel
theorem dLw_law_1067 : decode mLw_law.2.1 1067 = .ok (.ireturn, 1) := by decide +kernel
theorem dLw_law_1068 : decode mLw_law.2.1 1068 = .ok (.aload_n 1, 1) := by decide +kernel
theorem dLw_law_1069 : decode mLw_law.2.1 1069 = .ok (.aload_n 0, 1) := by decide +kernel
theorem dLw_law_1070 : decode mLw_law.2.1 1070 = .ok (.iload_n 3, 1) := by decide +kernel
theorem dLw_law_1071 : decode mLw_law.2.1 1071 = .ok (.iconst 1, 1) := by decide +kernel
theorem dLw_law_1072 : decode mLw_law.2.1 1072 = .ok (.iadd, 1) := by decide +kernel
theorem dLw_law_1073 : decode mLw_law.2.1 1073 = .ok (.iaload, 1) := by decide +kernel
theorem dLw_law_1074 : decode mLw_law.2.1 1074 = .ok (.aload_n 0, 1) := by decide +kernel
theorem dLw_law_1075 : decode mLw_law.2.1 1075 = .ok (.iload_n 3, 1) := by decide +kernel
theorem dLw_law_1076 : decode mLw_law.2.1 1076 = .ok (.iconst 2, 1) := by decide +kernel
theorem dLw_law_1077 : decode mLw_law.2.1 1077 = .ok (.iadd, 1) := by decide +kernel
theorem dLw_law_1078 : decode mLw_law.2.1 1078 = .ok (.iaload, 1) := by decide +kernel
theorem dLw_law_1079 : decode mLw_law.2.1 1079 = .ok (.invokevirtual 113, 3) := by decide +kernel
theorem dLw_law_1082 : decode mLw_law.2.1 1082 = .ok (.aload_n 2, 1) := by decide +kernel
theorem dLw_law_1083 : decode mLw_law.2.1 1083 = .ok (.aload_n 0, 1) := by decide +kernel
theorem dLw_law_1084 : decode mLw_law.2.1 1084 = .ok (.iload_n 3, 1) := by decide +kernel
theorem dLw_law_1085 : decode mLw_law.2.1 1085 = .ok (.iconst 1, 1) := by decide +kernel
theorem dLw_law_1086 : decode mLw_law.2.1 1086 = .ok (.iadd, 1) := by decide +kernel
theorem dLw_law_1087 : decode mLw_law.2.1 1087 = .ok (.iaload, 1) := by decide +kernel
theorem dLw_law_1088 : decode mLw_law.2.1 1088 = .ok (.aload_n 0, 1) := by decide +kernel
theorem dLw_law_1089 : decode mLw_law.2.1 1089 = .ok (.iload_n 3, 1) := by decide +kernel
theorem dLw_law_1090 : decode mLw_law.2.1 1090 = .ok (.iconst 2, 1) := by decide +kernel
theorem dLw_law_1091 : decode mLw_law.2.1 1091 = .ok (.iadd, 1) := by decide +kernel
theorem dLw_law_1092 : decode mLw_law.2.1 1092 = .ok (.iaload, 1) := by decide +kernel
theorem dLw_law_1093 : decode mLw_law.2.1 1093 = .ok (.invokevirtual 117, 3) := by decide +kernel
theorem dLw_law_1096 : decode mLw_law.2.1 1096 = .ok (.if_icmp .eq 72, 3) := by decide +kernel
theorem dLw_law_1099 : decode mLw_law.2.1 1099 = .ok (.iconst 0, 1) := by decide +kernel
theorem dLw_law_1100 : decode mLw_law.2.1 1100 = .ok (.ireturn, 1) := by decide +kernel
theorem dLw_law_1101 : decode mLw_law.2.1 1101 = .ok (.aload_n 1, 1) := by decide +kernel
theorem dLw_law_1102 : decode mLw_law.2.1 1102 = .ok (.aload_n 0, 1) := by decide +kernel
theorem dLw_law_1103 : decode mLw_law.2.1 1103 = .ok (.iload_n 3, 1) := by decide +kernel
theorem dLw_law_1104 : decode mLw_law.2.1 1104 = .ok (.iconst 1, 1) := by decide +kernel
theorem dLw_law_1105 : decode mLw_law.2.1 1105 = .ok (.iadd, 1) := by decide +kernel
theorem dLw_law_1106 : decode mLw_law.2.1 1106 = .ok (.iaload, 1) := by decide +kernel
theorem dLw_law_1107 : decode mLw_law.2.1 1107 = .ok (.aload_n 0, 1) := by decide +kernel
theorem dLw_law_1108 : decode mLw_law.2.1 1108 = .ok (.iload_n 3, 1) := by decide +kernel
theorem dLw_law_1109 : decode mLw_law.2.1 1109 = .ok (.iconst 2, 1) := by decide +kernel
theorem dLw_law_1110 : decode mLw_law.2.1 1110 = .ok (.iadd, 1) := by decide +kernel
theorem dLw_law_1111 : decode mLw_law.2.1 1111 = .ok (.iaload, 1) := by decide +kernel
theorem dLw_law_1112 : decode mLw_law.2.1 1112 = .ok (.aload_n 0, 1) := by decide +kernel
theorem dLw_law_1113 : decode mLw_law.2.1 1113 = .ok (.iload_n 3, 1) := by decide +kernel
theorem dLw_law_1114 : decode mLw_law.2.1 1114 = .ok (.iconst 3, 1) := by decide +kernel
theorem dLw_law_1115 : decode mLw_law.2.1 1115 = .ok (.iadd, 1) := by decide +kernel
theorem dLw_law_1116 : decode mLw_law.2.1 1116 = .ok (.iaload, 1) := by decide +kernel
theorem dLw_law_1117 : decode mLw_law.2.1 1117 = .ok (.invokevirtual 118, 3) := by decide +kernel
theorem dLw_law_1120 : decode mLw_law.2.1 1120 = .ok (.aload_n 2, 1) := by decide +kernel
theorem dLw_law_1121 : decode mLw_law.2.1 1121 = .ok (.aload_n 0, 1) := by decide +kernel
theorem dLw_law_1122 : decode mLw_law.2.1 1122 = .ok (.iload_n 3, 1) := by decide +kernel
theorem dLw_law_1123 : decode mLw_law.2.1 1123 = .ok (.iconst 1, 1) := by decide +kernel
theorem dLw_law_1124 : decode mLw_law.2.1 1124 = .ok (.iadd, 1) := by decide +kernel
theorem dLw_law_1125 : decode mLw_law.2.1 1125 = .ok (.iaload, 1) := by decide +kernel
theorem dLw_law_1126 : decode mLw_law.2.1 1126 = .ok (.aload_n 0, 1) := by decide +kernel
theorem dLw_law_1127 : decode mLw_law.2.1 1127 = .ok (.iload_n 3, 1) := by decide +kernel
theorem dLw_law_1128 : decode mLw_law.2.1 1128 = .ok (.iconst 2, 1) := by decide +kernel
theorem dLw_law_1129 : decode mLw_law.2.1 1129 = .ok (.iadd, 1) := by decide +kernel
theorem dLw_law_1130 : decode mLw_law.2.1 1130 = .ok (.iaload, 1) := by decide +kernel
theorem dLw_law_1131 : decode mLw_law.2.1 1131 = .ok (.aload_n 0, 1) := by decide +kernel
theorem dLw_law_1132 : decode mLw_law.2.1 1132 = .ok (.iload_n 3, 1) := by decide +kernel
theorem dLw_law_1133 : decode mLw_law.2.1 1133 = .ok (.iconst 3, 1) := by decide +kernel
theorem dLw_law_1134 : decode mLw_law.2.1 1134 = .ok (.iadd, 1) := by decide +kernel
theorem dLw_law_1135 : decode mLw_law.2.1 1135 = .ok (.iaload, 1) := by decide +kernel
theorem dLw_law_1136 : decode mLw_law.2.1 1136 = .ok (.invokevirtual 122, 3) := by decide +kernel
theorem dLw_law_1139 : decode mLw_law.2.1 1139 = .ok (.if_icmp .eq 29, 3) := by decide +kernel
theorem dLw_law_1142 : decode mLw_law.2.1 1142 = .ok (.iconst 0, 1) := by decide +kernel
theorem dLw_law_1143 : decode mLw_law.2.1 1143 = .ok (.ireturn, 1) := by decide +kernel
theorem dLw_law_1144 : decode mLw_law.2.1 1144 = .ok (.aload_n 1, 1) := by decide +kernel
theorem dLw_law_1145 : decode mLw_law.2.1 1145 = .ok (.aload_n 0, 1) := by decide +kernel
theorem dLw_law_1146 : decode mLw_law.2.1 1146 = .ok (.iload_n 3, 1) := by decide +kernel
theorem dLw_law_1147 : decode mLw_law.2.1 1147 = .ok (.iconst 1, 1) := by decide +kernel
theorem dLw_law_1148 : decode mLw_law.2.1 1148 = .ok (.iadd, 1) := by decide +kernel
theorem dLw_law_1149 : decode mLw_law.2.1 1149 = .ok (.iaload, 1) := by decide +kernel
theorem dLw_law_1150 : decode mLw_law.2.1 1150 = .ok (.invokevirtual 123, 3) := by decide +kernel
theorem dLw_law_1153 : decode mLw_law.2.1 1153 = .ok (.aload_n 2, 1) := by decide +kernel
theorem dLw_law_1154 : decode mLw_law.2.1 1154 = .ok (.aload_n 0, 1) := by decide +kernel
theorem dLw_law_1155 : decode mLw_law.2.1 1155 = .ok (.iload_n 3, 1) := by decide +kernel
theorem dLw_law_1156 : decode mLw_law.2.1 1156 = .ok (.iconst 1, 1) := by decide +kernel
theorem dLw_law_1157 : decode mLw_law.2.1 1157 = .ok (.iadd, 1) := by decide +kernel
theorem dLw_law_1158 : decode mLw_law.2.1 1158 = .ok (.iaload, 1) := by decide +kernel
theorem dLw_law_1159 : decode mLw_law.2.1 1159 = .ok (.invokevirtual 127, 3) := by decide +kernel
theorem dLw_law_1162 : decode mLw_law.2.1 1162 = .ok (.lcmp, 1) := by decide +kernel
theorem dLw_law_1163 : decode mLw_law.2.1 1163 = .ok (.ifCond .eq 5, 3) := by decide +kernel
theorem dLw_law_1166 : decode mLw_law.2.1 1166 = .ok (.iconst 0, 1) := by decide +kernel
theorem dLw_law_1167 : decode mLw_law.2.1 1167 = .ok (.ireturn, 1) := by decide +kernel
theorem dLw_law_1168 : decode mLw_law.2.1 1168 = .ok (.iinc 3 5, 3) := by decide +kernel
theorem dLw_law_1171 : decode mLw_law.2.1 1171 = .ok (.goto (-1153), 3) := by decide +kernel
theorem dLw_law_1174 : decode mLw_law.2.1 1174 = .ok (.iconst 1, 1) := by decide +kernel
theorem dLw_law_1175 : decode mLw_law.2.1 1175 = .ok (.ireturn, 1) := by decide +kernel
