/-! the law's instructions -/
theorem dL_law_850 : decode cL_law 850 = .ok (.aload 4, 2) := by decide +kernel
theorem dL_law_852 : decode cL_law 852 = .ok (.aload 5, 2) := by decide +kernel
theorem dL_law_854 : decode cL_law 854 = .ok (.aload 6, 2) := by decide +kernel
theorem dL_law_856 : decode cL_law 856 = .ok (.aload 10, 2) := by decide +kernel
theorem dL_law_858 : decode cL_law 858 = .ok (.aload 12, 2) := by decide +kernel
theorem dL_law_860 : decode cL_law 860 = .ok (.iload 15, 2) := by decide +kernel
theorem dL_law_862 : decode cL_law 862 = .ok (.bipush 7, 2) := by decide +kernel
theorem dL_law_864 : decode cL_law 864 = .ok (.if_icmp .ge 7, 3) := by decide +kernel
theorem dL_law_867 : decode cL_law 867 = .ok (.iconst 0, 1) := by decide +kernel
theorem dL_law_868 : decode cL_law 868 = .ok (.goto 15, 3) := by decide +kernel
theorem dL_law_871 : decode cL_law 871 = .ok (.iload 15, 2) := by decide +kernel
theorem dL_law_873 : decode cL_law 873 = .ok (.bipush 7, 2) := by decide +kernel
theorem dL_law_875 : decode cL_law 875 = .ok (.if_icmp .ne 7, 3) := by decide +kernel
theorem dL_law_878 : decode cL_law 878 = .ok (.iconst 1, 1) := by decide +kernel
theorem dL_law_879 : decode cL_law 879 = .ok (.goto 4, 3) := by decide +kernel
theorem dL_law_882 : decode cL_law 882 = .ok (.iconst 3, 1) := by decide +kernel
theorem dL_law_883 : decode cL_law 883 = .ok (.iload 16, 2) := by decide +kernel
theorem dL_law_885 : decode cL_law 885 = .ok (.iload 17, 2) := by decide +kernel
theorem dL_law_887 : decode cL_law 887 = .ok (.invokestatic 121, 3) := by decide +kernel
theorem dL_law_890 : decode cL_law 890 = .ok (.istore 13, 2) := by decide +kernel
theorem dL_law_892 : decode cL_law 892 = .ok (.goto 339, 3) := by decide +kernel
theorem dL_law_895 : decode cL_law 895 = .ok (.iload 15, 2) := by decide +kernel
theorem dL_law_897 : decode cL_law 897 = .ok (.bipush 27, 2) := by decide +kernel
theorem dL_law_899 : decode cL_law 899 = .ok (.if_icmp .ge 57, 3) := by decide +kernel
theorem dL_law_902 : decode cL_law 902 = .ok (.aload_n 1, 1) := by decide +kernel
theorem dL_law_903 : decode cL_law 903 = .ok (.aload_n 2, 1) := by decide +kernel
theorem dL_law_904 : decode cL_law 904 = .ok (.aload_n 3, 1) := by decide +kernel
theorem dL_law_905 : decode cL_law 905 = .ok (.aload 4, 2) := by decide +kernel
theorem dL_law_907 : decode cL_law 907 = .ok (.aload 6, 2) := by decide +kernel
theorem dL_law_909 : decode cL_law 909 = .ok (.aload 7, 2) := by decide +kernel
theorem dL_law_911 : decode cL_law 911 = .ok (.aload 8, 2) := by decide +kernel
theorem dL_law_913 : decode cL_law 913 = .ok (.aload 9, 2) := by decide +kernel
theorem dL_law_915 : decode cL_law 915 = .ok (.aload 10, 2) := by decide +kernel
theorem dL_law_917 : decode cL_law 917 = .ok (.aload 11, 2) := by decide +kernel
theorem dL_law_919 : decode cL_law 919 = .ok (.aload 12, 2) := by decide +kernel
theorem dL_law_921 : decode cL_law 921 = .ok (.iload 15, 2) := by decide +kernel
theorem dL_law_923 : decode cL_law 923 = .ok (.bipush 22, 2) := by decide +kernel
theorem dL_law_925 : decode cL_law 925 = .ok (.if_icmp .ge 7, 3) := by decide +kernel
theorem dL_law_928 : decode cL_law 928 = .ok (.iconst 0, 1) := by decide +kernel
theorem dL_law_929 : decode cL_law 929 = .ok (.goto 15, 3) := by decide +kernel
theorem dL_law_932 : decode cL_law 932 = .ok (.iload 15, 2) := by decide +kernel
theorem dL_law_934 : decode cL_law 934 = .ok (.bipush 25, 2) := by decide +kernel
theorem dL_law_936 : decode cL_law 936 = .ok (.if_icmp .ge 7, 3) := by decide +kernel
theorem dL_law_939 : decode cL_law 939 = .ok (.iconst 1, 1) := by decide +kernel
theorem dL_law_940 : decode cL_law 940 = .ok (.goto 4, 3) := by decide +kernel
theorem dL_law_943 : decode cL_law 943 = .ok (.iconst 2, 1) := by decide +kernel
theorem dL_law_944 : decode cL_law 944 = .ok (.iload 16, 2) := by decide +kernel
theorem dL_law_946 : decode cL_law 946 = .ok (.iload 17, 2) := by decide +kernel
theorem dL_law_948 : decode cL_law 948 = .ok (.invokestatic 125, 3) := by decide +kernel
theorem dL_law_951 : decode cL_law 951 = .ok (.istore 13, 2) := by decide +kernel
theorem dL_law_953 : decode cL_law 953 = .ok (.goto 278, 3) := by decide +kernel
theorem dL_law_956 : decode cL_law 956 = .ok (.iload 15, 2) := by decide +kernel
theorem dL_law_958 : decode cL_law 958 = .ok (.bipush 27, 2) := by decide +kernel
theorem dL_law_960 : decode cL_law 960 = .ok (.if_icmp .ne 83, 3) := by decide +kernel
theorem dL_law_963 : decode cL_law 963 = .ok (.iload 17, 2) := by decide +kernel
theorem dL_law_965 : decode cL_law 965 = .ok (.bipush 7, 2) := by decide +kernel
theorem dL_law_967 : decode cL_law 967 = .ok (.irem, 1) := by decide +kernel
theorem dL_law_968 : decode cL_law 968 = .ok (.istore 20, 2) := by decide +kernel
theorem dL_law_970 : decode cL_law 970 = .ok (.aload 7, 2) := by decide +kernel
theorem dL_law_972 : decode cL_law 972 = .ok (.bipush 8, 2) := by decide +kernel
theorem dL_law_974 : decode cL_law 974 = .ok (.iload 20, 2) := by decide +kernel
theorem dL_law_976 : decode cL_law 976 = .ok (.iadd, 1) := by decide +kernel
theorem dL_law_977 : decode cL_law 977 = .ok (.iload 20, 2) := by decide +kernel
theorem dL_law_979 : decode cL_law 979 = .ok (.bipush 6, 2) := by decide +kernel
theorem dL_law_981 : decode cL_law 981 = .ok (.if_icmp .ge 16, 3) := by decide +kernel
theorem dL_law_984 : decode cL_law 984 = .ok (.iconst 1, 1) := by decide +kernel
theorem dL_law_985 : decode cL_law 985 = .ok (.aload 7, 2) := by decide +kernel
theorem dL_law_987 : decode cL_law 987 = .ok (.bipush 8, 2) := by decide +kernel
theorem dL_law_989 : decode cL_law 989 = .ok (.iload 20, 2) := by decide +kernel
theorem dL_law_991 : decode cL_law 991 = .ok (.iadd, 1) := by decide +kernel
theorem dL_law_992 : decode cL_law 992 = .ok (.iaload, 1) := by decide +kernel
theorem dL_law_993 : decode cL_law 993 = .ok (.isub, 1) := by decide +kernel
theorem dL_law_994 : decode cL_law 994 = .ok (.goto 4, 3) := by decide +kernel
theorem dL_law_997 : decode cL_law 997 = .ok (.iconst 0, 1) := by decide +kernel
theorem dL_law_998 : decode cL_law 998 = .ok (.iastore, 1) := by decide +kernel
theorem dL_law_999 : decode cL_law 999 = .ok (.aload_n 1, 1) := by decide +kernel
theorem dL_law_1000 : decode cL_law 1000 = .ok (.bipush 10, 2) := by decide +kernel
theorem dL_law_1002 : decode cL_law 1002 = .ok (.iload 20, 2) := by decide +kernel
theorem dL_law_1004 : decode cL_law 1004 = .ok (.iconst 0, 1) := by decide +kernel
theorem dL_law_1005 : decode cL_law 1005 = .ok (.iconst 0, 1) := by decide +kernel
theorem dL_law_1006 : decode cL_law 1006 = .ok (.iconst 0, 1) := by decide +kernel
theorem dL_law_1007 : decode cL_law 1007 = .ok (.invokestatic 106, 3) := by decide +kernel
theorem dL_law_1010 : decode cL_law 1010 = .ok (.iload 20, 2) := by decide +kernel
theorem dL_law_1012 : decode cL_law 1012 = .ok (.bipush 6, 2) := by decide +kernel
theorem dL_law_1014 : decode cL_law 1014 = .ok (.if_icmp .ne 8, 3) := by decide +kernel
theorem dL_law_1017 : decode cL_law 1017 = .ok (.ldc 72, 2) := by decide +kernel
theorem dL_law_1019 : decode cL_law 1019 = .ok (.goto 11, 3) := by decide +kernel
theorem dL_law_1022 : decode cL_law 1022 = .ok (.aload 7, 2) := by decide +kernel
theorem dL_law_1024 : decode cL_law 1024 = .ok (.bipush 8, 2) := by decide +kernel
theorem dL_law_1026 : decode cL_law 1026 = .ok (.iload 20, 2) := by decide +kernel
theorem dL_law_1028 : decode cL_law 1028 = .ok (.iadd, 1) := by decide +kernel
theorem dL_law_1029 : decode cL_law 1029 = .ok (.iaload, 1) := by decide +kernel
theorem dL_law_1030 : decode cL_law 1030 = .ok (.if_icmp .ne 7, 3) := by decide +kernel
theorem dL_law_1033 : decode cL_law 1033 = .ok (.iconst 1, 1) := by decide +kernel
theorem dL_law_1034 : decode cL_law 1034 = .ok (.goto 4, 3) := by decide +kernel
theorem dL_law_1037 : decode cL_law 1037 = .ok (.iconst 0, 1) := by decide +kernel
theorem dL_law_1038 : decode cL_law 1038 = .ok (.istore 13, 2) := by decide +kernel
theorem dL_law_1040 : decode cL_law 1040 = .ok (.goto 191, 3) := by decide +kernel
theorem dL_law_1043 : decode cL_law 1043 = .ok (.iload 15, 2) := by decide +kernel
theorem dL_law_1045 : decode cL_law 1045 = .ok (.bipush 28, 2) := by decide +kernel
theorem dL_law_1047 : decode cL_law 1047 = .ok (.if_icmp .ne 89, 3) := by decide +kernel
theorem dL_law_1050 : decode cL_law 1050 = .ok (.iload 17, 2) := by decide +kernel
theorem dL_law_1052 : decode cL_law 1052 = .ok (.bipush 13, 2) := by decide +kernel
theorem dL_law_1054 : decode cL_law 1054 = .ok (.irem, 1) := by decide +kernel
theorem dL_law_1055 : decode cL_law 1055 = .ok (.ifCond .ne 8, 3) := by decide +kernel
theorem dL_law_1058 : decode cL_law 1058 = .ok (.bipush 6, 2) := by decide +kernel
theorem dL_law_1060 : decode cL_law 1060 = .ok (.goto 7, 3) := by decide +kernel
theorem dL_law_1063 : decode cL_law 1063 = .ok (.iload 17, 2) := by decide +kernel
theorem dL_law_1065 : decode cL_law 1065 = .ok (.iconst 2, 1) := by decide +kernel
theorem dL_law_1066 : decode cL_law 1066 = .ok (.irem, 1) := by decide +kernel
theorem dL_law_1067 : decode cL_law 1067 = .ok (.istore 20, 2) := by decide +kernel
theorem dL_law_1069 : decode cL_law 1069 = .ok (.aload_n 1, 1) := by decide +kernel
theorem dL_law_1070 : decode cL_law 1070 = .ok (.bipush 11, 2) := by decide +kernel
theorem dL_law_1072 : decode cL_law 1072 = .ok (.iload 20, 2) := by decide +kernel
theorem dL_law_1074 : decode cL_law 1074 = .ok (.iconst 0, 1) := by decide +kernel
theorem dL_law_1075 : decode cL_law 1075 = .ok (.iconst 0, 1) := by decide +kernel
theorem dL_law_1076 : decode cL_law 1076 = .ok (.iconst 0, 1) := by decide +kernel
theorem dL_law_1077 : decode cL_law 1077 = .ok (.invokestatic 106, 3) := by decide +kernel
theorem dL_law_1080 : decode cL_law 1080 = .ok (.iload 20, 2) := by decide +kernel
theorem dL_law_1082 : decode cL_law 1082 = .ok (.bipush 6, 2) := by decide +kernel
theorem dL_law_1084 : decode cL_law 1084 = .ok (.if_icmp .ne 8, 3) := by decide +kernel
theorem dL_law_1087 : decode cL_law 1087 = .ok (.ldc 72, 2) := by decide +kernel
theorem dL_law_1089 : decode cL_law 1089 = .ok (.goto 34, 3) := by decide +kernel
theorem dL_law_1092 : decode cL_law 1092 = .ok (.aload 7, 2) := by decide +kernel
theorem dL_law_1094 : decode cL_law 1094 = .ok (.bipush 8, 2) := by decide +kernel
theorem dL_law_1096 : decode cL_law 1096 = .ok (.iload 20, 2) := by decide +kernel
theorem dL_law_1098 : decode cL_law 1098 = .ok (.iadd, 1) := by decide +kernel
theorem dL_law_1099 : decode cL_law 1099 = .ok (.iaload, 1) := by decide +kernel
theorem dL_law_1100 : decode cL_law 1100 = .ok (.iconst 1, 1) := by decide +kernel
theorem dL_law_1101 : decode cL_law 1101 = .ok (.if_icmp .ne 8, 3) := by decide +kernel
theorem dL_law_1104 : decode cL_law 1104 = .ok (.ldc 78, 2) := by decide +kernel
theorem dL_law_1106 : decode cL_law 1106 = .ok (.goto 17, 3) := by decide +kernel
theorem dL_law_1109 : decode cL_law 1109 = .ok (.aload_n 3, 1) := by decide +kernel
theorem dL_law_1110 : decode cL_law 1110 = .ok (.aload 5, 2) := by decide +kernel
theorem dL_law_1112 : decode cL_law 1112 = .ok (.aload 8, 2) := by decide +kernel
theorem dL_law_1114 : decode cL_law 1114 = .ok (.aload 10, 2) := by decide +kernel
theorem dL_law_1116 : decode cL_law 1116 = .ok (.aload 12, 2) := by decide +kernel
theorem dL_law_1118 : decode cL_law 1118 = .ok (.iload 20, 2) := by decide +kernel
theorem dL_law_1120 : decode cL_law 1120 = .ok (.invokestatic 129, 3) := by decide +kernel
theorem dL_law_1123 : decode cL_law 1123 = .ok (.if_icmp .ne 7, 3) := by decide +kernel
theorem dL_law_1126 : decode cL_law 1126 = .ok (.iconst 1, 1) := by decide +kernel
theorem dL_law_1127 : decode cL_law 1127 = .ok (.goto 4, 3) := by decide +kernel
theorem dL_law_1130 : decode cL_law 1130 = .ok (.iconst 0, 1) := by decide +kernel
theorem dL_law_1131 : decode cL_law 1131 = .ok (.istore 13, 2) := by decide +kernel
theorem dL_law_1133 : decode cL_law 1133 = .ok (.goto 98, 3) := by decide +kernel
theorem dL_law_1136 : decode cL_law 1136 = .ok (.iload 16, 2) := by decide +kernel
theorem dL_law_1138 : decode cL_law 1138 = .ok (.iconst 4, 1) := by decide +kernel
theorem dL_law_1139 : decode cL_law 1139 = .ok (.irem, 1) := by decide +kernel
theorem dL_law_1140 : decode cL_law 1140 = .ok (.ifCond .ne 16, 3) := by decide +kernel
theorem dL_law_1143 : decode cL_law 1143 = .ok (.sipush 700, 3) := by decide +kernel
theorem dL_law_1146 : decode cL_law 1146 = .ok (.iload 16, 2) := by decide +kernel
theorem dL_law_1148 : decode cL_law 1148 = .ok (.sipush 301, 3) := by decide +kernel
theorem dL_law_1151 : decode cL_law 1151 = .ok (.irem, 1) := by decide +kernel
theorem dL_law_1152 : decode cL_law 1152 = .ok (.iadd, 1) := by decide +kernel
theorem dL_law_1153 : decode cL_law 1153 = .ok (.goto 10, 3) := by decide +kernel
theorem dL_law_1156 : decode cL_law 1156 = .ok (.iconst 1, 1) := by decide +kernel
theorem dL_law_1157 : decode cL_law 1157 = .ok (.iload 16, 2) := by decide +kernel
theorem dL_law_1159 : decode cL_law 1159 = .ok (.bipush 12, 2) := by decide +kernel
theorem dL_law_1161 : decode cL_law 1161 = .ok (.irem, 1) := by decide +kernel
theorem dL_law_1162 : decode cL_law 1162 = .ok (.iadd, 1) := by decide +kernel
theorem dL_law_1163 : decode cL_law 1163 = .ok (.istore 20, 2) := by decide +kernel
theorem dL_law_1165 : decode cL_law 1165 = .ok (.iconst 0, 1) := by decide +kernel
theorem dL_law_1166 : decode cL_law 1166 = .ok (.istore 21, 2) := by decide +kernel
theorem dL_law_1168 : decode cL_law 1168 = .ok (.iload 21, 2) := by decide +kernel
theorem dL_law_1170 : decode cL_law 1170 = .ok (.iload 20, 2) := by decide +kernel
theorem dL_law_1172 : decode cL_law 1172 = .ok (.if_icmp .ge 34, 3) := by decide +kernel
theorem dL_law_1175 : decode cL_law 1175 = .ok (.aload 12, 2) := by decide +kernel
theorem dL_law_1177 : decode cL_law 1177 = .ok (.iconst 0, 1) := by decide +kernel
theorem dL_law_1178 : decode cL_law 1178 = .ok (.dup2, 1) := by decide +kernel
theorem dL_law_1179 : decode cL_law 1179 = .ok (.iaload, 1) := by decide +kernel
theorem dL_law_1180 : decode cL_law 1180 = .ok (.iconst 1, 1) := by decide +kernel
theorem dL_law_1181 : decode cL_law 1181 = .ok (.iadd, 1) := by decide +kernel
theorem dL_law_1182 : decode cL_law 1182 = .ok (.iastore, 1) := by decide +kernel
theorem dL_law_1183 : decode cL_law 1183 = .ok (.aload_n 2, 1) := by decide +kernel
theorem dL_law_1184 : decode cL_law 1184 = .ok (.aload_n 3, 1) := by decide +kernel
theorem dL_law_1185 : decode cL_law 1185 = .ok (.aload 4, 2) := by decide +kernel
theorem dL_law_1187 : decode cL_law 1187 = .ok (.aload 6, 2) := by decide +kernel
theorem dL_law_1189 : decode cL_law 1189 = .ok (.aload 7, 2) := by decide +kernel
theorem dL_law_1191 : decode cL_law 1191 = .ok (.aload 8, 2) := by decide +kernel
theorem dL_law_1193 : decode cL_law 1193 = .ok (.aload 9, 2) := by decide +kernel
theorem dL_law_1195 : decode cL_law 1195 = .ok (.aload 12, 2) := by decide +kernel
theorem dL_law_1197 : decode cL_law 1197 = .ok (.invokestatic 133, 3) := by decide +kernel
theorem dL_law_1200 : decode cL_law 1200 = .ok (.iinc 21 1, 3) := by decide +kernel
theorem dL_law_1203 : decode cL_law 1203 = .ok (.goto (-35), 3) := by decide +kernel
theorem dL_law_1206 : decode cL_law 1206 = .ok (.aload_n 1, 1) := by decide +kernel
theorem dL_law_1207 : decode cL_law 1207 = .ok (.bipush 12, 2) := by decide +kernel
theorem dL_law_1209 : decode cL_law 1209 = .ok (.iload 20, 2) := by decide +kernel
theorem dL_law_1211 : decode cL_law 1211 = .ok (.iconst 0, 1) := by decide +kernel
theorem dL_law_1212 : decode cL_law 1212 = .ok (.iconst 0, 1) := by decide +kernel
theorem dL_law_1213 : decode cL_law 1213 = .ok (.iconst 0, 1) := by decide +kernel
theorem dL_law_1214 : decode cL_law 1214 = .ok (.invokestatic 106, 3) := by decide +kernel
theorem dL_law_1217 : decode cL_law 1217 = .ok (.aload 12, 2) := by decide +kernel
theorem dL_law_1219 : decode cL_law 1219 = .ok (.iconst 0, 1) := by decide +kernel
theorem dL_law_1220 : decode cL_law 1220 = .ok (.iaload, 1) := by decide +kernel
theorem dL_law_1221 : decode cL_law 1221 = .ok (.if_icmp .ne 7, 3) := by decide +kernel
theorem dL_law_1224 : decode cL_law 1224 = .ok (.iconst 1, 1) := by decide +kernel
theorem dL_law_1225 : decode cL_law 1225 = .ok (.goto 4, 3) := by decide +kernel
theorem dL_law_1228 : decode cL_law 1228 = .ok (.iconst 0, 1) := by decide +kernel
theorem dL_law_1229 : decode cL_law 1229 = .ok (.istore 13, 2) := by decide +kernel
theorem dL_law_1231 : decode cL_law 1231 = .ok (.aload_n 2, 1) := by decide +kernel
theorem dL_law_1232 : decode cL_law 1232 = .ok (.aload_n 3, 1) := by decide +kernel
theorem dL_law_1233 : decode cL_law 1233 = .ok (.aload 4, 2) := by decide +kernel
theorem dL_law_1235 : decode cL_law 1235 = .ok (.aload 6, 2) := by decide +kernel
theorem dL_law_1237 : decode cL_law 1237 = .ok (.aload 7, 2) := by decide +kernel
theorem dL_law_1239 : decode cL_law 1239 = .ok (.aload 8, 2) := by decide +kernel
theorem dL_law_1241 : decode cL_law 1241 = .ok (.aload 9, 2) := by decide +kernel
theorem dL_law_1243 : decode cL_law 1243 = .ok (.aload 12, 2) := by decide +kernel
theorem dL_law_1245 : decode cL_law 1245 = .ok (.invokestatic 133, 3) := by decide +kernel
theorem dL_law_1248 : decode cL_law 1248 = .ok (.iload 13, 2) := by decide +kernel
theorem dL_law_1250 : decode cL_law 1250 = .ok (.ifCond .eq 36, 3) := by decide +kernel
theorem dL_law_1253 : decode cL_law 1253 = .ok (.aload_n 1, 1) := by decide +kernel
theorem dL_law_1254 : decode cL_law 1254 = .ok (.aload_n 2, 1) := by decide +kernel
theorem dL_law_1255 : decode cL_law 1255 = .ok (.aload_n 3, 1) := by decide +kernel
theorem dL_law_1256 : decode cL_law 1256 = .ok (.aload 4, 2) := by decide +kernel
theorem dL_law_1258 : decode cL_law 1258 = .ok (.aload 5, 2) := by decide +kernel
theorem dL_law_1260 : decode cL_law 1260 = .ok (.aload 6, 2) := by decide +kernel
theorem dL_law_1262 : decode cL_law 1262 = .ok (.aload 7, 2) := by decide +kernel
theorem dL_law_1264 : decode cL_law 1264 = .ok (.aload 8, 2) := by decide +kernel
theorem dL_law_1266 : decode cL_law 1266 = .ok (.aload 9, 2) := by decide +kernel
theorem dL_law_1268 : decode cL_law 1268 = .ok (.aload 10, 2) := by decide +kernel
theorem dL_law_1270 : decode cL_law 1270 = .ok (.aload 11, 2) := by decide +kernel
theorem dL_law_1272 : decode cL_law 1272 = .ok (.aload 12, 2) := by decide +kernel
theorem dL_law_1274 : decode cL_law 1274 = .ok (.iload 16, 2) := by decide +kernel
theorem dL_law_1276 : decode cL_law 1276 = .ok (.invokestatic 137, 3) := by decide +kernel
theorem dL_law_1279 : decode cL_law 1279 = .ok (.ifCond .eq 7, 3) := by decide +kernel
theorem dL_law_1282 : decode cL_law 1282 = .ok (.iconst 1, 1) := by decide +kernel
theorem dL_law_1283 : decode cL_law 1283 = .ok (.goto 4, 3) := by decide +kernel
theorem dL_law_1286 : decode cL_law 1286 = .ok (.iconst 0, 1) := by decide +kernel
theorem dL_law_1287 : decode cL_law 1287 = .ok (.istore 13, 2) := by decide +kernel
theorem dL_law_1289 : decode cL_law 1289 = .ok (.iinc 14 1, 3) := by decide +kernel
theorem dL_law_1292 : decode cL_law 1292 = .ok (.goto (-1091), 3) := by decide +kernel
theorem dL_law_1295 : decode cL_law 1295 = .ok (.iload 13, 2) := by decide +kernel
theorem dL_law_1297 : decode cL_law 1297 = .ok (.ireturn, 1) := by decide +kernel
