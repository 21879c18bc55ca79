/-! THE LAW: its instructions -/
theorem dL_956 : decode code 956 = .ok (.aload_n 0, 1) := by decide +kernel
theorem dL_957 : decode code 957 = .ok (.iload 4, 2) := by decide +kernel
theorem dL_959 : decode code 959 = .ok (.iconst 1, 1) := by decide +kernel
theorem dL_960 : decode code 960 = .ok (.iadd, 1) := by decide +kernel
theorem dL_961 : decode code 961 = .ok (.iaload, 1) := by decide +kernel
theorem dL_962 : decode code 962 = .ok (.invokevirtual 124, 3) := by decide +kernel
theorem dL_965 : decode code 965 = .ok (.if_icmp .eq 728, 3) := by decide +kernel
theorem dL_968 : decode code 968 = .ok (.iconst 0, 1) := by decide +kernel
theorem dL_969 : decode code 969 = .ok (.ireturn, 1) := by decide +kernel
theorem dL_970 : decode code 970 = .ok (.aload_n 1, 1) := by decide +kernel
theorem dL_971 : decode code 971 = .ok (.aload_n 0, 1) := by decide +kernel
theorem dL_972 : decode code 972 = .ok (.iload 4, 2) := by decide +kernel
theorem dL_974 : decode code 974 = .ok (.iconst 1, 1) := by decide +kernel
theorem dL_975 : decode code 975 = .ok (.iadd, 1) := by decide +kernel
theorem dL_976 : decode code 976 = .ok (.iaload, 1) := by decide +kernel
theorem dL_977 : decode code 977 = .ok (.invokevirtual 125, 3) := by decide +kernel
theorem dL_980 : decode code 980 = .ok (.aload_n 2, 1) := by decide +kernel
theorem dL_981 : decode code 981 = .ok (.aload_n 0, 1) := by decide +kernel
theorem dL_982 : decode code 982 = .ok (.iload 4, 2) := by decide +kernel
theorem dL_984 : decode code 984 = .ok (.iconst 1, 1) := by decide +kernel
theorem dL_985 : decode code 985 = .ok (.iadd, 1) := by decide +kernel
theorem dL_986 : decode code 986 = .ok (.iaload, 1) := by decide +kernel
theorem dL_987 : decode code 987 = .ok (.invokevirtual 128, 3) := by decide +kernel
theorem dL_990 : decode code 990 = .ok (.if_icmp .eq 703, 3) := by decide +kernel
theorem dL_993 : decode code 993 = .ok (.iconst 0, 1) := by decide +kernel
theorem dL_994 : decode code 994 = .ok (.ireturn, 1) := by decide +kernel
theorem dL_995 : decode code 995 = .ok (.aload_n 1, 1) := by decide +kernel
theorem dL_996 : decode code 996 = .ok (.aload_n 0, 1) := by decide +kernel
theorem dL_997 : decode code 997 = .ok (.iload 4, 2) := by decide +kernel
theorem dL_999 : decode code 999 = .ok (.iconst 1, 1) := by decide +kernel
theorem dL_1000 : decode code 1000 = .ok (.iadd, 1) := by decide +kernel
theorem dL_1001 : decode code 1001 = .ok (.iaload, 1) := by decide +kernel
theorem dL_1002 : decode code 1002 = .ok (.invokevirtual 129, 3) := by decide +kernel
theorem dL_1005 : decode code 1005 = .ok (.aload_n 2, 1) := by decide +kernel
theorem dL_1006 : decode code 1006 = .ok (.aload_n 0, 1) := by decide +kernel
theorem dL_1007 : decode code 1007 = .ok (.iload 4, 2) := by decide +kernel
theorem dL_1009 : decode code 1009 = .ok (.iconst 1, 1) := by decide +kernel
theorem dL_1010 : decode code 1010 = .ok (.iadd, 1) := by decide +kernel
theorem dL_1011 : decode code 1011 = .ok (.iaload, 1) := by decide +kernel
theorem dL_1012 : decode code 1012 = .ok (.invokevirtual 132, 3) := by decide +kernel
theorem dL_1015 : decode code 1015 = .ok (.if_icmp .eq 678, 3) := by decide +kernel
theorem dL_1018 : decode code 1018 = .ok (.iconst 0, 1) := by decide +kernel
theorem dL_1019 : decode code 1019 = .ok (.ireturn, 1) := by decide +kernel
theorem dL_1020 : decode code 1020 = .ok (.aload_n 1, 1) := by decide +kernel
theorem dL_1021 : decode code 1021 = .ok (.aload_n 0, 1) := by decide +kernel
theorem dL_1022 : decode code 1022 = .ok (.iload 4, 2) := by decide +kernel
theorem dL_1024 : decode code 1024 = .ok (.iconst 1, 1) := by decide +kernel
theorem dL_1025 : decode code 1025 = .ok (.iadd, 1) := by decide +kernel
theorem dL_1026 : decode code 1026 = .ok (.iaload, 1) := by decide +kernel
theorem dL_1027 : decode code 1027 = .ok (.aload_n 0, 1) := by decide +kernel
theorem dL_1028 : decode code 1028 = .ok (.iload 4, 2) := by decide +kernel
theorem dL_1030 : decode code 1030 = .ok (.iconst 2, 1) := by decide +kernel
theorem dL_1031 : decode code 1031 = .ok (.iadd, 1) := by decide +kernel
theorem dL_1032 : decode code 1032 = .ok (.iaload, 1) := by decide +kernel
theorem dL_1033 : decode code 1033 = .ok (.aload_n 0, 1) := by decide +kernel
theorem dL_1034 : decode code 1034 = .ok (.iload 4, 2) := by decide +kernel
theorem dL_1036 : decode code 1036 = .ok (.iconst 3, 1) := by decide +kernel
theorem dL_1037 : decode code 1037 = .ok (.iadd, 1) := by decide +kernel
theorem dL_1038 : decode code 1038 = .ok (.iaload, 1) := by decide +kernel
theorem dL_1039 : decode code 1039 = .ok (.invokevirtual 133, 3) := by decide +kernel
theorem dL_1042 : decode code 1042 = .ok (.aload_n 2, 1) := by decide +kernel
theorem dL_1043 : decode code 1043 = .ok (.aload_n 0, 1) := by decide +kernel
theorem dL_1044 : decode code 1044 = .ok (.iload 4, 2) := by decide +kernel
theorem dL_1046 : decode code 1046 = .ok (.iconst 1, 1) := by decide +kernel
theorem dL_1047 : decode code 1047 = .ok (.iadd, 1) := by decide +kernel
theorem dL_1048 : decode code 1048 = .ok (.iaload, 1) := by decide +kernel
theorem dL_1049 : decode code 1049 = .ok (.aload_n 0, 1) := by decide +kernel
theorem dL_1050 : decode code 1050 = .ok (.iload 4, 2) := by decide +kernel
theorem dL_1052 : decode code 1052 = .ok (.iconst 2, 1) := by decide +kernel
theorem dL_1053 : decode code 1053 = .ok (.iadd, 1) := by decide +kernel
theorem dL_1054 : decode code 1054 = .ok (.iaload, 1) := by decide +kernel
theorem dL_1055 : decode code 1055 = .ok (.aload_n 0, 1) := by decide +kernel
theorem dL_1056 : decode code 1056 = .ok (.iload 4, 2) := by decide +kernel
theorem dL_1058 : decode code 1058 = .ok (.iconst 3, 1) := by decide +kernel
theorem dL_1059 : decode code 1059 = .ok (.iadd, 1) := by decide +kernel
theorem dL_1060 : decode code 1060 = .ok (.iaload, 1) := by decide +kernel
theorem dL_1061 : decode code 1061 = .ok (.invokevirtual 137, 3) := by decide +kernel
theorem dL_1064 : decode code 1064 = .ok (.if_icmp .eq 629, 3) := by decide +kernel
theorem dL_1067 : decode code 1067 = .ok (.iconst 0, 1) := by decide +kernel
theorem dL_1068 : decode code 1068 = .ok (.ireturn, 1) := by decide +kernel
theorem dL_1069 : decode code 1069 = .ok (.aload_n 1, 1) := by decide +kernel
theorem dL_1070 : decode code 1070 = .ok (.aload_n 0, 1) := by decide +kernel
theorem dL_1071 : decode code 1071 = .ok (.iload 4, 2) := by decide +kernel
theorem dL_1073 : decode code 1073 = .ok (.iconst 1, 1) := by decide +kernel
theorem dL_1074 : decode code 1074 = .ok (.iadd, 1) := by decide +kernel
theorem dL_1075 : decode code 1075 = .ok (.iaload, 1) := by decide +kernel
theorem dL_1076 : decode code 1076 = .ok (.aload_n 0, 1) := by decide +kernel
theorem dL_1077 : decode code 1077 = .ok (.iload 4, 2) := by decide +kernel
theorem dL_1079 : decode code 1079 = .ok (.iconst 2, 1) := by decide +kernel
theorem dL_1080 : decode code 1080 = .ok (.iadd, 1) := by decide +kernel
theorem dL_1081 : decode code 1081 = .ok (.iaload, 1) := by decide +kernel
theorem dL_1082 : decode code 1082 = .ok (.aload_n 0, 1) := by decide +kernel
theorem dL_1083 : decode code 1083 = .ok (.iload 4, 2) := by decide +kernel
theorem dL_1085 : decode code 1085 = .ok (.iconst 3, 1) := by decide +kernel
theorem dL_1086 : decode code 1086 = .ok (.iadd, 1) := by decide +kernel
theorem dL_1087 : decode code 1087 = .ok (.iaload, 1) := by decide +kernel
theorem dL_1088 : decode code 1088 = .ok (.aload_n 0, 1) := by decide +kernel
theorem dL_1089 : decode code 1089 = .ok (.iload 4, 2) := by decide +kernel
theorem dL_1091 : decode code 1091 = .ok (.iconst 4, 1) := by decide +kernel
theorem dL_1092 : decode code 1092 = .ok (.iadd, 1) := by decide +kernel
theorem dL_1093 : decode code 1093 = .ok (.iaload, 1) := by decide +kernel
theorem dL_1094 : decode code 1094 = .ok (.aload_n 0, 1) := by decide +kernel
theorem dL_1095 : decode code 1095 = .ok (.iload 4, 2) := by decide +kernel
theorem dL_1097 : decode code 1097 = .ok (.iconst 5, 1) := by decide +kernel
theorem dL_1098 : decode code 1098 = .ok (.iadd, 1) := by decide +kernel
theorem dL_1099 : decode code 1099 = .ok (.iaload, 1) := by decide +kernel
theorem dL_1100 : decode code 1100 = .ok (.aload_n 0, 1) := by decide +kernel
theorem dL_1101 : decode code 1101 = .ok (.iload 4, 2) := by decide +kernel
theorem dL_1103 : decode code 1103 = .ok (.bipush 6, 2) := by decide +kernel
theorem dL_1105 : decode code 1105 = .ok (.iadd, 1) := by decide +kernel
theorem dL_1106 : decode code 1106 = .ok (.iaload, 1) := by decide +kernel
theorem dL_1107 : decode code 1107 = .ok (.invokevirtual 138, 3) := by decide +kernel
theorem dL_1110 : decode code 1110 = .ok (.aload_n 2, 1) := by decide +kernel
theorem dL_1111 : decode code 1111 = .ok (.aload_n 0, 1) := by decide +kernel
theorem dL_1112 : decode code 1112 = .ok (.iload 4, 2) := by decide +kernel
theorem dL_1114 : decode code 1114 = .ok (.iconst 1, 1) := by decide +kernel
theorem dL_1115 : decode code 1115 = .ok (.iadd, 1) := by decide +kernel
theorem dL_1116 : decode code 1116 = .ok (.iaload, 1) := by decide +kernel
theorem dL_1117 : decode code 1117 = .ok (.aload_n 0, 1) := by decide +kernel
theorem dL_1118 : decode code 1118 = .ok (.iload 4, 2) := by decide +kernel
theorem dL_1120 : decode code 1120 = .ok (.iconst 2, 1) := by decide +kernel
theorem dL_1121 : decode code 1121 = .ok (.iadd, 1) := by decide +kernel
theorem dL_1122 : decode code 1122 = .ok (.iaload, 1) := by decide +kernel
theorem dL_1123 : decode code 1123 = .ok (.aload_n 0, 1) := by decide +kernel
theorem dL_1124 : decode code 1124 = .ok (.iload 4, 2) := by decide +kernel
theorem dL_1126 : decode code 1126 = .ok (.iconst 3, 1) := by decide +kernel
theorem dL_1127 : decode code 1127 = .ok (.iadd, 1) := by decide +kernel
theorem dL_1128 : decode code 1128 = .ok (.iaload, 1) := by decide +kernel
theorem dL_1129 : decode code 1129 = .ok (.aload_n 0, 1) := by decide +kernel
theorem dL_1130 : decode code 1130 = .ok (.iload 4, 2) := by decide +kernel
theorem dL_1132 : decode code 1132 = .ok (.iconst 4, 1) := by decide +kernel
theorem dL_1133 : decode code 1133 = .ok (.iadd, 1) := by decide +kernel
theorem dL_1134 : decode code 1134 = .ok (.iaload, 1) := by decide +kernel
theorem dL_1135 : decode code 1135 = .ok (.aload_n 0, 1) := by decide +kernel
theorem dL_1136 : decode code 1136 = .ok (.iload 4, 2) := by decide +kernel
theorem dL_1138 : decode code 1138 = .ok (.iconst 5, 1) := by decide +kernel
theorem dL_1139 : decode code 1139 = .ok (.iadd, 1) := by decide +kernel
theorem dL_1140 : decode code 1140 = .ok (.iaload, 1) := by decide +kernel
theorem dL_1141 : decode code 1141 = .ok (.aload_n 0, 1) := by decide +kernel
theorem dL_1142 : decode code 1142 = .ok (.iload 4, 2) := by decide +kernel
theorem dL_1144 : decode code 1144 = .ok (.bipush 6, 2) := by decide +kernel
theorem dL_1146 : decode code 1146 = .ok (.iadd, 1) := by decide +kernel
theorem dL_1147 : decode code 1147 = .ok (.iaload, 1) := by decide +kernel
theorem dL_1148 : decode code 1148 = .ok (.invokevirtual 142, 3) := by decide +kernel
theorem dL_1151 : decode code 1151 = .ok (.if_icmp .eq 542, 3) := by decide +kernel
theorem dL_1154 : decode code 1154 = .ok (.iconst 0, 1) := by decide +kernel
theorem dL_1155 : decode code 1155 = .ok (.ireturn, 1) := by decide +kernel
theorem dL_1156 : decode code 1156 = .ok (.aload_n 1, 1) := by decide +kernel
theorem dL_1157 : decode code 1157 = .ok (.aload_n 0, 1) := by decide +kernel
theorem dL_1158 : decode code 1158 = .ok (.iload 4, 2) := by decide +kernel
theorem dL_1160 : decode code 1160 = .ok (.iconst 1, 1) := by decide +kernel
theorem dL_1161 : decode code 1161 = .ok (.iadd, 1) := by decide +kernel
theorem dL_1162 : decode code 1162 = .ok (.iaload, 1) := by decide +kernel
theorem dL_1163 : decode code 1163 = .ok (.aload_n 0, 1) := by decide +kernel
theorem dL_1164 : decode code 1164 = .ok (.iload 4, 2) := by decide +kernel
theorem dL_1166 : decode code 1166 = .ok (.iconst 2, 1) := by decide +kernel
theorem dL_1167 : decode code 1167 = .ok (.iadd, 1) := by decide +kernel
theorem dL_1168 : decode code 1168 = .ok (.iaload, 1) := by decide +kernel
theorem dL_1169 : decode code 1169 = .ok (.aload_n 0, 1) := by decide +kernel
theorem dL_1170 : decode code 1170 = .ok (.iload 4, 2) := by decide +kernel
theorem dL_1172 : decode code 1172 = .ok (.iconst 3, 1) := by decide +kernel
theorem dL_1173 : decode code 1173 = .ok (.iadd, 1) := by decide +kernel
theorem dL_1174 : decode code 1174 = .ok (.iaload, 1) := by decide +kernel
theorem dL_1175 : decode code 1175 = .ok (.aload_n 0, 1) := by decide +kernel
theorem dL_1176 : decode code 1176 = .ok (.iload 4, 2) := by decide +kernel
theorem dL_1178 : decode code 1178 = .ok (.iconst 4, 1) := by decide +kernel
theorem dL_1179 : decode code 1179 = .ok (.iadd, 1) := by decide +kernel
theorem dL_1180 : decode code 1180 = .ok (.iaload, 1) := by decide +kernel
theorem dL_1181 : decode code 1181 = .ok (.invokevirtual 143, 3) := by decide +kernel
theorem dL_1184 : decode code 1184 = .ok (.aload_n 2, 1) := by decide +kernel
theorem dL_1185 : decode code 1185 = .ok (.aload_n 0, 1) := by decide +kernel
theorem dL_1186 : decode code 1186 = .ok (.iload 4, 2) := by decide +kernel
theorem dL_1188 : decode code 1188 = .ok (.iconst 1, 1) := by decide +kernel
theorem dL_1189 : decode code 1189 = .ok (.iadd, 1) := by decide +kernel
theorem dL_1190 : decode code 1190 = .ok (.iaload, 1) := by decide +kernel
theorem dL_1191 : decode code 1191 = .ok (.aload_n 0, 1) := by decide +kernel
theorem dL_1192 : decode code 1192 = .ok (.iload 4, 2) := by decide +kernel
theorem dL_1194 : decode code 1194 = .ok (.iconst 2, 1) := by decide +kernel
theorem dL_1195 : decode code 1195 = .ok (.iadd, 1) := by decide +kernel
theorem dL_1196 : decode code 1196 = .ok (.iaload, 1) := by decide +kernel
theorem dL_1197 : decode code 1197 = .ok (.aload_n 0, 1) := by decide +kernel
theorem dL_1198 : decode code 1198 = .ok (.iload 4, 2) := by decide +kernel
theorem dL_1200 : decode code 1200 = .ok (.iconst 3, 1) := by decide +kernel
theorem dL_1201 : decode code 1201 = .ok (.iadd, 1) := by decide +kernel
theorem dL_1202 : decode code 1202 = .ok (.iaload, 1) := by decide +kernel
theorem dL_1203 : decode code 1203 = .ok (.aload_n 0, 1) := by decide +kernel
theorem dL_1204 : decode code 1204 = .ok (.iload 4, 2) := by decide +kernel
theorem dL_1206 : decode code 1206 = .ok (.iconst 4, 1) := by decide +kernel
theorem dL_1207 : decode code 1207 = .ok (.iadd, 1) := by decide +kernel
theorem dL_1208 : decode code 1208 = .ok (.iaload, 1) := by decide +kernel
theorem dL_1209 : decode code 1209 = .ok (.invokevirtual 147, 3) := by decide +kernel
theorem dL_1212 : decode code 1212 = .ok (.if_icmp .eq 481, 3) := by decide +kernel
theorem dL_1215 : decode code 1215 = .ok (.iconst 0, 1) := by decide +kernel
theorem dL_1216 : decode code 1216 = .ok (.ireturn, 1) := by decide +kernel
theorem dL_1217 : decode code 1217 = .ok (.aload_n 1, 1) := by decide +kernel
theorem dL_1218 : decode code 1218 = .ok (.aload_n 0, 1) := by decide +kernel
theorem dL_1219 : decode code 1219 = .ok (.iload 4, 2) := by decide +kernel
theorem dL_1221 : decode code 1221 = .ok (.iconst 1, 1) := by decide +kernel
theorem dL_1222 : decode code 1222 = .ok (.iadd, 1) := by decide +kernel
theorem dL_1223 : decode code 1223 = .ok (.iaload, 1) := by decide +kernel
theorem dL_1224 : decode code 1224 = .ok (.aload_n 0, 1) := by decide +kernel
theorem dL_1225 : decode code 1225 = .ok (.iload 4, 2) := by decide +kernel
theorem dL_1227 : decode code 1227 = .ok (.iconst 2, 1) := by decide +kernel
theorem dL_1228 : decode code 1228 = .ok (.iadd, 1) := by decide +kernel
theorem dL_1229 : decode code 1229 = .ok (.iaload, 1) := by decide +kernel
theorem dL_1230 : decode code 1230 = .ok (.aload_n 0, 1) := by decide +kernel
theorem dL_1231 : decode code 1231 = .ok (.iload 4, 2) := by decide +kernel
theorem dL_1233 : decode code 1233 = .ok (.iconst 3, 1) := by decide +kernel
theorem dL_1234 : decode code 1234 = .ok (.iadd, 1) := by decide +kernel
theorem dL_1235 : decode code 1235 = .ok (.iaload, 1) := by decide +kernel
theorem dL_1236 : decode code 1236 = .ok (.invokevirtual 148, 3) := by decide +kernel
theorem dL_1239 : decode code 1239 = .ok (.aload_n 2, 1) := by decide +kernel
theorem dL_1240 : decode code 1240 = .ok (.aload_n 0, 1) := by decide +kernel
theorem dL_1241 : decode code 1241 = .ok (.iload 4, 2) := by decide +kernel
theorem dL_1243 : decode code 1243 = .ok (.iconst 1, 1) := by decide +kernel
theorem dL_1244 : decode code 1244 = .ok (.iadd, 1) := by decide +kernel
theorem dL_1245 : decode code 1245 = .ok (.iaload, 1) := by decide +kernel
theorem dL_1246 : decode code 1246 = .ok (.aload_n 0, 1) := by decide +kernel
theorem dL_1247 : decode code 1247 = .ok (.iload 4, 2) := by decide +kernel
theorem dL_1249 : decode code 1249 = .ok (.iconst 2, 1) := by decide +kernel
theorem dL_1250 : decode code 1250 = .ok (.iadd, 1) := by decide +kernel
theorem dL_1251 : decode code 1251 = .ok (.iaload, 1) := by decide +kernel
theorem dL_1252 : decode code 1252 = .ok (.aload_n 0, 1) := by decide +kernel
theorem dL_1253 : decode code 1253 = .ok (.iload 4, 2) := by decide +kernel
theorem dL_1255 : decode code 1255 = .ok (.iconst 3, 1) := by decide +kernel
theorem dL_1256 : decode code 1256 = .ok (.iadd, 1) := by decide +kernel
theorem dL_1257 : decode code 1257 = .ok (.iaload, 1) := by decide +kernel
theorem dL_1258 : decode code 1258 = .ok (.invokevirtual 151, 3) := by decide +kernel
theorem dL_1261 : decode code 1261 = .ok (.if_icmp .eq 432, 3) := by decide +kernel
theorem dL_1264 : decode code 1264 = .ok (.iconst 0, 1) := by decide +kernel
theorem dL_1265 : decode code 1265 = .ok (.ireturn, 1) := by decide +kernel
theorem dL_1266 : decode code 1266 = .ok (.aload_n 1, 1) := by decide +kernel
theorem dL_1267 : decode code 1267 = .ok (.aload_n 0, 1) := by decide +kernel
theorem dL_1268 : decode code 1268 = .ok (.iload 4, 2) := by decide +kernel
theorem dL_1270 : decode code 1270 = .ok (.iconst 1, 1) := by decide +kernel
theorem dL_1271 : decode code 1271 = .ok (.iadd, 1) := by decide +kernel
theorem dL_1272 : decode code 1272 = .ok (.iaload, 1) := by decide +kernel
theorem dL_1273 : decode code 1273 = .ok (.aload_n 0, 1) := by decide +kernel
theorem dL_1274 : decode code 1274 = .ok (.iload 4, 2) := by decide +kernel
theorem dL_1276 : decode code 1276 = .ok (.iconst 2, 1) := by decide +kernel
theorem dL_1277 : decode code 1277 = .ok (.iadd, 1) := by decide +kernel
theorem dL_1278 : decode code 1278 = .ok (.iaload, 1) := by decide +kernel
theorem dL_1279 : decode code 1279 = .ok (.invokevirtual 152, 3) := by decide +kernel
theorem dL_1282 : decode code 1282 = .ok (.aload_n 2, 1) := by decide +kernel
theorem dL_1283 : decode code 1283 = .ok (.aload_n 0, 1) := by decide +kernel
theorem dL_1284 : decode code 1284 = .ok (.iload 4, 2) := by decide +kernel
theorem dL_1286 : decode code 1286 = .ok (.iconst 1, 1) := by decide +kernel
theorem dL_1287 : decode code 1287 = .ok (.iadd, 1) := by decide +kernel
theorem dL_1288 : decode code 1288 = .ok (.iaload, 1) := by decide +kernel
theorem dL_1289 : decode code 1289 = .ok (.aload_n 0, 1) := by decide +kernel
theorem dL_1290 : decode code 1290 = .ok (.iload 4, 2) := by decide +kernel
theorem dL_1292 : decode code 1292 = .ok (.iconst 2, 1) := by decide +kernel
theorem dL_1293 : decode code 1293 = .ok (.iadd, 1) := by decide +kernel
theorem dL_1294 : decode code 1294 = .ok (.iaload, 1) := by decide +kernel
theorem dL_1295 : decode code 1295 = .ok (.invokevirtual 155, 3) := by decide +kernel
theorem dL_1298 : decode code 1298 = .ok (.if_icmp .eq 395, 3) := by decide +kernel
theorem dL_1301 : decode code 1301 = .ok (.iconst 0, 1) := by decide +kernel
theorem dL_1302 : decode code 1302 = .ok (.ireturn, 1) := by decide +kernel
theorem dL_1303 : decode code 1303 = .ok (.aload_n 1, 1) := by decide +kernel
theorem dL_1304 : decode code 1304 = .ok (.aload_n 0, 1) := by decide +kernel
theorem dL_1305 : decode code 1305 = .ok (.iload 4, 2) := by decide +kernel
theorem dL_1307 : decode code 1307 = .ok (.iconst 1, 1) := by decide +kernel
theorem dL_1308 : decode code 1308 = .ok (.iadd, 1) := by decide +kernel
theorem dL_1309 : decode code 1309 = .ok (.iaload, 1) := by decide +kernel
theorem dL_1310 : decode code 1310 = .ok (.aload_n 0, 1) := by decide +kernel
theorem dL_1311 : decode code 1311 = .ok (.iload 4, 2) := by decide +kernel
theorem dL_1313 : decode code 1313 = .ok (.iconst 2, 1) := by decide +kernel
theorem dL_1314 : decode code 1314 = .ok (.iadd, 1) := by decide +kernel
theorem dL_1315 : decode code 1315 = .ok (.iaload, 1) := by decide +kernel
theorem dL_1316 : decode code 1316 = .ok (.invokevirtual 156, 3) := by decide +kernel
theorem dL_1319 : decode code 1319 = .ok (.aload_n 2, 1) := by decide +kernel
theorem dL_1320 : decode code 1320 = .ok (.aload_n 0, 1) := by decide +kernel
theorem dL_1321 : decode code 1321 = .ok (.iload 4, 2) := by decide +kernel
theorem dL_1323 : decode code 1323 = .ok (.iconst 1, 1) := by decide +kernel
theorem dL_1324 : decode code 1324 = .ok (.iadd, 1) := by decide +kernel
theorem dL_1325 : decode code 1325 = .ok (.iaload, 1) := by decide +kernel
theorem dL_1326 : decode code 1326 = .ok (.aload_n 0, 1) := by decide +kernel
theorem dL_1327 : decode code 1327 = .ok (.iload 4, 2) := by decide +kernel
theorem dL_1329 : decode code 1329 = .ok (.iconst 2, 1) := by decide +kernel
theorem dL_1330 : decode code 1330 = .ok (.iadd, 1) := by decide +kernel
theorem dL_1331 : decode code 1331 = .ok (.iaload, 1) := by decide +kernel
theorem dL_1332 : decode code 1332 = .ok (.invokevirtual 159, 3) := by decide +kernel
theorem dL_1335 : decode code 1335 = .ok (.if_icmp .eq 358, 3) := by decide +kernel
theorem dL_1338 : decode code 1338 = .ok (.iconst 0, 1) := by decide +kernel
theorem dL_1339 : decode code 1339 = .ok (.ireturn, 1) := by decide +kernel
theorem dL_1340 : decode code 1340 = .ok (.aload_n 1, 1) := by decide +kernel
theorem dL_1341 : decode code 1341 = .ok (.invokevirtual 160, 3) := by decide +kernel
theorem dL_1344 : decode code 1344 = .ok (.aload_n 2, 1) := by decide +kernel
theorem dL_1345 : decode code 1345 = .ok (.invokevirtual 163, 3) := by decide +kernel
theorem dL_1348 : decode code 1348 = .ok (.if_icmp .eq 345, 3) := by decide +kernel
theorem dL_1351 : decode code 1351 = .ok (.iconst 0, 1) := by decide +kernel
theorem dL_1352 : decode code 1352 = .ok (.ireturn, 1) := by decide +kernel
theorem dL_1353 : decode code 1353 = .ok (.aload_n 1, 1) := by decide +kernel
theorem dL_1354 : decode code 1354 = .ok (.aload_n 0, 1) := by decide +kernel
theorem dL_1355 : decode code 1355 = .ok (.iload 4, 2) := by decide +kernel
theorem dL_1357 : decode code 1357 = .ok (.iconst 1, 1) := by decide +kernel
theorem dL_1358 : decode code 1358 = .ok (.iadd, 1) := by decide +kernel
theorem dL_1359 : decode code 1359 = .ok (.iaload, 1) := by decide +kernel
theorem dL_1360 : decode code 1360 = .ok (.invokevirtual 164, 3) := by decide +kernel
theorem dL_1363 : decode code 1363 = .ok (.aload_n 2, 1) := by decide +kernel
theorem dL_1364 : decode code 1364 = .ok (.aload_n 0, 1) := by decide +kernel
theorem dL_1365 : decode code 1365 = .ok (.iload 4, 2) := by decide +kernel
theorem dL_1367 : decode code 1367 = .ok (.iconst 1, 1) := by decide +kernel
theorem dL_1368 : decode code 1368 = .ok (.iadd, 1) := by decide +kernel
theorem dL_1369 : decode code 1369 = .ok (.iaload, 1) := by decide +kernel
theorem dL_1370 : decode code 1370 = .ok (.invokevirtual 167, 3) := by decide +kernel
theorem dL_1373 : decode code 1373 = .ok (.if_icmp .eq 320, 3) := by decide +kernel
theorem dL_1376 : decode code 1376 = .ok (.iconst 0, 1) := by decide +kernel
theorem dL_1377 : decode code 1377 = .ok (.ireturn, 1) := by decide +kernel
theorem dL_1378 : decode code 1378 = .ok (.aload_n 1, 1) := by decide +kernel
theorem dL_1379 : decode code 1379 = .ok (.aload_n 0, 1) := by decide +kernel
theorem dL_1380 : decode code 1380 = .ok (.iload 4, 2) := by decide +kernel
theorem dL_1382 : decode code 1382 = .ok (.iconst 1, 1) := by decide +kernel
theorem dL_1383 : decode code 1383 = .ok (.iadd, 1) := by decide +kernel
theorem dL_1384 : decode code 1384 = .ok (.iaload, 1) := by decide +kernel
theorem dL_1385 : decode code 1385 = .ok (.aload_n 0, 1) := by decide +kernel
theorem dL_1386 : decode code 1386 = .ok (.iload 4, 2) := by decide +kernel
theorem dL_1388 : decode code 1388 = .ok (.iconst 2, 1) := by decide +kernel
theorem dL_1389 : decode code 1389 = .ok (.iadd, 1) := by decide +kernel
theorem dL_1390 : decode code 1390 = .ok (.iaload, 1) := by decide +kernel
theorem dL_1391 : decode code 1391 = .ok (.aload_n 0, 1) := by decide +kernel
theorem dL_1392 : decode code 1392 = .ok (.iload 4, 2) := by decide +kernel
theorem dL_1394 : decode code 1394 = .ok (.iconst 3, 1) := by decide +kernel
theorem dL_1395 : decode code 1395 = .ok (.iadd, 1) := by decide +kernel
theorem dL_1396 : decode code 1396 = .ok (.iaload, 1) := by decide +kernel
theorem dL_1397 : decode code 1397 = .ok (.ifCond .eq 7, 3) := by decide +kernel
theorem dL_1400 : decode code 1400 = .ok (.iconst 1, 1) := by decide +kernel
theorem dL_1401 : decode code 1401 = .ok (.goto 4, 3) := by decide +kernel
theorem dL_1404 : decode code 1404 = .ok (.iconst 0, 1) := by decide +kernel
theorem dL_1405 : decode code 1405 = .ok (.invokevirtual 168, 3) := by decide +kernel
theorem dL_1408 : decode code 1408 = .ok (.aload_n 2, 1) := by decide +kernel
theorem dL_1409 : decode code 1409 = .ok (.aload_n 0, 1) := by decide +kernel
theorem dL_1410 : decode code 1410 = .ok (.iload 4, 2) := by decide +kernel
theorem dL_1412 : decode code 1412 = .ok (.iconst 1, 1) := by decide +kernel
theorem dL_1413 : decode code 1413 = .ok (.iadd, 1) := by decide +kernel
theorem dL_1414 : decode code 1414 = .ok (.iaload, 1) := by decide +kernel
theorem dL_1415 : decode code 1415 = .ok (.aload_n 0, 1) := by decide +kernel
theorem dL_1416 : decode code 1416 = .ok (.iload 4, 2) := by decide +kernel
theorem dL_1418 : decode code 1418 = .ok (.iconst 2, 1) := by decide +kernel
theorem dL_1419 : decode code 1419 = .ok (.iadd, 1) := by decide +kernel
theorem dL_1420 : decode code 1420 = .ok (.iaload, 1) := by decide +kernel
theorem dL_1421 : decode code 1421 = .ok (.aload_n 0, 1) := by decide +kernel
theorem dL_1422 : decode code 1422 = .ok (.iload 4, 2) := by decide +kernel
theorem dL_1424 : decode code 1424 = .ok (.iconst 3, 1) := by decide +kernel
theorem dL_1425 : decode code 1425 = .ok (.iadd, 1) := by decide +kernel
theorem dL_1426 : decode code 1426 = .ok (.iaload, 1) := by decide +kernel
theorem dL_1427 : decode code 1427 = .ok (.ifCond .eq 7, 3) := by decide +kernel
theorem dL_1430 : decode code 1430 = .ok (.iconst 1, 1) := by decide +kernel
theorem dL_1431 : decode code 1431 = .ok (.goto 4, 3) := by decide +kernel
theorem dL_1434 : decode code 1434 = .ok (.iconst 0, 1) := by decide +kernel
theorem dL_1435 : decode code 1435 = .ok (.invokevirtual 172, 3) := by decide +kernel
theorem dL_1438 : decode code 1438 = .ok (.if_icmp .eq 255, 3) := by decide +kernel
theorem dL_1441 : decode code 1441 = .ok (.iconst 0, 1) := by decide +kernel
theorem dL_1442 : decode code 1442 = .ok (.ireturn, 1) := by decide +kernel
theorem dL_1443 : decode code 1443 = .ok (.aload_n 1, 1) := by decide +kernel
theorem dL_1444 : decode code 1444 = .ok (.aload_n 0, 1) := by decide +kernel
theorem dL_1445 : decode code 1445 = .ok (.iload 4, 2) := by decide +kernel
theorem dL_1447 : decode code 1447 = .ok (.iconst 1, 1) := by decide +kernel
theorem dL_1448 : decode code 1448 = .ok (.iadd, 1) := by decide +kernel
theorem dL_1449 : decode code 1449 = .ok (.iaload, 1) := by decide +kernel
theorem dL_1450 : decode code 1450 = .ok (.aload_n 0, 1) := by decide +kernel
theorem dL_1451 : decode code 1451 = .ok (.iload 4, 2) := by decide +kernel
theorem dL_1453 : decode code 1453 = .ok (.iconst 2, 1) := by decide +kernel
theorem dL_1454 : decode code 1454 = .ok (.iadd, 1) := by decide +kernel
theorem dL_1455 : decode code 1455 = .ok (.iaload, 1) := by decide +kernel
theorem dL_1456 : decode code 1456 = .ok (.invokevirtual 173, 3) := by decide +kernel
theorem dL_1459 : decode code 1459 = .ok (.aload_n 2, 1) := by decide +kernel
theorem dL_1460 : decode code 1460 = .ok (.aload_n 0, 1) := by decide +kernel
theorem dL_1461 : decode code 1461 = .ok (.iload 4, 2) := by decide +kernel
theorem dL_1463 : decode code 1463 = .ok (.iconst 1, 1) := by decide +kernel
theorem dL_1464 : decode code 1464 = .ok (.iadd, 1) := by decide +kernel
theorem dL_1465 : decode code 1465 = .ok (.iaload, 1) := by decide +kernel
theorem dL_1466 : decode code 1466 = .ok (.aload_n 0, 1) := by decide +kernel
theorem dL_1467 : decode code 1467 = .ok (.iload 4, 2) := by decide +kernel
theorem dL_1469 : decode code 1469 = .ok (.iconst 2, 1) := by decide +kernel
theorem dL_1470 : decode code 1470 = .ok (.iadd, 1) := by decide +kernel
theorem dL_1471 : decode code 1471 = .ok (.iaload, 1) := by decide +kernel
theorem dL_1472 : decode code 1472 = .ok (.invokevirtual 176, 3) := by decide +kernel
theorem dL_1475 : decode code 1475 = .ok (.if_icmp .eq 218, 3) := by decide +kernel
theorem dL_1478 : decode code 1478 = .ok (.iconst 0, 1) := by decide +kernel
theorem dL_1479 : decode code 1479 = .ok (.ireturn, 1) := by decide +kernel
theorem dL_1480 : decode code 1480 = .ok (.aload_n 1, 1) := by decide +kernel
theorem dL_1481 : decode code 1481 = .ok (.aload_n 0, 1) := by decide +kernel
theorem dL_1482 : decode code 1482 = .ok (.iload 4, 2) := by decide +kernel
theorem dL_1484 : decode code 1484 = .ok (.iconst 1, 1) := by decide +kernel
theorem dL_1485 : decode code 1485 = .ok (.iadd, 1) := by decide +kernel
theorem dL_1486 : decode code 1486 = .ok (.iaload, 1) := by decide +kernel
theorem dL_1487 : decode code 1487 = .ok (.invokevirtual 177, 3) := by decide +kernel
theorem dL_1490 : decode code 1490 = .ok (.aload_n 2, 1) := by decide +kernel
theorem dL_1491 : decode code 1491 = .ok (.aload_n 0, 1) := by decide +kernel
theorem dL_1492 : decode code 1492 = .ok (.iload 4, 2) := by decide +kernel
theorem dL_1494 : decode code 1494 = .ok (.iconst 1, 1) := by decide +kernel
theorem dL_1495 : decode code 1495 = .ok (.iadd, 1) := by decide +kernel
theorem dL_1496 : decode code 1496 = .ok (.iaload, 1) := by decide +kernel
theorem dL_1497 : decode code 1497 = .ok (.invokevirtual 180, 3) := by decide +kernel
theorem dL_1500 : decode code 1500 = .ok (.if_icmp .eq 193, 3) := by decide +kernel
theorem dL_1503 : decode code 1503 = .ok (.iconst 0, 1) := by decide +kernel
theorem dL_1504 : decode code 1504 = .ok (.ireturn, 1) := by decide +kernel
theorem dL_1505 : decode code 1505 = .ok (.aload_n 1, 1) := by decide +kernel
theorem dL_1506 : decode code 1506 = .ok (.aload_n 0, 1) := by decide +kernel
theorem dL_1507 : decode code 1507 = .ok (.iload 4, 2) := by decide +kernel
theorem dL_1509 : decode code 1509 = .ok (.iconst 1, 1) := by decide +kernel
theorem dL_1510 : decode code 1510 = .ok (.iadd, 1) := by decide +kernel
theorem dL_1511 : decode code 1511 = .ok (.iaload, 1) := by decide +kernel
theorem dL_1512 : decode code 1512 = .ok (.aload_n 0, 1) := by decide +kernel
theorem dL_1513 : decode code 1513 = .ok (.iload 4, 2) := by decide +kernel
theorem dL_1515 : decode code 1515 = .ok (.iconst 2, 1) := by decide +kernel
theorem dL_1516 : decode code 1516 = .ok (.iadd, 1) := by decide +kernel
theorem dL_1517 : decode code 1517 = .ok (.iaload, 1) := by decide +kernel
theorem dL_1518 : decode code 1518 = .ok (.invokevirtual 181, 3) := by decide +kernel
theorem dL_1521 : decode code 1521 = .ok (.aload_n 2, 1) := by decide +kernel
theorem dL_1522 : decode code 1522 = .ok (.aload_n 0, 1) := by decide +kernel
theorem dL_1523 : decode code 1523 = .ok (.iload 4, 2) := by decide +kernel
theorem dL_1525 : decode code 1525 = .ok (.iconst 1, 1) := by decide +kernel
theorem dL_1526 : decode code 1526 = .ok (.iadd, 1) := by decide +kernel
theorem dL_1527 : decode code 1527 = .ok (.iaload, 1) := by decide +kernel
theorem dL_1528 : decode code 1528 = .ok (.aload_n 0, 1) := by decide +kernel
theorem dL_1529 : decode code 1529 = .ok (.iload 4, 2) := by decide +kernel
theorem dL_1531 : decode code 1531 = .ok (.iconst 2, 1) := by decide +kernel
theorem dL_1532 : decode code 1532 = .ok (.iadd, 1) := by decide +kernel
theorem dL_1533 : decode code 1533 = .ok (.iaload, 1) := by decide +kernel
theorem dL_1534 : decode code 1534 = .ok (.invokevirtual 184, 3) := by decide +kernel
theorem dL_1537 : decode code 1537 = .ok (.if_icmp .eq 156, 3) := by decide +kernel
theorem dL_1540 : decode code 1540 = .ok (.iconst 0, 1) := by decide +kernel
theorem dL_1541 : decode code 1541 = .ok (.ireturn, 1) := by decide +kernel
theorem dL_1542 : decode code 1542 = .ok (.aload_n 1, 1) := by decide +kernel
theorem dL_1543 : decode code 1543 = .ok (.aload_n 0, 1) := by decide +kernel
theorem dL_1544 : decode code 1544 = .ok (.iload 4, 2) := by decide +kernel
theorem dL_1546 : decode code 1546 = .ok (.iconst 1, 1) := by decide +kernel
theorem dL_1547 : decode code 1547 = .ok (.iadd, 1) := by decide +kernel
theorem dL_1548 : decode code 1548 = .ok (.iaload, 1) := by decide +kernel
theorem dL_1549 : decode code 1549 = .ok (.aload_n 0, 1) := by decide +kernel
theorem dL_1550 : decode code 1550 = .ok (.iload 4, 2) := by decide +kernel
theorem dL_1552 : decode code 1552 = .ok (.iconst 2, 1) := by decide +kernel
theorem dL_1553 : decode code 1553 = .ok (.iadd, 1) := by decide +kernel
theorem dL_1554 : decode code 1554 = .ok (.iaload, 1) := by decide +kernel
theorem dL_1555 : decode code 1555 = .ok (.aload_n 0, 1) := by decide +kernel
theorem dL_1556 : decode code 1556 = .ok (.iload 4, 2) := by decide +kernel
theorem dL_1558 : decode code 1558 = .ok (.iconst 3, 1) := by decide +kernel
theorem dL_1559 : decode code 1559 = .ok (.iadd, 1) := by decide +kernel
theorem dL_1560 : decode code 1560 = .ok (.iaload, 1) := by decide +kernel
theorem dL_1561 : decode code 1561 = .ok (.invokevirtual 185, 3) := by decide +kernel
theorem dL_1564 : decode code 1564 = .ok (.aload_n 2, 1) := by decide +kernel
theorem dL_1565 : decode code 1565 = .ok (.aload_n 0, 1) := by decide +kernel
theorem dL_1566 : decode code 1566 = .ok (.iload 4, 2) := by decide +kernel
theorem dL_1568 : decode code 1568 = .ok (.iconst 1, 1) := by decide +kernel
theorem dL_1569 : decode code 1569 = .ok (.iadd, 1) := by decide +kernel
theorem dL_1570 : decode code 1570 = .ok (.iaload, 1) := by decide +kernel
theorem dL_1571 : decode code 1571 = .ok (.aload_n 0, 1) := by decide +kernel
theorem dL_1572 : decode code 1572 = .ok (.iload 4, 2) := by decide +kernel
theorem dL_1574 : decode code 1574 = .ok (.iconst 2, 1) := by decide +kernel
theorem dL_1575 : decode code 1575 = .ok (.iadd, 1) := by decide +kernel
theorem dL_1576 : decode code 1576 = .ok (.iaload, 1) := by decide +kernel
theorem dL_1577 : decode code 1577 = .ok (.aload_n 0, 1) := by decide +kernel
theorem dL_1578 : decode code 1578 = .ok (.iload 4, 2) := by decide +kernel
theorem dL_1580 : decode code 1580 = .ok (.iconst 3, 1) := by decide +kernel
theorem dL_1581 : decode code 1581 = .ok (.iadd, 1) := by decide +kernel
theorem dL_1582 : decode code 1582 = .ok (.iaload, 1) := by decide +kernel
theorem dL_1583 : decode code 1583 = .ok (.invokevirtual 188, 3) := by decide +kernel
theorem dL_1586 : decode code 1586 = .ok (.if_icmp .eq 107, 3) := by decide +kernel
theorem dL_1589 : decode code 1589 = .ok (.iconst 0, 1) := by decide +kernel
theorem dL_1590 : decode code 1590 = .ok (.ireturn, 1) := by decide +kernel
theorem dL_1591 : decode code 1591 = .ok (.aload_n 1, 1) := by decide +kernel
theorem dL_1592 : decode code 1592 = .ok (.aload_n 0, 1) := by decide +kernel
theorem dL_1593 : decode code 1593 = .ok (.iload 4, 2) := by decide +kernel
theorem dL_1595 : decode code 1595 = .ok (.iconst 1, 1) := by decide +kernel
theorem dL_1596 : decode code 1596 = .ok (.iadd, 1) := by decide +kernel
theorem dL_1597 : decode code 1597 = .ok (.iaload, 1) := by decide +kernel
theorem dL_1598 : decode code 1598 = .ok (.invokevirtual 189, 3) := by decide +kernel
theorem dL_1601 : decode code 1601 = .ok (.aload_n 2, 1) := by decide +kernel
theorem dL_1602 : decode code 1602 = .ok (.aload_n 0, 1) := by decide +kernel
theorem dL_1603 : decode code 1603 = .ok (.iload 4, 2) := by decide +kernel
theorem dL_1605 : decode code 1605 = .ok (.iconst 1, 1) := by decide +kernel
theorem dL_1606 : decode code 1606 = .ok (.iadd, 1) := by decide +kernel
theorem dL_1607 : decode code 1607 = .ok (.iaload, 1) := by decide +kernel
theorem dL_1608 : decode code 1608 = .ok (.invokevirtual 192, 3) := by decide +kernel
theorem dL_1611 : decode code 1611 = .ok (.if_icmp .eq 82, 3) := by decide +kernel
theorem dL_1614 : decode code 1614 = .ok (.iconst 0, 1) := by decide +kernel
theorem dL_1615 : decode code 1615 = .ok (.ireturn, 1) := by decide +kernel
theorem dL_1616 : decode code 1616 = .ok (.aload_n 1, 1) := by decide +kernel
theorem dL_1617 : decode code 1617 = .ok (.invokevirtual 193, 3) := by decide +kernel
theorem dL_1620 : decode code 1620 = .ok (.aload_n 2, 1) := by decide +kernel
theorem dL_1621 : decode code 1621 = .ok (.invokevirtual 196, 3) := by decide +kernel
theorem dL_1624 : decode code 1624 = .ok (.if_icmp .eq 69, 3) := by decide +kernel
theorem dL_1627 : decode code 1627 = .ok (.iconst 0, 1) := by decide +kernel
theorem dL_1628 : decode code 1628 = .ok (.ireturn, 1) := by decide +kernel
theorem dL_1629 : decode code 1629 = .ok (.aload_n 1, 1) := by decide +kernel
theorem dL_1630 : decode code 1630 = .ok (.invokevirtual 197, 3) := by decide +kernel
theorem dL_1633 : decode code 1633 = .ok (.aload_n 2, 1) := by decide +kernel
theorem dL_1634 : decode code 1634 = .ok (.invokevirtual 200, 3) := by decide +kernel
theorem dL_1637 : decode code 1637 = .ok (.if_icmp .eq 56, 3) := by decide +kernel
theorem dL_1640 : decode code 1640 = .ok (.iconst 0, 1) := by decide +kernel
theorem dL_1641 : decode code 1641 = .ok (.ireturn, 1) := by decide +kernel
theorem dL_1642 : decode code 1642 = .ok (.aload_n 1, 1) := by decide +kernel
theorem dL_1643 : decode code 1643 = .ok (.invokevirtual 201, 3) := by decide +kernel
theorem dL_1646 : decode code 1646 = .ok (.aload_n 2, 1) := by decide +kernel
theorem dL_1647 : decode code 1647 = .ok (.invokevirtual 204, 3) := by decide +kernel
theorem dL_1650 : decode code 1650 = .ok (.if_icmp .eq 43, 3) := by decide +kernel
theorem dL_1653 : decode code 1653 = .ok (.iconst 0, 1) := by decide +kernel
theorem dL_1654 : decode code 1654 = .ok (.ireturn, 1) := by decide +kernel
theorem dL_1655 : decode code 1655 = .ok (.aload_n 1, 1) := by decide +kernel
theorem dL_1656 : decode code 1656 = .ok (.invokevirtual 205, 3) := by decide +kernel
theorem dL_1659 : decode code 1659 = .ok (.aload_n 2, 1) := by decide +kernel
theorem dL_1660 : decode code 1660 = .ok (.invokevirtual 208, 3) := by decide +kernel
theorem dL_1663 : decode code 1663 = .ok (.if_icmp .eq 30, 3) := by decide +kernel
theorem dL_1666 : decode code 1666 = .ok (.iconst 0, 1) := by decide +kernel
theorem dL_1667 : decode code 1667 = .ok (.ireturn, 1) := by decide +kernel
theorem dL_1668 : decode code 1668 = .ok (.aload_n 1, 1) := by decide +kernel
theorem dL_1669 : decode code 1669 = .ok (.aload_n 0, 1) := by decide +kernel
theorem dL_1670 : decode code 1670 = .ok (.iload 4, 2) := by decide +kernel
theorem dL_1672 : decode code 1672 = .ok (.iconst 1, 1) := by decide +kernel
theorem dL_1673 : decode code 1673 = .ok (.iadd, 1) := by decide +kernel
theorem dL_1674 : decode code 1674 = .ok (.iaload, 1) := by decide +kernel
theorem dL_1675 : decode code 1675 = .ok (.invokevirtual 209, 3) := by decide +kernel
theorem dL_1678 : decode code 1678 = .ok (.aload_n 2, 1) := by decide +kernel
theorem dL_1679 : decode code 1679 = .ok (.aload_n 0, 1) := by decide +kernel
theorem dL_1680 : decode code 1680 = .ok (.iload 4, 2) := by decide +kernel
theorem dL_1682 : decode code 1682 = .ok (.iconst 1, 1) := by decide +kernel
theorem dL_1683 : decode code 1683 = .ok (.iadd, 1) := by decide +kernel
theorem dL_1684 : decode code 1684 = .ok (.iaload, 1) := by decide +kernel
theorem dL_1685 : decode code 1685 = .ok (.invokevirtual 212, 3) := by decide +kernel
theorem dL_1688 : decode code 1688 = .ok (.if_icmp .eq 5, 3) := by decide +kernel
theorem dL_1691 : decode code 1691 = .ok (.iconst 0, 1) := by decide +kernel
theorem dL_1692 : decode code 1692 = .ok (.ireturn, 1) := by decide +kernel
theorem dL_1693 : decode code 1693 = .ok (.iinc 4 7, 3) := by decide +kernel
theorem dL_1696 : decode code 1696 = .ok (.goto (-1673), 3) := by decide +kernel
theorem dL_1699 : decode code 1699 = .ok (.iconst 1, 1) := by decide +kernel
theorem dL_1700 : decode code 1700 = .ok (.ireturn, 1) := by decide +kernel
