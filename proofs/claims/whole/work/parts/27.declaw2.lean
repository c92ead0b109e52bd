theorem dL_law_938 : decode code 938 = .ok (.lcmp, 1) := by decide +kernel
theorem dL_law_939 : decode code 939 = .ok (.ifCond .eq 5, 3) := by decide +kernel
theorem dL_law_942 : decode code 942 = .ok (.iconst 0, 1) := by decide +kernel
theorem dL_law_943 : decode code 943 = .ok (.ireturn, 1) := by decide +kernel
theorem dL_law_944 : decode code 944 = .ok (.goto 760, 3) := by decide +kernel
theorem dL_law_947 : decode code 947 = .ok (.aload_n 1, 1) := by decide +kernel
theorem dL_law_948 : decode code 948 = .ok (.invokevirtual 163, 3) := by decide +kernel
theorem dL_law_951 : decode code 951 = .ok (.aload_n 2, 1) := by decide +kernel
theorem dL_law_952 : decode code 952 = .ok (.invokevirtual 166, 3) := by decide +kernel
theorem dL_law_955 : decode code 955 = .ok (.if_icmp .eq 749, 3) := by decide +kernel
theorem dL_law_958 : decode code 958 = .ok (.iconst 0, 1) := by decide +kernel
theorem dL_law_959 : decode code 959 = .ok (.ireturn, 1) := by decide +kernel
theorem dL_law_960 : decode code 960 = .ok (.aload_n 1, 1) := by decide +kernel
theorem dL_law_961 : decode code 961 = .ok (.aload_n 3, 1) := by decide +kernel
theorem dL_law_962 : decode code 962 = .ok (.invokestatic 167, 3) := by decide +kernel
theorem dL_law_965 : decode code 965 = .ok (.istore 5, 2) := by decide +kernel
theorem dL_law_967 : decode code 967 = .ok (.aload_n 2, 1) := by decide +kernel
theorem dL_law_968 : decode code 968 = .ok (.invokevirtual 170, 3) := by decide +kernel
theorem dL_law_971 : decode code 971 = .ok (.istore 6, 2) := by decide +kernel
theorem dL_law_973 : decode code 973 = .ok (.aload_n 2, 1) := by decide +kernel
theorem dL_law_974 : decode code 974 = .ok (.invokevirtual 100, 3) := by decide +kernel
theorem dL_law_977 : decode code 977 = .ok (.iload 5, 2) := by decide +kernel
theorem dL_law_979 : decode code 979 = .ok (.if_icmp .eq 5, 3) := by decide +kernel
theorem dL_law_982 : decode code 982 = .ok (.iconst 0, 1) := by decide +kernel
theorem dL_law_983 : decode code 983 = .ok (.ireturn, 1) := by decide +kernel
theorem dL_law_984 : decode code 984 = .ok (.iload 5, 2) := by decide +kernel
theorem dL_law_986 : decode code 986 = .ok (.ifCond .ne 15, 3) := by decide +kernel
theorem dL_law_989 : decode code 989 = .ok (.aload_n 3, 1) := by decide +kernel
theorem dL_law_990 : decode code 990 = .ok (.iconst 0, 1) := by decide +kernel
theorem dL_law_991 : decode code 991 = .ok (.laload, 1) := by decide +kernel
theorem dL_law_992 : decode code 992 = .ok (.iload 6, 2) := by decide +kernel
theorem dL_law_994 : decode code 994 = .ok (.i2l, 1) := by decide +kernel
theorem dL_law_995 : decode code 995 = .ok (.lcmp, 1) := by decide +kernel
theorem dL_law_996 : decode code 996 = .ok (.ifCond .eq 5, 3) := by decide +kernel
theorem dL_law_999 : decode code 999 = .ok (.iconst 0, 1) := by decide +kernel
theorem dL_law_1000 : decode code 1000 = .ok (.ireturn, 1) := by decide +kernel
theorem dL_law_1001 : decode code 1001 = .ok (.goto 703, 3) := by decide +kernel
theorem dL_law_1004 : decode code 1004 = .ok (.aload_n 1, 1) := by decide +kernel
theorem dL_law_1005 : decode code 1005 = .ok (.aload_n 0, 1) := by decide +kernel
theorem dL_law_1006 : decode code 1006 = .ok (.iload 4, 2) := by decide +kernel
theorem dL_law_1008 : decode code 1008 = .ok (.iconst 1, 1) := by decide +kernel
theorem dL_law_1009 : decode code 1009 = .ok (.iadd, 1) := by decide +kernel
theorem dL_law_1010 : decode code 1010 = .ok (.iaload, 1) := by decide +kernel
theorem dL_law_1011 : decode code 1011 = .ok (.aload_n 0, 1) := by decide +kernel
theorem dL_law_1012 : decode code 1012 = .ok (.iload 4, 2) := by decide +kernel
theorem dL_law_1014 : decode code 1014 = .ok (.iconst 2, 1) := by decide +kernel
theorem dL_law_1015 : decode code 1015 = .ok (.iadd, 1) := by decide +kernel
theorem dL_law_1016 : decode code 1016 = .ok (.iaload, 1) := by decide +kernel
theorem dL_law_1017 : decode code 1017 = .ok (.aload_n 3, 1) := by decide +kernel
theorem dL_law_1018 : decode code 1018 = .ok (.invokestatic 171, 3) := by decide +kernel
theorem dL_law_1021 : decode code 1021 = .ok (.istore 5, 2) := by decide +kernel
theorem dL_law_1023 : decode code 1023 = .ok (.aload_n 2, 1) := by decide +kernel
theorem dL_law_1024 : decode code 1024 = .ok (.aload_n 0, 1) := by decide +kernel
theorem dL_law_1025 : decode code 1025 = .ok (.iload 4, 2) := by decide +kernel
theorem dL_law_1027 : decode code 1027 = .ok (.iconst 1, 1) := by decide +kernel
theorem dL_law_1028 : decode code 1028 = .ok (.iadd, 1) := by decide +kernel
theorem dL_law_1029 : decode code 1029 = .ok (.iaload, 1) := by decide +kernel
theorem dL_law_1030 : decode code 1030 = .ok (.aload_n 0, 1) := by decide +kernel
theorem dL_law_1031 : decode code 1031 = .ok (.iload 4, 2) := by decide +kernel
theorem dL_law_1033 : decode code 1033 = .ok (.iconst 2, 1) := by decide +kernel
theorem dL_law_1034 : decode code 1034 = .ok (.iadd, 1) := by decide +kernel
theorem dL_law_1035 : decode code 1035 = .ok (.iaload, 1) := by decide +kernel
theorem dL_law_1036 : decode code 1036 = .ok (.invokevirtual 173, 3) := by decide +kernel
theorem dL_law_1039 : decode code 1039 = .ok (.istore 6, 2) := by decide +kernel
theorem dL_law_1041 : decode code 1041 = .ok (.aload_n 2, 1) := by decide +kernel
theorem dL_law_1042 : decode code 1042 = .ok (.invokevirtual 100, 3) := by decide +kernel
theorem dL_law_1045 : decode code 1045 = .ok (.iload 5, 2) := by decide +kernel
theorem dL_law_1047 : decode code 1047 = .ok (.if_icmp .eq 5, 3) := by decide +kernel
theorem dL_law_1050 : decode code 1050 = .ok (.iconst 0, 1) := by decide +kernel
theorem dL_law_1051 : decode code 1051 = .ok (.ireturn, 1) := by decide +kernel
theorem dL_law_1052 : decode code 1052 = .ok (.iload 5, 2) := by decide +kernel
theorem dL_law_1054 : decode code 1054 = .ok (.ifCond .ne 15, 3) := by decide +kernel
theorem dL_law_1057 : decode code 1057 = .ok (.aload_n 3, 1) := by decide +kernel
theorem dL_law_1058 : decode code 1058 = .ok (.iconst 0, 1) := by decide +kernel
theorem dL_law_1059 : decode code 1059 = .ok (.laload, 1) := by decide +kernel
theorem dL_law_1060 : decode code 1060 = .ok (.iload 6, 2) := by decide +kernel
theorem dL_law_1062 : decode code 1062 = .ok (.i2l, 1) := by decide +kernel
theorem dL_law_1063 : decode code 1063 = .ok (.lcmp, 1) := by decide +kernel
theorem dL_law_1064 : decode code 1064 = .ok (.ifCond .eq 5, 3) := by decide +kernel
theorem dL_law_1067 : decode code 1067 = .ok (.iconst 0, 1) := by decide +kernel
theorem dL_law_1068 : decode code 1068 = .ok (.ireturn, 1) := by decide +kernel
theorem dL_law_1069 : decode code 1069 = .ok (.goto 635, 3) := by decide +kernel
theorem dL_law_1072 : decode code 1072 = .ok (.aload_n 1, 1) := by decide +kernel
theorem dL_law_1073 : decode code 1073 = .ok (.aload_n 0, 1) := by decide +kernel
theorem dL_law_1074 : decode code 1074 = .ok (.iload 4, 2) := by decide +kernel
theorem dL_law_1076 : decode code 1076 = .ok (.iconst 1, 1) := by decide +kernel
theorem dL_law_1077 : decode code 1077 = .ok (.iadd, 1) := by decide +kernel
theorem dL_law_1078 : decode code 1078 = .ok (.iaload, 1) := by decide +kernel
theorem dL_law_1079 : decode code 1079 = .ok (.aload_n 0, 1) := by decide +kernel
theorem dL_law_1080 : decode code 1080 = .ok (.iload 4, 2) := by decide +kernel
theorem dL_law_1082 : decode code 1082 = .ok (.iconst 2, 1) := by decide +kernel
theorem dL_law_1083 : decode code 1083 = .ok (.iadd, 1) := by decide +kernel
theorem dL_law_1084 : decode code 1084 = .ok (.iaload, 1) := by decide +kernel
theorem dL_law_1085 : decode code 1085 = .ok (.aload_n 3, 1) := by decide +kernel
theorem dL_law_1086 : decode code 1086 = .ok (.invokestatic 174, 3) := by decide +kernel
theorem dL_law_1089 : decode code 1089 = .ok (.istore 5, 2) := by decide +kernel
theorem dL_law_1091 : decode code 1091 = .ok (.aload_n 2, 1) := by decide +kernel
theorem dL_law_1092 : decode code 1092 = .ok (.aload_n 0, 1) := by decide +kernel
theorem dL_law_1093 : decode code 1093 = .ok (.iload 4, 2) := by decide +kernel
theorem dL_law_1095 : decode code 1095 = .ok (.iconst 1, 1) := by decide +kernel
theorem dL_law_1096 : decode code 1096 = .ok (.iadd, 1) := by decide +kernel
theorem dL_law_1097 : decode code 1097 = .ok (.iaload, 1) := by decide +kernel
theorem dL_law_1098 : decode code 1098 = .ok (.aload_n 0, 1) := by decide +kernel
theorem dL_law_1099 : decode code 1099 = .ok (.iload 4, 2) := by decide +kernel
theorem dL_law_1101 : decode code 1101 = .ok (.iconst 2, 1) := by decide +kernel
theorem dL_law_1102 : decode code 1102 = .ok (.iadd, 1) := by decide +kernel
theorem dL_law_1103 : decode code 1103 = .ok (.iaload, 1) := by decide +kernel
theorem dL_law_1104 : decode code 1104 = .ok (.invokevirtual 176, 3) := by decide +kernel
theorem dL_law_1107 : decode code 1107 = .ok (.istore 6, 2) := by decide +kernel
theorem dL_law_1109 : decode code 1109 = .ok (.aload_n 2, 1) := by decide +kernel
theorem dL_law_1110 : decode code 1110 = .ok (.invokevirtual 100, 3) := by decide +kernel
theorem dL_law_1113 : decode code 1113 = .ok (.iload 5, 2) := by decide +kernel
theorem dL_law_1115 : decode code 1115 = .ok (.if_icmp .eq 5, 3) := by decide +kernel
theorem dL_law_1118 : decode code 1118 = .ok (.iconst 0, 1) := by decide +kernel
theorem dL_law_1119 : decode code 1119 = .ok (.ireturn, 1) := by decide +kernel
theorem dL_law_1120 : decode code 1120 = .ok (.iload 5, 2) := by decide +kernel
theorem dL_law_1122 : decode code 1122 = .ok (.ifCond .ne 15, 3) := by decide +kernel
theorem dL_law_1125 : decode code 1125 = .ok (.aload_n 3, 1) := by decide +kernel
theorem dL_law_1126 : decode code 1126 = .ok (.iconst 0, 1) := by decide +kernel
theorem dL_law_1127 : decode code 1127 = .ok (.laload, 1) := by decide +kernel
theorem dL_law_1128 : decode code 1128 = .ok (.iload 6, 2) := by decide +kernel
theorem dL_law_1130 : decode code 1130 = .ok (.i2l, 1) := by decide +kernel
theorem dL_law_1131 : decode code 1131 = .ok (.lcmp, 1) := by decide +kernel
theorem dL_law_1132 : decode code 1132 = .ok (.ifCond .eq 5, 3) := by decide +kernel
theorem dL_law_1135 : decode code 1135 = .ok (.iconst 0, 1) := by decide +kernel
theorem dL_law_1136 : decode code 1136 = .ok (.ireturn, 1) := by decide +kernel
theorem dL_law_1137 : decode code 1137 = .ok (.goto 567, 3) := by decide +kernel
theorem dL_law_1140 : decode code 1140 = .ok (.aload_n 1, 1) := by decide +kernel
theorem dL_law_1141 : decode code 1141 = .ok (.aload_n 0, 1) := by decide +kernel
theorem dL_law_1142 : decode code 1142 = .ok (.iload 4, 2) := by decide +kernel
theorem dL_law_1144 : decode code 1144 = .ok (.iconst 1, 1) := by decide +kernel
theorem dL_law_1145 : decode code 1145 = .ok (.iadd, 1) := by decide +kernel
theorem dL_law_1146 : decode code 1146 = .ok (.iaload, 1) := by decide +kernel
theorem dL_law_1147 : decode code 1147 = .ok (.aload_n 0, 1) := by decide +kernel
theorem dL_law_1148 : decode code 1148 = .ok (.iload 4, 2) := by decide +kernel
theorem dL_law_1150 : decode code 1150 = .ok (.iconst 2, 1) := by decide +kernel
theorem dL_law_1151 : decode code 1151 = .ok (.iadd, 1) := by decide +kernel
theorem dL_law_1152 : decode code 1152 = .ok (.iaload, 1) := by decide +kernel
theorem dL_law_1153 : decode code 1153 = .ok (.aload_n 0, 1) := by decide +kernel
theorem dL_law_1154 : decode code 1154 = .ok (.iload 4, 2) := by decide +kernel
theorem dL_law_1156 : decode code 1156 = .ok (.iconst 3, 1) := by decide +kernel
theorem dL_law_1157 : decode code 1157 = .ok (.iadd, 1) := by decide +kernel
theorem dL_law_1158 : decode code 1158 = .ok (.iaload, 1) := by decide +kernel
theorem dL_law_1159 : decode code 1159 = .ok (.aload_n 0, 1) := by decide +kernel
theorem dL_law_1160 : decode code 1160 = .ok (.iload 4, 2) := by decide +kernel
theorem dL_law_1162 : decode code 1162 = .ok (.iconst 4, 1) := by decide +kernel
theorem dL_law_1163 : decode code 1163 = .ok (.iadd, 1) := by decide +kernel
theorem dL_law_1164 : decode code 1164 = .ok (.iaload, 1) := by decide +kernel
theorem dL_law_1165 : decode code 1165 = .ok (.aload_n 3, 1) := by decide +kernel
theorem dL_law_1166 : decode code 1166 = .ok (.invokestatic 177, 3) := by decide +kernel
theorem dL_law_1169 : decode code 1169 = .ok (.istore 5, 2) := by decide +kernel
theorem dL_law_1171 : decode code 1171 = .ok (.aload_n 2, 1) := by decide +kernel
theorem dL_law_1172 : decode code 1172 = .ok (.aload_n 0, 1) := by decide +kernel
theorem dL_law_1173 : decode code 1173 = .ok (.iload 4, 2) := by decide +kernel
theorem dL_law_1175 : decode code 1175 = .ok (.iconst 1, 1) := by decide +kernel
theorem dL_law_1176 : decode code 1176 = .ok (.iadd, 1) := by decide +kernel
theorem dL_law_1177 : decode code 1177 = .ok (.iaload, 1) := by decide +kernel
theorem dL_law_1178 : decode code 1178 = .ok (.aload_n 0, 1) := by decide +kernel
theorem dL_law_1179 : decode code 1179 = .ok (.iload 4, 2) := by decide +kernel
theorem dL_law_1181 : decode code 1181 = .ok (.iconst 2, 1) := by decide +kernel
theorem dL_law_1182 : decode code 1182 = .ok (.iadd, 1) := by decide +kernel
theorem dL_law_1183 : decode code 1183 = .ok (.iaload, 1) := by decide +kernel
theorem dL_law_1184 : decode code 1184 = .ok (.aload_n 0, 1) := by decide +kernel
theorem dL_law_1185 : decode code 1185 = .ok (.iload 4, 2) := by decide +kernel
theorem dL_law_1187 : decode code 1187 = .ok (.iconst 3, 1) := by decide +kernel
theorem dL_law_1188 : decode code 1188 = .ok (.iadd, 1) := by decide +kernel
theorem dL_law_1189 : decode code 1189 = .ok (.iaload, 1) := by decide +kernel
theorem dL_law_1190 : decode code 1190 = .ok (.aload_n 0, 1) := by decide +kernel
theorem dL_law_1191 : decode code 1191 = .ok (.iload 4, 2) := by decide +kernel
theorem dL_law_1193 : decode code 1193 = .ok (.iconst 4, 1) := by decide +kernel
theorem dL_law_1194 : decode code 1194 = .ok (.iadd, 1) := by decide +kernel
theorem dL_law_1195 : decode code 1195 = .ok (.iaload, 1) := by decide +kernel
theorem dL_law_1196 : decode code 1196 = .ok (.invokevirtual 180, 3) := by decide +kernel
theorem dL_law_1199 : decode code 1199 = .ok (.istore 6, 2) := by decide +kernel
theorem dL_law_1201 : decode code 1201 = .ok (.aload_n 2, 1) := by decide +kernel
theorem dL_law_1202 : decode code 1202 = .ok (.invokevirtual 100, 3) := by decide +kernel
theorem dL_law_1205 : decode code 1205 = .ok (.iload 5, 2) := by decide +kernel
theorem dL_law_1207 : decode code 1207 = .ok (.if_icmp .eq 5, 3) := by decide +kernel
theorem dL_law_1210 : decode code 1210 = .ok (.iconst 0, 1) := by decide +kernel
theorem dL_law_1211 : decode code 1211 = .ok (.ireturn, 1) := by decide +kernel
theorem dL_law_1212 : decode code 1212 = .ok (.iload 5, 2) := by decide +kernel
theorem dL_law_1214 : decode code 1214 = .ok (.ifCond .ne 22, 3) := by decide +kernel
theorem dL_law_1217 : decode code 1217 = .ok (.aload_n 3, 1) := by decide +kernel
theorem dL_law_1218 : decode code 1218 = .ok (.iconst 0, 1) := by decide +kernel
theorem dL_law_1219 : decode code 1219 = .ok (.laload, 1) := by decide +kernel
theorem dL_law_1220 : decode code 1220 = .ok (.iload 6, 2) := by decide +kernel
theorem dL_law_1222 : decode code 1222 = .ok (.ifCond .eq 7, 3) := by decide +kernel
theorem dL_law_1225 : decode code 1225 = .ok (.lconst 1, 1) := by decide +kernel
theorem dL_law_1226 : decode code 1226 = .ok (.goto 4, 3) := by decide +kernel
theorem dL_law_1229 : decode code 1229 = .ok (.lconst 0, 1) := by decide +kernel
theorem dL_law_1230 : decode code 1230 = .ok (.lcmp, 1) := by decide +kernel
theorem dL_law_1231 : decode code 1231 = .ok (.ifCond .eq 5, 3) := by decide +kernel
theorem dL_law_1234 : decode code 1234 = .ok (.iconst 0, 1) := by decide +kernel
theorem dL_law_1235 : decode code 1235 = .ok (.ireturn, 1) := by decide +kernel
theorem dL_law_1236 : decode code 1236 = .ok (.goto 468, 3) := by decide +kernel
theorem dL_law_1239 : decode code 1239 = .ok (.aload_n 1, 1) := by decide +kernel
theorem dL_law_1240 : decode code 1240 = .ok (.aload_n 0, 1) := by decide +kernel
theorem dL_law_1241 : decode code 1241 = .ok (.iload 4, 2) := by decide +kernel
theorem dL_law_1243 : decode code 1243 = .ok (.iconst 1, 1) := by decide +kernel
theorem dL_law_1244 : decode code 1244 = .ok (.iadd, 1) := by decide +kernel
theorem dL_law_1245 : decode code 1245 = .ok (.iaload, 1) := by decide +kernel
theorem dL_law_1246 : decode code 1246 = .ok (.aload_n 0, 1) := by decide +kernel
theorem dL_law_1247 : decode code 1247 = .ok (.iload 4, 2) := by decide +kernel
theorem dL_law_1249 : decode code 1249 = .ok (.iconst 2, 1) := by decide +kernel
theorem dL_law_1250 : decode code 1250 = .ok (.iadd, 1) := by decide +kernel
theorem dL_law_1251 : decode code 1251 = .ok (.iaload, 1) := by decide +kernel
theorem dL_law_1252 : decode code 1252 = .ok (.aload_n 0, 1) := by decide +kernel
theorem dL_law_1253 : decode code 1253 = .ok (.iload 4, 2) := by decide +kernel
theorem dL_law_1255 : decode code 1255 = .ok (.iconst 3, 1) := by decide +kernel
theorem dL_law_1256 : decode code 1256 = .ok (.iadd, 1) := by decide +kernel
theorem dL_law_1257 : decode code 1257 = .ok (.iaload, 1) := by decide +kernel
theorem dL_law_1258 : decode code 1258 = .ok (.aload_n 3, 1) := by decide +kernel
theorem dL_law_1259 : decode code 1259 = .ok (.invokestatic 181, 3) := by decide +kernel
theorem dL_law_1262 : decode code 1262 = .ok (.istore 5, 2) := by decide +kernel
theorem dL_law_1264 : decode code 1264 = .ok (.aload_n 2, 1) := by decide +kernel
theorem dL_law_1265 : decode code 1265 = .ok (.aload_n 0, 1) := by decide +kernel
theorem dL_law_1266 : decode code 1266 = .ok (.iload 4, 2) := by decide +kernel
theorem dL_law_1268 : decode code 1268 = .ok (.iconst 1, 1) := by decide +kernel
theorem dL_law_1269 : decode code 1269 = .ok (.iadd, 1) := by decide +kernel
theorem dL_law_1270 : decode code 1270 = .ok (.iaload, 1) := by decide +kernel
theorem dL_law_1271 : decode code 1271 = .ok (.aload_n 0, 1) := by decide +kernel
theorem dL_law_1272 : decode code 1272 = .ok (.iload 4, 2) := by decide +kernel
theorem dL_law_1274 : decode code 1274 = .ok (.iconst 2, 1) := by decide +kernel
theorem dL_law_1275 : decode code 1275 = .ok (.iadd, 1) := by decide +kernel
theorem dL_law_1276 : decode code 1276 = .ok (.iaload, 1) := by decide +kernel
theorem dL_law_1277 : decode code 1277 = .ok (.aload_n 0, 1) := by decide +kernel
theorem dL_law_1278 : decode code 1278 = .ok (.iload 4, 2) := by decide +kernel
theorem dL_law_1280 : decode code 1280 = .ok (.iconst 3, 1) := by decide +kernel
theorem dL_law_1281 : decode code 1281 = .ok (.iadd, 1) := by decide +kernel
theorem dL_law_1282 : decode code 1282 = .ok (.iaload, 1) := by decide +kernel
theorem dL_law_1283 : decode code 1283 = .ok (.invokevirtual 184, 3) := by decide +kernel
theorem dL_law_1286 : decode code 1286 = .ok (.istore 6, 2) := by decide +kernel
theorem dL_law_1288 : decode code 1288 = .ok (.aload_n 2, 1) := by decide +kernel
theorem dL_law_1289 : decode code 1289 = .ok (.invokevirtual 100, 3) := by decide +kernel
theorem dL_law_1292 : decode code 1292 = .ok (.iload 5, 2) := by decide +kernel
theorem dL_law_1294 : decode code 1294 = .ok (.if_icmp .eq 5, 3) := by decide +kernel
theorem dL_law_1297 : decode code 1297 = .ok (.iconst 0, 1) := by decide +kernel
theorem dL_law_1298 : decode code 1298 = .ok (.ireturn, 1) := by decide +kernel
theorem dL_law_1299 : decode code 1299 = .ok (.iload 5, 2) := by decide +kernel
theorem dL_law_1301 : decode code 1301 = .ok (.ifCond .ne 15, 3) := by decide +kernel
theorem dL_law_1304 : decode code 1304 = .ok (.aload_n 3, 1) := by decide +kernel
theorem dL_law_1305 : decode code 1305 = .ok (.iconst 0, 1) := by decide +kernel
theorem dL_law_1306 : decode code 1306 = .ok (.laload, 1) := by decide +kernel
theorem dL_law_1307 : decode code 1307 = .ok (.iload 6, 2) := by decide +kernel
theorem dL_law_1309 : decode code 1309 = .ok (.i2l, 1) := by decide +kernel
theorem dL_law_1310 : decode code 1310 = .ok (.lcmp, 1) := by decide +kernel
theorem dL_law_1311 : decode code 1311 = .ok (.ifCond .eq 5, 3) := by decide +kernel
theorem dL_law_1314 : decode code 1314 = .ok (.iconst 0, 1) := by decide +kernel
theorem dL_law_1315 : decode code 1315 = .ok (.ireturn, 1) := by decide +kernel
theorem dL_law_1316 : decode code 1316 = .ok (.goto 388, 3) := by decide +kernel
theorem dL_law_1319 : decode code 1319 = .ok (.aload_n 1, 1) := by decide +kernel
