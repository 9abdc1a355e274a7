theorem d_Law_law_1034 : decode code 1034 = .ok (.iload 4, 2) := by decide +kernel
theorem d_Law_law_1036 : decode code 1036 = .ok (.iconst 2, 1) := by decide +kernel
theorem d_Law_law_1037 : decode code 1037 = .ok (.iadd, 1) := by decide +kernel
theorem d_Law_law_1038 : decode code 1038 = .ok (.iaload, 1) := by decide +kernel
theorem d_Law_law_1039 : decode code 1039 = .ok (.aload_n 0, 1) := by decide +kernel
theorem d_Law_law_1040 : decode code 1040 = .ok (.iload 4, 2) := by decide +kernel
theorem d_Law_law_1042 : decode code 1042 = .ok (.iconst 3, 1) := by decide +kernel
theorem d_Law_law_1043 : decode code 1043 = .ok (.iadd, 1) := by decide +kernel
theorem d_Law_law_1044 : decode code 1044 = .ok (.iaload, 1) := by decide +kernel
theorem d_Law_law_1045 : decode code 1045 = .ok (.invokevirtual 156, 3) := by decide +kernel
theorem d_Law_law_1048 : decode code 1048 = .ok (.istore 6, 2) := by decide +kernel
theorem d_Law_law_1050 : decode code 1050 = .ok (.aload_n 2, 1) := by decide +kernel
theorem d_Law_law_1051 : decode code 1051 = .ok (.invokevirtual 78, 3) := by decide +kernel
theorem d_Law_law_1054 : decode code 1054 = .ok (.iload 5, 2) := by decide +kernel
theorem d_Law_law_1056 : decode code 1056 = .ok (.if_icmp .eq 5, 3) := by decide +kernel
theorem d_Law_law_1061 : decode code 1061 = .ok (.iload 5, 2) := by decide +kernel
theorem d_Law_law_1063 : decode code 1063 = .ok (.ifCond .ne 15, 3) := by decide +kernel
theorem d_Law_law_1066 : decode code 1066 = .ok (.aload_n 3, 1) := by decide +kernel
theorem d_Law_law_1067 : decode code 1067 = .ok (.iconst 0, 1) := by decide +kernel
theorem d_Law_law_1068 : decode code 1068 = .ok (.laload, 1) := by decide +kernel
theorem d_Law_law_1069 : decode code 1069 = .ok (.iload 6, 2) := by decide +kernel
theorem d_Law_law_1071 : decode code 1071 = .ok (.i2l, 1) := by decide +kernel
theorem d_Law_law_1072 : decode code 1072 = .ok (.lcmp, 1) := by decide +kernel
theorem d_Law_law_1073 : decode code 1073 = .ok (.ifCond .eq 5, 3) := by decide +kernel
theorem d_Law_law_1078 : decode code 1078 = .ok (.goto 185, 3) := by decide +kernel
theorem d_Law_law_1081 : decode code 1081 = .ok (.aload_n 1, 1) := by decide +kernel
theorem d_Law_law_1082 : decode code 1082 = .ok (.aload_n 0, 1) := by decide +kernel
theorem d_Law_law_1083 : decode code 1083 = .ok (.iload 4, 2) := by decide +kernel
theorem d_Law_law_1085 : decode code 1085 = .ok (.iconst 1, 1) := by decide +kernel
theorem d_Law_law_1086 : decode code 1086 = .ok (.iadd, 1) := by decide +kernel
theorem d_Law_law_1087 : decode code 1087 = .ok (.iaload, 1) := by decide +kernel
theorem d_Law_law_1088 : decode code 1088 = .ok (.aload_n 0, 1) := by decide +kernel
theorem d_Law_law_1089 : decode code 1089 = .ok (.iload 4, 2) := by decide +kernel
theorem d_Law_law_1091 : decode code 1091 = .ok (.iconst 2, 1) := by decide +kernel
theorem d_Law_law_1092 : decode code 1092 = .ok (.iadd, 1) := by decide +kernel
theorem d_Law_law_1093 : decode code 1093 = .ok (.iaload, 1) := by decide +kernel
theorem d_Law_law_1094 : decode code 1094 = .ok (.aload_n 3, 1) := by decide +kernel
theorem d_Law_law_1095 : decode code 1095 = .ok (.invokestatic 157, 3) := by decide +kernel
theorem d_Law_law_1098 : decode code 1098 = .ok (.istore 5, 2) := by decide +kernel
theorem d_Law_law_1100 : decode code 1100 = .ok (.aload_n 2, 1) := by decide +kernel
theorem d_Law_law_1101 : decode code 1101 = .ok (.aload_n 0, 1) := by decide +kernel
theorem d_Law_law_1102 : decode code 1102 = .ok (.iload 4, 2) := by decide +kernel
theorem d_Law_law_1104 : decode code 1104 = .ok (.iconst 1, 1) := by decide +kernel
theorem d_Law_law_1105 : decode code 1105 = .ok (.iadd, 1) := by decide +kernel
theorem d_Law_law_1106 : decode code 1106 = .ok (.iaload, 1) := by decide +kernel
theorem d_Law_law_1107 : decode code 1107 = .ok (.aload_n 0, 1) := by decide +kernel
theorem d_Law_law_1108 : decode code 1108 = .ok (.iload 4, 2) := by decide +kernel
theorem d_Law_law_1110 : decode code 1110 = .ok (.iconst 2, 1) := by decide +kernel
theorem d_Law_law_1111 : decode code 1111 = .ok (.iadd, 1) := by decide +kernel
theorem d_Law_law_1112 : decode code 1112 = .ok (.iaload, 1) := by decide +kernel
theorem d_Law_law_1113 : decode code 1113 = .ok (.invokevirtual 159, 3) := by decide +kernel
theorem d_Law_law_1116 : decode code 1116 = .ok (.istore 6, 2) := by decide +kernel
theorem d_Law_law_1118 : decode code 1118 = .ok (.aload_n 2, 1) := by decide +kernel
theorem d_Law_law_1119 : decode code 1119 = .ok (.invokevirtual 78, 3) := by decide +kernel
theorem d_Law_law_1122 : decode code 1122 = .ok (.iload 5, 2) := by decide +kernel
theorem d_Law_law_1124 : decode code 1124 = .ok (.if_icmp .eq 5, 3) := by decide +kernel
theorem d_Law_law_1129 : decode code 1129 = .ok (.iload 5, 2) := by decide +kernel
theorem d_Law_law_1131 : decode code 1131 = .ok (.ifCond .ne 15, 3) := by decide +kernel
theorem d_Law_law_1134 : decode code 1134 = .ok (.aload_n 3, 1) := by decide +kernel
theorem d_Law_law_1135 : decode code 1135 = .ok (.iconst 0, 1) := by decide +kernel
theorem d_Law_law_1136 : decode code 1136 = .ok (.laload, 1) := by decide +kernel
theorem d_Law_law_1137 : decode code 1137 = .ok (.iload 6, 2) := by decide +kernel
theorem d_Law_law_1139 : decode code 1139 = .ok (.i2l, 1) := by decide +kernel
theorem d_Law_law_1140 : decode code 1140 = .ok (.lcmp, 1) := by decide +kernel
theorem d_Law_law_1141 : decode code 1141 = .ok (.ifCond .eq 5, 3) := by decide +kernel
theorem d_Law_law_1146 : decode code 1146 = .ok (.goto 117, 3) := by decide +kernel
theorem d_Law_law_1149 : decode code 1149 = .ok (.aload_n 1, 1) := by decide +kernel
theorem d_Law_law_1150 : decode code 1150 = .ok (.aload_n 0, 1) := by decide +kernel
theorem d_Law_law_1151 : decode code 1151 = .ok (.iload 4, 2) := by decide +kernel
theorem d_Law_law_1153 : decode code 1153 = .ok (.iconst 1, 1) := by decide +kernel
theorem d_Law_law_1154 : decode code 1154 = .ok (.iadd, 1) := by decide +kernel
theorem d_Law_law_1155 : decode code 1155 = .ok (.iaload, 1) := by decide +kernel
theorem d_Law_law_1156 : decode code 1156 = .ok (.aload_n 0, 1) := by decide +kernel
theorem d_Law_law_1157 : decode code 1157 = .ok (.iload 4, 2) := by decide +kernel
theorem d_Law_law_1159 : decode code 1159 = .ok (.iconst 2, 1) := by decide +kernel
theorem d_Law_law_1160 : decode code 1160 = .ok (.iadd, 1) := by decide +kernel
theorem d_Law_law_1161 : decode code 1161 = .ok (.iaload, 1) := by decide +kernel
theorem d_Law_law_1162 : decode code 1162 = .ok (.aload_n 3, 1) := by decide +kernel
theorem d_Law_law_1163 : decode code 1163 = .ok (.invokestatic 160, 3) := by decide +kernel
theorem d_Law_law_1166 : decode code 1166 = .ok (.istore 5, 2) := by decide +kernel
theorem d_Law_law_1168 : decode code 1168 = .ok (.aload_n 2, 1) := by decide +kernel
theorem d_Law_law_1169 : decode code 1169 = .ok (.aload_n 0, 1) := by decide +kernel
theorem d_Law_law_1170 : decode code 1170 = .ok (.iload 4, 2) := by decide +kernel
theorem d_Law_law_1172 : decode code 1172 = .ok (.iconst 1, 1) := by decide +kernel
theorem d_Law_law_1173 : decode code 1173 = .ok (.iadd, 1) := by decide +kernel
theorem d_Law_law_1174 : decode code 1174 = .ok (.iaload, 1) := by decide +kernel
theorem d_Law_law_1175 : decode code 1175 = .ok (.aload_n 0, 1) := by decide +kernel
theorem d_Law_law_1176 : decode code 1176 = .ok (.iload 4, 2) := by decide +kernel
theorem d_Law_law_1178 : decode code 1178 = .ok (.iconst 2, 1) := by decide +kernel
theorem d_Law_law_1179 : decode code 1179 = .ok (.iadd, 1) := by decide +kernel
theorem d_Law_law_1180 : decode code 1180 = .ok (.iaload, 1) := by decide +kernel
theorem d_Law_law_1181 : decode code 1181 = .ok (.invokevirtual 162, 3) := by decide +kernel
theorem d_Law_law_1184 : decode code 1184 = .ok (.istore 6, 2) := by decide +kernel
theorem d_Law_law_1186 : decode code 1186 = .ok (.aload_n 2, 1) := by decide +kernel
theorem d_Law_law_1187 : decode code 1187 = .ok (.invokevirtual 78, 3) := by decide +kernel
theorem d_Law_law_1190 : decode code 1190 = .ok (.iload 5, 2) := by decide +kernel
theorem d_Law_law_1192 : decode code 1192 = .ok (.if_icmp .eq 5, 3) := by decide +kernel
theorem d_Law_law_1197 : decode code 1197 = .ok (.iload 5, 2) := by decide +kernel
theorem d_Law_law_1199 : decode code 1199 = .ok (.ifCond .ne 22, 3) := by decide +kernel
theorem d_Law_law_1202 : decode code 1202 = .ok (.aload_n 3, 1) := by decide +kernel
theorem d_Law_law_1203 : decode code 1203 = .ok (.iconst 0, 1) := by decide +kernel
theorem d_Law_law_1204 : decode code 1204 = .ok (.laload, 1) := by decide +kernel
theorem d_Law_law_1205 : decode code 1205 = .ok (.iload 6, 2) := by decide +kernel
theorem d_Law_law_1207 : decode code 1207 = .ok (.ifCond .eq 7, 3) := by decide +kernel
theorem d_Law_law_1210 : decode code 1210 = .ok (.lconst 1, 1) := by decide +kernel
theorem d_Law_law_1211 : decode code 1211 = .ok (.goto 4, 3) := by decide +kernel
theorem d_Law_law_1214 : decode code 1214 = .ok (.lconst 0, 1) := by decide +kernel
theorem d_Law_law_1215 : decode code 1215 = .ok (.lcmp, 1) := by decide +kernel
theorem d_Law_law_1216 : decode code 1216 = .ok (.ifCond .eq 5, 3) := by decide +kernel
theorem d_Law_law_1221 : decode code 1221 = .ok (.goto 42, 3) := by decide +kernel
theorem d_Law_law_1224 : decode code 1224 = .ok (.aload_n 1, 1) := by decide +kernel
theorem d_Law_law_1225 : decode code 1225 = .ok (.invokevirtual 163, 3) := by decide +kernel
theorem d_Law_law_1228 : decode code 1228 = .ok (.aload_n 2, 1) := by decide +kernel
theorem d_Law_law_1229 : decode code 1229 = .ok (.invokevirtual 166, 3) := by decide +kernel
theorem d_Law_law_1232 : decode code 1232 = .ok (.if_icmp .eq 31, 3) := by decide +kernel
theorem d_Law_law_1237 : decode code 1237 = .ok (.aload_n 1, 1) := by decide +kernel
theorem d_Law_law_1238 : decode code 1238 = .ok (.invokevirtual 167, 3) := by decide +kernel
theorem d_Law_law_1241 : decode code 1241 = .ok (.aload_n 2, 1) := by decide +kernel
theorem d_Law_law_1242 : decode code 1242 = .ok (.invokevirtual 170, 3) := by decide +kernel
theorem d_Law_law_1245 : decode code 1245 = .ok (.if_icmp .eq 18, 3) := by decide +kernel
theorem d_Law_law_1250 : decode code 1250 = .ok (.aload_n 1, 1) := by decide +kernel
theorem d_Law_law_1251 : decode code 1251 = .ok (.invokevirtual 171, 3) := by decide +kernel
theorem d_Law_law_1254 : decode code 1254 = .ok (.aload_n 2, 1) := by decide +kernel
theorem d_Law_law_1255 : decode code 1255 = .ok (.invokevirtual 174, 3) := by decide +kernel
theorem d_Law_law_1258 : decode code 1258 = .ok (.if_icmp .eq 5, 3) := by decide +kernel
theorem d_Law_law_1263 : decode code 1263 = .ok (.iinc 4 4, 3) := by decide +kernel
theorem d_Law_law_1266 : decode code 1266 = .ok (.goto (-1243), 3) := by decide +kernel
theorem d_Law_law_1269 : decode code 1269 = .ok (.iconst 1, 1) := by decide +kernel
theorem d_Law_law_1270 : decode code 1270 = .ok (.ireturn, 1) := by decide +kernel
