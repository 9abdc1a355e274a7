theorem d_Law_law_974 : decode code 974 = .ok (.iload 5, 2) := by decide +kernel
theorem d_Law_law_976 : decode code 976 = .ok (.if_icmp .eq 5, 3) := by decide +kernel
theorem d_Law_law_981 : decode code 981 = .ok (.iload 5, 2) := by decide +kernel
theorem d_Law_law_983 : decode code 983 = .ok (.ifCond .ne 15, 3) := by decide +kernel
theorem d_Law_law_998 : decode code 998 = .ok (.goto 265, 3) := by decide +kernel
theorem d_Law_law_1001 : decode code 1001 = .ok (.aload_n 1, 1) := by decide +kernel
theorem d_Law_law_1002 : decode code 1002 = .ok (.aload_n 0, 1) := by decide +kernel
theorem d_Law_law_1003 : decode code 1003 = .ok (.iload 4, 2) := by decide +kernel
theorem d_Law_law_1005 : decode code 1005 = .ok (.iconst 1, 1) := by decide +kernel
theorem d_Law_law_1006 : decode code 1006 = .ok (.iadd, 1) := by decide +kernel
theorem d_Law_law_1007 : decode code 1007 = .ok (.iaload, 1) := by decide +kernel
theorem d_Law_law_1008 : decode code 1008 = .ok (.aload_n 0, 1) := by decide +kernel
theorem d_Law_law_1009 : decode code 1009 = .ok (.iload 4, 2) := by decide +kernel
theorem d_Law_law_1011 : decode code 1011 = .ok (.iconst 2, 1) := by decide +kernel
theorem d_Law_law_1012 : decode code 1012 = .ok (.iadd, 1) := by decide +kernel
theorem d_Law_law_1013 : decode code 1013 = .ok (.iaload, 1) := by decide +kernel
theorem d_Law_law_1014 : decode code 1014 = .ok (.aload_n 0, 1) := by decide +kernel
theorem d_Law_law_1015 : decode code 1015 = .ok (.iload 4, 2) := by decide +kernel
theorem d_Law_law_1017 : decode code 1017 = .ok (.iconst 3, 1) := by decide +kernel
theorem d_Law_law_1018 : decode code 1018 = .ok (.iadd, 1) := by decide +kernel
theorem d_Law_law_1019 : decode code 1019 = .ok (.iaload, 1) := by decide +kernel
theorem d_Law_law_1020 : decode code 1020 = .ok (.aload_n 3, 1) := by decide +kernel
theorem d_Law_law_1021 : decode code 1021 = .ok (.invokestatic 153, 3) := by decide +kernel
theorem d_Law_law_1024 : decode code 1024 = .ok (.istore 5, 2) := by decide +kernel
theorem d_Law_law_1026 : decode code 1026 = .ok (.aload_n 2, 1) := by decide +kernel
theorem d_Law_law_1027 : decode code 1027 = .ok (.aload_n 0, 1) := by decide +kernel
theorem d_Law_law_1028 : decode code 1028 = .ok (.iload 4, 2) := by decide +kernel
theorem d_Law_law_1030 : decode code 1030 = .ok (.iconst 1, 1) := by decide +kernel
theorem d_Law_law_1031 : decode code 1031 = .ok (.iadd, 1) := by decide +kernel
theorem d_Law_law_1032 : decode code 1032 = .ok (.iaload, 1) := by decide +kernel
theorem d_Law_law_1033 : decode code 1033 = .ok (.aload_n 0, 1) := by decide +kernel
theorem d_Law_law_1034 : decode code 1034 = .ok (.iload 4, 2) := by decide +kernel
theorem d_Law_law_1036 : decode code 1036 = .ok (.iconst 2, 1) := by decide +kernel
theorem d_Law_law_1037 : decode code 1037 = .ok (.iadd, 1) := by decide +kernel
theorem d_Law_law_1038 : decode code 1038 = .ok (.iaload, 1) := by decide +kernel
theorem d_Law_law_1039 : decode code 1039 = .ok (.aload_n 0, 1) := by decide +kernel
theorem d_Law_law_1040 : decode code 1040 = .ok (.iload 4, 2) := by decide +kernel
theorem d_Law_law_1042 : decode code 1042 = .ok (.iconst 3, 1) := by decide +kernel
theorem d_Law_law_1043 : decode code 1043 = .ok (.iadd, 1) := by decide +kernel
theorem d_Law_law_1044 : decode code 1044 = .ok (.iaload, 1) := by decide +kernel
theorem d_Law_law_1045 : decode code 1045 = .ok (.invokevirtual 156, 3) := by decide +kernel
theorem d_Law_law_1048 : decode code 1048 = .ok (.istore 6, 2) := by decide +kernel
theorem d_Law_law_1050 : decode code 1050 = .ok (.aload_n 2, 1) := by decide +kernel
theorem d_Law_law_1051 : decode code 1051 = .ok (.invokevirtual 78, 3) := by decide +kernel
theorem d_Law_law_1054 : decode code 1054 = .ok (.iload 5, 2) := by decide +kernel
theorem d_Law_law_1056 : decode code 1056 = .ok (.if_icmp .eq 5, 3) := by decide +kernel
theorem d_Law_law_1061 : decode code 1061 = .ok (.iload 5, 2) := by decide +kernel
theorem d_Law_law_1063 : decode code 1063 = .ok (.ifCond .ne 15, 3) := by decide +kernel
theorem d_Law_law_1066 : decode code 1066 = .ok (.aload_n 3, 1) := by decide +kernel
theorem d_Law_law_1067 : decode code 1067 = .ok (.iconst 0, 1) := by decide +kernel
theorem d_Law_law_1068 : decode code 1068 = .ok (.laload, 1) := by decide +kernel
theorem d_Law_law_1069 : decode code 1069 = .ok (.iload 6, 2) := by decide +kernel
theorem d_Law_law_1071 : decode code 1071 = .ok (.i2l, 1) := by decide +kernel
theorem d_Law_law_1072 : decode code 1072 = .ok (.lcmp, 1) := by decide +kernel
theorem d_Law_law_1073 : decode code 1073 = .ok (.ifCond .eq 5, 3) := by decide +kernel
theorem d_Law_law_1078 : decode code 1078 = .ok (.goto 185, 3) := by decide +kernel
theorem d_Law_law_1081 : decode code 1081 = .ok (.aload_n 1, 1) := by decide +kernel
theorem d_Law_law_1082 : decode code 1082 = .ok (.aload_n 0, 1) := by decide +kernel
theorem d_Law_law_1083 : decode code 1083 = .ok (.iload 4, 2) := by decide +kernel
theorem d_Law_law_1085 : decode code 1085 = .ok (.iconst 1, 1) := by decide +kernel
theorem d_Law_law_1086 : decode code 1086 = .ok (.iadd, 1) := by decide +kernel
theorem d_Law_law_1087 : decode code 1087 = .ok (.iaload, 1) := by decide +kernel
theorem d_Law_law_1088 : decode code 1088 = .ok (.aload_n 0, 1) := by decide +kernel
theorem d_Law_law_1089 : decode code 1089 = .ok (.iload 4, 2) := by decide +kernel
theorem d_Law_law_1091 : decode code 1091 = .ok (.iconst 2, 1) := by decide +kernel
theorem d_Law_law_1092 : decode code 1092 = .ok (.iadd, 1) := by decide +kernel
theorem d_Law_law_1093 : decode code 1093 = .ok (.iaload, 1) := by decide +kernel
theorem d_Law_law_1094 : decode code 1094 = .ok (.aload_n 3, 1) := by decide +kernel
theorem d_Law_law_1095 : decode code 1095 = .ok (.invokestatic 157, 3) := by decide +kernel
theorem d_Law_law_1098 : decode code 1098 = .ok (.istore 5, 2) := by decide +kernel
theorem d_Law_law_1100 : decode code 1100 = .ok (.aload_n 2, 1) := by decide +kernel
theorem d_Law_law_1101 : decode code 1101 = .ok (.aload_n 0, 1) := by decide +kernel
theorem d_Law_law_1102 : decode code 1102 = .ok (.iload 4, 2) := by decide +kernel
theorem d_Law_law_1104 : decode code 1104 = .ok (.iconst 1, 1) := by decide +kernel
theorem d_Law_law_1105 : decode code 1105 = .ok (.iadd, 1) := by decide +kernel
theorem d_Law_law_1106 : decode code 1106 = .ok (.iaload, 1) := by decide +kernel
theorem d_Law_law_1107 : decode code 1107 = .ok (.aload_n 0, 1) := by decide +kernel
theorem d_Law_law_1108 : decode code 1108 = .ok (.iload 4, 2) := by decide +kernel
theorem d_Law_law_1110 : decode code 1110 = .ok (.iconst 2, 1) := by decide +kernel
theorem d_Law_law_1111 : decode code 1111 = .ok (.iadd, 1) := by decide +kernel
theorem d_Law_law_1112 : decode code 1112 = .ok (.iaload, 1) := by decide +kernel
theorem d_Law_law_1113 : decode code 1113 = .ok (.invokevirtual 159, 3) := by decide +kernel
theorem d_Law_law_1116 : decode code 1116 = .ok (.istore 6, 2) := by decide +kernel
theorem d_Law_law_1118 : decode code 1118 = .ok (.aload_n 2, 1) := by decide +kernel
theorem d_Law_law_1119 : decode code 1119 = .ok (.invokevirtual 78, 3) := by decide +kernel
theorem d_Law_law_1122 : decode code 1122 = .ok (.iload 5, 2) := by decide +kernel
theorem d_Law_law_1124 : decode code 1124 = .ok (.if_icmp .eq 5, 3) := by decide +kernel
theorem d_Law_law_1129 : decode code 1129 = .ok (.iload 5, 2) := by decide +kernel
theorem d_Law_law_1131 : decode code 1131 = .ok (.ifCond .ne 15, 3) := by decide +kernel
theorem d_Law_law_1134 : decode code 1134 = .ok (.aload_n 3, 1) := by decide +kernel
theorem d_Law_law_1135 : decode code 1135 = .ok (.iconst 0, 1) := by decide +kernel
theorem d_Law_law_1136 : decode code 1136 = .ok (.laload, 1) := by decide +kernel
theorem d_Law_law_1137 : decode code 1137 = .ok (.iload 6, 2) := by decide +kernel
theorem d_Law_law_1139 : decode code 1139 = .ok (.i2l, 1) := by decide +kernel
theorem d_Law_law_1140 : decode code 1140 = .ok (.lcmp, 1) := by decide +kernel
theorem d_Law_law_1141 : decode code 1141 = .ok (.ifCond .eq 5, 3) := by decide +kernel
theorem d_Law_law_1146 : decode code 1146 = .ok (.goto 117, 3) := by decide +kernel
theorem d_Law_law_1149 : decode code 1149 = .ok (.aload_n 1, 1) := by decide +kernel
theorem d_Law_law_1150 : decode code 1150 = .ok (.aload_n 0, 1) := by decide +kernel
theorem d_Law_law_1151 : decode code 1151 = .ok (.iload 4, 2) := by decide +kernel
theorem d_Law_law_1153 : decode code 1153 = .ok (.iconst 1, 1) := by decide +kernel
theorem d_Law_law_1154 : decode code 1154 = .ok (.iadd, 1) := by decide +kernel
theorem d_Law_law_1155 : decode code 1155 = .ok (.iaload, 1) := by decide +kernel
theorem d_Law_law_1156 : decode code 1156 = .ok (.aload_n 0, 1) := by decide +kernel
theorem d_Law_law_1157 : decode code 1157 = .ok (.iload 4, 2) := by decide +kernel
theorem d_Law_law_1159 : decode code 1159 = .ok (.iconst 2, 1) := by decide +kernel
theorem d_Law_law_1160 : decode code 1160 = .ok (.iadd, 1) := by decide +kernel
theorem d_Law_law_1161 : decode code 1161 = .ok (.iaload, 1) := by decide +kernel
theorem d_Law_law_1162 : decode code 1162 = .ok (.aload_n 3, 1) := by decide +kernel
theorem d_Law_law_1163 : decode code 1163 = .ok (.invokestatic 160, 3) := by decide +kernel
theorem d_Law_law_1166 : decode code 1166 = .ok (.istore 5, 2) := by decide +kernel
theorem d_Law_law_1168 : decode code 1168 = .ok (.aload_n 2, 1) := by decide +kernel
theorem d_Law_law_1169 : decode code 1169 = .ok (.aload_n 0, 1) := by decide +kernel
theorem d_Law_law_1170 : decode code 1170 = .ok (.iload 4, 2) := by decide +kernel
theorem d_Law_law_1172 : decode code 1172 = .ok (.iconst 1, 1) := by decide +kernel
theorem d_Law_law_1173 : decode code 1173 = .ok (.iadd, 1) := by decide +kernel
theorem d_Law_law_1174 : decode code 1174 = .ok (.iaload, 1) := by decide +kernel
theorem d_Law_law_1175 : decode code 1175 = .ok (.aload_n 0, 1) := by decide +kernel
theorem d_Law_law_1176 : decode code 1176 = .ok (.iload 4, 2) := by decide +kernel
theorem d_Law_law_1178 : decode code 1178 = .ok (.iconst 2, 1) := by decide +kernel
theorem d_Law_law_1179 : decode code 1179 = .ok (.iadd, 1) := by decide +kernel
theorem d_Law_law_1180 : decode code 1180 = .ok (.iaload, 1) := by decide +kernel
theorem d_Law_law_1181 : decode code 1181 = .ok (.invokevirtual 162, 3) := by decide +kernel
theorem d_Law_law_1184 : decode code 1184 = .ok (.istore 6, 2) := by decide +kernel
theorem d_Law_law_1186 : decode code 1186 = .ok (.aload_n 2, 1) := by decide +kernel
theorem d_Law_law_1187 : decode code 1187 = .ok (.invokevirtual 78, 3) := by decide +kernel
theorem d_Law_law_1190 : decode code 1190 = .ok (.iload 5, 2) := by decide +kernel
theorem d_Law_law_1192 : decode code 1192 = .ok (.if_icmp .eq 5, 3) := by decide +kernel
theorem d_Law_law_1197 : decode code 1197 = .ok (.iload 5, 2) := by decide +kernel
theorem d_Law_law_1199 : decode code 1199 = .ok (.ifCond .ne 22, 3) := by decide +kernel
theorem d_Law_law_1221 : decode code 1221 = .ok (.goto 42, 3) := by decide +kernel
theorem d_Law_law_1224 : decode code 1224 = .ok (.aload_n 1, 1) := by decide +kernel
theorem d_Law_law_1225 : decode code 1225 = .ok (.invokevirtual 163, 3) := by decide +kernel
theorem d_Law_law_1228 : decode code 1228 = .ok (.aload_n 2, 1) := by decide +kernel
theorem d_Law_law_1229 : decode code 1229 = .ok (.invokevirtual 166, 3) := by decide +kernel
theorem d_Law_law_1232 : decode code 1232 = .ok (.if_icmp .eq 31, 3) := by decide +kernel
theorem d_Law_law_1237 : decode code 1237 = .ok (.aload_n 1, 1) := by decide +kernel
theorem d_Law_law_1238 : decode code 1238 = .ok (.invokevirtual 167, 3) := by decide +kernel
theorem d_Law_law_1241 : decode code 1241 = .ok (.aload_n 2, 1) := by decide +kernel
theorem d_Law_law_1242 : decode code 1242 = .ok (.invokevirtual 170, 3) := by decide +kernel
theorem d_Law_law_1245 : decode code 1245 = .ok (.if_icmp .eq 18, 3) := by decide +kernel
theorem d_Law_law_1250 : decode code 1250 = .ok (.aload_n 1, 1) := by decide +kernel
theorem d_Law_law_1251 : decode code 1251 = .ok (.invokevirtual 171, 3) := by decide +kernel
theorem d_Law_law_1254 : decode code 1254 = .ok (.aload_n 2, 1) := by decide +kernel
theorem d_Law_law_1255 : decode code 1255 = .ok (.invokevirtual 174, 3) := by decide +kernel
theorem d_Law_law_1258 : decode code 1258 = .ok (.if_icmp .eq 5, 3) := by decide +kernel
theorem d_Law_law_1263 : decode code 1263 = .ok (.iinc 4 4, 3) := by decide +kernel
theorem d_Law_law_1266 : decode code 1266 = .ok (.goto (-1243), 3) := by decide +kernel
theorem d_Law_law_1269 : decode code 1269 = .ok (.iconst 1, 1) := by decide +kernel
theorem d_Law_law_1270 : decode code 1270 = .ok (.ireturn, 1) := by decide +kernel
theorem d_Law_line_0 : decode b_Law_line 0 = .ok (.aload_n 3, 1) := by decide +kernel
theorem d_Law_line_1 : decode b_Law_line 1 = .ok (.iconst 0, 1) := by decide +kernel
theorem d_Law_line_2 : decode b_Law_line 2 = .ok (.aload_n 0, 1) := by decide +kernel
theorem d_Law_line_3 : decode b_Law_line 3 = .ok (.iload_n 1, 1) := by decide +kernel
theorem d_Law_line_4 : decode b_Law_line 4 = .ok (.iload_n 2, 1) := by decide +kernel
theorem d_Law_line_5 : decode b_Law_line 5 = .ok (.invokevirtual 17, 3) := by decide +kernel
theorem d_Law_line_13 : decode b_Law_line 13 = .ok (.astore 4, 2) := by decide +kernel
theorem d_Law_line_15 : decode b_Law_line 15 = .ok (.iconst 1, 1) := by decide +kernel
theorem d_Law_line_16 : decode b_Law_line 16 = .ok (.ireturn, 1) := by decide +kernel
theorem d_Law_meets_0 : decode b_Law_meets 0 = .ok (.aload_n 3, 1) := by decide +kernel
theorem d_Law_meets_1 : decode b_Law_meets 1 = .ok (.iconst 0, 1) := by decide +kernel
theorem d_Law_meets_2 : decode b_Law_meets 2 = .ok (.aload_n 0, 1) := by decide +kernel
theorem d_Law_meets_3 : decode b_Law_meets 3 = .ok (.iload_n 1, 1) := by decide +kernel
theorem d_Law_meets_4 : decode b_Law_meets 4 = .ok (.iload_n 2, 1) := by decide +kernel
theorem d_Law_meets_5 : decode b_Law_meets 5 = .ok (.invokevirtual 65, 3) := by decide +kernel
theorem d_Law_meets_20 : decode b_Law_meets 20 = .ok (.astore 4, 2) := by decide +kernel
theorem d_Law_meets_22 : decode b_Law_meets 22 = .ok (.iconst 1, 1) := by decide +kernel
theorem d_Law_meets_23 : decode b_Law_meets 23 = .ok (.ireturn, 1) := by decide +kernel
theorem d_Law_node_0 : decode b_Law_node 0 = .ok (.aload_n 2, 1) := by decide +kernel
theorem d_Law_node_1 : decode b_Law_node 1 = .ok (.iconst 0, 1) := by decide +kernel
theorem d_Law_node_2 : decode b_Law_node 2 = .ok (.aload_n 0, 1) := by decide +kernel
theorem d_Law_node_3 : decode b_Law_node 3 = .ok (.iload_n 1, 1) := by decide +kernel
theorem d_Law_node_4 : decode b_Law_node 4 = .ok (.invokevirtual 7, 3) := by decide +kernel
theorem d_Law_node_7 : decode b_Law_node 7 = .ok (.i2l, 1) := by decide +kernel
theorem d_Law_node_8 : decode b_Law_node 8 = .ok (.lastore, 1) := by decide +kernel
theorem d_Law_node_9 : decode b_Law_node 9 = .ok (.goto 9, 3) := by decide +kernel
theorem d_Law_node_12 : decode b_Law_node 12 = .ok (.astore_n 3, 1) := by decide +kernel
theorem d_Law_node_13 : decode b_Law_node 13 = .ok (.iconst 1, 1) := by decide +kernel
theorem d_Law_node_14 : decode b_Law_node 14 = .ok (.ireturn, 1) := by decide +kernel
theorem d_Law_node_18 : decode b_Law_node 18 = .ok (.iconst 0, 1) := by decide +kernel
theorem d_Law_node_19 : decode b_Law_node 19 = .ok (.ireturn, 1) := by decide +kernel
theorem d_Law_place_0 : decode b_Law_place 0 = .ok (.aload 4, 2) := by decide +kernel
theorem d_Law_place_2 : decode b_Law_place 2 = .ok (.iconst 0, 1) := by decide +kernel
theorem d_Law_place_3 : decode b_Law_place 3 = .ok (.aload_n 0, 1) := by decide +kernel
theorem d_Law_place_4 : decode b_Law_place 4 = .ok (.iload_n 1, 1) := by decide +kernel
theorem d_Law_place_5 : decode b_Law_place 5 = .ok (.iload_n 2, 1) := by decide +kernel
theorem d_Law_place_6 : decode b_Law_place 6 = .ok (.iload_n 3, 1) := by decide +kernel
theorem d_Law_place_7 : decode b_Law_place 7 = .ok (.invokevirtual 58, 3) := by decide +kernel
theorem d_Law_place_10 : decode b_Law_place 10 = .ok (.i2l, 1) := by decide +kernel
theorem d_Law_place_11 : decode b_Law_place 11 = .ok (.lastore, 1) := by decide +kernel
theorem d_Law_place_12 : decode b_Law_place 12 = .ok (.goto 11, 3) := by decide +kernel
theorem d_Law_place_15 : decode b_Law_place 15 = .ok (.astore 5, 2) := by decide +kernel
theorem d_Law_place_17 : decode b_Law_place 17 = .ok (.iconst 1, 1) := by decide +kernel
theorem d_Law_place_18 : decode b_Law_place 18 = .ok (.ireturn, 1) := by decide +kernel
theorem d_Law_place_19 : decode b_Law_place 19 = .ok (.astore 5, 2) := by decide +kernel
theorem d_Law_place_21 : decode b_Law_place 21 = .ok (.iconst 2, 1) := by decide +kernel
theorem d_Law_place_22 : decode b_Law_place 22 = .ok (.ireturn, 1) := by decide +kernel
theorem d_Law_place_23 : decode b_Law_place 23 = .ok (.iconst 0, 1) := by decide +kernel
theorem d_Law_place_24 : decode b_Law_place 24 = .ok (.ireturn, 1) := by decide +kernel
