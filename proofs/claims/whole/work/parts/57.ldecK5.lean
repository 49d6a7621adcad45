theorem dK_1009 : decode code 1009 = .ok (.iconst 1, 1) := by decide +kernel
theorem dK_1010 : decode code 1010 = .ok (.iadd, 1) := by decide +kernel
theorem dK_1011 : decode code 1011 = .ok (.iaload, 1) := by decide +kernel
theorem dK_1012 : decode code 1012 = .ok (.aload_n 0, 1) := by decide +kernel
theorem dK_1013 : decode code 1013 = .ok (.iload 4, 2) := by decide +kernel
theorem dK_1015 : decode code 1015 = .ok (.iconst 2, 1) := by decide +kernel
theorem dK_1016 : decode code 1016 = .ok (.iadd, 1) := by decide +kernel
theorem dK_1017 : decode code 1017 = .ok (.iaload, 1) := by decide +kernel
theorem dK_1018 : decode code 1018 = .ok (.aload_n 3, 1) := by decide +kernel
theorem dK_1019 : decode code 1019 = .ok (.invokestatic 137, 3) := by decide +kernel
theorem dK_1022 : decode code 1022 = .ok (.istore 5, 2) := by decide +kernel
theorem dK_1024 : decode code 1024 = .ok (.aload_n 2, 1) := by decide +kernel
theorem dK_1025 : decode code 1025 = .ok (.aload_n 0, 1) := by decide +kernel
theorem dK_1026 : decode code 1026 = .ok (.iload 4, 2) := by decide +kernel
theorem dK_1028 : decode code 1028 = .ok (.iconst 1, 1) := by decide +kernel
theorem dK_1029 : decode code 1029 = .ok (.iadd, 1) := by decide +kernel
theorem dK_1030 : decode code 1030 = .ok (.iaload, 1) := by decide +kernel
theorem dK_1031 : decode code 1031 = .ok (.aload_n 0, 1) := by decide +kernel
theorem dK_1032 : decode code 1032 = .ok (.iload 4, 2) := by decide +kernel
theorem dK_1034 : decode code 1034 = .ok (.iconst 2, 1) := by decide +kernel
theorem dK_1035 : decode code 1035 = .ok (.iadd, 1) := by decide +kernel
theorem dK_1036 : decode code 1036 = .ok (.iaload, 1) := by decide +kernel
theorem dK_1037 : decode code 1037 = .ok (.invokevirtual 139, 3) := by decide +kernel
theorem dK_1040 : decode code 1040 = .ok (.istore 6, 2) := by decide +kernel
theorem dK_1042 : decode code 1042 = .ok (.aload_n 2, 1) := by decide +kernel
theorem dK_1043 : decode code 1043 = .ok (.invokevirtual 90, 3) := by decide +kernel
theorem dK_1046 : decode code 1046 = .ok (.iload 5, 2) := by decide +kernel
theorem dK_1048 : decode code 1048 = .ok (.if_icmp .eq 5, 3) := by decide +kernel
theorem dK_1051 : decode code 1051 = .ok (.iconst 0, 1) := by decide +kernel
theorem dK_1052 : decode code 1052 = .ok (.ireturn, 1) := by decide +kernel
theorem dK_1053 : decode code 1053 = .ok (.iload 5, 2) := by decide +kernel
theorem dK_1055 : decode code 1055 = .ok (.ifCond .ne 15, 3) := by decide +kernel
theorem dK_1058 : decode code 1058 = .ok (.aload_n 3, 1) := by decide +kernel
theorem dK_1059 : decode code 1059 = .ok (.iconst 0, 1) := by decide +kernel
theorem dK_1060 : decode code 1060 = .ok (.laload, 1) := by decide +kernel
theorem dK_1061 : decode code 1061 = .ok (.iload 6, 2) := by decide +kernel
theorem dK_1063 : decode code 1063 = .ok (.i2l, 1) := by decide +kernel
theorem dK_1064 : decode code 1064 = .ok (.lcmp, 1) := by decide +kernel
theorem dK_1065 : decode code 1065 = .ok (.ifCond .eq 5, 3) := by decide +kernel
theorem dK_1068 : decode code 1068 = .ok (.iconst 0, 1) := by decide +kernel
theorem dK_1069 : decode code 1069 = .ok (.ireturn, 1) := by decide +kernel
theorem dK_1070 : decode code 1070 = .ok (.goto 288, 3) := by decide +kernel
theorem dK_1073 : decode code 1073 = .ok (.aload_n 1, 1) := by decide +kernel
theorem dK_1074 : decode code 1074 = .ok (.aload_n 0, 1) := by decide +kernel
theorem dK_1075 : decode code 1075 = .ok (.iload 4, 2) := by decide +kernel
theorem dK_1077 : decode code 1077 = .ok (.iconst 1, 1) := by decide +kernel
theorem dK_1078 : decode code 1078 = .ok (.iadd, 1) := by decide +kernel
theorem dK_1079 : decode code 1079 = .ok (.iaload, 1) := by decide +kernel
theorem dK_1080 : decode code 1080 = .ok (.aload_n 3, 1) := by decide +kernel
theorem dK_1081 : decode code 1081 = .ok (.invokestatic 140, 3) := by decide +kernel
theorem dK_1084 : decode code 1084 = .ok (.istore 5, 2) := by decide +kernel
theorem dK_1086 : decode code 1086 = .ok (.aload_n 2, 1) := by decide +kernel
theorem dK_1087 : decode code 1087 = .ok (.aload_n 0, 1) := by decide +kernel
theorem dK_1088 : decode code 1088 = .ok (.iload 4, 2) := by decide +kernel
theorem dK_1090 : decode code 1090 = .ok (.iconst 1, 1) := by decide +kernel
theorem dK_1091 : decode code 1091 = .ok (.iadd, 1) := by decide +kernel
theorem dK_1092 : decode code 1092 = .ok (.iaload, 1) := by decide +kernel
theorem dK_1093 : decode code 1093 = .ok (.invokevirtual 142, 3) := by decide +kernel
theorem dK_1096 : decode code 1096 = .ok (.istore 6, 2) := by decide +kernel
theorem dK_1098 : decode code 1098 = .ok (.aload_n 2, 1) := by decide +kernel
theorem dK_1099 : decode code 1099 = .ok (.invokevirtual 90, 3) := by decide +kernel
theorem dK_1102 : decode code 1102 = .ok (.iload 5, 2) := by decide +kernel
theorem dK_1104 : decode code 1104 = .ok (.if_icmp .eq 5, 3) := by decide +kernel
theorem dK_1107 : decode code 1107 = .ok (.iconst 0, 1) := by decide +kernel
theorem dK_1108 : decode code 1108 = .ok (.ireturn, 1) := by decide +kernel
theorem dK_1109 : decode code 1109 = .ok (.iload 5, 2) := by decide +kernel
theorem dK_1111 : decode code 1111 = .ok (.ifCond .ne 15, 3) := by decide +kernel
theorem dK_1114 : decode code 1114 = .ok (.aload_n 3, 1) := by decide +kernel
theorem dK_1115 : decode code 1115 = .ok (.iconst 0, 1) := by decide +kernel
theorem dK_1116 : decode code 1116 = .ok (.laload, 1) := by decide +kernel
theorem dK_1117 : decode code 1117 = .ok (.iload 6, 2) := by decide +kernel
theorem dK_1119 : decode code 1119 = .ok (.i2l, 1) := by decide +kernel
theorem dK_1120 : decode code 1120 = .ok (.lcmp, 1) := by decide +kernel
theorem dK_1121 : decode code 1121 = .ok (.ifCond .eq 5, 3) := by decide +kernel
theorem dK_1124 : decode code 1124 = .ok (.iconst 0, 1) := by decide +kernel
theorem dK_1125 : decode code 1125 = .ok (.ireturn, 1) := by decide +kernel
theorem dK_1126 : decode code 1126 = .ok (.goto 232, 3) := by decide +kernel
theorem dK_1129 : decode code 1129 = .ok (.aload_n 1, 1) := by decide +kernel
theorem dK_1130 : decode code 1130 = .ok (.aload_n 0, 1) := by decide +kernel
theorem dK_1131 : decode code 1131 = .ok (.iload 4, 2) := by decide +kernel
theorem dK_1133 : decode code 1133 = .ok (.iconst 1, 1) := by decide +kernel
theorem dK_1134 : decode code 1134 = .ok (.iadd, 1) := by decide +kernel
theorem dK_1135 : decode code 1135 = .ok (.iaload, 1) := by decide +kernel
theorem dK_1136 : decode code 1136 = .ok (.aload_n 0, 1) := by decide +kernel
theorem dK_1137 : decode code 1137 = .ok (.iload 4, 2) := by decide +kernel
theorem dK_1139 : decode code 1139 = .ok (.iconst 2, 1) := by decide +kernel
theorem dK_1140 : decode code 1140 = .ok (.iadd, 1) := by decide +kernel
theorem dK_1141 : decode code 1141 = .ok (.iaload, 1) := by decide +kernel
theorem dK_1142 : decode code 1142 = .ok (.aload_n 3, 1) := by decide +kernel
theorem dK_1143 : decode code 1143 = .ok (.invokestatic 143, 3) := by decide +kernel
theorem dK_1146 : decode code 1146 = .ok (.istore 5, 2) := by decide +kernel
theorem dK_1148 : decode code 1148 = .ok (.aload_n 2, 1) := by decide +kernel
theorem dK_1149 : decode code 1149 = .ok (.aload_n 0, 1) := by decide +kernel
theorem dK_1150 : decode code 1150 = .ok (.iload 4, 2) := by decide +kernel
theorem dK_1152 : decode code 1152 = .ok (.iconst 1, 1) := by decide +kernel
theorem dK_1153 : decode code 1153 = .ok (.iadd, 1) := by decide +kernel
theorem dK_1154 : decode code 1154 = .ok (.iaload, 1) := by decide +kernel
theorem dK_1155 : decode code 1155 = .ok (.aload_n 0, 1) := by decide +kernel
theorem dK_1156 : decode code 1156 = .ok (.iload 4, 2) := by decide +kernel
theorem dK_1158 : decode code 1158 = .ok (.iconst 2, 1) := by decide +kernel
theorem dK_1159 : decode code 1159 = .ok (.iadd, 1) := by decide +kernel
theorem dK_1160 : decode code 1160 = .ok (.iaload, 1) := by decide +kernel
theorem dK_1161 : decode code 1161 = .ok (.invokevirtual 145, 3) := by decide +kernel
theorem dK_1164 : decode code 1164 = .ok (.istore 6, 2) := by decide +kernel
theorem dK_1166 : decode code 1166 = .ok (.aload_n 2, 1) := by decide +kernel
theorem dK_1167 : decode code 1167 = .ok (.invokevirtual 90, 3) := by decide +kernel
theorem dK_1170 : decode code 1170 = .ok (.iload 5, 2) := by decide +kernel
theorem dK_1172 : decode code 1172 = .ok (.if_icmp .eq 5, 3) := by decide +kernel
theorem dK_1175 : decode code 1175 = .ok (.iconst 0, 1) := by decide +kernel
theorem dK_1176 : decode code 1176 = .ok (.ireturn, 1) := by decide +kernel
theorem dK_1177 : decode code 1177 = .ok (.iload 5, 2) := by decide +kernel
theorem dK_1179 : decode code 1179 = .ok (.ifCond .ne 15, 3) := by decide +kernel
theorem dK_1182 : decode code 1182 = .ok (.aload_n 3, 1) := by decide +kernel
theorem dK_1183 : decode code 1183 = .ok (.iconst 0, 1) := by decide +kernel
theorem dK_1184 : decode code 1184 = .ok (.laload, 1) := by decide +kernel
theorem dK_1185 : decode code 1185 = .ok (.iload 6, 2) := by decide +kernel
theorem dK_1187 : decode code 1187 = .ok (.i2l, 1) := by decide +kernel
theorem dK_1188 : decode code 1188 = .ok (.lcmp, 1) := by decide +kernel
theorem dK_1189 : decode code 1189 = .ok (.ifCond .eq 5, 3) := by decide +kernel
theorem dK_1192 : decode code 1192 = .ok (.iconst 0, 1) := by decide +kernel
