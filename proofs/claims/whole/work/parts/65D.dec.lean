theorem dL_1112 : decode code 1112 = .ok (.iadd, 1) := by decide +kernel
theorem dL_1113 : decode code 1113 = .ok (.iaload, 1) := by decide +kernel
theorem dL_1114 : decode code 1114 = .ok (.invokevirtual 135, 3) := by decide +kernel
theorem dL_1117 : decode code 1117 = .ok (.if_icmp .eq 130, 3) := by decide +kernel
theorem dL_1120 : decode code 1120 = .ok (.iconst 0, 1) := by decide +kernel
theorem dL_1121 : decode code 1121 = .ok (.ireturn, 1) := by decide +kernel
theorem dL_1122 : decode code 1122 = .ok (.aload_n 1, 1) := by decide +kernel
theorem dL_1123 : decode code 1123 = .ok (.aload_n 0, 1) := by decide +kernel
theorem dL_1124 : decode code 1124 = .ok (.iload_n 3, 1) := by decide +kernel
theorem dL_1125 : decode code 1125 = .ok (.iconst 1, 1) := by decide +kernel
theorem dL_1126 : decode code 1126 = .ok (.iadd, 1) := by decide +kernel
theorem dL_1127 : decode code 1127 = .ok (.iaload, 1) := by decide +kernel
theorem dL_1128 : decode code 1128 = .ok (.aload_n 0, 1) := by decide +kernel
theorem dL_1129 : decode code 1129 = .ok (.iload_n 3, 1) := by decide +kernel
theorem dL_1130 : decode code 1130 = .ok (.iconst 2, 1) := by decide +kernel
theorem dL_1131 : decode code 1131 = .ok (.iadd, 1) := by decide +kernel
theorem dL_1132 : decode code 1132 = .ok (.iaload, 1) := by decide +kernel
theorem dL_1133 : decode code 1133 = .ok (.invokevirtual 136, 3) := by decide +kernel
theorem dL_1136 : decode code 1136 = .ok (.aload_n 2, 1) := by decide +kernel
theorem dL_1137 : decode code 1137 = .ok (.aload_n 0, 1) := by decide +kernel
theorem dL_1138 : decode code 1138 = .ok (.iload_n 3, 1) := by decide +kernel
theorem dL_1139 : decode code 1139 = .ok (.iconst 1, 1) := by decide +kernel
theorem dL_1140 : decode code 1140 = .ok (.iadd, 1) := by decide +kernel
theorem dL_1141 : decode code 1141 = .ok (.iaload, 1) := by decide +kernel
theorem dL_1142 : decode code 1142 = .ok (.aload_n 0, 1) := by decide +kernel
theorem dL_1143 : decode code 1143 = .ok (.iload_n 3, 1) := by decide +kernel
theorem dL_1144 : decode code 1144 = .ok (.iconst 2, 1) := by decide +kernel
theorem dL_1145 : decode code 1145 = .ok (.iadd, 1) := by decide +kernel
theorem dL_1146 : decode code 1146 = .ok (.iaload, 1) := by decide +kernel
theorem dL_1147 : decode code 1147 = .ok (.invokevirtual 139, 3) := by decide +kernel
theorem dL_1150 : decode code 1150 = .ok (.if_icmp .eq 97, 3) := by decide +kernel
theorem dL_1153 : decode code 1153 = .ok (.iconst 0, 1) := by decide +kernel
theorem dL_1154 : decode code 1154 = .ok (.ireturn, 1) := by decide +kernel
theorem dL_1155 : decode code 1155 = .ok (.aload_n 1, 1) := by decide +kernel
theorem dL_1156 : decode code 1156 = .ok (.aload_n 0, 1) := by decide +kernel
theorem dL_1157 : decode code 1157 = .ok (.iload_n 3, 1) := by decide +kernel
theorem dL_1158 : decode code 1158 = .ok (.iconst 1, 1) := by decide +kernel
theorem dL_1159 : decode code 1159 = .ok (.iadd, 1) := by decide +kernel
theorem dL_1160 : decode code 1160 = .ok (.iaload, 1) := by decide +kernel
theorem dL_1161 : decode code 1161 = .ok (.aload_n 0, 1) := by decide +kernel
theorem dL_1162 : decode code 1162 = .ok (.iload_n 3, 1) := by decide +kernel
theorem dL_1163 : decode code 1163 = .ok (.iconst 2, 1) := by decide +kernel
theorem dL_1164 : decode code 1164 = .ok (.iadd, 1) := by decide +kernel
theorem dL_1165 : decode code 1165 = .ok (.iaload, 1) := by decide +kernel
theorem dL_1166 : decode code 1166 = .ok (.invokevirtual 140, 3) := by decide +kernel
theorem dL_1169 : decode code 1169 = .ok (.aload_n 2, 1) := by decide +kernel
theorem dL_1170 : decode code 1170 = .ok (.aload_n 0, 1) := by decide +kernel
theorem dL_1171 : decode code 1171 = .ok (.iload_n 3, 1) := by decide +kernel
theorem dL_1172 : decode code 1172 = .ok (.iconst 1, 1) := by decide +kernel
theorem dL_1173 : decode code 1173 = .ok (.iadd, 1) := by decide +kernel
theorem dL_1174 : decode code 1174 = .ok (.iaload, 1) := by decide +kernel
theorem dL_1175 : decode code 1175 = .ok (.aload_n 0, 1) := by decide +kernel
theorem dL_1176 : decode code 1176 = .ok (.iload_n 3, 1) := by decide +kernel
theorem dL_1177 : decode code 1177 = .ok (.iconst 2, 1) := by decide +kernel
theorem dL_1178 : decode code 1178 = .ok (.iadd, 1) := by decide +kernel
theorem dL_1179 : decode code 1179 = .ok (.iaload, 1) := by decide +kernel
theorem dL_1180 : decode code 1180 = .ok (.invokevirtual 143, 3) := by decide +kernel
theorem dL_1183 : decode code 1183 = .ok (.if_icmp .eq 64, 3) := by decide +kernel
theorem dL_1186 : decode code 1186 = .ok (.iconst 0, 1) := by decide +kernel
theorem dL_1187 : decode code 1187 = .ok (.ireturn, 1) := by decide +kernel
