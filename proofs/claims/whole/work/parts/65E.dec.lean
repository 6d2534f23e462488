theorem dL_1188 : decode code 1188 = .ok (.aload_n 1, 1) := by decide +kernel
theorem dL_1189 : decode code 1189 = .ok (.aload_n 0, 1) := by decide +kernel
theorem dL_1190 : decode code 1190 = .ok (.iload_n 3, 1) := by decide +kernel
theorem dL_1191 : decode code 1191 = .ok (.iconst 1, 1) := by decide +kernel
theorem dL_1192 : decode code 1192 = .ok (.iadd, 1) := by decide +kernel
theorem dL_1193 : decode code 1193 = .ok (.iaload, 1) := by decide +kernel
theorem dL_1194 : decode code 1194 = .ok (.invokevirtual 144, 3) := by decide +kernel
theorem dL_1197 : decode code 1197 = .ok (.aload_n 2, 1) := by decide +kernel
theorem dL_1198 : decode code 1198 = .ok (.aload_n 0, 1) := by decide +kernel
theorem dL_1199 : decode code 1199 = .ok (.iload_n 3, 1) := by decide +kernel
theorem dL_1200 : decode code 1200 = .ok (.iconst 1, 1) := by decide +kernel
theorem dL_1201 : decode code 1201 = .ok (.iadd, 1) := by decide +kernel
theorem dL_1202 : decode code 1202 = .ok (.iaload, 1) := by decide +kernel
theorem dL_1203 : decode code 1203 = .ok (.invokevirtual 147, 3) := by decide +kernel
theorem dL_1206 : decode code 1206 = .ok (.if_icmp .eq 41, 3) := by decide +kernel
theorem dL_1209 : decode code 1209 = .ok (.iconst 0, 1) := by decide +kernel
theorem dL_1210 : decode code 1210 = .ok (.ireturn, 1) := by decide +kernel
theorem dL_1211 : decode code 1211 = .ok (.aload_n 1, 1) := by decide +kernel
theorem dL_1212 : decode code 1212 = .ok (.aload_n 0, 1) := by decide +kernel
theorem dL_1213 : decode code 1213 = .ok (.iload_n 3, 1) := by decide +kernel
theorem dL_1214 : decode code 1214 = .ok (.iconst 1, 1) := by decide +kernel
theorem dL_1215 : decode code 1215 = .ok (.iadd, 1) := by decide +kernel
theorem dL_1216 : decode code 1216 = .ok (.iaload, 1) := by decide +kernel
theorem dL_1217 : decode code 1217 = .ok (.invokevirtual 148, 3) := by decide +kernel
theorem dL_1220 : decode code 1220 = .ok (.aload_n 2, 1) := by decide +kernel
theorem dL_1221 : decode code 1221 = .ok (.aload_n 0, 1) := by decide +kernel
theorem dL_1222 : decode code 1222 = .ok (.iload_n 3, 1) := by decide +kernel
theorem dL_1223 : decode code 1223 = .ok (.iconst 1, 1) := by decide +kernel
theorem dL_1224 : decode code 1224 = .ok (.iadd, 1) := by decide +kernel
theorem dL_1225 : decode code 1225 = .ok (.iaload, 1) := by decide +kernel
theorem dL_1226 : decode code 1226 = .ok (.invokevirtual 151, 3) := by decide +kernel
theorem dL_1229 : decode code 1229 = .ok (.if_icmp .eq 18, 3) := by decide +kernel
theorem dL_1232 : decode code 1232 = .ok (.iconst 0, 1) := by decide +kernel
theorem dL_1233 : decode code 1233 = .ok (.ireturn, 1) := by decide +kernel
theorem dL_1234 : decode code 1234 = .ok (.aload_n 1, 1) := by decide +kernel
theorem dL_1235 : decode code 1235 = .ok (.invokevirtual 152, 3) := by decide +kernel
theorem dL_1238 : decode code 1238 = .ok (.aload_n 2, 1) := by decide +kernel
theorem dL_1239 : decode code 1239 = .ok (.invokevirtual 155, 3) := by decide +kernel
theorem dL_1242 : decode code 1242 = .ok (.if_icmp .eq 5, 3) := by decide +kernel
theorem dL_1245 : decode code 1245 = .ok (.iconst 0, 1) := by decide +kernel
theorem dL_1246 : decode code 1246 = .ok (.ireturn, 1) := by decide +kernel
theorem dL_1247 : decode code 1247 = .ok (.iinc 3 6, 3) := by decide +kernel
theorem dL_1250 : decode code 1250 = .ok (.goto (-1232), 3) := by decide +kernel
theorem dL_1253 : decode code 1253 = .ok (.iconst 1, 1) := by decide +kernel
theorem dL_1254 : decode code 1254 = .ok (.ireturn, 1) := by decide +kernel
