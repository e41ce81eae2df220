theorem dL_law_1188 : decode cL_law 1188 = .ok (.iaload, 1) := by decide +kernel
theorem dL_law_1189 : decode cL_law 1189 = .ok (.invokevirtual 144, 3) := by decide +kernel
theorem dL_law_1192 : decode cL_law 1192 = .ok (.aload_n 2, 1) := by decide +kernel
theorem dL_law_1193 : decode cL_law 1193 = .ok (.aload_n 0, 1) := by decide +kernel
theorem dL_law_1194 : decode cL_law 1194 = .ok (.iload_n 3, 1) := by decide +kernel
theorem dL_law_1195 : decode cL_law 1195 = .ok (.iconst 1, 1) := by decide +kernel
theorem dL_law_1196 : decode cL_law 1196 = .ok (.iadd, 1) := by decide +kernel
theorem dL_law_1197 : decode cL_law 1197 = .ok (.iaload, 1) := by decide +kernel
theorem dL_law_1198 : decode cL_law 1198 = .ok (.aload_n 0, 1) := by decide +kernel
theorem dL_law_1199 : decode cL_law 1199 = .ok (.iload_n 3, 1) := by decide +kernel
theorem dL_law_1200 : decode cL_law 1200 = .ok (.iconst 2, 1) := by decide +kernel
theorem dL_law_1201 : decode cL_law 1201 = .ok (.iadd, 1) := by decide +kernel
theorem dL_law_1202 : decode cL_law 1202 = .ok (.iaload, 1) := by decide +kernel
theorem dL_law_1203 : decode cL_law 1203 = .ok (.invokevirtual 147, 3) := by decide +kernel
theorem dL_law_1206 : decode cL_law 1206 = .ok (.if_icmp .eq 42, 3) := by decide +kernel
theorem dL_law_1209 : decode cL_law 1209 = .ok (.iconst 0, 1) := by decide +kernel
theorem dL_law_1210 : decode cL_law 1210 = .ok (.ireturn, 1) := by decide +kernel
theorem dL_law_1211 : decode cL_law 1211 = .ok (.aload_n 1, 1) := by decide +kernel
theorem dL_law_1212 : decode cL_law 1212 = .ok (.aload_n 0, 1) := by decide +kernel
theorem dL_law_1213 : decode cL_law 1213 = .ok (.iload_n 3, 1) := by decide +kernel
theorem dL_law_1214 : decode cL_law 1214 = .ok (.iconst 1, 1) := by decide +kernel
theorem dL_law_1215 : decode cL_law 1215 = .ok (.iadd, 1) := by decide +kernel
theorem dL_law_1216 : decode cL_law 1216 = .ok (.iaload, 1) := by decide +kernel
theorem dL_law_1217 : decode cL_law 1217 = .ok (.invokevirtual 148, 3) := by decide +kernel
theorem dL_law_1220 : decode cL_law 1220 = .ok (.aload_n 2, 1) := by decide +kernel
theorem dL_law_1221 : decode cL_law 1221 = .ok (.aload_n 0, 1) := by decide +kernel
theorem dL_law_1222 : decode cL_law 1222 = .ok (.iload_n 3, 1) := by decide +kernel
theorem dL_law_1223 : decode cL_law 1223 = .ok (.iconst 1, 1) := by decide +kernel
theorem dL_law_1224 : decode cL_law 1224 = .ok (.iadd, 1) := by decide +kernel
theorem dL_law_1225 : decode cL_law 1225 = .ok (.iaload, 1) := by decide +kernel
theorem dL_law_1226 : decode cL_law 1226 = .ok (.invokevirtual 151, 3) := by decide +kernel
theorem dL_law_1229 : decode cL_law 1229 = .ok (.if_icmp .eq 19, 3) := by decide +kernel
theorem dL_law_1232 : decode cL_law 1232 = .ok (.iconst 0, 1) := by decide +kernel
theorem dL_law_1233 : decode cL_law 1233 = .ok (.ireturn, 1) := by decide +kernel
theorem dL_law_1234 : decode cL_law 1234 = .ok (.aload_n 1, 1) := by decide +kernel
theorem dL_law_1235 : decode cL_law 1235 = .ok (.invokevirtual 152, 3) := by decide +kernel
theorem dL_law_1238 : decode cL_law 1238 = .ok (.aload_n 2, 1) := by decide +kernel
theorem dL_law_1239 : decode cL_law 1239 = .ok (.invokevirtual 156, 3) := by decide +kernel
theorem dL_law_1242 : decode cL_law 1242 = .ok (.lcmp, 1) := by decide +kernel
theorem dL_law_1243 : decode cL_law 1243 = .ok (.ifCond .eq 5, 3) := by decide +kernel
theorem dL_law_1246 : decode cL_law 1246 = .ok (.iconst 0, 1) := by decide +kernel
theorem dL_law_1247 : decode cL_law 1247 = .ok (.ireturn, 1) := by decide +kernel
theorem dL_law_1248 : decode cL_law 1248 = .ok (.iinc 3 6, 3) := by decide +kernel
theorem dL_law_1251 : decode cL_law 1251 = .ok (.goto (-1233), 3) := by decide +kernel
theorem dL_law_1254 : decode cL_law 1254 = .ok (.iconst 1, 1) := by decide +kernel
theorem dL_law_1255 : decode cL_law 1255 = .ok (.ireturn, 1) := by decide +kernel
