/-! decode rows of the law -/
theorem d_Law_law_1139 : decode c_Law_law 1139 = .ok (.iadd, 1) := by decide +kernel
theorem d_Law_law_1140 : decode c_Law_law 1140 = .ok (.iaload, 1) := by decide +kernel
theorem d_Law_law_1141 : decode c_Law_law 1141 = .ok (.invokevirtual 136, 3) := by decide +kernel
theorem d_Law_law_1144 : decode c_Law_law 1144 = .ok (.istore 6, 2) := by decide +kernel
theorem d_Law_law_1146 : decode c_Law_law 1146 = .ok (.aload_n 2, 1) := by decide +kernel
theorem d_Law_law_1147 : decode c_Law_law 1147 = .ok (.invokevirtual 57, 3) := by decide +kernel
theorem d_Law_law_1150 : decode c_Law_law 1150 = .ok (.iload 5, 2) := by decide +kernel
theorem d_Law_law_1152 : decode c_Law_law 1152 = .ok (.if_icmp .eq 5, 3) := by decide +kernel
theorem d_Law_law_1155 : decode c_Law_law 1155 = .ok (.iconst 0, 1) := by decide +kernel
theorem d_Law_law_1156 : decode c_Law_law 1156 = .ok (.ireturn, 1) := by decide +kernel
theorem d_Law_law_1157 : decode c_Law_law 1157 = .ok (.iload 5, 2) := by decide +kernel
theorem d_Law_law_1159 : decode c_Law_law 1159 = .ok (.ifCond .ne 15, 3) := by decide +kernel
theorem d_Law_law_1162 : decode c_Law_law 1162 = .ok (.aload_n 3, 1) := by decide +kernel
theorem d_Law_law_1163 : decode c_Law_law 1163 = .ok (.iconst 0, 1) := by decide +kernel
theorem d_Law_law_1164 : decode c_Law_law 1164 = .ok (.laload, 1) := by decide +kernel
theorem d_Law_law_1165 : decode c_Law_law 1165 = .ok (.iload 6, 2) := by decide +kernel
theorem d_Law_law_1167 : decode c_Law_law 1167 = .ok (.i2l, 1) := by decide +kernel
theorem d_Law_law_1168 : decode c_Law_law 1168 = .ok (.lcmp, 1) := by decide +kernel
theorem d_Law_law_1169 : decode c_Law_law 1169 = .ok (.ifCond .eq 5, 3) := by decide +kernel
theorem d_Law_law_1172 : decode c_Law_law 1172 = .ok (.iconst 0, 1) := by decide +kernel
theorem d_Law_law_1173 : decode c_Law_law 1173 = .ok (.ireturn, 1) := by decide +kernel
theorem d_Law_law_1174 : decode c_Law_law 1174 = .ok (.goto 40, 3) := by decide +kernel
theorem d_Law_law_1177 : decode c_Law_law 1177 = .ok (.aload_n 1, 1) := by decide +kernel
theorem d_Law_law_1178 : decode c_Law_law 1178 = .ok (.aload_n 0, 1) := by decide +kernel
theorem d_Law_law_1179 : decode c_Law_law 1179 = .ok (.iload 4, 2) := by decide +kernel
theorem d_Law_law_1181 : decode c_Law_law 1181 = .ok (.iconst 1, 1) := by decide +kernel
theorem d_Law_law_1182 : decode c_Law_law 1182 = .ok (.iadd, 1) := by decide +kernel
theorem d_Law_law_1183 : decode c_Law_law 1183 = .ok (.iaload, 1) := by decide +kernel
theorem d_Law_law_1184 : decode c_Law_law 1184 = .ok (.aload_n 0, 1) := by decide +kernel
theorem d_Law_law_1185 : decode c_Law_law 1185 = .ok (.iload 4, 2) := by decide +kernel
theorem d_Law_law_1187 : decode c_Law_law 1187 = .ok (.iconst 2, 1) := by decide +kernel
theorem d_Law_law_1188 : decode c_Law_law 1188 = .ok (.iadd, 1) := by decide +kernel
theorem d_Law_law_1189 : decode c_Law_law 1189 = .ok (.iaload, 1) := by decide +kernel
theorem d_Law_law_1190 : decode c_Law_law 1190 = .ok (.invokevirtual 137, 3) := by decide +kernel
theorem d_Law_law_1193 : decode c_Law_law 1193 = .ok (.aload_n 2, 1) := by decide +kernel
theorem d_Law_law_1194 : decode c_Law_law 1194 = .ok (.aload_n 0, 1) := by decide +kernel
theorem d_Law_law_1195 : decode c_Law_law 1195 = .ok (.iload 4, 2) := by decide +kernel
theorem d_Law_law_1197 : decode c_Law_law 1197 = .ok (.iconst 1, 1) := by decide +kernel
theorem d_Law_law_1198 : decode c_Law_law 1198 = .ok (.iadd, 1) := by decide +kernel
theorem d_Law_law_1199 : decode c_Law_law 1199 = .ok (.iaload, 1) := by decide +kernel
theorem d_Law_law_1200 : decode c_Law_law 1200 = .ok (.aload_n 0, 1) := by decide +kernel
theorem d_Law_law_1201 : decode c_Law_law 1201 = .ok (.iload 4, 2) := by decide +kernel
theorem d_Law_law_1203 : decode c_Law_law 1203 = .ok (.iconst 2, 1) := by decide +kernel
theorem d_Law_law_1204 : decode c_Law_law 1204 = .ok (.iadd, 1) := by decide +kernel
theorem d_Law_law_1205 : decode c_Law_law 1205 = .ok (.iaload, 1) := by decide +kernel
theorem d_Law_law_1206 : decode c_Law_law 1206 = .ok (.invokevirtual 140, 3) := by decide +kernel
theorem d_Law_law_1209 : decode c_Law_law 1209 = .ok (.if_icmp .eq 5, 3) := by decide +kernel
theorem d_Law_law_1212 : decode c_Law_law 1212 = .ok (.iconst 0, 1) := by decide +kernel
theorem d_Law_law_1213 : decode c_Law_law 1213 = .ok (.ireturn, 1) := by decide +kernel
theorem d_Law_law_1214 : decode c_Law_law 1214 = .ok (.iinc 4 7, 3) := by decide +kernel
theorem d_Law_law_1217 : decode c_Law_law 1217 = .ok (.goto (-1194), 3) := by decide +kernel
theorem d_Law_law_1220 : decode c_Law_law 1220 = .ok (.iconst 1, 1) := by decide +kernel
theorem d_Law_law_1221 : decode c_Law_law 1221 = .ok (.ireturn, 1) := by decide +kernel
