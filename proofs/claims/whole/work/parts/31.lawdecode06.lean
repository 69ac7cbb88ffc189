theorem d_L_law_1148 : decode code 1148 = .ok (.lcmp, 1) := by decide +kernel
theorem d_L_law_1149 : decode code 1149 = .ok (.ifCond .eq 53, 3) := by decide +kernel
theorem d_L_law_1152 : decode code 1152 = .ok (.iconst 0, 1) := by decide +kernel
theorem d_L_law_1153 : decode code 1153 = .ok (.ireturn, 1) := by decide +kernel
theorem d_L_law_1154 : decode code 1154 = .ok (.aload_n 1, 1) := by decide +kernel
theorem d_L_law_1155 : decode code 1155 = .ok (.aload_n 0, 1) := by decide +kernel
theorem d_L_law_1156 : decode code 1156 = .ok (.iload_n 3, 1) := by decide +kernel
theorem d_L_law_1157 : decode code 1157 = .ok (.iconst 1, 1) := by decide +kernel
theorem d_L_law_1158 : decode code 1158 = .ok (.iadd, 1) := by decide +kernel
theorem d_L_law_1159 : decode code 1159 = .ok (.iaload, 1) := by decide +kernel
theorem d_L_law_1160 : decode code 1160 = .ok (.invokevirtual 91, 3) := by decide +kernel
theorem d_L_law_1163 : decode code 1163 = .ok (.aload_n 2, 1) := by decide +kernel
theorem d_L_law_1164 : decode code 1164 = .ok (.aload_n 0, 1) := by decide +kernel
theorem d_L_law_1165 : decode code 1165 = .ok (.iload_n 3, 1) := by decide +kernel
theorem d_L_law_1166 : decode code 1166 = .ok (.iconst 1, 1) := by decide +kernel
theorem d_L_law_1167 : decode code 1167 = .ok (.iadd, 1) := by decide +kernel
theorem d_L_law_1168 : decode code 1168 = .ok (.iaload, 1) := by decide +kernel
theorem d_L_law_1169 : decode code 1169 = .ok (.invokevirtual 95, 3) := by decide +kernel
theorem d_L_law_1172 : decode code 1172 = .ok (.lcmp, 1) := by decide +kernel
theorem d_L_law_1173 : decode code 1173 = .ok (.ifCond .eq 29, 3) := by decide +kernel
theorem d_L_law_1176 : decode code 1176 = .ok (.iconst 0, 1) := by decide +kernel
theorem d_L_law_1177 : decode code 1177 = .ok (.ireturn, 1) := by decide +kernel
theorem d_L_law_1178 : decode code 1178 = .ok (.aload_n 1, 1) := by decide +kernel
theorem d_L_law_1179 : decode code 1179 = .ok (.aload_n 0, 1) := by decide +kernel
theorem d_L_law_1180 : decode code 1180 = .ok (.iload_n 3, 1) := by decide +kernel
theorem d_L_law_1181 : decode code 1181 = .ok (.iconst 1, 1) := by decide +kernel
theorem d_L_law_1182 : decode code 1182 = .ok (.iadd, 1) := by decide +kernel
theorem d_L_law_1183 : decode code 1183 = .ok (.iaload, 1) := by decide +kernel
theorem d_L_law_1184 : decode code 1184 = .ok (.invokevirtual 96, 3) := by decide +kernel
theorem d_L_law_1187 : decode code 1187 = .ok (.aload_n 2, 1) := by decide +kernel
theorem d_L_law_1188 : decode code 1188 = .ok (.aload_n 0, 1) := by decide +kernel
theorem d_L_law_1189 : decode code 1189 = .ok (.iload_n 3, 1) := by decide +kernel
theorem d_L_law_1190 : decode code 1190 = .ok (.iconst 1, 1) := by decide +kernel
theorem d_L_law_1191 : decode code 1191 = .ok (.iadd, 1) := by decide +kernel
theorem d_L_law_1192 : decode code 1192 = .ok (.iaload, 1) := by decide +kernel
theorem d_L_law_1193 : decode code 1193 = .ok (.invokevirtual 99, 3) := by decide +kernel
theorem d_L_law_1196 : decode code 1196 = .ok (.lcmp, 1) := by decide +kernel
theorem d_L_law_1197 : decode code 1197 = .ok (.ifCond .eq 5, 3) := by decide +kernel
theorem d_L_law_1200 : decode code 1200 = .ok (.iconst 0, 1) := by decide +kernel
theorem d_L_law_1201 : decode code 1201 = .ok (.ireturn, 1) := by decide +kernel
theorem d_L_law_1202 : decode code 1202 = .ok (.iinc 3 8, 3) := by decide +kernel
theorem d_L_law_1205 : decode code 1205 = .ok (.goto (-1187), 3) := by decide +kernel
theorem d_L_law_1208 : decode code 1208 = .ok (.iconst 1, 1) := by decide +kernel
theorem d_L_law_1209 : decode code 1209 = .ok (.ireturn, 1) := by decide +kernel
