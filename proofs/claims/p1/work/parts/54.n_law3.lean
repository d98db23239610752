theorem dL_law_1105 : decode cL_law 1105 = .ok (.aload_n 1, 1) := by decide +kernel
theorem dL_law_1106 : decode cL_law 1106 = .ok (.invokevirtual 142, 3) := by decide +kernel
theorem lk_RL_142 : Cond.methodLink RL 142 yX11_forget ∈ gW := gW_t 1134 (by decide +kernel) rfl
theorem mI_X11_forget : Cond.instanceMethod yX11_forget ∈ gW := gW_t 1135 (by decide +kernel) rfl
theorem mS_X11_forget : Cond.selects RX11 yX11_forget yX11_forget ∈ gW := gW_t 1136 (by decide +kernel) rfl
theorem mC_X11_forget : Cond.code yX11_forget cX11_forget 3 (some .int) ∈ gW := gW_t 1137 (by decide +kernel) rfl
theorem ok_X11_forget : okD yX11_forget 0 := ⟨by decide +kernel, by decide +kernel, by decide +kernel⟩
theorem dL_law_1109 : decode cL_law 1109 = .ok (.aload_n 2, 1) := by decide +kernel
theorem dL_law_1110 : decode cL_law 1110 = .ok (.invokevirtual 145, 3) := by decide +kernel
theorem lk_RL_145 : Cond.methodLink RL 145 yX12_forget ∈ gW := gW_t 1914 (by decide +kernel) rfl
theorem mI_X12_forget : Cond.instanceMethod yX12_forget ∈ gW := gW_t 1915 (by decide +kernel) rfl
theorem mS_X12_forget : Cond.selects RX12 yX12_forget yX12_forget ∈ gW := gW_t 1916 (by decide +kernel) rfl
theorem mC_X12_forget : Cond.code yX12_forget cX12_forget 2 (some .int) ∈ gW := gW_t 1917 (by decide +kernel) rfl
theorem ok_X12_forget : okD yX12_forget 0 := ⟨by decide +kernel, by decide +kernel, by decide +kernel⟩
theorem dL_law_1113 : decode cL_law 1113 = .ok (.if_icmp .eq 347, 3) := by decide +kernel
theorem dL_law_1118 : decode cL_law 1118 = .ok (.aload_n 1, 1) := by decide +kernel
theorem dL_law_1119 : decode cL_law 1119 = .ok (.invokevirtual 146, 3) := by decide +kernel
theorem lk_RL_146 : Cond.methodLink RL 146 yX11_hidden ∈ gW := gW_t 1138 (by decide +kernel) rfl
theorem mI_X11_hidden : Cond.instanceMethod yX11_hidden ∈ gW := gW_t 1139 (by decide +kernel) rfl
theorem mS_X11_hidden : Cond.selects RX11 yX11_hidden yX11_hidden ∈ gW := gW_t 1140 (by decide +kernel) rfl
theorem mC_X11_hidden : Cond.code yX11_hidden cX11_hidden 1 (some .long) ∈ gW := gW_t 1141 (by decide +kernel) rfl
theorem ok_X11_hidden : okD yX11_hidden 0 := ⟨by decide +kernel, by decide +kernel, by decide +kernel⟩
theorem dL_law_1122 : decode cL_law 1122 = .ok (.aload_n 2, 1) := by decide +kernel
theorem dL_law_1123 : decode cL_law 1123 = .ok (.invokevirtual 150, 3) := by decide +kernel
theorem lk_RL_150 : Cond.methodLink RL 150 yX12_hidden ∈ gW := gW_t 1918 (by decide +kernel) rfl
theorem mI_X12_hidden : Cond.instanceMethod yX12_hidden ∈ gW := gW_t 1919 (by decide +kernel) rfl
theorem mS_X12_hidden : Cond.selects RX12 yX12_hidden yX12_hidden ∈ gW := gW_t 1920 (by decide +kernel) rfl
theorem mC_X12_hidden : Cond.code yX12_hidden cX12_hidden 4 (some .long) ∈ gW := gW_t 1921 (by decide +kernel) rfl
theorem ok_X12_hidden : okD yX12_hidden 0 := ⟨by decide +kernel, by decide +kernel, by decide +kernel⟩
theorem dL_law_1126 : decode cL_law 1126 = .ok (.lcmp, 1) := by decide +kernel
theorem dL_law_1127 : decode cL_law 1127 = .ok (.ifCond .eq 333, 3) := by decide +kernel
theorem dL_law_1132 : decode cL_law 1132 = .ok (.aload_n 1, 1) := by decide +kernel
theorem dL_law_1133 : decode cL_law 1133 = .ok (.aload_n 0, 1) := by decide +kernel
theorem dL_law_1134 : decode cL_law 1134 = .ok (.iload_n 3, 1) := by decide +kernel
theorem dL_law_1135 : decode cL_law 1135 = .ok (.iconst 1, 1) := by decide +kernel
theorem dL_law_1136 : decode cL_law 1136 = .ok (.iadd, 1) := by decide +kernel
theorem dL_law_1137 : decode cL_law 1137 = .ok (.iaload, 1) := by decide +kernel
theorem dL_law_1138 : decode cL_law 1138 = .ok (.invokevirtual 151, 3) := by decide +kernel
theorem lk_RL_151 : Cond.methodLink RL 151 yX11_next ∈ gW := gW_t 1153 (by decide +kernel) rfl
theorem mI_X11_next : Cond.instanceMethod yX11_next ∈ gW := gW_t 1154 (by decide +kernel) rfl
theorem mS_X11_next : Cond.selects RX11 yX11_next yX11_next ∈ gW := gW_t 1155 (by decide +kernel) rfl
theorem mC_X11_next : Cond.code yX11_next cX11_next 8 (some .int) ∈ gW := gW_t 1156 (by decide +kernel) rfl
theorem ok_X11_next : okD yX11_next 1 := ⟨by decide +kernel, by decide +kernel, by decide +kernel⟩
theorem dL_law_1141 : decode cL_law 1141 = .ok (.aload_n 2, 1) := by decide +kernel
theorem dL_law_1142 : decode cL_law 1142 = .ok (.aload_n 0, 1) := by decide +kernel
theorem dL_law_1143 : decode cL_law 1143 = .ok (.iload_n 3, 1) := by decide +kernel
theorem dL_law_1144 : decode cL_law 1144 = .ok (.iconst 1, 1) := by decide +kernel
theorem dL_law_1145 : decode cL_law 1145 = .ok (.iadd, 1) := by decide +kernel
theorem dL_law_1146 : decode cL_law 1146 = .ok (.iaload, 1) := by decide +kernel
theorem dL_law_1147 : decode cL_law 1147 = .ok (.invokevirtual 154, 3) := by decide +kernel
theorem lk_RL_154 : Cond.methodLink RL 154 yX12_next ∈ gW := gW_t 1930 (by decide +kernel) rfl
theorem mI_X12_next : Cond.instanceMethod yX12_next ∈ gW := gW_t 1931 (by decide +kernel) rfl
theorem mS_X12_next : Cond.selects RX12 yX12_next yX12_next ∈ gW := gW_t 1932 (by decide +kernel) rfl
theorem mC_X12_next : Cond.code yX12_next cX12_next 8 (some .int) ∈ gW := gW_t 1933 (by decide +kernel) rfl
theorem ok_X12_next : okD yX12_next 1 := ⟨by decide +kernel, by decide +kernel, by decide +kernel⟩
theorem dL_law_1150 : decode cL_law 1150 = .ok (.if_icmp .eq 310, 3) := by decide +kernel
theorem dL_law_1155 : decode cL_law 1155 = .ok (.aload_n 1, 1) := by decide +kernel
theorem dL_law_1156 : decode cL_law 1156 = .ok (.aload_n 0, 1) := by decide +kernel
theorem dL_law_1157 : decode cL_law 1157 = .ok (.iload_n 3, 1) := by decide +kernel
theorem dL_law_1158 : decode cL_law 1158 = .ok (.iconst 1, 1) := by decide +kernel
theorem dL_law_1159 : decode cL_law 1159 = .ok (.iadd, 1) := by decide +kernel
theorem dL_law_1160 : decode cL_law 1160 = .ok (.iaload, 1) := by decide +kernel
theorem dL_law_1161 : decode cL_law 1161 = .ok (.aload_n 0, 1) := by decide +kernel
theorem dL_law_1162 : decode cL_law 1162 = .ok (.iload_n 3, 1) := by decide +kernel
theorem dL_law_1163 : decode cL_law 1163 = .ok (.iconst 2, 1) := by decide +kernel
theorem dL_law_1164 : decode cL_law 1164 = .ok (.iadd, 1) := by decide +kernel
theorem dL_law_1165 : decode cL_law 1165 = .ok (.iaload, 1) := by decide +kernel
theorem dL_law_1166 : decode cL_law 1166 = .ok (.invokevirtual 155, 3) := by decide +kernel
theorem lk_RL_155 : Cond.methodLink RL 155 yX11_well ∈ gW := gW_t 1163 (by decide +kernel) rfl
theorem mI_X11_well : Cond.instanceMethod yX11_well ∈ gW := gW_t 1164 (by decide +kernel) rfl
theorem mS_X11_well : Cond.selects RX11 yX11_well yX11_well ∈ gW := gW_t 1165 (by decide +kernel) rfl
theorem mC_X11_well : Cond.code yX11_well cX11_well 4 (some .int) ∈ gW := gW_t 1166 (by decide +kernel) rfl
theorem ok_X11_well : okD yX11_well 2 := ⟨by decide +kernel, by decide +kernel, by decide +kernel⟩
theorem dL_law_1169 : decode cL_law 1169 = .ok (.aload_n 2, 1) := by decide +kernel
theorem dL_law_1170 : decode cL_law 1170 = .ok (.aload_n 0, 1) := by decide +kernel
theorem dL_law_1171 : decode cL_law 1171 = .ok (.iload_n 3, 1) := by decide +kernel
theorem dL_law_1172 : decode cL_law 1172 = .ok (.iconst 1, 1) := by decide +kernel
theorem dL_law_1173 : decode cL_law 1173 = .ok (.iadd, 1) := by decide +kernel
theorem dL_law_1174 : decode cL_law 1174 = .ok (.iaload, 1) := by decide +kernel
theorem dL_law_1175 : decode cL_law 1175 = .ok (.aload_n 0, 1) := by decide +kernel
theorem dL_law_1176 : decode cL_law 1176 = .ok (.iload_n 3, 1) := by decide +kernel
theorem dL_law_1177 : decode cL_law 1177 = .ok (.iconst 2, 1) := by decide +kernel
theorem dL_law_1178 : decode cL_law 1178 = .ok (.iadd, 1) := by decide +kernel
theorem dL_law_1179 : decode cL_law 1179 = .ok (.iaload, 1) := by decide +kernel
theorem dL_law_1180 : decode cL_law 1180 = .ok (.invokevirtual 158, 3) := by decide +kernel
theorem lk_RL_158 : Cond.methodLink RL 158 yX12_well ∈ gW := gW_t 1934 (by decide +kernel) rfl
theorem mI_X12_well : Cond.instanceMethod yX12_well ∈ gW := gW_t 1935 (by decide +kernel) rfl
theorem mS_X12_well : Cond.selects RX12 yX12_well yX12_well ∈ gW := gW_t 1936 (by decide +kernel) rfl
theorem mC_X12_well : Cond.code yX12_well cX12_well 4 (some .int) ∈ gW := gW_t 1937 (by decide +kernel) rfl
theorem ok_X12_well : okD yX12_well 2 := ⟨by decide +kernel, by decide +kernel, by decide +kernel⟩
theorem dL_law_1183 : decode cL_law 1183 = .ok (.if_icmp .eq 277, 3) := by decide +kernel
theorem dL_law_1188 : decode cL_law 1188 = .ok (.aload_n 1, 1) := by decide +kernel
theorem dL_law_1189 : decode cL_law 1189 = .ok (.aload_n 0, 1) := by decide +kernel
theorem dL_law_1190 : decode cL_law 1190 = .ok (.iload_n 3, 1) := by decide +kernel
theorem dL_law_1191 : decode cL_law 1191 = .ok (.iconst 1, 1) := by decide +kernel
theorem dL_law_1192 : decode cL_law 1192 = .ok (.iadd, 1) := by decide +kernel
theorem dL_law_1193 : decode cL_law 1193 = .ok (.iaload, 1) := by decide +kernel
theorem dL_law_1194 : decode cL_law 1194 = .ok (.invokevirtual 159, 3) := by decide +kernel
theorem lk_RL_159 : Cond.methodLink RL 159 yX11_tongue ∈ gW := gW_t 1171 (by decide +kernel) rfl
theorem mI_X11_tongue : Cond.instanceMethod yX11_tongue ∈ gW := gW_t 1172 (by decide +kernel) rfl
theorem mS_X11_tongue : Cond.selects RX11 yX11_tongue yX11_tongue ∈ gW := gW_t 1173 (by decide +kernel) rfl
theorem mC_X11_tongue : Cond.code yX11_tongue cX11_tongue 3 (some .int) ∈ gW := gW_t 1174 (by decide +kernel) rfl
theorem ok_X11_tongue : okD yX11_tongue 1 := ⟨by decide +kernel, by decide +kernel, by decide +kernel⟩
theorem dL_law_1197 : decode cL_law 1197 = .ok (.aload_n 2, 1) := by decide +kernel
theorem dL_law_1198 : decode cL_law 1198 = .ok (.aload_n 0, 1) := by decide +kernel
theorem dL_law_1199 : decode cL_law 1199 = .ok (.iload_n 3, 1) := by decide +kernel
theorem dL_law_1200 : decode cL_law 1200 = .ok (.iconst 1, 1) := by decide +kernel
theorem dL_law_1201 : decode cL_law 1201 = .ok (.iadd, 1) := by decide +kernel
theorem dL_law_1202 : decode cL_law 1202 = .ok (.iaload, 1) := by decide +kernel
theorem dL_law_1203 : decode cL_law 1203 = .ok (.invokevirtual 162, 3) := by decide +kernel
theorem lk_RL_162 : Cond.methodLink RL 162 yX12_tongue ∈ gW := gW_t 1939 (by decide +kernel) rfl
theorem mI_X12_tongue : Cond.instanceMethod yX12_tongue ∈ gW := gW_t 1940 (by decide +kernel) rfl
theorem mS_X12_tongue : Cond.selects RX12 yX12_tongue yX12_tongue ∈ gW := gW_t 1941 (by decide +kernel) rfl
theorem mC_X12_tongue : Cond.code yX12_tongue cX12_tongue 7 (some .int) ∈ gW := gW_t 1942 (by decide +kernel) rfl
theorem ok_X12_tongue : okD yX12_tongue 1 := ⟨by decide +kernel, by decide +kernel, by decide +kernel⟩
theorem dL_law_1206 : decode cL_law 1206 = .ok (.if_icmp .eq 254, 3) := by decide +kernel
theorem dL_law_1211 : decode cL_law 1211 = .ok (.aload_n 1, 1) := by decide +kernel
theorem dL_law_1212 : decode cL_law 1212 = .ok (.aload_n 0, 1) := by decide +kernel
theorem dL_law_1213 : decode cL_law 1213 = .ok (.iload_n 3, 1) := by decide +kernel
theorem dL_law_1214 : decode cL_law 1214 = .ok (.iconst 1, 1) := by decide +kernel
theorem dL_law_1215 : decode cL_law 1215 = .ok (.iadd, 1) := by decide +kernel
theorem dL_law_1216 : decode cL_law 1216 = .ok (.iaload, 1) := by decide +kernel
theorem dL_law_1217 : decode cL_law 1217 = .ok (.aload_n 0, 1) := by decide +kernel
theorem dL_law_1218 : decode cL_law 1218 = .ok (.iload_n 3, 1) := by decide +kernel
theorem dL_law_1219 : decode cL_law 1219 = .ok (.iconst 2, 1) := by decide +kernel
theorem dL_law_1220 : decode cL_law 1220 = .ok (.iadd, 1) := by decide +kernel
theorem dL_law_1221 : decode cL_law 1221 = .ok (.iaload, 1) := by decide +kernel
theorem dL_law_1222 : decode cL_law 1222 = .ok (.invokevirtual 163, 3) := by decide +kernel
theorem lk_RL_163 : Cond.methodLink RL 163 yX11_vein ∈ gW := gW_t 1184 (by decide +kernel) rfl
theorem mI_X11_vein : Cond.instanceMethod yX11_vein ∈ gW := gW_t 1185 (by decide +kernel) rfl
theorem mS_X11_vein : Cond.selects RX11 yX11_vein yX11_vein ∈ gW := gW_t 1186 (by decide +kernel) rfl
theorem mC_X11_vein : Cond.code yX11_vein cX11_vein 6 (some .long) ∈ gW := gW_t 1187 (by decide +kernel) rfl
theorem ok_X11_vein : okD yX11_vein 2 := ⟨by decide +kernel, by decide +kernel, by decide +kernel⟩
theorem dL_law_1225 : decode cL_law 1225 = .ok (.aload_n 2, 1) := by decide +kernel
theorem dL_law_1226 : decode cL_law 1226 = .ok (.aload_n 0, 1) := by decide +kernel
theorem dL_law_1227 : decode cL_law 1227 = .ok (.iload_n 3, 1) := by decide +kernel
theorem dL_law_1228 : decode cL_law 1228 = .ok (.iconst 1, 1) := by decide +kernel
theorem dL_law_1229 : decode cL_law 1229 = .ok (.iadd, 1) := by decide +kernel
theorem dL_law_1230 : decode cL_law 1230 = .ok (.iaload, 1) := by decide +kernel
theorem dL_law_1231 : decode cL_law 1231 = .ok (.aload_n 0, 1) := by decide +kernel
theorem dL_law_1232 : decode cL_law 1232 = .ok (.iload_n 3, 1) := by decide +kernel
theorem dL_law_1233 : decode cL_law 1233 = .ok (.iconst 2, 1) := by decide +kernel
theorem dL_law_1234 : decode cL_law 1234 = .ok (.iadd, 1) := by decide +kernel
theorem dL_law_1235 : decode cL_law 1235 = .ok (.iaload, 1) := by decide +kernel
theorem dL_law_1236 : decode cL_law 1236 = .ok (.invokevirtual 167, 3) := by decide +kernel
theorem lk_RL_167 : Cond.methodLink RL 167 yX12_vein ∈ gW := gW_t 1943 (by decide +kernel) rfl
theorem mI_X12_vein : Cond.instanceMethod yX12_vein ∈ gW := gW_t 1944 (by decide +kernel) rfl
theorem mS_X12_vein : Cond.selects RX12 yX12_vein yX12_vein ∈ gW := gW_t 1945 (by decide +kernel) rfl
theorem mC_X12_vein : Cond.code yX12_vein cX12_vein 5 (some .long) ∈ gW := gW_t 1946 (by decide +kernel) rfl
theorem ok_X12_vein : okD yX12_vein 2 := ⟨by decide +kernel, by decide +kernel, by decide +kernel⟩
theorem dL_law_1239 : decode cL_law 1239 = .ok (.lcmp, 1) := by decide +kernel
theorem dL_law_1240 : decode cL_law 1240 = .ok (.ifCond .eq 220, 3) := by decide +kernel
theorem dL_law_1245 : decode cL_law 1245 = .ok (.aload_n 1, 1) := by decide +kernel
theorem dL_law_1246 : decode cL_law 1246 = .ok (.aload_n 0, 1) := by decide +kernel
theorem dL_law_1247 : decode cL_law 1247 = .ok (.iload_n 3, 1) := by decide +kernel
theorem dL_law_1248 : decode cL_law 1248 = .ok (.iconst 1, 1) := by decide +kernel
theorem dL_law_1249 : decode cL_law 1249 = .ok (.iadd, 1) := by decide +kernel
theorem dL_law_1250 : decode cL_law 1250 = .ok (.iaload, 1) := by decide +kernel
theorem dL_law_1251 : decode cL_law 1251 = .ok (.aload_n 0, 1) := by decide +kernel
theorem dL_law_1252 : decode cL_law 1252 = .ok (.iload_n 3, 1) := by decide +kernel
theorem dL_law_1253 : decode cL_law 1253 = .ok (.iconst 2, 1) := by decide +kernel
theorem dL_law_1254 : decode cL_law 1254 = .ok (.iadd, 1) := by decide +kernel
theorem dL_law_1255 : decode cL_law 1255 = .ok (.iaload, 1) := by decide +kernel
theorem dL_law_1256 : decode cL_law 1256 = .ok (.aload_n 0, 1) := by decide +kernel
theorem dL_law_1257 : decode cL_law 1257 = .ok (.iload_n 3, 1) := by decide +kernel
theorem dL_law_1258 : decode cL_law 1258 = .ok (.iconst 3, 1) := by decide +kernel
theorem dL_law_1259 : decode cL_law 1259 = .ok (.iadd, 1) := by decide +kernel
theorem dL_law_1260 : decode cL_law 1260 = .ok (.iaload, 1) := by decide +kernel
theorem dL_law_1261 : decode cL_law 1261 = .ok (.invokevirtual 168, 3) := by decide +kernel
theorem lk_RL_168 : Cond.methodLink RL 168 yX11_time ∈ gW := gW_t 1191 (by decide +kernel) rfl
theorem mI_X11_time : Cond.instanceMethod yX11_time ∈ gW := gW_t 1192 (by decide +kernel) rfl
theorem mS_X11_time : Cond.selects RX11 yX11_time yX11_time ∈ gW := gW_t 1193 (by decide +kernel) rfl
theorem mC_X11_time : Cond.code yX11_time cX11_time 4 (some .long) ∈ gW := gW_t 1194 (by decide +kernel) rfl
theorem ok_X11_time : okD yX11_time 3 := ⟨by decide +kernel, by decide +kernel, by decide +kernel⟩
theorem dL_law_1264 : decode cL_law 1264 = .ok (.aload_n 2, 1) := by decide +kernel
theorem dL_law_1265 : decode cL_law 1265 = .ok (.aload_n 0, 1) := by decide +kernel
theorem dL_law_1266 : decode cL_law 1266 = .ok (.iload_n 3, 1) := by decide +kernel
theorem dL_law_1267 : decode cL_law 1267 = .ok (.iconst 1, 1) := by decide +kernel
theorem dL_law_1268 : decode cL_law 1268 = .ok (.iadd, 1) := by decide +kernel
theorem dL_law_1269 : decode cL_law 1269 = .ok (.iaload, 1) := by decide +kernel
theorem dL_law_1270 : decode cL_law 1270 = .ok (.aload_n 0, 1) := by decide +kernel
theorem dL_law_1271 : decode cL_law 1271 = .ok (.iload_n 3, 1) := by decide +kernel
theorem dL_law_1272 : decode cL_law 1272 = .ok (.iconst 2, 1) := by decide +kernel
theorem dL_law_1273 : decode cL_law 1273 = .ok (.iadd, 1) := by decide +kernel
theorem dL_law_1274 : decode cL_law 1274 = .ok (.iaload, 1) := by decide +kernel
theorem dL_law_1275 : decode cL_law 1275 = .ok (.aload_n 0, 1) := by decide +kernel
theorem dL_law_1276 : decode cL_law 1276 = .ok (.iload_n 3, 1) := by decide +kernel
theorem dL_law_1277 : decode cL_law 1277 = .ok (.iconst 3, 1) := by decide +kernel
theorem dL_law_1278 : decode cL_law 1278 = .ok (.iadd, 1) := by decide +kernel
theorem dL_law_1279 : decode cL_law 1279 = .ok (.iaload, 1) := by decide +kernel
theorem dL_law_1280 : decode cL_law 1280 = .ok (.invokevirtual 172, 3) := by decide +kernel
theorem lk_RL_172 : Cond.methodLink RL 172 yX12_time ∈ gW := gW_t 1947 (by decide +kernel) rfl
theorem mI_X12_time : Cond.instanceMethod yX12_time ∈ gW := gW_t 1948 (by decide +kernel) rfl
theorem mS_X12_time : Cond.selects RX12 yX12_time yX12_time ∈ gW := gW_t 1949 (by decide +kernel) rfl
theorem mC_X12_time : Cond.code yX12_time cX12_time 10 (some .long) ∈ gW := gW_t 1950 (by decide +kernel) rfl
theorem ok_X12_time : okD yX12_time 3 := ⟨by decide +kernel, by decide +kernel, by decide +kernel⟩
theorem dL_law_1283 : decode cL_law 1283 = .ok (.lcmp, 1) := by decide +kernel
theorem dL_law_1284 : decode cL_law 1284 = .ok (.ifCond .eq 176, 3) := by decide +kernel
theorem dL_law_1289 : decode cL_law 1289 = .ok (.aload_n 1, 1) := by decide +kernel
theorem dL_law_1290 : decode cL_law 1290 = .ok (.aload_n 0, 1) := by decide +kernel
theorem dL_law_1291 : decode cL_law 1291 = .ok (.iload_n 3, 1) := by decide +kernel
theorem dL_law_1292 : decode cL_law 1292 = .ok (.iconst 1, 1) := by decide +kernel
theorem dL_law_1293 : decode cL_law 1293 = .ok (.iadd, 1) := by decide +kernel
theorem dL_law_1294 : decode cL_law 1294 = .ok (.iaload, 1) := by decide +kernel
theorem dL_law_1295 : decode cL_law 1295 = .ok (.invokevirtual 173, 3) := by decide +kernel
theorem lk_RL_173 : Cond.methodLink RL 173 yX11_compare ∈ gW := gW_t 1204 (by decide +kernel) rfl
theorem mI_X11_compare : Cond.instanceMethod yX11_compare ∈ gW := gW_t 1205 (by decide +kernel) rfl
theorem mS_X11_compare : Cond.selects RX11 yX11_compare yX11_compare ∈ gW := gW_t 1206 (by decide +kernel) rfl
theorem mC_X11_compare : Cond.code yX11_compare cX11_compare 5 (some .int) ∈ gW := gW_t 1207 (by decide +kernel) rfl
theorem ok_X11_compare : okD yX11_compare 1 := ⟨by decide +kernel, by decide +kernel, by decide +kernel⟩
theorem dL_law_1298 : decode cL_law 1298 = .ok (.aload_n 2, 1) := by decide +kernel
theorem dL_law_1299 : decode cL_law 1299 = .ok (.aload_n 0, 1) := by decide +kernel
theorem dL_law_1300 : decode cL_law 1300 = .ok (.iload_n 3, 1) := by decide +kernel
theorem dL_law_1301 : decode cL_law 1301 = .ok (.iconst 1, 1) := by decide +kernel
theorem dL_law_1302 : decode cL_law 1302 = .ok (.iadd, 1) := by decide +kernel
theorem dL_law_1303 : decode cL_law 1303 = .ok (.iaload, 1) := by decide +kernel
theorem dL_law_1304 : decode cL_law 1304 = .ok (.invokevirtual 176, 3) := by decide +kernel
theorem lk_RL_176 : Cond.methodLink RL 176 yX12_compare ∈ gW := gW_t 1953 (by decide +kernel) rfl
theorem mI_X12_compare : Cond.instanceMethod yX12_compare ∈ gW := gW_t 1954 (by decide +kernel) rfl
theorem mS_X12_compare : Cond.selects RX12 yX12_compare yX12_compare ∈ gW := gW_t 1955 (by decide +kernel) rfl
theorem mC_X12_compare : Cond.code yX12_compare cX12_compare 5 (some .int) ∈ gW := gW_t 1956 (by decide +kernel) rfl
theorem ok_X12_compare : okD yX12_compare 1 := ⟨by decide +kernel, by decide +kernel, by decide +kernel⟩
theorem dL_law_1307 : decode cL_law 1307 = .ok (.if_icmp .eq 153, 3) := by decide +kernel
theorem dL_law_1312 : decode cL_law 1312 = .ok (.aload_n 1, 1) := by decide +kernel
theorem dL_law_1313 : decode cL_law 1313 = .ok (.aload_n 0, 1) := by decide +kernel
theorem dL_law_1314 : decode cL_law 1314 = .ok (.iload_n 3, 1) := by decide +kernel
theorem dL_law_1315 : decode cL_law 1315 = .ok (.iconst 1, 1) := by decide +kernel
theorem dL_law_1316 : decode cL_law 1316 = .ok (.iadd, 1) := by decide +kernel
theorem dL_law_1317 : decode cL_law 1317 = .ok (.iaload, 1) := by decide +kernel
theorem dL_law_1318 : decode cL_law 1318 = .ok (.aload_n 0, 1) := by decide +kernel
theorem dL_law_1319 : decode cL_law 1319 = .ok (.iload_n 3, 1) := by decide +kernel
theorem dL_law_1320 : decode cL_law 1320 = .ok (.iconst 2, 1) := by decide +kernel
theorem dL_law_1321 : decode cL_law 1321 = .ok (.iadd, 1) := by decide +kernel
theorem dL_law_1322 : decode cL_law 1322 = .ok (.iaload, 1) := by decide +kernel
theorem dL_law_1323 : decode cL_law 1323 = .ok (.invokevirtual 177, 3) := by decide +kernel
theorem lk_RL_177 : Cond.methodLink RL 177 yX11_seasons ∈ gW := gW_t 1209 (by decide +kernel) rfl
theorem mI_X11_seasons : Cond.instanceMethod yX11_seasons ∈ gW := gW_t 1210 (by decide +kernel) rfl
theorem mS_X11_seasons : Cond.selects RX11 yX11_seasons yX11_seasons ∈ gW := gW_t 1211 (by decide +kernel) rfl
theorem mC_X11_seasons : Cond.code yX11_seasons cX11_seasons 3 (some .int) ∈ gW := gW_t 1212 (by decide +kernel) rfl
theorem ok_X11_seasons : okD yX11_seasons 2 := ⟨by decide +kernel, by decide +kernel, by decide +kernel⟩
theorem dL_law_1326 : decode cL_law 1326 = .ok (.aload_n 2, 1) := by decide +kernel
theorem dL_law_1327 : decode cL_law 1327 = .ok (.aload_n 0, 1) := by decide +kernel
theorem dL_law_1328 : decode cL_law 1328 = .ok (.iload_n 3, 1) := by decide +kernel
theorem dL_law_1329 : decode cL_law 1329 = .ok (.iconst 1, 1) := by decide +kernel
theorem dL_law_1330 : decode cL_law 1330 = .ok (.iadd, 1) := by decide +kernel
theorem dL_law_1331 : decode cL_law 1331 = .ok (.iaload, 1) := by decide +kernel
theorem dL_law_1332 : decode cL_law 1332 = .ok (.aload_n 0, 1) := by decide +kernel
theorem dL_law_1333 : decode cL_law 1333 = .ok (.iload_n 3, 1) := by decide +kernel
theorem dL_law_1334 : decode cL_law 1334 = .ok (.iconst 2, 1) := by decide +kernel
theorem dL_law_1335 : decode cL_law 1335 = .ok (.iadd, 1) := by decide +kernel
theorem dL_law_1336 : decode cL_law 1336 = .ok (.iaload, 1) := by decide +kernel
theorem dL_law_1337 : decode cL_law 1337 = .ok (.invokevirtual 180, 3) := by decide +kernel
theorem lk_RL_180 : Cond.methodLink RL 180 yX12_seasons ∈ gW := gW_t 1992 (by decide +kernel) rfl
theorem mI_X12_seasons : Cond.instanceMethod yX12_seasons ∈ gW := gW_t 1993 (by decide +kernel) rfl
theorem mS_X12_seasons : Cond.selects RX12 yX12_seasons yX12_seasons ∈ gW := gW_t 1994 (by decide +kernel) rfl
theorem mC_X12_seasons : Cond.code yX12_seasons cX12_seasons 7 (some .int) ∈ gW := gW_t 1995 (by decide +kernel) rfl
theorem ok_X12_seasons : okD yX12_seasons 2 := ⟨by decide +kernel, by decide +kernel, by decide +kernel⟩
theorem dL_law_1340 : decode cL_law 1340 = .ok (.if_icmp .eq 120, 3) := by decide +kernel
theorem dL_law_1345 : decode cL_law 1345 = .ok (.aload_n 1, 1) := by decide +kernel
theorem dL_law_1346 : decode cL_law 1346 = .ok (.aload_n 0, 1) := by decide +kernel
theorem dL_law_1347 : decode cL_law 1347 = .ok (.iload_n 3, 1) := by decide +kernel
theorem dL_law_1348 : decode cL_law 1348 = .ok (.iconst 1, 1) := by decide +kernel
theorem dL_law_1349 : decode cL_law 1349 = .ok (.iadd, 1) := by decide +kernel
theorem dL_law_1350 : decode cL_law 1350 = .ok (.iaload, 1) := by decide +kernel
theorem dL_law_1351 : decode cL_law 1351 = .ok (.aload_n 0, 1) := by decide +kernel
theorem dL_law_1352 : decode cL_law 1352 = .ok (.iload_n 3, 1) := by decide +kernel
theorem dL_law_1353 : decode cL_law 1353 = .ok (.iconst 2, 1) := by decide +kernel
theorem dL_law_1354 : decode cL_law 1354 = .ok (.iadd, 1) := by decide +kernel
theorem dL_law_1355 : decode cL_law 1355 = .ok (.iaload, 1) := by decide +kernel
theorem dL_law_1356 : decode cL_law 1356 = .ok (.invokevirtual 181, 3) := by decide +kernel
theorem lk_RL_181 : Cond.methodLink RL 181 yX11_drawn ∈ gW := gW_t 1224 (by decide +kernel) rfl
theorem mI_X11_drawn : Cond.instanceMethod yX11_drawn ∈ gW := gW_t 1225 (by decide +kernel) rfl
theorem mS_X11_drawn : Cond.selects RX11 yX11_drawn yX11_drawn ∈ gW := gW_t 1226 (by decide +kernel) rfl
theorem mC_X11_drawn : Cond.code yX11_drawn cX11_drawn 3 (some .int) ∈ gW := gW_t 1227 (by decide +kernel) rfl
theorem ok_X11_drawn : okD yX11_drawn 2 := ⟨by decide +kernel, by decide +kernel, by decide +kernel⟩
theorem dL_law_1359 : decode cL_law 1359 = .ok (.aload_n 2, 1) := by decide +kernel
theorem dL_law_1360 : decode cL_law 1360 = .ok (.aload_n 0, 1) := by decide +kernel
theorem dL_law_1361 : decode cL_law 1361 = .ok (.iload_n 3, 1) := by decide +kernel
theorem dL_law_1362 : decode cL_law 1362 = .ok (.iconst 1, 1) := by decide +kernel
theorem dL_law_1363 : decode cL_law 1363 = .ok (.iadd, 1) := by decide +kernel
theorem dL_law_1364 : decode cL_law 1364 = .ok (.iaload, 1) := by decide +kernel
theorem dL_law_1365 : decode cL_law 1365 = .ok (.aload_n 0, 1) := by decide +kernel
theorem dL_law_1366 : decode cL_law 1366 = .ok (.iload_n 3, 1) := by decide +kernel
theorem dL_law_1367 : decode cL_law 1367 = .ok (.iconst 2, 1) := by decide +kernel
theorem dL_law_1368 : decode cL_law 1368 = .ok (.iadd, 1) := by decide +kernel
theorem dL_law_1369 : decode cL_law 1369 = .ok (.iaload, 1) := by decide +kernel
theorem dL_law_1370 : decode cL_law 1370 = .ok (.invokevirtual 184, 3) := by decide +kernel
theorem lk_RL_184 : Cond.methodLink RL 184 yX12_drawn ∈ gW := gW_t 2004 (by decide +kernel) rfl
theorem mI_X12_drawn : Cond.instanceMethod yX12_drawn ∈ gW := gW_t 2005 (by decide +kernel) rfl
theorem mS_X12_drawn : Cond.selects RX12 yX12_drawn yX12_drawn ∈ gW := gW_t 2006 (by decide +kernel) rfl
theorem mC_X12_drawn : Cond.code yX12_drawn cX12_drawn 3 (some .int) ∈ gW := gW_t 2007 (by decide +kernel) rfl
theorem ok_X12_drawn : okD yX12_drawn 2 := ⟨by decide +kernel, by decide +kernel, by decide +kernel⟩
theorem dL_law_1373 : decode cL_law 1373 = .ok (.if_icmp .eq 87, 3) := by decide +kernel
theorem dL_law_1378 : decode cL_law 1378 = .ok (.aload_n 1, 1) := by decide +kernel
theorem dL_law_1379 : decode cL_law 1379 = .ok (.aload_n 0, 1) := by decide +kernel
theorem dL_law_1380 : decode cL_law 1380 = .ok (.iload_n 3, 1) := by decide +kernel
theorem dL_law_1381 : decode cL_law 1381 = .ok (.iconst 1, 1) := by decide +kernel
theorem dL_law_1382 : decode cL_law 1382 = .ok (.iadd, 1) := by decide +kernel
theorem dL_law_1383 : decode cL_law 1383 = .ok (.iaload, 1) := by decide +kernel
theorem dL_law_1384 : decode cL_law 1384 = .ok (.invokevirtual 185, 3) := by decide +kernel
theorem lk_RL_185 : Cond.methodLink RL 185 yX11_image ∈ gW := gW_t 1228 (by decide +kernel) rfl
theorem mI_X11_image : Cond.instanceMethod yX11_image ∈ gW := gW_t 1229 (by decide +kernel) rfl
theorem mS_X11_image : Cond.selects RX11 yX11_image yX11_image ∈ gW := gW_t 1230 (by decide +kernel) rfl
theorem mC_X11_image : Cond.code yX11_image cX11_image 2 (some .int) ∈ gW := gW_t 1231 (by decide +kernel) rfl
theorem ok_X11_image : okD yX11_image 1 := ⟨by decide +kernel, by decide +kernel, by decide +kernel⟩
theorem dL_law_1387 : decode cL_law 1387 = .ok (.aload_n 2, 1) := by decide +kernel
theorem dL_law_1388 : decode cL_law 1388 = .ok (.aload_n 0, 1) := by decide +kernel
theorem dL_law_1389 : decode cL_law 1389 = .ok (.iload_n 3, 1) := by decide +kernel
theorem dL_law_1390 : decode cL_law 1390 = .ok (.iconst 1, 1) := by decide +kernel
theorem dL_law_1391 : decode cL_law 1391 = .ok (.iadd, 1) := by decide +kernel
theorem dL_law_1392 : decode cL_law 1392 = .ok (.iaload, 1) := by decide +kernel
theorem dL_law_1393 : decode cL_law 1393 = .ok (.invokevirtual 188, 3) := by decide +kernel
theorem lk_RL_188 : Cond.methodLink RL 188 yX12_image ∈ gW := gW_t 1463 (by decide +kernel) rfl
theorem mI_X12_image : Cond.instanceMethod yX12_image ∈ gW := gW_t 1464 (by decide +kernel) rfl
theorem mS_X12_image : Cond.selects RX12 yX12_image yX12_image ∈ gW := gW_t 1465 (by decide +kernel) rfl
theorem mC_X12_image : Cond.code yX12_image cX12_image 3 (some .int) ∈ gW := gW_t 1466 (by decide +kernel) rfl
theorem ok_X12_image : okD yX12_image 1 := ⟨by decide +kernel, by decide +kernel, by decide +kernel⟩
theorem dL_law_1396 : decode cL_law 1396 = .ok (.if_icmp .eq 64, 3) := by decide +kernel
theorem dL_law_1401 : decode cL_law 1401 = .ok (.aload_n 1, 1) := by decide +kernel
theorem dL_law_1402 : decode cL_law 1402 = .ok (.aload_n 0, 1) := by decide +kernel
theorem dL_law_1403 : decode cL_law 1403 = .ok (.iload_n 3, 1) := by decide +kernel
theorem dL_law_1404 : decode cL_law 1404 = .ok (.iconst 1, 1) := by decide +kernel
theorem dL_law_1405 : decode cL_law 1405 = .ok (.iadd, 1) := by decide +kernel
theorem dL_law_1406 : decode cL_law 1406 = .ok (.iaload, 1) := by decide +kernel
theorem dL_law_1407 : decode cL_law 1407 = .ok (.invokevirtual 189, 3) := by decide +kernel
theorem lk_RL_189 : Cond.methodLink RL 189 yX11_back ∈ gW := gW_t 1233 (by decide +kernel) rfl
theorem mI_X11_back : Cond.instanceMethod yX11_back ∈ gW := gW_t 1234 (by decide +kernel) rfl
theorem mS_X11_back : Cond.selects RX11 yX11_back yX11_back ∈ gW := gW_t 1235 (by decide +kernel) rfl
theorem mC_X11_back : Cond.code yX11_back cX11_back 2 (some .int) ∈ gW := gW_t 1236 (by decide +kernel) rfl
theorem ok_X11_back : okD yX11_back 1 := ⟨by decide +kernel, by decide +kernel, by decide +kernel⟩
theorem dL_law_1410 : decode cL_law 1410 = .ok (.aload_n 2, 1) := by decide +kernel
theorem dL_law_1411 : decode cL_law 1411 = .ok (.aload_n 0, 1) := by decide +kernel
theorem dL_law_1412 : decode cL_law 1412 = .ok (.iload_n 3, 1) := by decide +kernel
theorem dL_law_1413 : decode cL_law 1413 = .ok (.iconst 1, 1) := by decide +kernel
theorem dL_law_1414 : decode cL_law 1414 = .ok (.iadd, 1) := by decide +kernel
theorem dL_law_1415 : decode cL_law 1415 = .ok (.iaload, 1) := by decide +kernel
theorem dL_law_1416 : decode cL_law 1416 = .ok (.invokevirtual 192, 3) := by decide +kernel
theorem lk_RL_192 : Cond.methodLink RL 192 yX12_back ∈ gW := gW_t 1470 (by decide +kernel) rfl
theorem mI_X12_back : Cond.instanceMethod yX12_back ∈ gW := gW_t 1471 (by decide +kernel) rfl
theorem mS_X12_back : Cond.selects RX12 yX12_back yX12_back ∈ gW := gW_t 1472 (by decide +kernel) rfl
theorem mC_X12_back : Cond.code yX12_back cX12_back 3 (some .int) ∈ gW := gW_t 1473 (by decide +kernel) rfl
theorem ok_X12_back : okD yX12_back 1 := ⟨by decide +kernel, by decide +kernel, by decide +kernel⟩
theorem dL_law_1419 : decode cL_law 1419 = .ok (.if_icmp .eq 41, 3) := by decide +kernel
theorem dL_law_1424 : decode cL_law 1424 = .ok (.aload_n 1, 1) := by decide +kernel
theorem dL_law_1425 : decode cL_law 1425 = .ok (.aload_n 0, 1) := by decide +kernel
theorem dL_law_1426 : decode cL_law 1426 = .ok (.iload_n 3, 1) := by decide +kernel
theorem dL_law_1427 : decode cL_law 1427 = .ok (.iconst 1, 1) := by decide +kernel
theorem dL_law_1428 : decode cL_law 1428 = .ok (.iadd, 1) := by decide +kernel
theorem dL_law_1429 : decode cL_law 1429 = .ok (.iaload, 1) := by decide +kernel
theorem dL_law_1430 : decode cL_law 1430 = .ok (.invokevirtual 193, 3) := by decide +kernel
theorem lk_RL_193 : Cond.methodLink RL 193 yX11_count ∈ gW := gW_t 1237 (by decide +kernel) rfl
theorem mI_X11_count : Cond.instanceMethod yX11_count ∈ gW := gW_t 1238 (by decide +kernel) rfl
theorem mS_X11_count : Cond.selects RX11 yX11_count yX11_count ∈ gW := gW_t 1239 (by decide +kernel) rfl
theorem mC_X11_count : Cond.code yX11_count cX11_count 3 (some .int) ∈ gW := gW_t 1240 (by decide +kernel) rfl
theorem ok_X11_count : okD yX11_count 1 := ⟨by decide +kernel, by decide +kernel, by decide +kernel⟩
theorem dL_law_1433 : decode cL_law 1433 = .ok (.aload_n 2, 1) := by decide +kernel
theorem dL_law_1434 : decode cL_law 1434 = .ok (.aload_n 0, 1) := by decide +kernel
theorem dL_law_1435 : decode cL_law 1435 = .ok (.iload_n 3, 1) := by decide +kernel
theorem dL_law_1436 : decode cL_law 1436 = .ok (.iconst 1, 1) := by decide +kernel
theorem dL_law_1437 : decode cL_law 1437 = .ok (.iadd, 1) := by decide +kernel
theorem dL_law_1438 : decode cL_law 1438 = .ok (.iaload, 1) := by decide +kernel
theorem dL_law_1439 : decode cL_law 1439 = .ok (.invokevirtual 196, 3) := by decide +kernel
theorem lk_RL_196 : Cond.methodLink RL 196 yX12_count ∈ gW := gW_t 2008 (by decide +kernel) rfl
theorem mI_X12_count : Cond.instanceMethod yX12_count ∈ gW := gW_t 2009 (by decide +kernel) rfl
theorem mS_X12_count : Cond.selects RX12 yX12_count yX12_count ∈ gW := gW_t 2010 (by decide +kernel) rfl
theorem mC_X12_count : Cond.code yX12_count cX12_count 2 (some .int) ∈ gW := gW_t 2011 (by decide +kernel) rfl
theorem ok_X12_count : okD yX12_count 1 := ⟨by decide +kernel, by decide +kernel, by decide +kernel⟩
theorem dL_law_1442 : decode cL_law 1442 = .ok (.if_icmp .eq 18, 3) := by decide +kernel
theorem dL_law_1447 : decode cL_law 1447 = .ok (.aload_n 1, 1) := by decide +kernel
theorem dL_law_1448 : decode cL_law 1448 = .ok (.invokevirtual 197, 3) := by decide +kernel
theorem lk_RL_197 : Cond.methodLink RL 197 yX11_status ∈ gW := gW_t 1241 (by decide +kernel) rfl
theorem mI_X11_status : Cond.instanceMethod yX11_status ∈ gW := gW_t 1242 (by decide +kernel) rfl
theorem mS_X11_status : Cond.selects RX11 yX11_status yX11_status ∈ gW := gW_t 1243 (by decide +kernel) rfl
theorem mC_X11_status : Cond.code yX11_status cX11_status 1 (some .int) ∈ gW := gW_t 1244 (by decide +kernel) rfl
theorem ok_X11_status : okD yX11_status 0 := ⟨by decide +kernel, by decide +kernel, by decide +kernel⟩
theorem dL_law_1451 : decode cL_law 1451 = .ok (.aload_n 2, 1) := by decide +kernel
theorem dL_law_1452 : decode cL_law 1452 = .ok (.invokevirtual 200, 3) := by decide +kernel
theorem lk_RL_200 : Cond.methodLink RL 200 yX12_status ∈ gW := gW_t 2018 (by decide +kernel) rfl
theorem mI_X12_status : Cond.instanceMethod yX12_status ∈ gW := gW_t 2019 (by decide +kernel) rfl
theorem mS_X12_status : Cond.selects RX12 yX12_status yX12_status ∈ gW := gW_t 2020 (by decide +kernel) rfl
theorem mC_X12_status : Cond.code yX12_status cX12_status 1 (some .int) ∈ gW := gW_t 2021 (by decide +kernel) rfl
theorem ok_X12_status : okD yX12_status 0 := ⟨by decide +kernel, by decide +kernel, by decide +kernel⟩
theorem dL_law_1455 : decode cL_law 1455 = .ok (.if_icmp .eq 5, 3) := by decide +kernel
