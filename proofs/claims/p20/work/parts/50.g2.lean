set_option maxRecDepth 100000 in
theorem qw_1195 : GW lw_tbl (.instanceMethod yX10_limes) := gw_s (gt_t5 (List.mem_of_getElem? (i := 158) (by exact rfl))) (by decide +kernel)
set_option maxRecDepth 100000 in
theorem qw_1196 : GW lw_tbl (.code yX10_limes cX10_limes 2 none) := gw_s (gt_t5 (List.mem_of_getElem? (i := 159) (by exact rfl))) (by decide +kernel)
set_option maxRecDepth 100000 in
theorem qw_1197 : GW lw_tbl (.methodLink RL 87 yX10_hours) := gw_s (gt_t5 (List.mem_of_getElem? (i := 160) (by exact rfl))) (by decide +kernel)
set_option maxRecDepth 100000 in
theorem qw_1198 : GW lw_tbl (.instanceMethod yX10_hours) := gw_s (gt_t5 (List.mem_of_getElem? (i := 161) (by exact rfl))) (by decide +kernel)
set_option maxRecDepth 100000 in
theorem qw_1199 : GW lw_tbl (.selects RX10 yX10_hours yX10_hours) := gw_s (gt_t5 (List.mem_of_getElem? (i := 162) (by exact rfl))) (by decide +kernel)
set_option maxRecDepth 100000 in
theorem qw_1200 : GW lw_tbl (.code yX10_hours cX10_hours 3 (some .int)) := gw_s (gt_t5 (List.mem_of_getElem? (i := 163) (by exact rfl))) (by decide +kernel)
set_option maxRecDepth 100000 in
theorem qw_1201 : GW lw_tbl (.methodLink RX10 134 yX10_hour) := gw_s (gt_t5 (List.mem_of_getElem? (i := 164) (by exact rfl))) (by decide +kernel)
set_option maxRecDepth 100000 in
theorem qw_1203 : GW lw_tbl (.instanceMethod yX10_hour) := gw_s (gt_t5 (List.mem_of_getElem? (i := 166) (by exact rfl))) (by decide +kernel)
set_option maxRecDepth 100000 in
theorem qw_1204 : GW lw_tbl (.code yX10_hour cX10_hour 2 none) := gw_s (gt_t5 (List.mem_of_getElem? (i := 167) (by exact rfl))) (by decide +kernel)
set_option maxRecDepth 100000 in
theorem qw_1205 : GW lw_tbl (.methodLink RL 91 yX10_cloth) := gw_s (gt_t5 (List.mem_of_getElem? (i := 168) (by exact rfl))) (by decide +kernel)
set_option maxRecDepth 100000 in
theorem qw_1206 : GW lw_tbl (.instanceMethod yX10_cloth) := gw_s (gt_t5 (List.mem_of_getElem? (i := 169) (by exact rfl))) (by decide +kernel)
set_option maxRecDepth 100000 in
theorem qw_1207 : GW lw_tbl (.selects RX10 yX10_cloth yX10_cloth) := gw_s (gt_t5 (List.mem_of_getElem? (i := 170) (by exact rfl))) (by decide +kernel)
set_option maxRecDepth 100000 in
theorem qw_1208 : GW lw_tbl (.code yX10_cloth cX10_cloth 2 (some .int)) := gw_s (gt_t5 (List.mem_of_getElem? (i := 171) (by exact rfl))) (by decide +kernel)
set_option maxRecDepth 100000 in
theorem qw_1209 : GW lw_tbl (.methodLink RL 95 yX10_dip) := gw_s (gt_t5 (List.mem_of_getElem? (i := 172) (by exact rfl))) (by decide +kernel)
set_option maxRecDepth 100000 in
theorem qw_1210 : GW lw_tbl (.instanceMethod yX10_dip) := gw_s (gt_t5 (List.mem_of_getElem? (i := 173) (by exact rfl))) (by decide +kernel)
set_option maxRecDepth 100000 in
theorem qw_1211 : GW lw_tbl (.selects RX10 yX10_dip yX10_dip) := gw_s (gt_t5 (List.mem_of_getElem? (i := 174) (by exact rfl))) (by decide +kernel)
set_option maxRecDepth 100000 in
theorem qw_1212 : GW lw_tbl (.code yX10_dip cX10_dip 4 (some .int)) := gw_s (gt_t5 (List.mem_of_getElem? (i := 175) (by exact rfl))) (by decide +kernel)
set_option maxRecDepth 100000 in
theorem qw_1213 : GW lw_tbl (.methodLink RX10 141 yX10_isCloth) := gw_s (gt_t5 (List.mem_of_getElem? (i := 176) (by exact rfl))) (by decide +kernel)
set_option maxRecDepth 100000 in
theorem qw_1215 : GW lw_tbl (.instanceMethod yX10_isCloth) := gw_s (gt_t5 (List.mem_of_getElem? (i := 178) (by exact rfl))) (by decide +kernel)
set_option maxRecDepth 100000 in
theorem qw_1216 : GW lw_tbl (.code yX10_isCloth cX10_isCloth 2 (some .boolean)) := gw_s (gt_t5 (List.mem_of_getElem? (i := 179) (by exact rfl))) (by decide +kernel)
set_option maxRecDepth 100000 in
theorem qw_1217 : GW lw_tbl (.methodLink RX10 144 yX10_isDry) := gw_s (gt_t5 (List.mem_of_getElem? (i := 180) (by exact rfl))) (by decide +kernel)
set_option maxRecDepth 100000 in
theorem qw_1219 : GW lw_tbl (.instanceMethod yX10_isDry) := gw_s (gt_t5 (List.mem_of_getElem? (i := 182) (by exact rfl))) (by decide +kernel)
set_option maxRecDepth 100000 in
theorem qw_1220 : GW lw_tbl (.code yX10_isDry cX10_isDry 2 (some .boolean)) := gw_s (gt_t5 (List.mem_of_getElem? (i := 183) (by exact rfl))) (by decide +kernel)
set_option maxRecDepth 100000 in
theorem qw_1221 : GW lw_tbl (.methodLink RX10 147 yX10_dips) := gw_s (gt_t5 (List.mem_of_getElem? (i := 184) (by exact rfl))) (by decide +kernel)
set_option maxRecDepth 100000 in
theorem qw_1223 : GW lw_tbl (.instanceMethod yX10_dips) := gw_s (gt_t5 (List.mem_of_getElem? (i := 186) (by exact rfl))) (by decide +kernel)
set_option maxRecDepth 100000 in
theorem qw_1224 : GW lw_tbl (.code yX10_dips cX10_dips 5 (some .int)) := gw_s (gt_t5 (List.mem_of_getElem? (i := 187) (by exact rfl))) (by decide +kernel)
set_option maxRecDepth 100000 in
theorem qw_1225 : GW lw_tbl (.methodLink RX10 137 yX10_moves) := gw_s (gt_t5 (List.mem_of_getElem? (i := 188) (by exact rfl))) (by decide +kernel)
set_option maxRecDepth 100000 in
theorem qw_1227 : GW lw_tbl (.instanceMethod yX10_moves) := gw_s (gt_t5 (List.mem_of_getElem? (i := 190) (by exact rfl))) (by decide +kernel)
set_option maxRecDepth 100000 in
theorem qw_1228 : GW lw_tbl (.code yX10_moves cX10_moves 6 (some .int)) := gw_s (gt_t5 (List.mem_of_getElem? (i := 191) (by exact rfl))) (by decide +kernel)
set_option maxRecDepth 100000 in
theorem qw_1229 : GW lw_tbl (.methodLink RL 98 yX10_treat) := gw_s (gt_t5 (List.mem_of_getElem? (i := 192) (by exact rfl))) (by decide +kernel)
set_option maxRecDepth 100000 in
theorem qw_1230 : GW lw_tbl (.instanceMethod yX10_treat) := gw_s (gt_t5 (List.mem_of_getElem? (i := 193) (by exact rfl))) (by decide +kernel)
set_option maxRecDepth 100000 in
theorem qw_1231 : GW lw_tbl (.selects RX10 yX10_treat yX10_treat) := gw_s (gt_t5 (List.mem_of_getElem? (i := 194) (by exact rfl))) (by decide +kernel)
set_option maxRecDepth 100000 in
theorem qw_1232 : GW lw_tbl (.code yX10_treat cX10_treat 4 (some .int)) := gw_s (gt_t5 (List.mem_of_getElem? (i := 195) (by exact rfl))) (by decide +kernel)
set_option maxRecDepth 100000 in
theorem qw_1233 : GW lw_tbl (.methodLink RX10 152 yX10_washes) := gw_s (gt_t5 (List.mem_of_getElem? (i := 196) (by exact rfl))) (by decide +kernel)
set_option maxRecDepth 100000 in
theorem qw_1235 : GW lw_tbl (.instanceMethod yX10_washes) := gw_s (gt_t5 (List.mem_of_getElem? (i := 198) (by exact rfl))) (by decide +kernel)
set_option maxRecDepth 100000 in
theorem qw_1236 : GW lw_tbl (.code yX10_washes cX10_washes 3 (some .int)) := gw_s (gt_t5 (List.mem_of_getElem? (i := 199) (by exact rfl))) (by decide +kernel)
set_option maxRecDepth 100000 in
theorem qw_1237 : GW lw_tbl (.methodLink RX10 156 yX10_airs) := gw_s (gt_t5 (List.mem_of_getElem? (i := 200) (by exact rfl))) (by decide +kernel)
set_option maxRecDepth 100000 in
theorem qw_1239 : GW lw_tbl (.instanceMethod yX10_airs) := gw_s (gt_t5 (List.mem_of_getElem? (i := 202) (by exact rfl))) (by decide +kernel)
set_option maxRecDepth 100000 in
theorem qw_1240 : GW lw_tbl (.code yX10_airs cX10_airs 3 (some .int)) := gw_s (gt_t5 (List.mem_of_getElem? (i := 203) (by exact rfl))) (by decide +kernel)
set_option maxRecDepth 100000 in
theorem qw_1241 : GW lw_tbl (.methodLink RL 103 yX10_put) := gw_s (gt_t5 (List.mem_of_getElem? (i := 204) (by exact rfl))) (by decide +kernel)
set_option maxRecDepth 100000 in
theorem qw_1242 : GW lw_tbl (.instanceMethod yX10_put) := gw_s (gt_t5 (List.mem_of_getElem? (i := 205) (by exact rfl))) (by decide +kernel)
set_option maxRecDepth 100000 in
theorem qw_1243 : GW lw_tbl (.selects RX10 yX10_put yX10_put) := gw_s (gt_t5 (List.mem_of_getElem? (i := 206) (by exact rfl))) (by decide +kernel)
set_option maxRecDepth 100000 in
theorem qw_1244 : GW lw_tbl (.code yX10_put cX10_put 6 (some .int)) := gw_s (gt_t5 (List.mem_of_getElem? (i := 207) (by exact rfl))) (by decide +kernel)
set_option maxRecDepth 100000 in
theorem qw_1245 : GW lw_tbl (.methodLink RX10 162 yX10_lays) := gw_s (gt_t5 (List.mem_of_getElem? (i := 208) (by exact rfl))) (by decide +kernel)
set_option maxRecDepth 100000 in
theorem qw_1247 : GW lw_tbl (.instanceMethod yX10_lays) := gw_s (gt_t5 (List.mem_of_getElem? (i := 210) (by exact rfl))) (by decide +kernel)
set_option maxRecDepth 100000 in
theorem qw_1248 : GW lw_tbl (.code yX10_lays cX10_lays 3 none) := gw_s (gt_t5 (List.mem_of_getElem? (i := 211) (by exact rfl))) (by decide +kernel)
set_option maxRecDepth 100000 in
theorem qw_1249 : GW lw_tbl (.methodLink RL 106 yX10_recipe) := gw_s (gt_t5 (List.mem_of_getElem? (i := 212) (by exact rfl))) (by decide +kernel)
set_option maxRecDepth 100000 in
theorem qw_1250 : GW lw_tbl (.instanceMethod yX10_recipe) := gw_s (gt_t5 (List.mem_of_getElem? (i := 213) (by exact rfl))) (by decide +kernel)
set_option maxRecDepth 100000 in
theorem qw_1251 : GW lw_tbl (.selects RX10 yX10_recipe yX10_recipe) := gw_s (gt_t5 (List.mem_of_getElem? (i := 214) (by exact rfl))) (by decide +kernel)
set_option maxRecDepth 100000 in
theorem qw_1252 : GW lw_tbl (.code yX10_recipe cX10_recipe 6 (some .int)) := gw_s (gt_t5 (List.mem_of_getElem? (i := 215) (by exact rfl))) (by decide +kernel)
set_option maxRecDepth 100000 in
theorem qw_1253 : GW lw_tbl (.methodLink RX10 280 yX10_steps) := gw_s (gt_t5 (List.mem_of_getElem? (i := 216) (by exact rfl))) (by decide +kernel)
set_option maxRecDepth 100000 in
theorem qw_1255 : GW lw_tbl (.instanceMethod yX10_steps) := gw_s (gt_t5 (List.mem_of_getElem? (i := 218) (by exact rfl))) (by decide +kernel)
set_option maxRecDepth 100000 in
theorem qw_1256 : GW lw_tbl (.code yX10_steps cX10_steps 5 (some .int)) := gw_s (gt_t5 (List.mem_of_getElem? (i := 219) (by exact rfl))) (by decide +kernel)
set_option maxRecDepth 100000 in
theorem qw_1257 : GW lw_tbl (.methodLink RX10 208 yX10_skip) := gw_s (gt_t5 (List.mem_of_getElem? (i := 220) (by exact rfl))) (by decide +kernel)
set_option maxRecDepth 100000 in
theorem qw_1259 : GW lw_tbl (.instanceMethod yX10_skip) := gw_s (gt_t5 (List.mem_of_getElem? (i := 222) (by exact rfl))) (by decide +kernel)
set_option maxRecDepth 100000 in
theorem qw_1260 : GW lw_tbl (.code yX10_skip cX10_skip 1 none) := gw_s (gt_t5 (List.mem_of_getElem? (i := 223) (by exact rfl))) (by decide +kernel)
set_option maxRecDepth 100000 in
theorem qw_1261 : GW lw_tbl (.methodLink RX10 228 yX10_isSign) := gw_s (gt_t5 (List.mem_of_getElem? (i := 224) (by exact rfl))) (by decide +kernel)
set_option maxRecDepth 100000 in
theorem qw_1263 : GW lw_tbl (.instanceMethod yX10_isSign) := gw_s (gt_t5 (List.mem_of_getElem? (i := 226) (by exact rfl))) (by decide +kernel)
set_option maxRecDepth 100000 in
theorem qw_1264 : GW lw_tbl (.code yX10_isSign cX10_isSign 2 (some .boolean)) := gw_s (gt_t5 (List.mem_of_getElem? (i := 227) (by exact rfl))) (by decide +kernel)
set_option maxRecDepth 100000 in
theorem qw_1265 : GW lw_tbl (.methodLink RX10 246 yX10_step) := gw_s (gt_t5 (List.mem_of_getElem? (i := 228) (by exact rfl))) (by decide +kernel)
set_option maxRecDepth 100000 in
theorem qw_1267 : GW lw_tbl (.instanceMethod yX10_step) := gw_s (gt_t5 (List.mem_of_getElem? (i := 230) (by exact rfl))) (by decide +kernel)
set_option maxRecDepth 100000 in
theorem qw_1268 : GW lw_tbl (.code yX10_step cX10_step 3 (some .int)) := gw_s (gt_t5 (List.mem_of_getElem? (i := 231) (by exact rfl))) (by decide +kernel)
set_option maxRecDepth 100000 in
theorem qw_1269 : GW lw_tbl (.methodLink RX10 234 yX10_word) := gw_s (gt_t5 (List.mem_of_getElem? (i := 232) (by exact rfl))) (by decide +kernel)
set_option maxRecDepth 100000 in
theorem qw_1271 : GW lw_tbl (.instanceMethod yX10_word) := gw_s (gt_t5 (List.mem_of_getElem? (i := 234) (by exact rfl))) (by decide +kernel)
set_option maxRecDepth 100000 in
theorem qw_1272 : GW lw_tbl (.code yX10_word cX10_word 6 (some .int)) := gw_s (gt_t5 (List.mem_of_getElem? (i := 235) (by exact rfl))) (by decide +kernel)
set_option maxRecDepth 100000 in
theorem qw_1273 : GW lw_tbl (.methodLink RX10 211 yX10_isLetter) := gw_s (gt_t5 (List.mem_of_getElem? (i := 236) (by exact rfl))) (by decide +kernel)
set_option maxRecDepth 100000 in
theorem qw_1274 : GW lw_tbl (.static yX10_isLetter) := gw_s (gt_t5 (List.mem_of_getElem? (i := 237) (by exact rfl))) (by decide +kernel)
set_option maxRecDepth 100000 in
theorem qw_1275 : GW lw_tbl (.code yX10_isLetter cX10_isLetter 1 (some .boolean)) := gw_s (gt_t5 (List.mem_of_getElem? (i := 238) (by exact rfl))) (by decide +kernel)
set_option maxRecDepth 100000 in
theorem qw_1276 : GW lw_tbl (.methodLink RX10 214 yX10_nameOf) := gw_s (gt_t5 (List.mem_of_getElem? (i := 239) (by exact rfl))) (by decide +kernel)
set_option maxRecDepth 100000 in
theorem qw_1277 : GW lw_tbl (.static yX10_nameOf) := gw_s (gt_t6 (List.mem_of_getElem? (i := 0) (by exact rfl))) (by decide +kernel)
set_option maxRecDepth 100000 in
theorem qw_1278 : GW lw_tbl (.code yX10_nameOf cX10_nameOf 1 (some (.object "java/lang/String"))) := gw_s (gt_t6 (List.mem_of_getElem? (i := 1) (by exact rfl))) (by decide +kernel)
set_option maxRecDepth 100000 in
theorem qw_1298 : GW lw_tbl (.methodLink RX10 218 yJ0_length_8abf5) := gw_s (gt_t6 (List.mem_of_getElem? (i := 21) (by exact rfl))) (by decide +kernel)
set_option maxRecDepth 100000 in
theorem qw_1299 : GW lw_tbl (.methodLink RX10 224 yJ0_charAt_5068e) := gw_s (gt_t6 (List.mem_of_getElem? (i := 22) (by exact rfl))) (by decide +kernel)
set_option maxRecDepth 100000 in
theorem qw_1300 : GW lw_tbl (.methodLink RX10 231 yX10_wrong) := gw_s (gt_t6 (List.mem_of_getElem? (i := 23) (by exact rfl))) (by decide +kernel)
set_option maxRecDepth 100000 in
theorem qw_1302 : GW lw_tbl (.instanceMethod yX10_wrong) := gw_s (gt_t6 (List.mem_of_getElem? (i := 25) (by exact rfl))) (by decide +kernel)
set_option maxRecDepth 100000 in
theorem qw_1303 : GW lw_tbl (.code yX10_wrong cX10_wrong 3 (some .boolean)) := gw_s (gt_t6 (List.mem_of_getElem? (i := 26) (by exact rfl))) (by decide +kernel)
set_option maxRecDepth 100000 in
theorem qw_1304 : GW lw_tbl (.methodLink RX10 237 yX10_pass) := gw_s (gt_t6 (List.mem_of_getElem? (i := 27) (by exact rfl))) (by decide +kernel)
set_option maxRecDepth 100000 in
theorem qw_1306 : GW lw_tbl (.instanceMethod yX10_pass) := gw_s (gt_t6 (List.mem_of_getElem? (i := 29) (by exact rfl))) (by decide +kernel)
set_option maxRecDepth 100000 in
theorem qw_1307 : GW lw_tbl (.code yX10_pass cX10_pass 2 none) := gw_s (gt_t6 (List.mem_of_getElem? (i := 30) (by exact rfl))) (by decide +kernel)
set_option maxRecDepth 100000 in
theorem qw_1308 : GW lw_tbl (.methodLink RX10 252 yX10_rest) := gw_s (gt_t6 (List.mem_of_getElem? (i := 31) (by exact rfl))) (by decide +kernel)
set_option maxRecDepth 100000 in
theorem qw_1310 : GW lw_tbl (.instanceMethod yX10_rest) := gw_s (gt_t6 (List.mem_of_getElem? (i := 33) (by exact rfl))) (by decide +kernel)
set_option maxRecDepth 100000 in
theorem qw_1311 : GW lw_tbl (.code yX10_rest cX10_rest 2 (some .boolean)) := gw_s (gt_t6 (List.mem_of_getElem? (i := 34) (by exact rfl))) (by decide +kernel)
set_option maxRecDepth 100000 in
theorem qw_1312 : GW lw_tbl (.methodLink RX10 254 yX10_numbers) := gw_s (gt_t6 (List.mem_of_getElem? (i := 35) (by exact rfl))) (by decide +kernel)
set_option maxRecDepth 100000 in
theorem qw_1314 : GW lw_tbl (.instanceMethod yX10_numbers) := gw_s (gt_t6 (List.mem_of_getElem? (i := 37) (by exact rfl))) (by decide +kernel)
set_option maxRecDepth 100000 in
theorem qw_1315 : GW lw_tbl (.code yX10_numbers cX10_numbers 4 (some .boolean)) := gw_s (gt_t6 (List.mem_of_getElem? (i := 38) (by exact rfl))) (by decide +kernel)
set_option maxRecDepth 100000 in
theorem qw_1316 : GW lw_tbl (.methodLink RX10 261 yX10_single) := gw_s (gt_t6 (List.mem_of_getElem? (i := 39) (by exact rfl))) (by decide +kernel)
set_option maxRecDepth 100000 in
theorem qw_1318 : GW lw_tbl (.instanceMethod yX10_single) := gw_s (gt_t6 (List.mem_of_getElem? (i := 41) (by exact rfl))) (by decide +kernel)
set_option maxRecDepth 100000 in
theorem qw_1319 : GW lw_tbl (.code yX10_single cX10_single 4 (some .boolean)) := gw_s (gt_t6 (List.mem_of_getElem? (i := 42) (by exact rfl))) (by decide +kernel)
set_option maxRecDepth 100000 in
theorem qw_1320 : GW lw_tbl (.methodLink RX10 274 yX10_number) := gw_s (gt_t6 (List.mem_of_getElem? (i := 43) (by exact rfl))) (by decide +kernel)
set_option maxRecDepth 100000 in
theorem qw_1322 : GW lw_tbl (.instanceMethod yX10_number) := gw_s (gt_t6 (List.mem_of_getElem? (i := 45) (by exact rfl))) (by decide +kernel)
set_option maxRecDepth 100000 in
theorem qw_1323 : GW lw_tbl (.code yX10_number cX10_number 4 (some .boolean)) := gw_s (gt_t6 (List.mem_of_getElem? (i := 46) (by exact rfl))) (by decide +kernel)
set_option maxRecDepth 100000 in
theorem qw_1324 : GW lw_tbl (.methodLink RX10 240 yX10_isDigit) := gw_s (gt_t6 (List.mem_of_getElem? (i := 47) (by exact rfl))) (by decide +kernel)
set_option maxRecDepth 100000 in
theorem qw_1325 : GW lw_tbl (.static yX10_isDigit) := gw_s (gt_t6 (List.mem_of_getElem? (i := 48) (by exact rfl))) (by decide +kernel)
set_option maxRecDepth 100000 in
theorem qw_1326 : GW lw_tbl (.code yX10_isDigit cX10_isDigit 1 (some .boolean)) := gw_s (gt_t6 (List.mem_of_getElem? (i := 49) (by exact rfl))) (by decide +kernel)
set_option maxRecDepth 100000 in
theorem qw_1327 : GW lw_tbl (.methodLink RX10 258 yX10_need) := gw_s (gt_t6 (List.mem_of_getElem? (i := 50) (by exact rfl))) (by decide +kernel)
set_option maxRecDepth 100000 in
theorem qw_1329 : GW lw_tbl (.instanceMethod yX10_need) := gw_s (gt_t6 (List.mem_of_getElem? (i := 52) (by exact rfl))) (by decide +kernel)
set_option maxRecDepth 100000 in
theorem qw_1330 : GW lw_tbl (.code yX10_need cX10_need 2 (some .boolean)) := gw_s (gt_t6 (List.mem_of_getElem? (i := 53) (by exact rfl))) (by decide +kernel)
set_option maxRecDepth 100000 in
theorem qw_1331 : GW lw_tbl (.methodLink RX10 264 yX10_block) := gw_s (gt_t6 (List.mem_of_getElem? (i := 54) (by exact rfl))) (by decide +kernel)
set_option maxRecDepth 100000 in
theorem qw_1333 : GW lw_tbl (.instanceMethod yX10_block) := gw_s (gt_t6 (List.mem_of_getElem? (i := 56) (by exact rfl))) (by decide +kernel)
set_option maxRecDepth 100000 in
theorem qw_1334 : GW lw_tbl (.code yX10_block cX10_block 4 (some .boolean)) := gw_s (gt_t6 (List.mem_of_getElem? (i := 57) (by exact rfl))) (by decide +kernel)
set_option maxRecDepth 100000 in
theorem qw_1335 : GW lw_tbl (.methodLink RX10 268 yX10_test) := gw_s (gt_t6 (List.mem_of_getElem? (i := 58) (by exact rfl))) (by decide +kernel)
set_option maxRecDepth 100000 in
theorem qw_1337 : GW lw_tbl (.instanceMethod yX10_test) := gw_s (gt_t6 (List.mem_of_getElem? (i := 60) (by exact rfl))) (by decide +kernel)
set_option maxRecDepth 100000 in
theorem qw_1338 : GW lw_tbl (.code yX10_test cX10_test 3 (some .boolean)) := gw_s (gt_t6 (List.mem_of_getElem? (i := 61) (by exact rfl))) (by decide +kernel)
set_option maxRecDepth 100000 in
theorem qw_1339 : GW lw_tbl (.methodLink RX10 271 yX10_needWord) := gw_s (gt_t6 (List.mem_of_getElem? (i := 62) (by exact rfl))) (by decide +kernel)
set_option maxRecDepth 100000 in
theorem qw_1341 : GW lw_tbl (.instanceMethod yX10_needWord) := gw_s (gt_t6 (List.mem_of_getElem? (i := 64) (by exact rfl))) (by decide +kernel)
set_option maxRecDepth 100000 in
theorem qw_1342 : GW lw_tbl (.code yX10_needWord cX10_needWord 2 (some .boolean)) := gw_s (gt_t6 (List.mem_of_getElem? (i := 65) (by exact rfl))) (by decide +kernel)
set_option maxRecDepth 100000 in
theorem qw_1343 : GW lw_tbl (.methodLink RL 109 yX10_fault) := gw_s (gt_t6 (List.mem_of_getElem? (i := 66) (by exact rfl))) (by decide +kernel)
set_option maxRecDepth 100000 in
theorem qw_1344 : GW lw_tbl (.instanceMethod yX10_fault) := gw_s (gt_t6 (List.mem_of_getElem? (i := 67) (by exact rfl))) (by decide +kernel)
set_option maxRecDepth 100000 in
theorem qw_1345 : GW lw_tbl (.selects RX10 yX10_fault yX10_fault) := gw_s (gt_t6 (List.mem_of_getElem? (i := 68) (by exact rfl))) (by decide +kernel)
set_option maxRecDepth 100000 in
theorem qw_1346 : GW lw_tbl (.code yX10_fault cX10_fault 2 (some .int)) := gw_s (gt_t6 (List.mem_of_getElem? (i := 69) (by exact rfl))) (by decide +kernel)
set_option maxRecDepth 100000 in
theorem qw_1347 : GW lw_tbl (.methodLink RL 112 yX10_run) := gw_s (gt_t6 (List.mem_of_getElem? (i := 70) (by exact rfl))) (by decide +kernel)
set_option maxRecDepth 100000 in
theorem qw_1348 : GW lw_tbl (.instanceMethod yX10_run) := gw_s (gt_t6 (List.mem_of_getElem? (i := 71) (by exact rfl))) (by decide +kernel)
set_option maxRecDepth 100000 in
theorem qw_1349 : GW lw_tbl (.selects RX10 yX10_run yX10_run) := gw_s (gt_t6 (List.mem_of_getElem? (i := 72) (by exact rfl))) (by decide +kernel)
set_option maxRecDepth 100000 in
theorem qw_1350 : GW lw_tbl (.code yX10_run cX10_run 5 (some .int)) := gw_s (gt_t6 (List.mem_of_getElem? (i := 73) (by exact rfl))) (by decide +kernel)
set_option maxRecDepth 100000 in
theorem qw_1351 : GW lw_tbl (.methodLink RX10 319 yX10_row) := gw_s (gt_t6 (List.mem_of_getElem? (i := 74) (by exact rfl))) (by decide +kernel)
set_option maxRecDepth 100000 in
theorem qw_1353 : GW lw_tbl (.instanceMethod yX10_row) := gw_s (gt_t6 (List.mem_of_getElem? (i := 76) (by exact rfl))) (by decide +kernel)
set_option maxRecDepth 100000 in
theorem qw_1354 : GW lw_tbl (.code yX10_row cX10_row 5 (some .int)) := gw_s (gt_t6 (List.mem_of_getElem? (i := 77) (by exact rfl))) (by decide +kernel)
set_option maxRecDepth 100000 in
theorem qw_1355 : GW lw_tbl (.methodLink RX10 293 yX10_does) := gw_s (gt_t6 (List.mem_of_getElem? (i := 78) (by exact rfl))) (by decide +kernel)
set_option maxRecDepth 100000 in
theorem qw_1357 : GW lw_tbl (.instanceMethod yX10_does) := gw_s (gt_t6 (List.mem_of_getElem? (i := 80) (by exact rfl))) (by decide +kernel)
set_option maxRecDepth 100000 in
theorem qw_1358 : GW lw_tbl (.code yX10_does cX10_does 3 (some .int)) := gw_s (gt_t6 (List.mem_of_getElem? (i := 81) (by exact rfl))) (by decide +kernel)
set_option maxRecDepth 100000 in
theorem qw_1359 : GW lw_tbl (.methodLink RX10 297 yX10_counts) := gw_s (gt_t6 (List.mem_of_getElem? (i := 82) (by exact rfl))) (by decide +kernel)
set_option maxRecDepth 100000 in
theorem qw_1361 : GW lw_tbl (.instanceMethod yX10_counts) := gw_s (gt_t6 (List.mem_of_getElem? (i := 84) (by exact rfl))) (by decide +kernel)
set_option maxRecDepth 100000 in
theorem qw_1362 : GW lw_tbl (.code yX10_counts cX10_counts 1 (some .boolean)) := gw_s (gt_t6 (List.mem_of_getElem? (i := 85) (by exact rfl))) (by decide +kernel)
set_option maxRecDepth 100000 in
theorem qw_1363 : GW lw_tbl (.methodLink RX10 301 yX10_dipped) := gw_s (gt_t6 (List.mem_of_getElem? (i := 86) (by exact rfl))) (by decide +kernel)
set_option maxRecDepth 100000 in
theorem qw_1365 : GW lw_tbl (.instanceMethod yX10_dipped) := gw_s (gt_t6 (List.mem_of_getElem? (i := 88) (by exact rfl))) (by decide +kernel)
set_option maxRecDepth 100000 in
theorem qw_1366 : GW lw_tbl (.code yX10_dipped cX10_dipped 4 (some .int)) := gw_s (gt_t6 (List.mem_of_getElem? (i := 89) (by exact rfl))) (by decide +kernel)
set_option maxRecDepth 100000 in
theorem qw_1367 : GW lw_tbl (.methodLink RX10 304 yX10_rested) := gw_s (gt_t6 (List.mem_of_getElem? (i := 90) (by exact rfl))) (by decide +kernel)
set_option maxRecDepth 100000 in
theorem qw_1369 : GW lw_tbl (.instanceMethod yX10_rested) := gw_s (gt_t6 (List.mem_of_getElem? (i := 92) (by exact rfl))) (by decide +kernel)
set_option maxRecDepth 100000 in
theorem qw_1370 : GW lw_tbl (.code yX10_rested cX10_rested 3 (some .int)) := gw_s (gt_t6 (List.mem_of_getElem? (i := 93) (by exact rfl))) (by decide +kernel)
set_option maxRecDepth 100000 in
theorem qw_1371 : GW lw_tbl (.methodLink RX10 307 yX10_doesBlocks) := gw_s (gt_t6 (List.mem_of_getElem? (i := 94) (by exact rfl))) (by decide +kernel)
set_option maxRecDepth 100000 in
theorem qw_1373 : GW lw_tbl (.instanceMethod yX10_doesBlocks) := gw_s (gt_t6 (List.mem_of_getElem? (i := 96) (by exact rfl))) (by decide +kernel)
set_option maxRecDepth 100000 in
theorem qw_1374 : GW lw_tbl (.code yX10_doesBlocks cX10_doesBlocks 5 (some .int)) := gw_s (gt_t6 (List.mem_of_getElem? (i := 97) (by exact rfl))) (by decide +kernel)
set_option maxRecDepth 100000 in
theorem qw_1375 : GW lw_tbl (.methodLink RX10 322 yX10_shadeOf) := gw_s (gt_t6 (List.mem_of_getElem? (i := 98) (by exact rfl))) (by decide +kernel)
set_option maxRecDepth 100000 in
theorem qw_1377 : GW lw_tbl (.instanceMethod yX10_shadeOf) := gw_s (gt_t6 (List.mem_of_getElem? (i := 100) (by exact rfl))) (by decide +kernel)
set_option maxRecDepth 100000 in
theorem qw_1378 : GW lw_tbl (.code yX10_shadeOf cX10_shadeOf 2 (some .int)) := gw_s (gt_t6 (List.mem_of_getElem? (i := 101) (by exact rfl))) (by decide +kernel)
set_option maxRecDepth 100000 in
theorem qw_1379 : GW lw_tbl (.methodLink RX10 325 yX10_holds) := gw_s (gt_t6 (List.mem_of_getElem? (i := 102) (by exact rfl))) (by decide +kernel)
set_option maxRecDepth 100000 in
theorem qw_1381 : GW lw_tbl (.instanceMethod yX10_holds) := gw_s (gt_t6 (List.mem_of_getElem? (i := 104) (by exact rfl))) (by decide +kernel)
set_option maxRecDepth 100000 in
theorem qw_1382 : GW lw_tbl (.code yX10_holds cX10_holds 4 (some .boolean)) := gw_s (gt_t6 (List.mem_of_getElem? (i := 105) (by exact rfl))) (by decide +kernel)
set_option maxRecDepth 100000 in
theorem qw_1383 : GW lw_tbl (.methodLink RL 115 yX10_ran) := gw_s (gt_t6 (List.mem_of_getElem? (i := 106) (by exact rfl))) (by decide +kernel)
set_option maxRecDepth 100000 in
theorem qw_1384 : GW lw_tbl (.instanceMethod yX10_ran) := gw_s (gt_t6 (List.mem_of_getElem? (i := 107) (by exact rfl))) (by decide +kernel)
set_option maxRecDepth 100000 in
theorem qw_1385 : GW lw_tbl (.selects RX10 yX10_ran yX10_ran) := gw_s (gt_t6 (List.mem_of_getElem? (i := 108) (by exact rfl))) (by decide +kernel)
set_option maxRecDepth 100000 in
theorem qw_1386 : GW lw_tbl (.code yX10_ran cX10_ran 2 (some .int)) := gw_s (gt_t6 (List.mem_of_getElem? (i := 109) (by exact rfl))) (by decide +kernel)
set_option maxRecDepth 100000 in
theorem qw_1387 : GW lw_tbl (.methodLink RL 119 yX10_plan) := gw_s (gt_t6 (List.mem_of_getElem? (i := 110) (by exact rfl))) (by decide +kernel)
set_option maxRecDepth 100000 in
theorem qw_1388 : GW lw_tbl (.instanceMethod yX10_plan) := gw_s (gt_t6 (List.mem_of_getElem? (i := 111) (by exact rfl))) (by decide +kernel)
set_option maxRecDepth 100000 in
theorem qw_1389 : GW lw_tbl (.selects RX10 yX10_plan yX10_plan) := gw_s (gt_t6 (List.mem_of_getElem? (i := 112) (by exact rfl))) (by decide +kernel)
set_option maxRecDepth 100000 in
theorem qw_1390 : GW lw_tbl (.code yX10_plan cX10_plan 6 (some .int)) := gw_s (gt_t6 (List.mem_of_getElem? (i := 113) (by exact rfl))) (by decide +kernel)
set_option maxRecDepth 100000 in
theorem qw_1391 : GW lw_tbl (.methodLink RX10 339 yX10_leads) := gw_s (gt_t6 (List.mem_of_getElem? (i := 114) (by exact rfl))) (by decide +kernel)
set_option maxRecDepth 100000 in
theorem qw_1393 : GW lw_tbl (.instanceMethod yX10_leads) := gw_s (gt_t6 (List.mem_of_getElem? (i := 116) (by exact rfl))) (by decide +kernel)
set_option maxRecDepth 100000 in
theorem qw_1394 : GW lw_tbl (.code yX10_leads cX10_leads 9 (some .boolean)) := gw_s (gt_t6 (List.mem_of_getElem? (i := 117) (by exact rfl))) (by decide +kernel)
set_option maxRecDepth 100000 in
theorem qw_1395 : GW lw_tbl (.methodLink RX10 331 yX10_keeps) := gw_s (gt_t6 (List.mem_of_getElem? (i := 118) (by exact rfl))) (by decide +kernel)
set_option maxRecDepth 100000 in
theorem qw_1397 : GW lw_tbl (.instanceMethod yX10_keeps) := gw_s (gt_t6 (List.mem_of_getElem? (i := 120) (by exact rfl))) (by decide +kernel)
set_option maxRecDepth 100000 in
theorem qw_1398 : GW lw_tbl (.code yX10_keeps cX10_keeps 5 none) := gw_s (gt_t6 (List.mem_of_getElem? (i := 121) (by exact rfl))) (by decide +kernel)
set_option maxRecDepth 100000 in
theorem qw_1399 : GW lw_tbl (.methodLink RX10 335 yX10_thinks) := gw_s (gt_t6 (List.mem_of_getElem? (i := 122) (by exact rfl))) (by decide +kernel)
set_option maxRecDepth 100000 in
theorem qw_1401 : GW lw_tbl (.instanceMethod yX10_thinks) := gw_s (gt_t6 (List.mem_of_getElem? (i := 124) (by exact rfl))) (by decide +kernel)
set_option maxRecDepth 100000 in
theorem qw_1402 : GW lw_tbl (.code yX10_thinks cX10_thinks 5 none) := gw_s (gt_t6 (List.mem_of_getElem? (i := 125) (by exact rfl))) (by decide +kernel)
set_option maxRecDepth 100000 in
theorem qw_1403 : GW lw_tbl (.methodLink RX10 343 yX10_restores) := gw_s (gt_t6 (List.mem_of_getElem? (i := 126) (by exact rfl))) (by decide +kernel)
set_option maxRecDepth 100000 in
theorem qw_1405 : GW lw_tbl (.instanceMethod yX10_restores) := gw_s (gt_t6 (List.mem_of_getElem? (i := 128) (by exact rfl))) (by decide +kernel)
set_option maxRecDepth 100000 in
theorem qw_1406 : GW lw_tbl (.code yX10_restores cX10_restores 5 none) := gw_s (gt_t6 (List.mem_of_getElem? (i := 129) (by exact rfl))) (by decide +kernel)
set_option maxRecDepth 100000 in
theorem qw_1407 : GW lw_tbl (.methodLink RL 122 yX10_planned) := gw_s (gt_t6 (List.mem_of_getElem? (i := 130) (by exact rfl))) (by decide +kernel)
set_option maxRecDepth 100000 in
theorem qw_1408 : GW lw_tbl (.instanceMethod yX10_planned) := gw_s (gt_t6 (List.mem_of_getElem? (i := 131) (by exact rfl))) (by decide +kernel)
set_option maxRecDepth 100000 in
theorem qw_1409 : GW lw_tbl (.selects RX10 yX10_planned yX10_planned) := gw_s (gt_t6 (List.mem_of_getElem? (i := 132) (by exact rfl))) (by decide +kernel)
set_option maxRecDepth 100000 in
theorem qw_1410 : GW lw_tbl (.code yX10_planned cX10_planned 3 (some .int)) := gw_s (gt_t6 (List.mem_of_getElem? (i := 133) (by exact rfl))) (by decide +kernel)
set_option maxRecDepth 100000 in
theorem qw_1411 : GW lw_tbl (.methodLink RL 125 yX10_vat) := gw_s (gt_t6 (List.mem_of_getElem? (i := 134) (by exact rfl))) (by decide +kernel)
set_option maxRecDepth 100000 in
theorem qw_1412 : GW lw_tbl (.instanceMethod yX10_vat) := gw_s (gt_t6 (List.mem_of_getElem? (i := 135) (by exact rfl))) (by decide +kernel)
set_option maxRecDepth 100000 in
theorem qw_1413 : GW lw_tbl (.selects RX10 yX10_vat yX10_vat) := gw_s (gt_t6 (List.mem_of_getElem? (i := 136) (by exact rfl))) (by decide +kernel)
set_option maxRecDepth 100000 in
theorem qw_1414 : GW lw_tbl (.code yX10_vat cX10_vat 3 (some .int)) := gw_s (gt_t6 (List.mem_of_getElem? (i := 137) (by exact rfl))) (by decide +kernel)
set_option maxRecDepth 100000 in
theorem qw_1415 : GW lw_tbl (.methodLink RL 128 yX10_about) := gw_s (gt_t6 (List.mem_of_getElem? (i := 138) (by exact rfl))) (by decide +kernel)
set_option maxRecDepth 100000 in
theorem qw_1416 : GW lw_tbl (.instanceMethod yX10_about) := gw_s (gt_t6 (List.mem_of_getElem? (i := 139) (by exact rfl))) (by decide +kernel)
set_option maxRecDepth 100000 in
theorem qw_1417 : GW lw_tbl (.selects RX10 yX10_about yX10_about) := gw_s (gt_t6 (List.mem_of_getElem? (i := 140) (by exact rfl))) (by decide +kernel)
set_option maxRecDepth 100000 in
theorem qw_1418 : GW lw_tbl (.code yX10_about cX10_about 3 (some .int)) := gw_s (gt_t6 (List.mem_of_getElem? (i := 141) (by exact rfl))) (by decide +kernel)
set_option maxRecDepth 100000 in
theorem qw_1419 : GW lw_tbl (.methodLink RL 131 yX10_count) := gw_s (gt_t6 (List.mem_of_getElem? (i := 142) (by exact rfl))) (by decide +kernel)
set_option maxRecDepth 100000 in
theorem qw_1420 : GW lw_tbl (.instanceMethod yX10_count) := gw_s (gt_t6 (List.mem_of_getElem? (i := 143) (by exact rfl))) (by decide +kernel)
set_option maxRecDepth 100000 in
theorem qw_1421 : GW lw_tbl (.selects RX10 yX10_count yX10_count) := gw_s (gt_t6 (List.mem_of_getElem? (i := 144) (by exact rfl))) (by decide +kernel)
set_option maxRecDepth 100000 in
theorem qw_1422 : GW lw_tbl (.code yX10_count cX10_count 2 (some .int)) := gw_s (gt_t6 (List.mem_of_getElem? (i := 145) (by exact rfl))) (by decide +kernel)
set_option maxRecDepth 100000 in
theorem qw_1423 : GW lw_tbl (.methodLink RL 134 yX10_faded) := gw_s (gt_t6 (List.mem_of_getElem? (i := 146) (by exact rfl))) (by decide +kernel)
set_option maxRecDepth 100000 in
theorem qw_1424 : GW lw_tbl (.instanceMethod yX10_faded) := gw_s (gt_t6 (List.mem_of_getElem? (i := 147) (by exact rfl))) (by decide +kernel)
set_option maxRecDepth 100000 in
theorem qw_1425 : GW lw_tbl (.selects RX10 yX10_faded yX10_faded) := gw_s (gt_t6 (List.mem_of_getElem? (i := 148) (by exact rfl))) (by decide +kernel)
set_option maxRecDepth 100000 in
theorem qw_1426 : GW lw_tbl (.code yX10_faded cX10_faded 4 (some .int)) := gw_s (gt_t6 (List.mem_of_getElem? (i := 149) (by exact rfl))) (by decide +kernel)
set_option maxRecDepth 100000 in
theorem qw_1427 : GW lw_tbl (.methodLink RX10 349 yX10_hasSpan) := gw_s (gt_t6 (List.mem_of_getElem? (i := 150) (by exact rfl))) (by decide +kernel)
set_option maxRecDepth 100000 in
theorem qw_1429 : GW lw_tbl (.instanceMethod yX10_hasSpan) := gw_s (gt_t6 (List.mem_of_getElem? (i := 152) (by exact rfl))) (by decide +kernel)
set_option maxRecDepth 100000 in
theorem qw_1430 : GW lw_tbl (.code yX10_hasSpan cX10_hasSpan 3 (some .boolean)) := gw_s (gt_t6 (List.mem_of_getElem? (i := 153) (by exact rfl))) (by decide +kernel)
set_option maxRecDepth 100000 in
theorem qw_1431 : GW lw_tbl (.methodLink RX10 352 yX10_fadedTo) := gw_s (gt_t6 (List.mem_of_getElem? (i := 154) (by exact rfl))) (by decide +kernel)
set_option maxRecDepth 100000 in
theorem qw_1433 : GW lw_tbl (.instanceMethod yX10_fadedTo) := gw_s (gt_t6 (List.mem_of_getElem? (i := 156) (by exact rfl))) (by decide +kernel)
set_option maxRecDepth 100000 in
theorem qw_1434 : GW lw_tbl (.code yX10_fadedTo cX10_fadedTo 6 (some .int)) := gw_s (gt_t6 (List.mem_of_getElem? (i := 157) (by exact rfl))) (by decide +kernel)
set_option maxRecDepth 100000 in
theorem qw_1435 : GW lw_tbl (.methodLink RL 137 yX10_matching) := gw_s (gt_t6 (List.mem_of_getElem? (i := 158) (by exact rfl))) (by decide +kernel)
set_option maxRecDepth 100000 in
theorem qw_1436 : GW lw_tbl (.instanceMethod yX10_matching) := gw_s (gt_t6 (List.mem_of_getElem? (i := 159) (by exact rfl))) (by decide +kernel)
set_option maxRecDepth 100000 in
theorem qw_1437 : GW lw_tbl (.selects RX10 yX10_matching yX10_matching) := gw_s (gt_t6 (List.mem_of_getElem? (i := 160) (by exact rfl))) (by decide +kernel)
set_option maxRecDepth 100000 in
theorem qw_1438 : GW lw_tbl (.code yX10_matching cX10_matching 5 (some .int)) := gw_s (gt_t6 (List.mem_of_getElem? (i := 161) (by exact rfl))) (by decide +kernel)
set_option maxRecDepth 100000 in
theorem qw_1456 : GW lw_tbl (.fieldLink RJ0 9 "java/lang/String" "value" "[B") := gw_s (gt_t6 (List.mem_of_getElem? (i := 179) (by exact rfl))) (by decide +kernel)
set_option maxRecDepth 100000 in
theorem qw_1457 : GW lw_tbl (.fieldLink RJ0 15 "java/lang/String" "coder" "B") := gw_s (gt_t6 (List.mem_of_getElem? (i := 180) (by exact rfl))) (by decide +kernel)
