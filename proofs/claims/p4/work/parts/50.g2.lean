set_option maxRecDepth 100000 in
theorem qw_1195 : GW lw_tbl (.instanceMethod yX10_limes) := gw_of (i := 1195) (by decide +kernel) (by decide +kernel)
set_option maxRecDepth 100000 in
theorem qw_1196 : GW lw_tbl (.code yX10_limes cX10_limes 2 none) := gw_of (i := 1196) (by decide +kernel) (by decide +kernel)
set_option maxRecDepth 100000 in
theorem qw_1197 : GW lw_tbl (.methodLink RL 91 yX10_hours) := gw_of (i := 1197) (by decide +kernel) (by decide +kernel)
set_option maxRecDepth 100000 in
theorem qw_1198 : GW lw_tbl (.instanceMethod yX10_hours) := gw_of (i := 1198) (by decide +kernel) (by decide +kernel)
set_option maxRecDepth 100000 in
theorem qw_1199 : GW lw_tbl (.selects RX10 yX10_hours yX10_hours) := gw_of (i := 1199) (by decide +kernel) (by decide +kernel)
set_option maxRecDepth 100000 in
theorem qw_1200 : GW lw_tbl (.code yX10_hours cX10_hours 3 (some .int)) := gw_of (i := 1200) (by decide +kernel) (by decide +kernel)
set_option maxRecDepth 100000 in
theorem qw_1201 : GW lw_tbl (.methodLink RX10 134 yX10_hour) := gw_of (i := 1201) (by decide +kernel) (by decide +kernel)
set_option maxRecDepth 100000 in
theorem qw_1203 : GW lw_tbl (.instanceMethod yX10_hour) := gw_of (i := 1203) (by decide +kernel) (by decide +kernel)
set_option maxRecDepth 100000 in
theorem qw_1204 : GW lw_tbl (.code yX10_hour cX10_hour 2 none) := gw_of (i := 1204) (by decide +kernel) (by decide +kernel)
set_option maxRecDepth 100000 in
theorem qw_1205 : GW lw_tbl (.methodLink RL 95 yX10_cloth) := gw_of (i := 1205) (by decide +kernel) (by decide +kernel)
set_option maxRecDepth 100000 in
theorem qw_1206 : GW lw_tbl (.instanceMethod yX10_cloth) := gw_of (i := 1206) (by decide +kernel) (by decide +kernel)
set_option maxRecDepth 100000 in
theorem qw_1207 : GW lw_tbl (.selects RX10 yX10_cloth yX10_cloth) := gw_of (i := 1207) (by decide +kernel) (by decide +kernel)
set_option maxRecDepth 100000 in
theorem qw_1208 : GW lw_tbl (.code yX10_cloth cX10_cloth 2 (some .int)) := gw_of (i := 1208) (by decide +kernel) (by decide +kernel)
set_option maxRecDepth 100000 in
theorem qw_1209 : GW lw_tbl (.methodLink RL 99 yX10_dip) := gw_of (i := 1209) (by decide +kernel) (by decide +kernel)
set_option maxRecDepth 100000 in
theorem qw_1210 : GW lw_tbl (.instanceMethod yX10_dip) := gw_of (i := 1210) (by decide +kernel) (by decide +kernel)
set_option maxRecDepth 100000 in
theorem qw_1211 : GW lw_tbl (.selects RX10 yX10_dip yX10_dip) := gw_of (i := 1211) (by decide +kernel) (by decide +kernel)
set_option maxRecDepth 100000 in
theorem qw_1212 : GW lw_tbl (.code yX10_dip cX10_dip 4 (some .int)) := gw_of (i := 1212) (by decide +kernel) (by decide +kernel)
set_option maxRecDepth 100000 in
theorem qw_1213 : GW lw_tbl (.methodLink RX10 141 yX10_isCloth) := gw_of (i := 1213) (by decide +kernel) (by decide +kernel)
set_option maxRecDepth 100000 in
theorem qw_1215 : GW lw_tbl (.instanceMethod yX10_isCloth) := gw_of (i := 1215) (by decide +kernel) (by decide +kernel)
set_option maxRecDepth 100000 in
theorem qw_1216 : GW lw_tbl (.code yX10_isCloth cX10_isCloth 2 (some .boolean)) := gw_of (i := 1216) (by decide +kernel) (by decide +kernel)
set_option maxRecDepth 100000 in
theorem qw_1217 : GW lw_tbl (.methodLink RX10 144 yX10_isDry) := gw_of (i := 1217) (by decide +kernel) (by decide +kernel)
set_option maxRecDepth 100000 in
theorem qw_1219 : GW lw_tbl (.instanceMethod yX10_isDry) := gw_of (i := 1219) (by decide +kernel) (by decide +kernel)
set_option maxRecDepth 100000 in
theorem qw_1220 : GW lw_tbl (.code yX10_isDry cX10_isDry 2 (some .boolean)) := gw_of (i := 1220) (by decide +kernel) (by decide +kernel)
set_option maxRecDepth 100000 in
theorem qw_1221 : GW lw_tbl (.methodLink RX10 147 yX10_dips) := gw_of (i := 1221) (by decide +kernel) (by decide +kernel)
set_option maxRecDepth 100000 in
theorem qw_1223 : GW lw_tbl (.instanceMethod yX10_dips) := gw_of (i := 1223) (by decide +kernel) (by decide +kernel)
set_option maxRecDepth 100000 in
theorem qw_1224 : GW lw_tbl (.code yX10_dips cX10_dips 5 (some .int)) := gw_of (i := 1224) (by decide +kernel) (by decide +kernel)
set_option maxRecDepth 100000 in
theorem qw_1225 : GW lw_tbl (.methodLink RX10 137 yX10_moves) := gw_of (i := 1225) (by decide +kernel) (by decide +kernel)
set_option maxRecDepth 100000 in
theorem qw_1227 : GW lw_tbl (.instanceMethod yX10_moves) := gw_of (i := 1227) (by decide +kernel) (by decide +kernel)
set_option maxRecDepth 100000 in
theorem qw_1228 : GW lw_tbl (.code yX10_moves cX10_moves 6 (some .int)) := gw_of (i := 1228) (by decide +kernel) (by decide +kernel)
set_option maxRecDepth 100000 in
theorem qw_1229 : GW lw_tbl (.methodLink RL 102 yX10_treat) := gw_of (i := 1229) (by decide +kernel) (by decide +kernel)
set_option maxRecDepth 100000 in
theorem qw_1230 : GW lw_tbl (.instanceMethod yX10_treat) := gw_of (i := 1230) (by decide +kernel) (by decide +kernel)
set_option maxRecDepth 100000 in
theorem qw_1231 : GW lw_tbl (.selects RX10 yX10_treat yX10_treat) := gw_of (i := 1231) (by decide +kernel) (by decide +kernel)
set_option maxRecDepth 100000 in
theorem qw_1232 : GW lw_tbl (.code yX10_treat cX10_treat 4 (some .int)) := gw_of (i := 1232) (by decide +kernel) (by decide +kernel)
set_option maxRecDepth 100000 in
theorem qw_1233 : GW lw_tbl (.methodLink RX10 152 yX10_washes) := gw_of (i := 1233) (by decide +kernel) (by decide +kernel)
set_option maxRecDepth 100000 in
theorem qw_1235 : GW lw_tbl (.instanceMethod yX10_washes) := gw_of (i := 1235) (by decide +kernel) (by decide +kernel)
set_option maxRecDepth 100000 in
theorem qw_1236 : GW lw_tbl (.code yX10_washes cX10_washes 3 (some .int)) := gw_of (i := 1236) (by decide +kernel) (by decide +kernel)
set_option maxRecDepth 100000 in
theorem qw_1237 : GW lw_tbl (.methodLink RX10 156 yX10_airs) := gw_of (i := 1237) (by decide +kernel) (by decide +kernel)
set_option maxRecDepth 100000 in
theorem qw_1239 : GW lw_tbl (.instanceMethod yX10_airs) := gw_of (i := 1239) (by decide +kernel) (by decide +kernel)
set_option maxRecDepth 100000 in
theorem qw_1240 : GW lw_tbl (.code yX10_airs cX10_airs 3 (some .int)) := gw_of (i := 1240) (by decide +kernel) (by decide +kernel)
set_option maxRecDepth 100000 in
theorem qw_1241 : GW lw_tbl (.methodLink RL 107 yX10_put) := gw_of (i := 1241) (by decide +kernel) (by decide +kernel)
set_option maxRecDepth 100000 in
theorem qw_1242 : GW lw_tbl (.instanceMethod yX10_put) := gw_of (i := 1242) (by decide +kernel) (by decide +kernel)
set_option maxRecDepth 100000 in
theorem qw_1243 : GW lw_tbl (.selects RX10 yX10_put yX10_put) := gw_of (i := 1243) (by decide +kernel) (by decide +kernel)
set_option maxRecDepth 100000 in
theorem qw_1244 : GW lw_tbl (.code yX10_put cX10_put 6 (some .int)) := gw_of (i := 1244) (by decide +kernel) (by decide +kernel)
set_option maxRecDepth 100000 in
theorem qw_1245 : GW lw_tbl (.methodLink RX10 162 yX10_lays) := gw_of (i := 1245) (by decide +kernel) (by decide +kernel)
set_option maxRecDepth 100000 in
theorem qw_1247 : GW lw_tbl (.instanceMethod yX10_lays) := gw_of (i := 1247) (by decide +kernel) (by decide +kernel)
set_option maxRecDepth 100000 in
theorem qw_1248 : GW lw_tbl (.code yX10_lays cX10_lays 3 none) := gw_of (i := 1248) (by decide +kernel) (by decide +kernel)
set_option maxRecDepth 100000 in
theorem qw_1249 : GW lw_tbl (.methodLink RL 110 yX10_recipe) := gw_of (i := 1249) (by decide +kernel) (by decide +kernel)
set_option maxRecDepth 100000 in
theorem qw_1250 : GW lw_tbl (.instanceMethod yX10_recipe) := gw_of (i := 1250) (by decide +kernel) (by decide +kernel)
set_option maxRecDepth 100000 in
theorem qw_1251 : GW lw_tbl (.selects RX10 yX10_recipe yX10_recipe) := gw_of (i := 1251) (by decide +kernel) (by decide +kernel)
set_option maxRecDepth 100000 in
theorem qw_1252 : GW lw_tbl (.code yX10_recipe cX10_recipe 6 (some .int)) := gw_of (i := 1252) (by decide +kernel) (by decide +kernel)
set_option maxRecDepth 100000 in
theorem qw_1253 : GW lw_tbl (.methodLink RX10 280 yX10_steps) := gw_of (i := 1253) (by decide +kernel) (by decide +kernel)
set_option maxRecDepth 100000 in
theorem qw_1255 : GW lw_tbl (.instanceMethod yX10_steps) := gw_of (i := 1255) (by decide +kernel) (by decide +kernel)
set_option maxRecDepth 100000 in
theorem qw_1256 : GW lw_tbl (.code yX10_steps cX10_steps 5 (some .int)) := gw_of (i := 1256) (by decide +kernel) (by decide +kernel)
set_option maxRecDepth 100000 in
theorem qw_1257 : GW lw_tbl (.methodLink RX10 208 yX10_skip) := gw_of (i := 1257) (by decide +kernel) (by decide +kernel)
set_option maxRecDepth 100000 in
theorem qw_1259 : GW lw_tbl (.instanceMethod yX10_skip) := gw_of (i := 1259) (by decide +kernel) (by decide +kernel)
set_option maxRecDepth 100000 in
theorem qw_1260 : GW lw_tbl (.code yX10_skip cX10_skip 1 none) := gw_of (i := 1260) (by decide +kernel) (by decide +kernel)
set_option maxRecDepth 100000 in
theorem qw_1261 : GW lw_tbl (.methodLink RX10 228 yX10_isSign) := gw_of (i := 1261) (by decide +kernel) (by decide +kernel)
set_option maxRecDepth 100000 in
theorem qw_1263 : GW lw_tbl (.instanceMethod yX10_isSign) := gw_of (i := 1263) (by decide +kernel) (by decide +kernel)
set_option maxRecDepth 100000 in
theorem qw_1264 : GW lw_tbl (.code yX10_isSign cX10_isSign 2 (some .boolean)) := gw_of (i := 1264) (by decide +kernel) (by decide +kernel)
set_option maxRecDepth 100000 in
theorem qw_1265 : GW lw_tbl (.methodLink RX10 246 yX10_step) := gw_of (i := 1265) (by decide +kernel) (by decide +kernel)
set_option maxRecDepth 100000 in
theorem qw_1267 : GW lw_tbl (.instanceMethod yX10_step) := gw_of (i := 1267) (by decide +kernel) (by decide +kernel)
set_option maxRecDepth 100000 in
theorem qw_1268 : GW lw_tbl (.code yX10_step cX10_step 3 (some .int)) := gw_of (i := 1268) (by decide +kernel) (by decide +kernel)
set_option maxRecDepth 100000 in
theorem qw_1269 : GW lw_tbl (.methodLink RX10 234 yX10_word) := gw_of (i := 1269) (by decide +kernel) (by decide +kernel)
set_option maxRecDepth 100000 in
theorem qw_1271 : GW lw_tbl (.instanceMethod yX10_word) := gw_of (i := 1271) (by decide +kernel) (by decide +kernel)
set_option maxRecDepth 100000 in
theorem qw_1272 : GW lw_tbl (.code yX10_word cX10_word 6 (some .int)) := gw_of (i := 1272) (by decide +kernel) (by decide +kernel)
set_option maxRecDepth 100000 in
theorem qw_1273 : GW lw_tbl (.methodLink RX10 211 yX10_isLetter) := gw_of (i := 1273) (by decide +kernel) (by decide +kernel)
set_option maxRecDepth 100000 in
theorem qw_1274 : GW lw_tbl (.static yX10_isLetter) := gw_of (i := 1274) (by decide +kernel) (by decide +kernel)
set_option maxRecDepth 100000 in
theorem qw_1275 : GW lw_tbl (.code yX10_isLetter cX10_isLetter 1 (some .boolean)) := gw_of (i := 1275) (by decide +kernel) (by decide +kernel)
set_option maxRecDepth 100000 in
theorem qw_1276 : GW lw_tbl (.methodLink RX10 214 yX10_nameOf) := gw_of (i := 1276) (by decide +kernel) (by decide +kernel)
set_option maxRecDepth 100000 in
theorem qw_1277 : GW lw_tbl (.static yX10_nameOf) := gw_of (i := 1277) (by decide +kernel) (by decide +kernel)
set_option maxRecDepth 100000 in
theorem qw_1278 : GW lw_tbl (.code yX10_nameOf cX10_nameOf 1 (some (.object "java/lang/String"))) := gw_of (i := 1278) (by decide +kernel) (by decide +kernel)
set_option maxRecDepth 100000 in
theorem qw_1298 : GW lw_tbl (.methodLink RX10 218 yJ0_length_8abf5) := gw_of (i := 1298) (by decide +kernel) (by decide +kernel)
set_option maxRecDepth 100000 in
theorem qw_1299 : GW lw_tbl (.methodLink RX10 224 yJ0_charAt_5068e) := gw_of (i := 1299) (by decide +kernel) (by decide +kernel)
set_option maxRecDepth 100000 in
theorem qw_1300 : GW lw_tbl (.methodLink RX10 231 yX10_wrong) := gw_of (i := 1300) (by decide +kernel) (by decide +kernel)
set_option maxRecDepth 100000 in
theorem qw_1302 : GW lw_tbl (.instanceMethod yX10_wrong) := gw_of (i := 1302) (by decide +kernel) (by decide +kernel)
set_option maxRecDepth 100000 in
theorem qw_1303 : GW lw_tbl (.code yX10_wrong cX10_wrong 3 (some .boolean)) := gw_of (i := 1303) (by decide +kernel) (by decide +kernel)
set_option maxRecDepth 100000 in
theorem qw_1304 : GW lw_tbl (.methodLink RX10 237 yX10_pass) := gw_of (i := 1304) (by decide +kernel) (by decide +kernel)
set_option maxRecDepth 100000 in
theorem qw_1306 : GW lw_tbl (.instanceMethod yX10_pass) := gw_of (i := 1306) (by decide +kernel) (by decide +kernel)
set_option maxRecDepth 100000 in
theorem qw_1307 : GW lw_tbl (.code yX10_pass cX10_pass 2 none) := gw_of (i := 1307) (by decide +kernel) (by decide +kernel)
set_option maxRecDepth 100000 in
theorem qw_1308 : GW lw_tbl (.methodLink RX10 252 yX10_rest) := gw_of (i := 1308) (by decide +kernel) (by decide +kernel)
set_option maxRecDepth 100000 in
theorem qw_1310 : GW lw_tbl (.instanceMethod yX10_rest) := gw_of (i := 1310) (by decide +kernel) (by decide +kernel)
set_option maxRecDepth 100000 in
theorem qw_1311 : GW lw_tbl (.code yX10_rest cX10_rest 2 (some .boolean)) := gw_of (i := 1311) (by decide +kernel) (by decide +kernel)
set_option maxRecDepth 100000 in
theorem qw_1312 : GW lw_tbl (.methodLink RX10 254 yX10_numbers) := gw_of (i := 1312) (by decide +kernel) (by decide +kernel)
set_option maxRecDepth 100000 in
theorem qw_1314 : GW lw_tbl (.instanceMethod yX10_numbers) := gw_of (i := 1314) (by decide +kernel) (by decide +kernel)
set_option maxRecDepth 100000 in
theorem qw_1315 : GW lw_tbl (.code yX10_numbers cX10_numbers 4 (some .boolean)) := gw_of (i := 1315) (by decide +kernel) (by decide +kernel)
set_option maxRecDepth 100000 in
theorem qw_1316 : GW lw_tbl (.methodLink RX10 261 yX10_single) := gw_of (i := 1316) (by decide +kernel) (by decide +kernel)
set_option maxRecDepth 100000 in
theorem qw_1318 : GW lw_tbl (.instanceMethod yX10_single) := gw_of (i := 1318) (by decide +kernel) (by decide +kernel)
set_option maxRecDepth 100000 in
theorem qw_1319 : GW lw_tbl (.code yX10_single cX10_single 4 (some .boolean)) := gw_of (i := 1319) (by decide +kernel) (by decide +kernel)
set_option maxRecDepth 100000 in
theorem qw_1320 : GW lw_tbl (.methodLink RX10 274 yX10_number) := gw_of (i := 1320) (by decide +kernel) (by decide +kernel)
set_option maxRecDepth 100000 in
theorem qw_1322 : GW lw_tbl (.instanceMethod yX10_number) := gw_of (i := 1322) (by decide +kernel) (by decide +kernel)
set_option maxRecDepth 100000 in
theorem qw_1323 : GW lw_tbl (.code yX10_number cX10_number 4 (some .boolean)) := gw_of (i := 1323) (by decide +kernel) (by decide +kernel)
set_option maxRecDepth 100000 in
theorem qw_1324 : GW lw_tbl (.methodLink RX10 240 yX10_isDigit) := gw_of (i := 1324) (by decide +kernel) (by decide +kernel)
set_option maxRecDepth 100000 in
theorem qw_1325 : GW lw_tbl (.static yX10_isDigit) := gw_of (i := 1325) (by decide +kernel) (by decide +kernel)
set_option maxRecDepth 100000 in
theorem qw_1326 : GW lw_tbl (.code yX10_isDigit cX10_isDigit 1 (some .boolean)) := gw_of (i := 1326) (by decide +kernel) (by decide +kernel)
set_option maxRecDepth 100000 in
theorem qw_1327 : GW lw_tbl (.methodLink RX10 258 yX10_need) := gw_of (i := 1327) (by decide +kernel) (by decide +kernel)
set_option maxRecDepth 100000 in
theorem qw_1329 : GW lw_tbl (.instanceMethod yX10_need) := gw_of (i := 1329) (by decide +kernel) (by decide +kernel)
set_option maxRecDepth 100000 in
theorem qw_1330 : GW lw_tbl (.code yX10_need cX10_need 2 (some .boolean)) := gw_of (i := 1330) (by decide +kernel) (by decide +kernel)
set_option maxRecDepth 100000 in
theorem qw_1331 : GW lw_tbl (.methodLink RX10 264 yX10_block) := gw_of (i := 1331) (by decide +kernel) (by decide +kernel)
set_option maxRecDepth 100000 in
theorem qw_1333 : GW lw_tbl (.instanceMethod yX10_block) := gw_of (i := 1333) (by decide +kernel) (by decide +kernel)
set_option maxRecDepth 100000 in
theorem qw_1334 : GW lw_tbl (.code yX10_block cX10_block 4 (some .boolean)) := gw_of (i := 1334) (by decide +kernel) (by decide +kernel)
set_option maxRecDepth 100000 in
theorem qw_1335 : GW lw_tbl (.methodLink RX10 268 yX10_test) := gw_of (i := 1335) (by decide +kernel) (by decide +kernel)
set_option maxRecDepth 100000 in
theorem qw_1337 : GW lw_tbl (.instanceMethod yX10_test) := gw_of (i := 1337) (by decide +kernel) (by decide +kernel)
set_option maxRecDepth 100000 in
theorem qw_1338 : GW lw_tbl (.code yX10_test cX10_test 3 (some .boolean)) := gw_of (i := 1338) (by decide +kernel) (by decide +kernel)
set_option maxRecDepth 100000 in
theorem qw_1339 : GW lw_tbl (.methodLink RX10 271 yX10_needWord) := gw_of (i := 1339) (by decide +kernel) (by decide +kernel)
set_option maxRecDepth 100000 in
theorem qw_1341 : GW lw_tbl (.instanceMethod yX10_needWord) := gw_of (i := 1341) (by decide +kernel) (by decide +kernel)
set_option maxRecDepth 100000 in
theorem qw_1342 : GW lw_tbl (.code yX10_needWord cX10_needWord 2 (some .boolean)) := gw_of (i := 1342) (by decide +kernel) (by decide +kernel)
set_option maxRecDepth 100000 in
theorem qw_1343 : GW lw_tbl (.methodLink RL 113 yX10_fault) := gw_of (i := 1343) (by decide +kernel) (by decide +kernel)
set_option maxRecDepth 100000 in
theorem qw_1344 : GW lw_tbl (.instanceMethod yX10_fault) := gw_of (i := 1344) (by decide +kernel) (by decide +kernel)
set_option maxRecDepth 100000 in
theorem qw_1345 : GW lw_tbl (.selects RX10 yX10_fault yX10_fault) := gw_of (i := 1345) (by decide +kernel) (by decide +kernel)
set_option maxRecDepth 100000 in
theorem qw_1346 : GW lw_tbl (.code yX10_fault cX10_fault 2 (some .int)) := gw_of (i := 1346) (by decide +kernel) (by decide +kernel)
set_option maxRecDepth 100000 in
theorem qw_1347 : GW lw_tbl (.methodLink RL 116 yX10_run) := gw_of (i := 1347) (by decide +kernel) (by decide +kernel)
set_option maxRecDepth 100000 in
theorem qw_1348 : GW lw_tbl (.instanceMethod yX10_run) := gw_of (i := 1348) (by decide +kernel) (by decide +kernel)
set_option maxRecDepth 100000 in
theorem qw_1349 : GW lw_tbl (.selects RX10 yX10_run yX10_run) := gw_of (i := 1349) (by decide +kernel) (by decide +kernel)
set_option maxRecDepth 100000 in
theorem qw_1350 : GW lw_tbl (.code yX10_run cX10_run 5 (some .int)) := gw_of (i := 1350) (by decide +kernel) (by decide +kernel)
set_option maxRecDepth 100000 in
theorem qw_1351 : GW lw_tbl (.methodLink RX10 319 yX10_row) := gw_of (i := 1351) (by decide +kernel) (by decide +kernel)
set_option maxRecDepth 100000 in
theorem qw_1353 : GW lw_tbl (.instanceMethod yX10_row) := gw_of (i := 1353) (by decide +kernel) (by decide +kernel)
set_option maxRecDepth 100000 in
theorem qw_1354 : GW lw_tbl (.code yX10_row cX10_row 5 (some .int)) := gw_of (i := 1354) (by decide +kernel) (by decide +kernel)
set_option maxRecDepth 100000 in
theorem qw_1355 : GW lw_tbl (.methodLink RX10 293 yX10_does) := gw_of (i := 1355) (by decide +kernel) (by decide +kernel)
set_option maxRecDepth 100000 in
theorem qw_1357 : GW lw_tbl (.instanceMethod yX10_does) := gw_of (i := 1357) (by decide +kernel) (by decide +kernel)
set_option maxRecDepth 100000 in
theorem qw_1358 : GW lw_tbl (.code yX10_does cX10_does 3 (some .int)) := gw_of (i := 1358) (by decide +kernel) (by decide +kernel)
set_option maxRecDepth 100000 in
theorem qw_1359 : GW lw_tbl (.methodLink RX10 297 yX10_counts) := gw_of (i := 1359) (by decide +kernel) (by decide +kernel)
set_option maxRecDepth 100000 in
theorem qw_1361 : GW lw_tbl (.instanceMethod yX10_counts) := gw_of (i := 1361) (by decide +kernel) (by decide +kernel)
set_option maxRecDepth 100000 in
theorem qw_1362 : GW lw_tbl (.code yX10_counts cX10_counts 1 (some .boolean)) := gw_of (i := 1362) (by decide +kernel) (by decide +kernel)
set_option maxRecDepth 100000 in
theorem qw_1363 : GW lw_tbl (.methodLink RX10 301 yX10_dipped) := gw_of (i := 1363) (by decide +kernel) (by decide +kernel)
set_option maxRecDepth 100000 in
theorem qw_1365 : GW lw_tbl (.instanceMethod yX10_dipped) := gw_of (i := 1365) (by decide +kernel) (by decide +kernel)
set_option maxRecDepth 100000 in
theorem qw_1366 : GW lw_tbl (.code yX10_dipped cX10_dipped 4 (some .int)) := gw_of (i := 1366) (by decide +kernel) (by decide +kernel)
set_option maxRecDepth 100000 in
theorem qw_1367 : GW lw_tbl (.methodLink RX10 304 yX10_rested) := gw_of (i := 1367) (by decide +kernel) (by decide +kernel)
set_option maxRecDepth 100000 in
theorem qw_1369 : GW lw_tbl (.instanceMethod yX10_rested) := gw_of (i := 1369) (by decide +kernel) (by decide +kernel)
set_option maxRecDepth 100000 in
theorem qw_1370 : GW lw_tbl (.code yX10_rested cX10_rested 3 (some .int)) := gw_of (i := 1370) (by decide +kernel) (by decide +kernel)
set_option maxRecDepth 100000 in
theorem qw_1371 : GW lw_tbl (.methodLink RX10 307 yX10_doesBlocks) := gw_of (i := 1371) (by decide +kernel) (by decide +kernel)
set_option maxRecDepth 100000 in
theorem qw_1373 : GW lw_tbl (.instanceMethod yX10_doesBlocks) := gw_of (i := 1373) (by decide +kernel) (by decide +kernel)
set_option maxRecDepth 100000 in
theorem qw_1374 : GW lw_tbl (.code yX10_doesBlocks cX10_doesBlocks 5 (some .int)) := gw_of (i := 1374) (by decide +kernel) (by decide +kernel)
set_option maxRecDepth 100000 in
theorem qw_1375 : GW lw_tbl (.methodLink RX10 322 yX10_shadeOf) := gw_of (i := 1375) (by decide +kernel) (by decide +kernel)
set_option maxRecDepth 100000 in
theorem qw_1377 : GW lw_tbl (.instanceMethod yX10_shadeOf) := gw_of (i := 1377) (by decide +kernel) (by decide +kernel)
set_option maxRecDepth 100000 in
theorem qw_1378 : GW lw_tbl (.code yX10_shadeOf cX10_shadeOf 2 (some .int)) := gw_of (i := 1378) (by decide +kernel) (by decide +kernel)
set_option maxRecDepth 100000 in
theorem qw_1379 : GW lw_tbl (.methodLink RX10 325 yX10_holds) := gw_of (i := 1379) (by decide +kernel) (by decide +kernel)
set_option maxRecDepth 100000 in
theorem qw_1381 : GW lw_tbl (.instanceMethod yX10_holds) := gw_of (i := 1381) (by decide +kernel) (by decide +kernel)
set_option maxRecDepth 100000 in
theorem qw_1382 : GW lw_tbl (.code yX10_holds cX10_holds 4 (some .boolean)) := gw_of (i := 1382) (by decide +kernel) (by decide +kernel)
set_option maxRecDepth 100000 in
theorem qw_1383 : GW lw_tbl (.methodLink RL 119 yX10_ran) := gw_of (i := 1383) (by decide +kernel) (by decide +kernel)
set_option maxRecDepth 100000 in
theorem qw_1384 : GW lw_tbl (.instanceMethod yX10_ran) := gw_of (i := 1384) (by decide +kernel) (by decide +kernel)
set_option maxRecDepth 100000 in
theorem qw_1385 : GW lw_tbl (.selects RX10 yX10_ran yX10_ran) := gw_of (i := 1385) (by decide +kernel) (by decide +kernel)
set_option maxRecDepth 100000 in
theorem qw_1386 : GW lw_tbl (.code yX10_ran cX10_ran 2 (some .int)) := gw_of (i := 1386) (by decide +kernel) (by decide +kernel)
set_option maxRecDepth 100000 in
theorem qw_1387 : GW lw_tbl (.methodLink RL 123 yX10_plan) := gw_of (i := 1387) (by decide +kernel) (by decide +kernel)
set_option maxRecDepth 100000 in
theorem qw_1388 : GW lw_tbl (.instanceMethod yX10_plan) := gw_of (i := 1388) (by decide +kernel) (by decide +kernel)
set_option maxRecDepth 100000 in
theorem qw_1389 : GW lw_tbl (.selects RX10 yX10_plan yX10_plan) := gw_of (i := 1389) (by decide +kernel) (by decide +kernel)
set_option maxRecDepth 100000 in
theorem qw_1390 : GW lw_tbl (.code yX10_plan cX10_plan 6 (some .int)) := gw_of (i := 1390) (by decide +kernel) (by decide +kernel)
set_option maxRecDepth 100000 in
theorem qw_1391 : GW lw_tbl (.methodLink RX10 339 yX10_leads) := gw_of (i := 1391) (by decide +kernel) (by decide +kernel)
set_option maxRecDepth 100000 in
theorem qw_1393 : GW lw_tbl (.instanceMethod yX10_leads) := gw_of (i := 1393) (by decide +kernel) (by decide +kernel)
set_option maxRecDepth 100000 in
theorem qw_1394 : GW lw_tbl (.code yX10_leads cX10_leads 9 (some .boolean)) := gw_of (i := 1394) (by decide +kernel) (by decide +kernel)
set_option maxRecDepth 100000 in
theorem qw_1395 : GW lw_tbl (.methodLink RX10 331 yX10_keeps) := gw_of (i := 1395) (by decide +kernel) (by decide +kernel)
set_option maxRecDepth 100000 in
theorem qw_1397 : GW lw_tbl (.instanceMethod yX10_keeps) := gw_of (i := 1397) (by decide +kernel) (by decide +kernel)
set_option maxRecDepth 100000 in
theorem qw_1398 : GW lw_tbl (.code yX10_keeps cX10_keeps 5 none) := gw_of (i := 1398) (by decide +kernel) (by decide +kernel)
set_option maxRecDepth 100000 in
theorem qw_1399 : GW lw_tbl (.methodLink RX10 335 yX10_thinks) := gw_of (i := 1399) (by decide +kernel) (by decide +kernel)
set_option maxRecDepth 100000 in
theorem qw_1401 : GW lw_tbl (.instanceMethod yX10_thinks) := gw_of (i := 1401) (by decide +kernel) (by decide +kernel)
set_option maxRecDepth 100000 in
theorem qw_1402 : GW lw_tbl (.code yX10_thinks cX10_thinks 5 none) := gw_of (i := 1402) (by decide +kernel) (by decide +kernel)
set_option maxRecDepth 100000 in
theorem qw_1403 : GW lw_tbl (.methodLink RX10 343 yX10_restores) := gw_of (i := 1403) (by decide +kernel) (by decide +kernel)
set_option maxRecDepth 100000 in
theorem qw_1405 : GW lw_tbl (.instanceMethod yX10_restores) := gw_of (i := 1405) (by decide +kernel) (by decide +kernel)
set_option maxRecDepth 100000 in
theorem qw_1406 : GW lw_tbl (.code yX10_restores cX10_restores 5 none) := gw_of (i := 1406) (by decide +kernel) (by decide +kernel)
set_option maxRecDepth 100000 in
theorem qw_1407 : GW lw_tbl (.methodLink RL 126 yX10_planned) := gw_of (i := 1407) (by decide +kernel) (by decide +kernel)
set_option maxRecDepth 100000 in
theorem qw_1408 : GW lw_tbl (.instanceMethod yX10_planned) := gw_of (i := 1408) (by decide +kernel) (by decide +kernel)
set_option maxRecDepth 100000 in
theorem qw_1409 : GW lw_tbl (.selects RX10 yX10_planned yX10_planned) := gw_of (i := 1409) (by decide +kernel) (by decide +kernel)
set_option maxRecDepth 100000 in
theorem qw_1410 : GW lw_tbl (.code yX10_planned cX10_planned 3 (some .int)) := gw_of (i := 1410) (by decide +kernel) (by decide +kernel)
set_option maxRecDepth 100000 in
theorem qw_1411 : GW lw_tbl (.methodLink RL 129 yX10_vat) := gw_of (i := 1411) (by decide +kernel) (by decide +kernel)
set_option maxRecDepth 100000 in
theorem qw_1412 : GW lw_tbl (.instanceMethod yX10_vat) := gw_of (i := 1412) (by decide +kernel) (by decide +kernel)
set_option maxRecDepth 100000 in
theorem qw_1413 : GW lw_tbl (.selects RX10 yX10_vat yX10_vat) := gw_of (i := 1413) (by decide +kernel) (by decide +kernel)
set_option maxRecDepth 100000 in
theorem qw_1414 : GW lw_tbl (.code yX10_vat cX10_vat 3 (some .int)) := gw_of (i := 1414) (by decide +kernel) (by decide +kernel)
set_option maxRecDepth 100000 in
theorem qw_1415 : GW lw_tbl (.methodLink RL 132 yX10_about) := gw_of (i := 1415) (by decide +kernel) (by decide +kernel)
set_option maxRecDepth 100000 in
theorem qw_1416 : GW lw_tbl (.instanceMethod yX10_about) := gw_of (i := 1416) (by decide +kernel) (by decide +kernel)
set_option maxRecDepth 100000 in
theorem qw_1417 : GW lw_tbl (.selects RX10 yX10_about yX10_about) := gw_of (i := 1417) (by decide +kernel) (by decide +kernel)
set_option maxRecDepth 100000 in
theorem qw_1418 : GW lw_tbl (.code yX10_about cX10_about 3 (some .int)) := gw_of (i := 1418) (by decide +kernel) (by decide +kernel)
set_option maxRecDepth 100000 in
theorem qw_1419 : GW lw_tbl (.methodLink RL 135 yX10_count) := gw_of (i := 1419) (by decide +kernel) (by decide +kernel)
set_option maxRecDepth 100000 in
theorem qw_1420 : GW lw_tbl (.instanceMethod yX10_count) := gw_of (i := 1420) (by decide +kernel) (by decide +kernel)
set_option maxRecDepth 100000 in
theorem qw_1421 : GW lw_tbl (.selects RX10 yX10_count yX10_count) := gw_of (i := 1421) (by decide +kernel) (by decide +kernel)
set_option maxRecDepth 100000 in
theorem qw_1422 : GW lw_tbl (.code yX10_count cX10_count 2 (some .int)) := gw_of (i := 1422) (by decide +kernel) (by decide +kernel)
set_option maxRecDepth 100000 in
theorem qw_1423 : GW lw_tbl (.methodLink RL 138 yX10_faded) := gw_of (i := 1423) (by decide +kernel) (by decide +kernel)
set_option maxRecDepth 100000 in
theorem qw_1424 : GW lw_tbl (.instanceMethod yX10_faded) := gw_of (i := 1424) (by decide +kernel) (by decide +kernel)
set_option maxRecDepth 100000 in
theorem qw_1425 : GW lw_tbl (.selects RX10 yX10_faded yX10_faded) := gw_of (i := 1425) (by decide +kernel) (by decide +kernel)
set_option maxRecDepth 100000 in
theorem qw_1426 : GW lw_tbl (.code yX10_faded cX10_faded 4 (some .int)) := gw_of (i := 1426) (by decide +kernel) (by decide +kernel)
set_option maxRecDepth 100000 in
theorem qw_1427 : GW lw_tbl (.methodLink RX10 349 yX10_hasSpan) := gw_of (i := 1427) (by decide +kernel) (by decide +kernel)
set_option maxRecDepth 100000 in
theorem qw_1429 : GW lw_tbl (.instanceMethod yX10_hasSpan) := gw_of (i := 1429) (by decide +kernel) (by decide +kernel)
set_option maxRecDepth 100000 in
theorem qw_1430 : GW lw_tbl (.code yX10_hasSpan cX10_hasSpan 3 (some .boolean)) := gw_of (i := 1430) (by decide +kernel) (by decide +kernel)
set_option maxRecDepth 100000 in
theorem qw_1431 : GW lw_tbl (.methodLink RX10 352 yX10_fadedTo) := gw_of (i := 1431) (by decide +kernel) (by decide +kernel)
set_option maxRecDepth 100000 in
theorem qw_1433 : GW lw_tbl (.instanceMethod yX10_fadedTo) := gw_of (i := 1433) (by decide +kernel) (by decide +kernel)
set_option maxRecDepth 100000 in
theorem qw_1434 : GW lw_tbl (.code yX10_fadedTo cX10_fadedTo 6 (some .int)) := gw_of (i := 1434) (by decide +kernel) (by decide +kernel)
set_option maxRecDepth 100000 in
theorem qw_1435 : GW lw_tbl (.methodLink RL 141 yX10_matching) := gw_of (i := 1435) (by decide +kernel) (by decide +kernel)
set_option maxRecDepth 100000 in
theorem qw_1436 : GW lw_tbl (.instanceMethod yX10_matching) := gw_of (i := 1436) (by decide +kernel) (by decide +kernel)
set_option maxRecDepth 100000 in
theorem qw_1437 : GW lw_tbl (.selects RX10 yX10_matching yX10_matching) := gw_of (i := 1437) (by decide +kernel) (by decide +kernel)
set_option maxRecDepth 100000 in
theorem qw_1438 : GW lw_tbl (.code yX10_matching cX10_matching 5 (some .int)) := gw_of (i := 1438) (by decide +kernel) (by decide +kernel)
set_option maxRecDepth 100000 in
theorem qw_1456 : GW lw_tbl (.fieldLink RJ0 9 "java/lang/String" "value" "[B") := gw_of (i := 1456) (by decide +kernel) (by decide +kernel)
set_option maxRecDepth 100000 in
theorem qw_1457 : GW lw_tbl (.fieldLink RJ0 15 "java/lang/String" "coder" "B") := gw_of (i := 1457) (by decide +kernel) (by decide +kernel)
