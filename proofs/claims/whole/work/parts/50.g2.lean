set_option maxRecDepth 100000 in
theorem qw_1195 : GW lw_tbl (.instanceMethod yX10_limes) := gw_s (gt_t5 (List.mem_of_getElem? (i := 158) (by exact rfl))) (by decide +kernel)
set_option maxRecDepth 100000 in
theorem qw_1196 : GW lw_tbl (.code yX10_limes cX10_limes 2 none) := gw_s (gt_t5 (List.mem_of_getElem? (i := 159) (by exact rfl))) (by decide +kernel)
set_option maxRecDepth 100000 in
theorem qw_1205 : GW lw_tbl (.methodLink RL 95 yX10_cloth) := gw_s (gt_t5 (List.mem_of_getElem? (i := 168) (by exact rfl))) (by decide +kernel)
set_option maxRecDepth 100000 in
theorem qw_1206 : GW lw_tbl (.instanceMethod yX10_cloth) := gw_s (gt_t5 (List.mem_of_getElem? (i := 169) (by exact rfl))) (by decide +kernel)
set_option maxRecDepth 100000 in
theorem qw_1207 : GW lw_tbl (.selects RX10 yX10_cloth yX10_cloth) := gw_s (gt_t5 (List.mem_of_getElem? (i := 170) (by exact rfl))) (by decide +kernel)
set_option maxRecDepth 100000 in
theorem qw_1208 : GW lw_tbl (.code yX10_cloth cX10_cloth 2 (some .int)) := gw_s (gt_t5 (List.mem_of_getElem? (i := 171) (by exact rfl))) (by decide +kernel)
set_option maxRecDepth 100000 in
theorem qw_1213 : GW lw_tbl (.methodLink RX10 141 yX10_isCloth) := gw_s (gt_t5 (List.mem_of_getElem? (i := 176) (by exact rfl))) (by decide +kernel)
set_option maxRecDepth 100000 in
theorem qw_1215 : GW lw_tbl (.instanceMethod yX10_isCloth) := gw_s (gt_t5 (List.mem_of_getElem? (i := 178) (by exact rfl))) (by decide +kernel)
set_option maxRecDepth 100000 in
theorem qw_1216 : GW lw_tbl (.code yX10_isCloth cX10_isCloth 2 (some .boolean)) := gw_s (gt_t5 (List.mem_of_getElem? (i := 179) (by exact rfl))) (by decide +kernel)
set_option maxRecDepth 100000 in
theorem qw_1217 : GW lw_tbl (.methodLink RX10 144 yX10_isDry) := gw_s (gt_t5 (List.mem_of_getElem? (i := 180) (by exact rfl))) (by decide +kernel)
set_option maxRecDepth 100000 in
theorem qw_1219 : GW lw_tbl (.instanceMethod yX10_isDry) := gw_s (gt_t5 (List.mem_of_getElem? (i := 182) (by exact rfl))) (by decide +kernel)
set_option maxRecDepth 100000 in
theorem qw_1220 : GW lw_tbl (.code yX10_isDry cX10_isDry 2 (some .boolean)) := gw_s (gt_t5 (List.mem_of_getElem? (i := 183) (by exact rfl))) (by decide +kernel)
set_option maxRecDepth 100000 in
theorem qw_1225 : GW lw_tbl (.methodLink RX10 137 yX10_moves) := gw_s (gt_t5 (List.mem_of_getElem? (i := 188) (by exact rfl))) (by decide +kernel)
set_option maxRecDepth 100000 in
theorem qw_1227 : GW lw_tbl (.instanceMethod yX10_moves) := gw_s (gt_t5 (List.mem_of_getElem? (i := 190) (by exact rfl))) (by decide +kernel)
set_option maxRecDepth 100000 in
theorem qw_1228 : GW lw_tbl (.code yX10_moves cX10_moves 6 (some .int)) := gw_s (gt_t5 (List.mem_of_getElem? (i := 191) (by exact rfl))) (by decide +kernel)
set_option maxRecDepth 100000 in
theorem qw_1229 : GW lw_tbl (.methodLink RL 102 yX10_treat) := gw_s (gt_t5 (List.mem_of_getElem? (i := 192) (by exact rfl))) (by decide +kernel)
set_option maxRecDepth 100000 in
theorem qw_1230 : GW lw_tbl (.instanceMethod yX10_treat) := gw_s (gt_t5 (List.mem_of_getElem? (i := 193) (by exact rfl))) (by decide +kernel)
set_option maxRecDepth 100000 in
theorem qw_1231 : GW lw_tbl (.selects RX10 yX10_treat yX10_treat) := gw_s (gt_t5 (List.mem_of_getElem? (i := 194) (by exact rfl))) (by decide +kernel)
set_option maxRecDepth 100000 in
theorem qw_1232 : GW lw_tbl (.code yX10_treat cX10_treat 4 (some .int)) := gw_s (gt_t5 (List.mem_of_getElem? (i := 195) (by exact rfl))) (by decide +kernel)
set_option maxRecDepth 100000 in
theorem qw_1233 : GW lw_tbl (.methodLink RX10 152 yX10_washes) := gw_s (gt_t5 (List.mem_of_getElem? (i := 196) (by exact rfl))) (by decide +kernel)
set_option maxRecDepth 100000 in
theorem qw_1235 : GW lw_tbl (.instanceMethod yX10_washes) := gw_s (gt_t5 (List.mem_of_getElem? (i := 198) (by exact rfl))) (by decide +kernel)
set_option maxRecDepth 100000 in
theorem qw_1236 : GW lw_tbl (.code yX10_washes cX10_washes 3 (some .int)) := gw_s (gt_t5 (List.mem_of_getElem? (i := 199) (by exact rfl))) (by decide +kernel)
set_option maxRecDepth 100000 in
theorem qw_1237 : GW lw_tbl (.methodLink RX10 156 yX10_airs) := gw_s (gt_t5 (List.mem_of_getElem? (i := 200) (by exact rfl))) (by decide +kernel)
set_option maxRecDepth 100000 in
theorem qw_1239 : GW lw_tbl (.instanceMethod yX10_airs) := gw_s (gt_t5 (List.mem_of_getElem? (i := 202) (by exact rfl))) (by decide +kernel)
set_option maxRecDepth 100000 in
theorem qw_1240 : GW lw_tbl (.code yX10_airs cX10_airs 3 (some .int)) := gw_s (gt_t5 (List.mem_of_getElem? (i := 203) (by exact rfl))) (by decide +kernel)
set_option maxRecDepth 100000 in
theorem qw_1375 : GW lw_tbl (.methodLink RX10 322 yX10_shadeOf) := gw_s (gt_t6 (List.mem_of_getElem? (i := 98) (by exact rfl))) (by decide +kernel)
set_option maxRecDepth 100000 in
theorem qw_1377 : GW lw_tbl (.instanceMethod yX10_shadeOf) := gw_s (gt_t6 (List.mem_of_getElem? (i := 100) (by exact rfl))) (by decide +kernel)
set_option maxRecDepth 100000 in
theorem qw_1378 : GW lw_tbl (.code yX10_shadeOf cX10_shadeOf 2 (some .int)) := gw_s (gt_t6 (List.mem_of_getElem? (i := 101) (by exact rfl))) (by decide +kernel)
set_option maxRecDepth 100000 in
theorem qw_1387 : GW lw_tbl (.methodLink RL 123 yX10_plan) := gw_s (gt_t6 (List.mem_of_getElem? (i := 110) (by exact rfl))) (by decide +kernel)
set_option maxRecDepth 100000 in
theorem qw_1388 : GW lw_tbl (.instanceMethod yX10_plan) := gw_s (gt_t6 (List.mem_of_getElem? (i := 111) (by exact rfl))) (by decide +kernel)
set_option maxRecDepth 100000 in
theorem qw_1389 : GW lw_tbl (.selects RX10 yX10_plan yX10_plan) := gw_s (gt_t6 (List.mem_of_getElem? (i := 112) (by exact rfl))) (by decide +kernel)
set_option maxRecDepth 100000 in
theorem qw_1390 : GW lw_tbl (.code yX10_plan cX10_plan 6 (some .int)) := gw_s (gt_t6 (List.mem_of_getElem? (i := 113) (by exact rfl))) (by decide +kernel)
set_option maxRecDepth 100000 in
theorem qw_1391 : GW lw_tbl (.methodLink RX10 339 yX10_leads) := gw_s (gt_t6 (List.mem_of_getElem? (i := 114) (by exact rfl))) (by decide +kernel)
set_option maxRecDepth 100000 in
theorem qw_1393 : GW lw_tbl (.instanceMethod yX10_leads) := gw_s (gt_t6 (List.mem_of_getElem? (i := 116) (by exact rfl))) (by decide +kernel)
set_option maxRecDepth 100000 in
theorem qw_1394 : GW lw_tbl (.code yX10_leads cX10_leads 9 (some .boolean)) := gw_s (gt_t6 (List.mem_of_getElem? (i := 117) (by exact rfl))) (by decide +kernel)
set_option maxRecDepth 100000 in
theorem qw_1395 : GW lw_tbl (.methodLink RX10 331 yX10_keeps) := gw_s (gt_t6 (List.mem_of_getElem? (i := 118) (by exact rfl))) (by decide +kernel)
set_option maxRecDepth 100000 in
theorem qw_1397 : GW lw_tbl (.instanceMethod yX10_keeps) := gw_s (gt_t6 (List.mem_of_getElem? (i := 120) (by exact rfl))) (by decide +kernel)
set_option maxRecDepth 100000 in
theorem qw_1398 : GW lw_tbl (.code yX10_keeps cX10_keeps 5 none) := gw_s (gt_t6 (List.mem_of_getElem? (i := 121) (by exact rfl))) (by decide +kernel)
set_option maxRecDepth 100000 in
theorem qw_1399 : GW lw_tbl (.methodLink RX10 335 yX10_thinks) := gw_s (gt_t6 (List.mem_of_getElem? (i := 122) (by exact rfl))) (by decide +kernel)
set_option maxRecDepth 100000 in
theorem qw_1401 : GW lw_tbl (.instanceMethod yX10_thinks) := gw_s (gt_t6 (List.mem_of_getElem? (i := 124) (by exact rfl))) (by decide +kernel)
set_option maxRecDepth 100000 in
theorem qw_1402 : GW lw_tbl (.code yX10_thinks cX10_thinks 5 none) := gw_s (gt_t6 (List.mem_of_getElem? (i := 125) (by exact rfl))) (by decide +kernel)
set_option maxRecDepth 100000 in
theorem qw_1403 : GW lw_tbl (.methodLink RX10 343 yX10_restores) := gw_s (gt_t6 (List.mem_of_getElem? (i := 126) (by exact rfl))) (by decide +kernel)
set_option maxRecDepth 100000 in
theorem qw_1405 : GW lw_tbl (.instanceMethod yX10_restores) := gw_s (gt_t6 (List.mem_of_getElem? (i := 128) (by exact rfl))) (by decide +kernel)
set_option maxRecDepth 100000 in
theorem qw_1406 : GW lw_tbl (.code yX10_restores cX10_restores 5 none) := gw_s (gt_t6 (List.mem_of_getElem? (i := 129) (by exact rfl))) (by decide +kernel)
set_option maxRecDepth 100000 in
theorem qw_1407 : GW lw_tbl (.methodLink RL 126 yX10_planned) := gw_s (gt_t6 (List.mem_of_getElem? (i := 130) (by exact rfl))) (by decide +kernel)
set_option maxRecDepth 100000 in
theorem qw_1408 : GW lw_tbl (.instanceMethod yX10_planned) := gw_s (gt_t6 (List.mem_of_getElem? (i := 131) (by exact rfl))) (by decide +kernel)
set_option maxRecDepth 100000 in
theorem qw_1409 : GW lw_tbl (.selects RX10 yX10_planned yX10_planned) := gw_s (gt_t6 (List.mem_of_getElem? (i := 132) (by exact rfl))) (by decide +kernel)
set_option maxRecDepth 100000 in
theorem qw_1410 : GW lw_tbl (.code yX10_planned cX10_planned 3 (some .int)) := gw_s (gt_t6 (List.mem_of_getElem? (i := 133) (by exact rfl))) (by decide +kernel)
