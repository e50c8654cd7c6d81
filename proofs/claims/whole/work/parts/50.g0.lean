noncomputable def GW (big : List Cond) (w : Cond) : Prop := w ∈ big ∧ ((w.onTables && w.keeps) = true ∨ ∃ ty, w = .arrayClass ty)
theorem gi_n {big : List Cond} : GoodIn big [] := fun _ h => absurd h List.not_mem_nil
theorem gi_c {big l : List Cond} {w : Cond} (h1 : GW big w) (h2 : GoodIn big l) : GoodIn big (w :: l) := fun v h => (List.mem_cons.mp h).elim (fun e => e ▸ h1) (h2 v)
theorem gw_of {big : List Cond} {w : Cond} {i : Nat} (h : big[i]? = some w) (hg : goodWord w = true) : GW big w := ⟨List.mem_of_getElem? h, good_of_word hg⟩
theorem gt_t1 {w : Cond} (h : w ∈ tables_1_1) : w ∈ lw_tbl := List.mem_append_right _ (show w ∈ tables_1 from List.mem_append_left _ h)
theorem gt_t2 {w : Cond} (h : w ∈ tables_1_2) : w ∈ lw_tbl := List.mem_append_right _ (show w ∈ tables_1 from List.mem_append_right _ (List.mem_append_left _ h))
theorem gt_t3 {w : Cond} (h : w ∈ tables_1_3) : w ∈ lw_tbl := List.mem_append_right _ (show w ∈ tables_1 from List.mem_append_right _ (List.mem_append_right _ (List.mem_append_left _ h)))
theorem gt_t4 {w : Cond} (h : w ∈ tables_1_4) : w ∈ lw_tbl := List.mem_append_right _ (show w ∈ tables_1 from List.mem_append_right _ (List.mem_append_right _ (List.mem_append_right _ (List.mem_append_left _ h))))
theorem gt_t5 {w : Cond} (h : w ∈ tables_1_5) : w ∈ lw_tbl := List.mem_append_right _ (show w ∈ tables_1 from List.mem_append_right _ (List.mem_append_right _ (List.mem_append_right _ (List.mem_append_right _ (List.mem_append_left _ h)))))
theorem gt_t6 {w : Cond} (h : w ∈ tables_1_6) : w ∈ lw_tbl := List.mem_append_right _ (show w ∈ tables_1 from List.mem_append_right _ (List.mem_append_right _ (List.mem_append_right _ (List.mem_append_right _ (List.mem_append_right _ h)))))
theorem gw_s {big : List Cond} {w : Cond} (h : w ∈ big) (hg : goodWord w = true) : GW big w := ⟨h, good_of_word hg⟩
set_option maxRecDepth 100000 in
theorem qw_2 : GW lw_tbl (.selects RX9 yX9_clothAt yX9_clothAt) := gw_of (i := 2) (by decide +kernel) (by decide +kernel)
set_option maxRecDepth 100000 in
theorem qw_34 : GW lw_tbl (.selects RX1 yX1_reaches yX1_reaches) := gw_of (i := 34) (by decide +kernel) (by decide +kernel)
set_option maxRecDepth 100000 in
theorem qw_35 : GW lw_tbl (.selects RX1 yX1_reachesBy yX1_reachesBy) := gw_of (i := 35) (by decide +kernel) (by decide +kernel)
set_option maxRecDepth 100000 in
theorem qw_36 : GW lw_tbl (.selects RX10 yX10_isVat yX10_isVat) := gw_of (i := 36) (by decide +kernel) (by decide +kernel)
set_option maxRecDepth 100000 in
theorem qw_37 : GW lw_tbl (.selects RX10 yX10_right yX10_right) := gw_of (i := 37) (by decide +kernel) (by decide +kernel)
set_option maxRecDepth 100000 in
theorem qw_38 : GW lw_tbl (.selects RX10 yX10_feeds yX10_feeds) := gw_of (i := 38) (by decide +kernel) (by decide +kernel)
set_option maxRecDepth 100000 in
theorem qw_39 : GW lw_tbl (.selects RX10 yX10_limes yX10_limes) := gw_of (i := 39) (by decide +kernel) (by decide +kernel)
set_option maxRecDepth 100000 in
theorem qw_41 : GW lw_tbl (.selects RX10 yX10_isCloth yX10_isCloth) := gw_of (i := 41) (by decide +kernel) (by decide +kernel)
set_option maxRecDepth 100000 in
theorem qw_42 : GW lw_tbl (.selects RX10 yX10_isDry yX10_isDry) := gw_of (i := 42) (by decide +kernel) (by decide +kernel)
set_option maxRecDepth 100000 in
theorem qw_44 : GW lw_tbl (.selects RX10 yX10_moves yX10_moves) := gw_of (i := 44) (by decide +kernel) (by decide +kernel)
set_option maxRecDepth 100000 in
theorem qw_45 : GW lw_tbl (.selects RX10 yX10_washes yX10_washes) := gw_of (i := 45) (by decide +kernel) (by decide +kernel)
set_option maxRecDepth 100000 in
theorem qw_46 : GW lw_tbl (.selects RX10 yX10_airs yX10_airs) := gw_of (i := 46) (by decide +kernel) (by decide +kernel)
set_option maxRecDepth 100000 in
theorem qw_69 : GW lw_tbl (.selects RX10 yX10_shadeOf yX10_shadeOf) := gw_of (i := 69) (by decide +kernel) (by decide +kernel)
set_option maxRecDepth 100000 in
theorem qw_71 : GW lw_tbl (.selects RX10 yX10_leads yX10_leads) := gw_of (i := 71) (by decide +kernel) (by decide +kernel)
set_option maxRecDepth 100000 in
theorem qw_72 : GW lw_tbl (.selects RX10 yX10_keeps yX10_keeps) := gw_of (i := 72) (by decide +kernel) (by decide +kernel)
set_option maxRecDepth 100000 in
theorem qw_73 : GW lw_tbl (.selects RX10 yX10_thinks yX10_thinks) := gw_of (i := 73) (by decide +kernel) (by decide +kernel)
set_option maxRecDepth 100000 in
theorem qw_74 : GW lw_tbl (.selects RX10 yX10_restores yX10_restores) := gw_of (i := 74) (by decide +kernel) (by decide +kernel)
set_option maxRecDepth 100000 in
theorem qw_77 : GW lw_tbl (.initialized RL) := gw_s (gt_t1 (List.mem_of_getElem? (i := 0) (by exact rfl))) (by decide +kernel)
set_option maxRecDepth 100000 in
theorem qw_78 : GW lw_tbl (.initialized RX9) := gw_s (gt_t1 (List.mem_of_getElem? (i := 1) (by exact rfl))) (by decide +kernel)
set_option maxRecDepth 100000 in
theorem qw_79 : GW lw_tbl (.initialized RX8) := gw_s (gt_t1 (List.mem_of_getElem? (i := 2) (by exact rfl))) (by decide +kernel)
set_option maxRecDepth 100000 in
theorem qw_80 : GW lw_tbl (.initialized RX7) := gw_s (gt_t1 (List.mem_of_getElem? (i := 3) (by exact rfl))) (by decide +kernel)
set_option maxRecDepth 100000 in
theorem qw_81 : GW lw_tbl (.initialized RX2) := gw_s (gt_t1 (List.mem_of_getElem? (i := 4) (by exact rfl))) (by decide +kernel)
set_option maxRecDepth 100000 in
theorem qw_82 : GW lw_tbl (.initialized RX6) := gw_s (gt_t1 (List.mem_of_getElem? (i := 5) (by exact rfl))) (by decide +kernel)
set_option maxRecDepth 100000 in
theorem qw_83 : GW lw_tbl (.initialized RX4) := gw_s (gt_t1 (List.mem_of_getElem? (i := 6) (by exact rfl))) (by decide +kernel)
set_option maxRecDepth 100000 in
theorem qw_84 : GW lw_tbl (.initialized RX1) := gw_s (gt_t1 (List.mem_of_getElem? (i := 7) (by exact rfl))) (by decide +kernel)
set_option maxRecDepth 100000 in
theorem qw_85 : GW lw_tbl (.initialized RX0) := gw_s (gt_t1 (List.mem_of_getElem? (i := 8) (by exact rfl))) (by decide +kernel)
set_option maxRecDepth 100000 in
theorem qw_86 : GW lw_tbl (.initialized RX10) := gw_s (gt_t1 (List.mem_of_getElem? (i := 9) (by exact rfl))) (by decide +kernel)
set_option maxRecDepth 100000 in
theorem qw_90 : GW lw_tbl (.initialized "java/util/NoSuchElementException") := gw_s (gt_t1 (List.mem_of_getElem? (i := 13) (by exact rfl))) (by decide +kernel)
set_option maxRecDepth 100000 in
theorem qw_91 : GW lw_tbl (.initialized "java/lang/IllegalArgumentException") := gw_s (gt_t1 (List.mem_of_getElem? (i := 14) (by exact rfl))) (by decide +kernel)
set_option maxRecDepth 100000 in
theorem qw_92 : GW lw_tbl (.initialized "java/lang/Math") := gw_s (gt_t1 (List.mem_of_getElem? (i := 15) (by exact rfl))) (by decide +kernel)
set_option maxRecDepth 100000 in
theorem qw_103 : GW lw_tbl (.code yX9_init cX9_init 1 none) := gw_s (gt_t1 (List.mem_of_getElem? (i := 26) (by exact rfl))) (by decide +kernel)
set_option maxRecDepth 100000 in
theorem qw_104 : GW lw_tbl (.methodLink RX9 1 objectInit) := gw_s (gt_t1 (List.mem_of_getElem? (i := 27) (by exact rfl))) (by decide +kernel)
set_option maxRecDepth 100000 in
theorem qw_105 : GW lw_tbl (.instanceMethod objectInit) := gw_s (gt_t1 (List.mem_of_getElem? (i := 28) (by exact rfl))) (by decide +kernel)
set_option maxRecDepth 100000 in
theorem qw_106 : GW lw_tbl (.code objectInit ⟨#[0xb1]⟩ 1 none) := gw_s (gt_t1 (List.mem_of_getElem? (i := 29) (by exact rfl))) (by decide +kernel)
set_option maxRecDepth 100000 in
theorem qw_107 : GW lw_tbl (.classLink RX9 7 RX8) := gw_s (gt_t1 (List.mem_of_getElem? (i := 30) (by exact rfl))) (by decide +kernel)
set_option maxRecDepth 100000 in
theorem qw_108 : GW lw_tbl (.instantiable RX8 3) := gw_s (gt_t1 (List.mem_of_getElem? (i := 31) (by exact rfl))) (by decide +kernel)
set_option maxRecDepth 100000 in
theorem qw_109 : GW lw_tbl (.methodLink RX9 9 yX8_init) := gw_s (gt_t1 (List.mem_of_getElem? (i := 32) (by exact rfl))) (by decide +kernel)
set_option maxRecDepth 100000 in
theorem qw_110 : GW lw_tbl (.instanceMethod yX8_init) := gw_s (gt_t1 (List.mem_of_getElem? (i := 33) (by exact rfl))) (by decide +kernel)
set_option maxRecDepth 100000 in
theorem qw_111 : GW lw_tbl (.code yX8_init cX8_init 2 none) := gw_s (gt_t1 (List.mem_of_getElem? (i := 34) (by exact rfl))) (by decide +kernel)
set_option maxRecDepth 100000 in
theorem qw_112 : GW lw_tbl (.methodLink RX8 3 objectInit) := gw_s (gt_t1 (List.mem_of_getElem? (i := 35) (by exact rfl))) (by decide +kernel)
set_option maxRecDepth 100000 in
theorem qw_113 : GW lw_tbl (.classLink RX8 9 RX7) := gw_s (gt_t1 (List.mem_of_getElem? (i := 36) (by exact rfl))) (by decide +kernel)
set_option maxRecDepth 100000 in
theorem qw_115 : GW lw_tbl (.instantiable RX7 8) := gw_s (gt_t1 (List.mem_of_getElem? (i := 38) (by exact rfl))) (by decide +kernel)
set_option maxRecDepth 100000 in
theorem qw_116 : GW lw_tbl (.methodLink RX8 17 yX7_init) := gw_s (gt_t1 (List.mem_of_getElem? (i := 39) (by exact rfl))) (by decide +kernel)
set_option maxRecDepth 100000 in
theorem qw_117 : GW lw_tbl (.instanceMethod yX7_init) := gw_s (gt_t1 (List.mem_of_getElem? (i := 40) (by exact rfl))) (by decide +kernel)
set_option maxRecDepth 100000 in
theorem qw_118 : GW lw_tbl (.code yX7_init cX7_init 2 none) := gw_s (gt_t1 (List.mem_of_getElem? (i := 41) (by exact rfl))) (by decide +kernel)
set_option maxRecDepth 100000 in
theorem qw_119 : GW lw_tbl (.methodLink RX7 3 objectInit) := gw_s (gt_t1 (List.mem_of_getElem? (i := 42) (by exact rfl))) (by decide +kernel)
set_option maxRecDepth 100000 in
theorem qw_120 : GW lw_tbl (.fieldLink RX7 18 "VatHouse$Vat" "number" "I") := gw_s (gt_t1 (List.mem_of_getElem? (i := 43) (by exact rfl))) (by decide +kernel)
set_option maxRecDepth 100000 in
theorem qw_122 : GW lw_tbl (.fieldLink RX1 107 "VatHouse$Vat" "number" "I") := gw_s (gt_t1 (List.mem_of_getElem? (i := 45) (by exact rfl))) (by decide +kernel)
set_option maxRecDepth 100000 in
theorem qw_123 : GW lw_tbl (.fieldLink RX9 62 "VatHouse$Vat" "grains" "I") := gw_s (gt_t1 (List.mem_of_getElem? (i := 46) (by exact rfl))) (by decide +kernel)
set_option maxRecDepth 100000 in
theorem qw_124 : GW lw_tbl (.fieldLink RX7 26 "VatHouse$Vat" "grains" "I") := gw_s (gt_t1 (List.mem_of_getElem? (i := 47) (by exact rfl))) (by decide +kernel)
set_option maxRecDepth 100000 in
theorem qw_125 : GW lw_tbl (.fieldLink RX1 85 "VatHouse$Vat" "grains" "I") := gw_s (gt_t1 (List.mem_of_getElem? (i := 48) (by exact rfl))) (by decide +kernel)
set_option maxRecDepth 100000 in
theorem qw_127 : GW lw_tbl (.fieldLink RX7 45 "VatHouse$Vat" "food" "I") := gw_s (gt_t1 (List.mem_of_getElem? (i := 50) (by exact rfl))) (by decide +kernel)
set_option maxRecDepth 100000 in
theorem qw_128 : GW lw_tbl (.fieldLink RX1 88 "VatHouse$Vat" "food" "I") := gw_s (gt_t1 (List.mem_of_getElem? (i := 51) (by exact rfl))) (by decide +kernel)
set_option maxRecDepth 100000 in
theorem qw_131 : GW lw_tbl (.fieldLink RX7 42 "VatHouse$Vat" "minutes" "I") := gw_s (gt_t1 (List.mem_of_getElem? (i := 54) (by exact rfl))) (by decide +kernel)
set_option maxRecDepth 100000 in
theorem qw_132 : GW lw_tbl (.fieldLink RX1 91 "VatHouse$Vat" "minutes" "I") := gw_s (gt_t1 (List.mem_of_getElem? (i := 55) (by exact rfl))) (by decide +kernel)
set_option maxRecDepth 100000 in
theorem qw_134 : GW lw_tbl (.fieldLink RX7 9 "VatHouse$Vat" "state" "I") := gw_s (gt_t1 (List.mem_of_getElem? (i := 57) (by exact rfl))) (by decide +kernel)
set_option maxRecDepth 100000 in
theorem qw_135 : GW lw_tbl (.fieldLink RX9 79 "VatHouse$Vat" "state" "I") := gw_s (gt_t1 (List.mem_of_getElem? (i := 58) (by exact rfl))) (by decide +kernel)
set_option maxRecDepth 100000 in
theorem qw_136 : GW lw_tbl (.fieldLink RX1 94 "VatHouse$Vat" "state" "I") := gw_s (gt_t1 (List.mem_of_getElem? (i := 59) (by exact rfl))) (by decide +kernel)
set_option maxRecDepth 100000 in
theorem qw_142 : GW lw_tbl (.fieldLink RX7 15 "VatHouse$Vat" "lastDipped" "I") := gw_s (gt_t1 (List.mem_of_getElem? (i := 65) (by exact rfl))) (by decide +kernel)
set_option maxRecDepth 100000 in
theorem qw_161 : GW lw_tbl (.fieldLink RX8 11 "VatHouse$Works" "vats" "[LVatHouse$Vat;") := gw_s (gt_t1 (List.mem_of_getElem? (i := 84) (by exact rfl))) (by decide +kernel)
set_option maxRecDepth 100000 in
theorem qw_162 : GW lw_tbl (.fieldLink RX8 31 "VatHouse$Works" "hours" "I") := gw_s (gt_t1 (List.mem_of_getElem? (i := 85) (by exact rfl))) (by decide +kernel)
set_option maxRecDepth 100000 in
theorem qw_165 : GW lw_tbl (.fieldLink RX8 58 "VatHouse$Works" "drain" "I") := gw_s (gt_t1 (List.mem_of_getElem? (i := 88) (by exact rfl))) (by decide +kernel)
set_option maxRecDepth 100000 in
theorem qw_174 : GW lw_tbl (.classLink RX9 16 RX0) := gw_s (gt_t1 (List.mem_of_getElem? (i := 97) (by exact rfl))) (by decide +kernel)
set_option maxRecDepth 100000 in
theorem qw_176 : GW lw_tbl (.classLink RX9 26 RX2) := gw_s (gt_t1 (List.mem_of_getElem? (i := 99) (by exact rfl))) (by decide +kernel)
set_option maxRecDepth 100000 in
theorem qw_177 : GW lw_tbl (.instantiable RX2 6) := gw_s (gt_t1 (List.mem_of_getElem? (i := 100) (by exact rfl))) (by decide +kernel)
set_option maxRecDepth 100000 in
theorem qw_178 : GW lw_tbl (.methodLink RX9 28 yX2_init) := gw_s (gt_t1 (List.mem_of_getElem? (i := 101) (by exact rfl))) (by decide +kernel)
set_option maxRecDepth 100000 in
theorem qw_179 : GW lw_tbl (.instanceMethod yX2_init) := gw_s (gt_t1 (List.mem_of_getElem? (i := 102) (by exact rfl))) (by decide +kernel)
set_option maxRecDepth 100000 in
theorem qw_180 : GW lw_tbl (.code yX2_init cX2_init 2 none) := gw_s (gt_t1 (List.mem_of_getElem? (i := 103) (by exact rfl))) (by decide +kernel)
set_option maxRecDepth 100000 in
theorem qw_181 : GW lw_tbl (.methodLink RX2 3 objectInit) := gw_s (gt_t1 (List.mem_of_getElem? (i := 104) (by exact rfl))) (by decide +kernel)
set_option maxRecDepth 100000 in
theorem qw_182 : GW lw_tbl (.classLink RX2 15 RX6) := gw_s (gt_t1 (List.mem_of_getElem? (i := 105) (by exact rfl))) (by decide +kernel)
set_option maxRecDepth 100000 in
theorem qw_183 : GW lw_tbl (.instantiable RX6 7) := gw_s (gt_t1 (List.mem_of_getElem? (i := 106) (by exact rfl))) (by decide +kernel)
set_option maxRecDepth 100000 in
theorem qw_184 : GW lw_tbl (.methodLink RX2 17 yX6_init) := gw_s (gt_t1 (List.mem_of_getElem? (i := 107) (by exact rfl))) (by decide +kernel)
set_option maxRecDepth 100000 in
theorem qw_185 : GW lw_tbl (.instanceMethod yX6_init) := gw_s (gt_t1 (List.mem_of_getElem? (i := 108) (by exact rfl))) (by decide +kernel)
set_option maxRecDepth 100000 in
theorem qw_186 : GW lw_tbl (.code yX6_init cX6_init 2 none) := gw_s (gt_t1 (List.mem_of_getElem? (i := 109) (by exact rfl))) (by decide +kernel)
set_option maxRecDepth 100000 in
theorem qw_187 : GW lw_tbl (.methodLink RX6 3 objectInit) := gw_s (gt_t1 (List.mem_of_getElem? (i := 110) (by exact rfl))) (by decide +kernel)
set_option maxRecDepth 100000 in
theorem qw_188 : GW lw_tbl (.fieldLink RX6 21 "VatHouse$Tokens" "text" "[B") := gw_s (gt_t1 (List.mem_of_getElem? (i := 111) (by exact rfl))) (by decide +kernel)
set_option maxRecDepth 100000 in
theorem qw_193 : GW lw_tbl (.fieldLink RX6 9 "VatHouse$Tokens" "kinds" "[I") := gw_s (gt_t1 (List.mem_of_getElem? (i := 116) (by exact rfl))) (by decide +kernel)
set_option maxRecDepth 100000 in
theorem qw_195 : GW lw_tbl (.fieldLink RX6 15 "VatHouse$Tokens" "starts" "[I") := gw_s (gt_t1 (List.mem_of_getElem? (i := 118) (by exact rfl))) (by decide +kernel)
set_option maxRecDepth 100000 in
theorem qw_197 : GW lw_tbl (.fieldLink RX6 18 "VatHouse$Tokens" "values" "[I") := gw_s (gt_t1 (List.mem_of_getElem? (i := 120) (by exact rfl))) (by decide +kernel)
set_option maxRecDepth 100000 in
theorem qw_214 : GW lw_tbl (.arrayClass .byte) := gw_s (gt_t1 (List.mem_of_getElem? (i := 137) (by exact rfl))) (by decide +kernel)
set_option maxRecDepth 100000 in
theorem qw_215 : GW lw_tbl (.arrayClass .int) := gw_s (gt_t1 (List.mem_of_getElem? (i := 138) (by exact rfl))) (by decide +kernel)
set_option maxRecDepth 100000 in
theorem qw_216 : GW lw_tbl (.fieldLink RX2 20 "VatHouse$Reader" "tokens" "LVatHouse$Tokens;") := gw_s (gt_t1 (List.mem_of_getElem? (i := 139) (by exact rfl))) (by decide +kernel)
set_option maxRecDepth 100000 in
theorem qw_221 : GW lw_tbl (.fieldLink RX2 9 "VatHouse$Reader" "place" "I") := gw_s (gt_t1 (List.mem_of_getElem? (i := 144) (by exact rfl))) (by decide +kernel)
set_option maxRecDepth 100000 in
theorem qw_238 : GW lw_tbl (.classLink RX9 35 RX3) := gw_s (gt_t1 (List.mem_of_getElem? (i := 161) (by exact rfl))) (by decide +kernel)
set_option maxRecDepth 100000 in
theorem qw_240 : GW lw_tbl (.classLink RX9 41 RX4) := gw_s (gt_t1 (List.mem_of_getElem? (i := 163) (by exact rfl))) (by decide +kernel)
set_option maxRecDepth 100000 in
theorem qw_241 : GW lw_tbl (.instantiable RX4 8) := gw_s (gt_t1 (List.mem_of_getElem? (i := 164) (by exact rfl))) (by decide +kernel)
set_option maxRecDepth 100000 in
theorem qw_242 : GW lw_tbl (.methodLink RX9 43 yX4_init) := gw_s (gt_t1 (List.mem_of_getElem? (i := 165) (by exact rfl))) (by decide +kernel)
set_option maxRecDepth 100000 in
theorem qw_243 : GW lw_tbl (.instanceMethod yX4_init) := gw_s (gt_t1 (List.mem_of_getElem? (i := 166) (by exact rfl))) (by decide +kernel)
set_option maxRecDepth 100000 in
theorem qw_244 : GW lw_tbl (.code yX4_init cX4_init 2 none) := gw_s (gt_t1 (List.mem_of_getElem? (i := 167) (by exact rfl))) (by decide +kernel)
set_option maxRecDepth 100000 in
theorem qw_245 : GW lw_tbl (.methodLink RX4 3 objectInit) := gw_s (gt_t1 (List.mem_of_getElem? (i := 168) (by exact rfl))) (by decide +kernel)
set_option maxRecDepth 100000 in
theorem qw_246 : GW lw_tbl (.fieldLink RX4 15 "VatHouse$Runner" "works" "LVatHouse$Works;") := gw_s (gt_t1 (List.mem_of_getElem? (i := 169) (by exact rfl))) (by decide +kernel)
set_option maxRecDepth 100000 in
theorem qw_248 : GW lw_tbl (.fieldLink RX4 9 "VatHouse$Runner" "result" "I") := gw_s (gt_t1 (List.mem_of_getElem? (i := 171) (by exact rfl))) (by decide +kernel)
set_option maxRecDepth 100000 in
theorem qw_277 : GW lw_tbl (.classLink RX9 50 RX1) := gw_s (gt_t1 (List.mem_of_getElem? (i := 200) (by exact rfl))) (by decide +kernel)
set_option maxRecDepth 100000 in
theorem qw_278 : GW lw_tbl (.instantiable RX1 9) := gw_s (gt_t1 (List.mem_of_getElem? (i := 201) (by exact rfl))) (by decide +kernel)
set_option maxRecDepth 100000 in
theorem qw_279 : GW lw_tbl (.methodLink RX9 52 yX1_init) := gw_s (gt_t1 (List.mem_of_getElem? (i := 202) (by exact rfl))) (by decide +kernel)
set_option maxRecDepth 100000 in
theorem qw_280 : GW lw_tbl (.instanceMethod yX1_init) := gw_s (gt_t1 (List.mem_of_getElem? (i := 203) (by exact rfl))) (by decide +kernel)
set_option maxRecDepth 100000 in
theorem qw_281 : GW lw_tbl (.code yX1_init cX1_init 3 none) := gw_s (gt_t1 (List.mem_of_getElem? (i := 204) (by exact rfl))) (by decide +kernel)
set_option maxRecDepth 100000 in
theorem qw_282 : GW lw_tbl (.methodLink RX1 3 objectInit) := gw_s (gt_t1 (List.mem_of_getElem? (i := 205) (by exact rfl))) (by decide +kernel)
set_option maxRecDepth 100000 in
theorem qw_283 : GW lw_tbl (.classLink RX1 9 RX7) := gw_s (gt_t1 (List.mem_of_getElem? (i := 206) (by exact rfl))) (by decide +kernel)
set_option maxRecDepth 100000 in
theorem qw_284 : GW lw_tbl (.classLink RX1 17 RX0) := gw_s (gt_t1 (List.mem_of_getElem? (i := 207) (by exact rfl))) (by decide +kernel)
set_option maxRecDepth 100000 in
theorem qw_285 : GW lw_tbl (.instantiable RX0 8) := gw_s (gt_t1 (List.mem_of_getElem? (i := 208) (by exact rfl))) (by decide +kernel)
set_option maxRecDepth 100000 in
theorem qw_286 : GW lw_tbl (.methodLink RX1 19 yX0_init) := gw_s (gt_t1 (List.mem_of_getElem? (i := 209) (by exact rfl))) (by decide +kernel)
set_option maxRecDepth 100000 in
theorem qw_287 : GW lw_tbl (.instanceMethod yX0_init) := gw_s (gt_t1 (List.mem_of_getElem? (i := 210) (by exact rfl))) (by decide +kernel)
set_option maxRecDepth 100000 in
theorem qw_288 : GW lw_tbl (.code yX0_init cX0_init 3 none) := gw_s (gt_t1 (List.mem_of_getElem? (i := 211) (by exact rfl))) (by decide +kernel)
set_option maxRecDepth 100000 in
theorem qw_289 : GW lw_tbl (.methodLink RX0 3 objectInit) := gw_s (gt_t1 (List.mem_of_getElem? (i := 212) (by exact rfl))) (by decide +kernel)
set_option maxRecDepth 100000 in
theorem qw_290 : GW lw_tbl (.fieldLink RX0 15 "VatHouse$Cloth" "number" "I") := gw_s (gt_t1 (List.mem_of_getElem? (i := 213) (by exact rfl))) (by decide +kernel)
set_option maxRecDepth 100000 in
theorem qw_292 : GW lw_tbl (.fieldLink RX0 18 "VatHouse$Cloth" "weight" "I") := gw_s (gt_t1 (List.mem_of_getElem? (i := 215) (by exact rfl))) (by decide +kernel)
set_option maxRecDepth 100000 in
theorem qw_293 : GW lw_tbl (.fieldLink RX7 21 "VatHouse$Cloth" "weight" "I") := gw_s (gt_t1 (List.mem_of_getElem? (i := 216) (by exact rfl))) (by decide +kernel)
set_option maxRecDepth 100000 in
theorem qw_295 : GW lw_tbl (.fieldLink RX0 24 "VatHouse$Cloth" "loose" "I") := gw_s (gt_t1 (List.mem_of_getElem? (i := 218) (by exact rfl))) (by decide +kernel)
set_option maxRecDepth 100000 in
theorem qw_296 : GW lw_tbl (.fieldLink RX7 39 "VatHouse$Cloth" "loose" "I") := gw_s (gt_t1 (List.mem_of_getElem? (i := 219) (by exact rfl))) (by decide +kernel)
set_option maxRecDepth 100000 in
theorem qw_297 : GW lw_tbl (.fieldLink RX1 70 "VatHouse$Cloth" "loose" "I") := gw_s (gt_t1 (List.mem_of_getElem? (i := 220) (by exact rfl))) (by decide +kernel)
set_option maxRecDepth 100000 in
theorem qw_300 : GW lw_tbl (.fieldLink RX0 21 "VatHouse$Cloth" "fast" "I") := gw_s (gt_t1 (List.mem_of_getElem? (i := 223) (by exact rfl))) (by decide +kernel)
set_option maxRecDepth 100000 in
theorem qw_301 : GW lw_tbl (.fieldLink RX1 97 "VatHouse$Cloth" "fast" "I") := gw_s (gt_t1 (List.mem_of_getElem? (i := 224) (by exact rfl))) (by decide +kernel)
set_option maxRecDepth 100000 in
theorem qw_304 : GW lw_tbl (.fieldLink RX8 68 "VatHouse$Cloth" "dry" "Z") := gw_s (gt_t1 (List.mem_of_getElem? (i := 227) (by exact rfl))) (by decide +kernel)
set_option maxRecDepth 100000 in
theorem qw_305 : GW lw_tbl (.fieldLink RX9 102 "VatHouse$Cloth" "dry" "Z") := gw_s (gt_t1 (List.mem_of_getElem? (i := 228) (by exact rfl))) (by decide +kernel)
set_option maxRecDepth 100000 in
theorem qw_306 : GW lw_tbl (.fieldLink RX0 9 "VatHouse$Cloth" "day" "I") := gw_s (gt_t1 (List.mem_of_getElem? (i := 229) (by exact rfl))) (by decide +kernel)
set_option maxRecDepth 100000 in
theorem qw_307 : GW lw_tbl (.fieldLink RX8 72 "VatHouse$Cloth" "day" "I") := gw_s (gt_t1 (List.mem_of_getElem? (i := 230) (by exact rfl))) (by decide +kernel)
set_option maxRecDepth 100000 in
theorem qw_330 : GW lw_tbl (.methodLink RX1 40 yX7_init) := gw_s (gt_t2 (List.mem_of_getElem? (i := 13) (by exact rfl))) (by decide +kernel)
set_option maxRecDepth 100000 in
theorem qw_331 : GW lw_tbl (.fieldLink RX1 36 "VatHouse$Planner" "works" "LVatHouse$Works;") := gw_s (gt_t2 (List.mem_of_getElem? (i := 14) (by exact rfl))) (by decide +kernel)
set_option maxRecDepth 100000 in
theorem qw_332 : GW lw_tbl (.fieldLink RX1 11 "VatHouse$Planner" "trialVats" "[LVatHouse$Vat;") := gw_s (gt_t2 (List.mem_of_getElem? (i := 15) (by exact rfl))) (by decide +kernel)
set_option maxRecDepth 100000 in
theorem qw_333 : GW lw_tbl (.fieldLink RX1 22 "VatHouse$Planner" "trialCloth" "LVatHouse$Cloth;") := gw_s (gt_t2 (List.mem_of_getElem? (i := 16) (by exact rfl))) (by decide +kernel)
set_option maxRecDepth 100000 in
theorem qw_334 : GW lw_tbl (.fieldLink RX1 43 "VatHouse$Planner" "low" "I") := gw_s (gt_t2 (List.mem_of_getElem? (i := 17) (by exact rfl))) (by decide +kernel)
set_option maxRecDepth 100000 in
theorem qw_335 : GW lw_tbl (.fieldLink RX1 47 "VatHouse$Planner" "high" "I") := gw_s (gt_t2 (List.mem_of_getElem? (i := 18) (by exact rfl))) (by decide +kernel)
set_option maxRecDepth 100000 in
theorem qw_336 : GW lw_tbl (.fieldLink RX1 67 "VatHouse$Planner" "kept" "I") := gw_s (gt_t2 (List.mem_of_getElem? (i := 19) (by exact rfl))) (by decide +kernel)
set_option maxRecDepth 100000 in
theorem qw_337 : GW lw_tbl (.fieldLink RX9 186 "VatHouse$Planner" "kept" "I") := gw_s (gt_t2 (List.mem_of_getElem? (i := 20) (by exact rfl))) (by decide +kernel)
set_option maxRecDepth 100000 in
theorem qw_338 : GW lw_tbl (.fieldLink RX1 26 "VatHouse$Planner" "keptVats" "[I") := gw_s (gt_t2 (List.mem_of_getElem? (i := 21) (by exact rfl))) (by decide +kernel)
set_option maxRecDepth 100000 in
theorem qw_339 : GW lw_tbl (.fieldLink RX9 191 "VatHouse$Planner" "keptVats" "[I") := gw_s (gt_t2 (List.mem_of_getElem? (i := 22) (by exact rfl))) (by decide +kernel)
set_option maxRecDepth 100000 in
theorem qw_340 : GW lw_tbl (.fieldLink RX1 30 "VatHouse$Planner" "keptMinutes" "[I") := gw_s (gt_t2 (List.mem_of_getElem? (i := 23) (by exact rfl))) (by decide +kernel)
set_option maxRecDepth 100000 in
theorem qw_341 : GW lw_tbl (.fieldLink RX9 195 "VatHouse$Planner" "keptMinutes" "[I") := gw_s (gt_t2 (List.mem_of_getElem? (i := 24) (by exact rfl))) (by decide +kernel)
set_option maxRecDepth 100000 in
theorem qw_342 : GW lw_tbl (.fieldLink RX1 33 "VatHouse$Planner" "keptShades" "[I") := gw_s (gt_t2 (List.mem_of_getElem? (i := 25) (by exact rfl))) (by decide +kernel)
set_option maxRecDepth 100000 in
theorem qw_343 : GW lw_tbl (.fieldLink RX9 198 "VatHouse$Planner" "keptShades" "[I") := gw_s (gt_t2 (List.mem_of_getElem? (i := 26) (by exact rfl))) (by decide +kernel)
set_option maxRecDepth 100000 in
theorem qw_363 : GW lw_tbl (.fieldLink RX9 10 "VatHouse" "works" "LVatHouse$Works;") := gw_s (gt_t2 (List.mem_of_getElem? (i := 46) (by exact rfl))) (by decide +kernel)
set_option maxRecDepth 100000 in
theorem qw_364 : GW lw_tbl (.fieldLink RX9 18 "VatHouse" "cloths" "[LVatHouse$Cloth;") := gw_s (gt_t2 (List.mem_of_getElem? (i := 47) (by exact rfl))) (by decide +kernel)
set_option maxRecDepth 100000 in
theorem qw_365 : GW lw_tbl (.fieldLink RX9 92 "VatHouse" "clothsMade" "I") := gw_s (gt_t2 (List.mem_of_getElem? (i := 48) (by exact rfl))) (by decide +kernel)
set_option maxRecDepth 100000 in
theorem qw_366 : GW lw_tbl (.fieldLink RX9 68 "VatHouse" "grainsPutIn" "I") := gw_s (gt_t2 (List.mem_of_getElem? (i := 49) (by exact rfl))) (by decide +kernel)
set_option maxRecDepth 100000 in
theorem qw_367 : GW lw_tbl (.fieldLink RX9 22 "VatHouse" "tape" "[B") := gw_s (gt_t2 (List.mem_of_getElem? (i := 50) (by exact rfl))) (by decide +kernel)
set_option maxRecDepth 100000 in
theorem qw_369 : GW lw_tbl (.fieldLink RX9 31 "VatHouse" "reader" "LVatHouse$Reader;") := gw_s (gt_t2 (List.mem_of_getElem? (i := 52) (by exact rfl))) (by decide +kernel)
set_option maxRecDepth 100000 in
theorem qw_370 : GW lw_tbl (.fieldLink RX9 37 "VatHouse" "recipes" "[LVatHouse$Recipe;") := gw_s (gt_t2 (List.mem_of_getElem? (i := 53) (by exact rfl))) (by decide +kernel)
set_option maxRecDepth 100000 in
theorem qw_372 : GW lw_tbl (.fieldLink RX9 46 "VatHouse" "runner" "LVatHouse$Runner;") := gw_s (gt_t2 (List.mem_of_getElem? (i := 55) (by exact rfl))) (by decide +kernel)
set_option maxRecDepth 100000 in
theorem qw_373 : GW lw_tbl (.fieldLink RX9 53 "VatHouse" "planner" "LVatHouse$Planner;") := gw_s (gt_t2 (List.mem_of_getElem? (i := 56) (by exact rfl))) (by decide +kernel)
set_option maxRecDepth 100000 in
theorem qw_397 : GW lw_tbl (.methodLink RL 92 yX9_cloth) := gw_s (gt_t2 (List.mem_of_getElem? (i := 80) (by exact rfl))) (by decide +kernel)
set_option maxRecDepth 100000 in
theorem qw_398 : GW lw_tbl (.instanceMethod yX9_cloth) := gw_s (gt_t2 (List.mem_of_getElem? (i := 81) (by exact rfl))) (by decide +kernel)
set_option maxRecDepth 100000 in
theorem qw_399 : GW lw_tbl (.selects RX9 yX9_cloth yX9_cloth) := gw_s (gt_t2 (List.mem_of_getElem? (i := 82) (by exact rfl))) (by decide +kernel)
set_option maxRecDepth 100000 in
theorem qw_400 : GW lw_tbl (.code yX9_cloth cX9_cloth 2 (some .int)) := gw_s (gt_t2 (List.mem_of_getElem? (i := 83) (by exact rfl))) (by decide +kernel)
set_option maxRecDepth 100000 in
theorem qw_401 : GW lw_tbl (.methodLink RX9 95 yX0_init) := gw_s (gt_t2 (List.mem_of_getElem? (i := 84) (by exact rfl))) (by decide +kernel)
set_option maxRecDepth 100000 in
theorem qw_410 : GW lw_tbl (.methodLink RL 72 yL_charge) := gw_s (gt_t2 (List.mem_of_getElem? (i := 93) (by exact rfl))) (by decide +kernel)
set_option maxRecDepth 100000 in
theorem qw_411 : GW lw_tbl (.static yL_charge) := gw_s (gt_t2 (List.mem_of_getElem? (i := 94) (by exact rfl))) (by decide +kernel)
set_option maxRecDepth 100000 in
theorem qw_412 : GW lw_tbl (.codeWith yL_charge cL_charge 5 (some .int) [(0, 10, 13, 13)]) := gw_s (gt_t2 (List.mem_of_getElem? (i := 95) (by exact rfl))) (by decide +kernel)
set_option maxRecDepth 100000 in
theorem qw_413 : GW lw_tbl (.classLink RL 13 "java/util/NoSuchElementException") := gw_s (gt_t2 (List.mem_of_getElem? (i := 96) (by exact rfl))) (by decide +kernel)
set_option maxRecDepth 100000 in
theorem qw_414 : GW lw_tbl (.methodLink RL 7 yX9_charge) := gw_s (gt_t2 (List.mem_of_getElem? (i := 97) (by exact rfl))) (by decide +kernel)
set_option maxRecDepth 100000 in
theorem qw_415 : GW lw_tbl (.instanceMethod yX9_charge) := gw_s (gt_t2 (List.mem_of_getElem? (i := 98) (by exact rfl))) (by decide +kernel)
set_option maxRecDepth 100000 in
theorem qw_416 : GW lw_tbl (.selects RX9 yX9_charge yX9_charge) := gw_s (gt_t2 (List.mem_of_getElem? (i := 99) (by exact rfl))) (by decide +kernel)
set_option maxRecDepth 100000 in
theorem qw_417 : GW lw_tbl (.code yX9_charge cX9_charge 4 (some .int)) := gw_s (gt_t2 (List.mem_of_getElem? (i := 100) (by exact rfl))) (by decide +kernel)
set_option maxRecDepth 100000 in
theorem qw_418 : GW lw_tbl (.methodLink RX9 57 yX8_vatAt) := gw_s (gt_t2 (List.mem_of_getElem? (i := 101) (by exact rfl))) (by decide +kernel)
set_option maxRecDepth 100000 in
theorem qw_419 : GW lw_tbl (.instanceMethod yX8_vatAt) := gw_s (gt_t2 (List.mem_of_getElem? (i := 102) (by exact rfl))) (by decide +kernel)
set_option maxRecDepth 100000 in
theorem qw_420 : GW lw_tbl (.selects RX8 yX8_vatAt yX8_vatAt) := gw_s (gt_t2 (List.mem_of_getElem? (i := 103) (by exact rfl))) (by decide +kernel)
set_option maxRecDepth 100000 in
theorem qw_421 : GW lw_tbl (.code yX8_vatAt cX8_vatAt 2 (some (.object "VatHouse$Vat"))) := gw_s (gt_t2 (List.mem_of_getElem? (i := 104) (by exact rfl))) (by decide +kernel)
set_option maxRecDepth 100000 in
theorem qw_422 : GW lw_tbl (.classLink RX8 20 "java/util/NoSuchElementException") := gw_s (gt_t2 (List.mem_of_getElem? (i := 105) (by exact rfl))) (by decide +kernel)
set_option maxRecDepth 100000 in
theorem qw_488 : GW lw_tbl (.constant RX9 61 (1000000)) := gw_s (gt_t2 (List.mem_of_getElem? (i := 171) (by exact rfl))) (by decide +kernel)
set_option maxRecDepth 100000 in
theorem qw_489 : GW lw_tbl (.methodLink RL 82 yL_feed) := gw_s (gt_t2 (List.mem_of_getElem? (i := 172) (by exact rfl))) (by decide +kernel)
set_option maxRecDepth 100000 in
theorem qw_490 : GW lw_tbl (.static yL_feed) := gw_s (gt_t2 (List.mem_of_getElem? (i := 173) (by exact rfl))) (by decide +kernel)
set_option maxRecDepth 100000 in
theorem qw_491 : GW lw_tbl (.codeWith yL_feed cL_feed 5 (some .int) [(0, 10, 13, 13), (0, 10, 17, 18)]) := gw_s (gt_t2 (List.mem_of_getElem? (i := 174) (by exact rfl))) (by decide +kernel)
set_option maxRecDepth 100000 in
theorem qw_492 : GW lw_tbl (.classLink RL 18 "java/lang/IllegalArgumentException") := gw_s (gt_t2 (List.mem_of_getElem? (i := 175) (by exact rfl))) (by decide +kernel)
set_option maxRecDepth 100000 in
theorem qw_493 : GW lw_tbl (.methodLink RL 15 yX9_feed) := gw_s (gt_t2 (List.mem_of_getElem? (i := 176) (by exact rfl))) (by decide +kernel)
set_option maxRecDepth 100000 in
theorem qw_494 : GW lw_tbl (.instanceMethod yX9_feed) := gw_s (gt_t2 (List.mem_of_getElem? (i := 177) (by exact rfl))) (by decide +kernel)
set_option maxRecDepth 100000 in
theorem qw_495 : GW lw_tbl (.selects RX9 yX9_feed yX9_feed) := gw_s (gt_t2 (List.mem_of_getElem? (i := 178) (by exact rfl))) (by decide +kernel)
set_option maxRecDepth 100000 in
theorem qw_496 : GW lw_tbl (.code yX9_feed cX9_feed 4 (some .int)) := gw_s (gt_t2 (List.mem_of_getElem? (i := 179) (by exact rfl))) (by decide +kernel)
set_option maxRecDepth 100000 in
theorem qw_497 : GW lw_tbl (.methodLink RX9 71 yX9_demand) := gw_s (gt_t2 (List.mem_of_getElem? (i := 180) (by exact rfl))) (by decide +kernel)
set_option maxRecDepth 100000 in
theorem qw_498 : GW lw_tbl (.static yX9_demand) := gw_s (gt_t2 (List.mem_of_getElem? (i := 181) (by exact rfl))) (by decide +kernel)
set_option maxRecDepth 100000 in
theorem qw_499 : GW lw_tbl (.code yX9_demand cX9_demand 1 none) := gw_s (gt_t2 (List.mem_of_getElem? (i := 182) (by exact rfl))) (by decide +kernel)
set_option maxRecDepth 100000 in
theorem qw_500 : GW lw_tbl (.classLink RX9 252 "java/lang/IllegalArgumentException") := gw_s (gt_t2 (List.mem_of_getElem? (i := 183) (by exact rfl))) (by decide +kernel)
set_option maxRecDepth 100000 in
theorem qw_516 : GW lw_tbl (.methodLink RX9 75 yX7_takeFood) := gw_s (gt_t2 (List.mem_of_getElem? (i := 199) (by exact rfl))) (by decide +kernel)
set_option maxRecDepth 100000 in
theorem qw_517 : GW lw_tbl (.instanceMethod yX7_takeFood) := gw_s (gt_t2 (List.mem_of_getElem? (i := 200) (by exact rfl))) (by decide +kernel)
set_option maxRecDepth 100000 in
theorem qw_518 : GW lw_tbl (.selects RX7 yX7_takeFood yX7_takeFood) := gw_s (gt_t2 (List.mem_of_getElem? (i := 201) (by exact rfl))) (by decide +kernel)
set_option maxRecDepth 100000 in
theorem qw_519 : GW lw_tbl (.code yX7_takeFood cX7_takeFood 2 (some .boolean)) := gw_s (gt_t2 (List.mem_of_getElem? (i := 202) (by exact rfl))) (by decide +kernel)
set_option maxRecDepth 100000 in
theorem qw_520 : GW lw_tbl (.methodLink RL 85 yL_lime) := gw_s (gt_t2 (List.mem_of_getElem? (i := 203) (by exact rfl))) (by decide +kernel)
set_option maxRecDepth 100000 in
theorem qw_521 : GW lw_tbl (.static yL_lime) := gw_s (gt_t2 (List.mem_of_getElem? (i := 204) (by exact rfl))) (by decide +kernel)
set_option maxRecDepth 100000 in
theorem qw_522 : GW lw_tbl (.codeWith yL_lime cL_lime 4 (some .int) [(0, 9, 12, 13)]) := gw_s (gt_t2 (List.mem_of_getElem? (i := 205) (by exact rfl))) (by decide +kernel)
set_option maxRecDepth 100000 in
theorem qw_523 : GW lw_tbl (.methodLink RL 20 yX9_lime) := gw_s (gt_t2 (List.mem_of_getElem? (i := 206) (by exact rfl))) (by decide +kernel)
set_option maxRecDepth 100000 in
theorem qw_524 : GW lw_tbl (.instanceMethod yX9_lime) := gw_s (gt_t2 (List.mem_of_getElem? (i := 207) (by exact rfl))) (by decide +kernel)
set_option maxRecDepth 100000 in
theorem qw_525 : GW lw_tbl (.selects RX9 yX9_lime yX9_lime) := gw_s (gt_t2 (List.mem_of_getElem? (i := 208) (by exact rfl))) (by decide +kernel)
set_option maxRecDepth 100000 in
theorem qw_526 : GW lw_tbl (.code yX9_lime cX9_lime 3 (some .int)) := gw_s (gt_t2 (List.mem_of_getElem? (i := 209) (by exact rfl))) (by decide +kernel)
set_option maxRecDepth 100000 in
theorem qw_527 : GW lw_tbl (.methodLink RX9 82 yX7_takeLime) := gw_s (gt_t2 (List.mem_of_getElem? (i := 210) (by exact rfl))) (by decide +kernel)
set_option maxRecDepth 100000 in
theorem qw_528 : GW lw_tbl (.instanceMethod yX7_takeLime) := gw_s (gt_t2 (List.mem_of_getElem? (i := 211) (by exact rfl))) (by decide +kernel)
set_option maxRecDepth 100000 in
theorem qw_529 : GW lw_tbl (.selects RX7 yX7_takeLime yX7_takeLime) := gw_s (gt_t2 (List.mem_of_getElem? (i := 212) (by exact rfl))) (by decide +kernel)
set_option maxRecDepth 100000 in
theorem qw_530 : GW lw_tbl (.code yX7_takeLime cX7_takeLime 1 none) := gw_s (gt_t2 (List.mem_of_getElem? (i := 213) (by exact rfl))) (by decide +kernel)
set_option maxRecDepth 100000 in
theorem qw_543 : GW lw_tbl (.static Lib.Math.min.name) := gw_s (gt_t2 (List.mem_of_getElem? (i := 226) (by exact rfl))) (by decide +kernel)
set_option maxRecDepth 100000 in
theorem qw_544 : GW lw_tbl (.code Lib.Math.min.name Lib.Math.min.code 2 (some .int)) := gw_s (gt_t2 (List.mem_of_getElem? (i := 227) (by exact rfl))) (by decide +kernel)
set_option maxRecDepth 100000 in
theorem qw_563 : GW lw_tbl (.methodLink RX9 98 yX9_clothAt) := gw_s (gt_t3 (List.mem_of_getElem? (i := 6) (by exact rfl))) (by decide +kernel)
set_option maxRecDepth 100000 in
theorem qw_565 : GW lw_tbl (.instanceMethod yX9_clothAt) := gw_s (gt_t3 (List.mem_of_getElem? (i := 8) (by exact rfl))) (by decide +kernel)
set_option maxRecDepth 100000 in
theorem qw_566 : GW lw_tbl (.code yX9_clothAt cX9_clothAt 3 (some (.object "VatHouse$Cloth"))) := gw_s (gt_t3 (List.mem_of_getElem? (i := 9) (by exact rfl))) (by decide +kernel)
set_option maxRecDepth 100000 in
theorem qw_567 : GW lw_tbl (.classLink RX9 149 "java/util/NoSuchElementException") := gw_s (gt_t3 (List.mem_of_getElem? (i := 10) (by exact rfl))) (by decide +kernel)
set_option maxRecDepth 100000 in
theorem qw_571 : GW lw_tbl (.instanceMethod yX7_givesTo) := gw_s (gt_t3 (List.mem_of_getElem? (i := 14) (by exact rfl))) (by decide +kernel)
set_option maxRecDepth 100000 in
theorem qw_572 : GW lw_tbl (.selects RX7 yX7_givesTo yX7_givesTo) := gw_s (gt_t3 (List.mem_of_getElem? (i := 15) (by exact rfl))) (by decide +kernel)
set_option maxRecDepth 100000 in
theorem qw_573 : GW lw_tbl (.code yX7_givesTo cX7_givesTo 5 (some .int)) := gw_s (gt_t3 (List.mem_of_getElem? (i := 16) (by exact rfl))) (by decide +kernel)
set_option maxRecDepth 100000 in
theorem qw_574 : GW lw_tbl (.methodLink RX7 29 yX0_room) := gw_s (gt_t3 (List.mem_of_getElem? (i := 17) (by exact rfl))) (by decide +kernel)
set_option maxRecDepth 100000 in
theorem qw_575 : GW lw_tbl (.instanceMethod yX0_room) := gw_s (gt_t3 (List.mem_of_getElem? (i := 18) (by exact rfl))) (by decide +kernel)
set_option maxRecDepth 100000 in
theorem qw_576 : GW lw_tbl (.selects RX0 yX0_room yX0_room) := gw_s (gt_t3 (List.mem_of_getElem? (i := 19) (by exact rfl))) (by decide +kernel)
set_option maxRecDepth 100000 in
theorem qw_577 : GW lw_tbl (.code yX0_room cX0_room 1 (some .int)) := gw_s (gt_t3 (List.mem_of_getElem? (i := 20) (by exact rfl))) (by decide +kernel)
set_option maxRecDepth 100000 in
theorem qw_578 : GW lw_tbl (.methodLink RX7 33 Lib.Math.min.name) := gw_s (gt_t3 (List.mem_of_getElem? (i := 21) (by exact rfl))) (by decide +kernel)
set_option maxRecDepth 100000 in
theorem qw_584 : GW lw_tbl (.instanceMethod yX7_soak) := gw_s (gt_t3 (List.mem_of_getElem? (i := 27) (by exact rfl))) (by decide +kernel)
set_option maxRecDepth 100000 in
theorem qw_585 : GW lw_tbl (.selects RX7 yX7_soak yX7_soak) := gw_s (gt_t3 (List.mem_of_getElem? (i := 28) (by exact rfl))) (by decide +kernel)
set_option maxRecDepth 100000 in
theorem qw_586 : GW lw_tbl (.code yX7_soak cX7_soak 4 none) := gw_s (gt_t3 (List.mem_of_getElem? (i := 29) (by exact rfl))) (by decide +kernel)
set_option maxRecDepth 100000 in
theorem qw_587 : GW lw_tbl (.methodLink RL 100 yL_treat) := gw_s (gt_t3 (List.mem_of_getElem? (i := 30) (by exact rfl))) (by decide +kernel)
set_option maxRecDepth 100000 in
theorem qw_588 : GW lw_tbl (.static yL_treat) := gw_s (gt_t3 (List.mem_of_getElem? (i := 31) (by exact rfl))) (by decide +kernel)
set_option maxRecDepth 100000 in
theorem qw_589 : GW lw_tbl (.codeWith yL_treat cL_treat 5 (some .int) [(0, 10, 13, 13), (0, 10, 17, 18)]) := gw_s (gt_t3 (List.mem_of_getElem? (i := 32) (by exact rfl))) (by decide +kernel)
set_option maxRecDepth 100000 in
theorem qw_590 : GW lw_tbl (.methodLink RL 31 yX9_treat) := gw_s (gt_t3 (List.mem_of_getElem? (i := 33) (by exact rfl))) (by decide +kernel)
set_option maxRecDepth 100000 in
theorem qw_591 : GW lw_tbl (.instanceMethod yX9_treat) := gw_s (gt_t3 (List.mem_of_getElem? (i := 34) (by exact rfl))) (by decide +kernel)
set_option maxRecDepth 100000 in
theorem qw_592 : GW lw_tbl (.selects RX9 yX9_treat yX9_treat) := gw_s (gt_t3 (List.mem_of_getElem? (i := 35) (by exact rfl))) (by decide +kernel)
set_option maxRecDepth 100000 in
theorem qw_593 : GW lw_tbl (.code yX9_treat cX9_treat 4 (some .int)) := gw_s (gt_t3 (List.mem_of_getElem? (i := 36) (by exact rfl))) (by decide +kernel)
set_option maxRecDepth 100000 in
theorem qw_594 : GW lw_tbl (.methodLink RX9 114 yX8_airOut) := gw_s (gt_t3 (List.mem_of_getElem? (i := 37) (by exact rfl))) (by decide +kernel)
set_option maxRecDepth 100000 in
theorem qw_595 : GW lw_tbl (.instanceMethod yX8_airOut) := gw_s (gt_t3 (List.mem_of_getElem? (i := 38) (by exact rfl))) (by decide +kernel)
set_option maxRecDepth 100000 in
theorem qw_596 : GW lw_tbl (.selects RX8 yX8_airOut yX8_airOut) := gw_s (gt_t3 (List.mem_of_getElem? (i := 39) (by exact rfl))) (by decide +kernel)
set_option maxRecDepth 100000 in
theorem qw_597 : GW lw_tbl (.code yX8_airOut cX8_airOut 3 (some .int)) := gw_s (gt_t3 (List.mem_of_getElem? (i := 40) (by exact rfl))) (by decide +kernel)
set_option maxRecDepth 100000 in
theorem qw_598 : GW lw_tbl (.methodLink RX8 54 yX0_loseByAir) := gw_s (gt_t3 (List.mem_of_getElem? (i := 41) (by exact rfl))) (by decide +kernel)
set_option maxRecDepth 100000 in
theorem qw_599 : GW lw_tbl (.instanceMethod yX0_loseByAir) := gw_s (gt_t3 (List.mem_of_getElem? (i := 42) (by exact rfl))) (by decide +kernel)
set_option maxRecDepth 100000 in
theorem qw_600 : GW lw_tbl (.selects RX0 yX0_loseByAir yX0_loseByAir) := gw_s (gt_t3 (List.mem_of_getElem? (i := 43) (by exact rfl))) (by decide +kernel)
set_option maxRecDepth 100000 in
theorem qw_601 : GW lw_tbl (.code yX0_loseByAir cX0_loseByAir 2 (some .int)) := gw_s (gt_t3 (List.mem_of_getElem? (i := 44) (by exact rfl))) (by decide +kernel)
set_option maxRecDepth 100000 in
theorem qw_602 : GW lw_tbl (.methodLink RX9 118 yX8_washOut) := gw_s (gt_t3 (List.mem_of_getElem? (i := 45) (by exact rfl))) (by decide +kernel)
set_option maxRecDepth 100000 in
theorem qw_603 : GW lw_tbl (.instanceMethod yX8_washOut) := gw_s (gt_t3 (List.mem_of_getElem? (i := 46) (by exact rfl))) (by decide +kernel)
set_option maxRecDepth 100000 in
theorem qw_604 : GW lw_tbl (.selects RX8 yX8_washOut yX8_washOut) := gw_s (gt_t3 (List.mem_of_getElem? (i := 47) (by exact rfl))) (by decide +kernel)
set_option maxRecDepth 100000 in
theorem qw_605 : GW lw_tbl (.code yX8_washOut cX8_washOut 3 (some .int)) := gw_s (gt_t3 (List.mem_of_getElem? (i := 48) (by exact rfl))) (by decide +kernel)
set_option maxRecDepth 100000 in
theorem qw_606 : GW lw_tbl (.methodLink RX8 61 yX0_loseByWash) := gw_s (gt_t3 (List.mem_of_getElem? (i := 49) (by exact rfl))) (by decide +kernel)
set_option maxRecDepth 100000 in
theorem qw_607 : GW lw_tbl (.instanceMethod yX0_loseByWash) := gw_s (gt_t3 (List.mem_of_getElem? (i := 50) (by exact rfl))) (by decide +kernel)
set_option maxRecDepth 100000 in
theorem qw_608 : GW lw_tbl (.selects RX0 yX0_loseByWash yX0_loseByWash) := gw_s (gt_t3 (List.mem_of_getElem? (i := 51) (by exact rfl))) (by decide +kernel)
set_option maxRecDepth 100000 in
theorem qw_609 : GW lw_tbl (.code yX0_loseByWash cX0_loseByWash 3 (some .int)) := gw_s (gt_t3 (List.mem_of_getElem? (i := 52) (by exact rfl))) (by decide +kernel)
set_option maxRecDepth 100000 in
theorem qw_610 : GW lw_tbl (.methodLink RX9 121 yX8_dryOut) := gw_s (gt_t3 (List.mem_of_getElem? (i := 53) (by exact rfl))) (by decide +kernel)
set_option maxRecDepth 100000 in
theorem qw_611 : GW lw_tbl (.instanceMethod yX8_dryOut) := gw_s (gt_t3 (List.mem_of_getElem? (i := 54) (by exact rfl))) (by decide +kernel)
set_option maxRecDepth 100000 in
theorem qw_612 : GW lw_tbl (.selects RX8 yX8_dryOut yX8_dryOut) := gw_s (gt_t3 (List.mem_of_getElem? (i := 55) (by exact rfl))) (by decide +kernel)
set_option maxRecDepth 100000 in
theorem qw_613 : GW lw_tbl (.code yX8_dryOut cX8_dryOut 3 (some .int)) := gw_s (gt_t3 (List.mem_of_getElem? (i := 56) (by exact rfl))) (by decide +kernel)
set_option maxRecDepth 100000 in
theorem qw_614 : GW lw_tbl (.methodLink RX8 64 yX8_airOut) := gw_s (gt_t3 (List.mem_of_getElem? (i := 57) (by exact rfl))) (by decide +kernel)
