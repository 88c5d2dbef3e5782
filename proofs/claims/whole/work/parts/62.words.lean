set_option maxRecDepth 20000 in
theorem ww_1081 : Cond.methodLink RX11 168 yX11_ruleOn ∈ lwG := lwG_of 1081 (by decide +kernel) rfl
set_option maxRecDepth 20000 in
theorem ww_1083 : Cond.instanceMethod yX11_ruleOn ∈ lwG := lwG_of 1083 (by decide +kernel) rfl
set_option maxRecDepth 20000 in
theorem ww_18 : Cond.selects RX11 yX11_ruleOn yX11_ruleOn ∈ lwG := lwG_of 18 (by decide +kernel) rfl
set_option maxRecDepth 20000 in
theorem ww_887 : Cond.fieldLink RX11 172 RX11 "orderMany" "I" ∈ lwG := lwG_of 887 (by decide +kernel) rfl
set_option maxRecDepth 20000 in
theorem ww_889 : Cond.fieldLink RX11 175 RX11 "left" "I" ∈ lwG := lwG_of 889 (by decide +kernel) rfl
set_option maxRecDepth 20000 in
theorem ww_888 : Cond.fieldLink RX11 178 RX11 "sum" "I" ∈ lwG := lwG_of 888 (by decide +kernel) rfl
set_option maxRecDepth 20000 in
theorem ww_1104 : Cond.code yX11_findRate cX11_findRate 5 (some .boolean) ∈ lwG := lwG_of 1104 (by decide +kernel) rfl
set_option maxRecDepth 20000 in
theorem ww_1101 : Cond.methodLink RX11 181 yX11_findRate ∈ lwG := lwG_of 1101 (by decide +kernel) rfl
set_option maxRecDepth 20000 in
theorem ww_1103 : Cond.instanceMethod yX11_findRate ∈ lwG := lwG_of 1103 (by decide +kernel) rfl
set_option maxRecDepth 20000 in
theorem ww_21 : Cond.selects RX11 yX11_findRate yX11_findRate ∈ lwG := lwG_of 21 (by decide +kernel) rfl
set_option maxRecDepth 20000 in
theorem ww_1091 : Cond.code yX11_isWhat cX11_isWhat 1 (some .boolean) ∈ lwG := lwG_of 1091 (by decide +kernel) rfl
set_option maxRecDepth 20000 in
theorem ww_1089 : Cond.methodLink RX11 185 yX11_isWhat ∈ lwG := lwG_of 1089 (by decide +kernel) rfl
set_option maxRecDepth 20000 in
theorem ww_1090 : Cond.static yX11_isWhat ∈ lwG := lwG_of 1090 (by decide +kernel) rfl
set_option maxRecDepth 20000 in
theorem ww_1092 : Cond.constantLong RX11 188 (-1099511627777) ∈ lwG := lwG_of 1092 (by decide +kernel) rfl
set_option maxRecDepth 20000 in
theorem ww_1096 : Cond.code yX11_layMorning cX11_layMorning 3 none ∈ lwG := lwG_of 1096 (by decide +kernel) rfl
set_option maxRecDepth 20000 in
theorem ww_1093 : Cond.methodLink RX11 190 yX11_layMorning ∈ lwG := lwG_of 1093 (by decide +kernel) rfl
set_option maxRecDepth 20000 in
theorem ww_1095 : Cond.instanceMethod yX11_layMorning ∈ lwG := lwG_of 1095 (by decide +kernel) rfl
set_option maxRecDepth 20000 in
theorem ww_19 : Cond.selects RX11 yX11_layMorning yX11_layMorning ∈ lwG := lwG_of 19 (by decide +kernel) rfl
set_option maxRecDepth 20000 in
theorem ww_1100 : Cond.code yX11_findRateOn cX11_findRateOn 2 (some .boolean) ∈ lwG := lwG_of 1100 (by decide +kernel) rfl
set_option maxRecDepth 20000 in
theorem ww_1097 : Cond.methodLink RX11 194 yX11_findRateOn ∈ lwG := lwG_of 1097 (by decide +kernel) rfl
set_option maxRecDepth 20000 in
theorem ww_1099 : Cond.instanceMethod yX11_findRateOn ∈ lwG := lwG_of 1099 (by decide +kernel) rfl
set_option maxRecDepth 20000 in
theorem ww_20 : Cond.selects RX11 yX11_findRateOn yX11_findRateOn ∈ lwG := lwG_of 20 (by decide +kernel) rfl
set_option maxRecDepth 20000 in
theorem ww_1107 : Cond.code yX11_told cX11_told 7 (some .long) ∈ lwG := lwG_of 1107 (by decide +kernel) rfl
set_option maxRecDepth 20000 in
theorem ww_1105 : Cond.methodLink RX11 197 yX11_told ∈ lwG := lwG_of 1105 (by decide +kernel) rfl
set_option maxRecDepth 20000 in
theorem ww_1106 : Cond.static yX11_told ∈ lwG := lwG_of 1106 (by decide +kernel) rfl
set_option maxRecDepth 20000 in
theorem ww_1111 : Cond.constantLong RX11 201 (-1099511627780) ∈ lwG := lwG_of 1111 (by decide +kernel) rfl
set_option maxRecDepth 20000 in
theorem ww_890 : Cond.fieldLink RX11 203 RX11 "moved" "I" ∈ lwG := lwG_of 890 (by decide +kernel) rfl
set_option maxRecDepth 20000 in
theorem ww_1127 : Cond.code yX11_findMove cX11_findMove 8 (some .boolean) ∈ lwG := lwG_of 1127 (by decide +kernel) rfl
set_option maxRecDepth 20000 in
theorem ww_1124 : Cond.methodLink RX11 206 yX11_findMove ∈ lwG := lwG_of 1124 (by decide +kernel) rfl
set_option maxRecDepth 20000 in
theorem ww_1126 : Cond.instanceMethod yX11_findMove ∈ lwG := lwG_of 1126 (by decide +kernel) rfl
set_option maxRecDepth 20000 in
theorem ww_22 : Cond.selects RX11 yX11_findMove yX11_findMove ∈ lwG := lwG_of 22 (by decide +kernel) rfl
set_option maxRecDepth 20000 in
theorem ww_1134 : Cond.code yX11_ones cX11_ones 3 (some .int) ∈ lwG := lwG_of 1134 (by decide +kernel) rfl
set_option maxRecDepth 20000 in
theorem ww_1132 : Cond.methodLink RX11 210 yX11_ones ∈ lwG := lwG_of 1132 (by decide +kernel) rfl
set_option maxRecDepth 20000 in
theorem ww_1133 : Cond.static yX11_ones ∈ lwG := lwG_of 1133 (by decide +kernel) rfl
set_option maxRecDepth 20000 in
theorem ww_891 : Cond.fieldLink RX11 214 RX11 "desks" "I" ∈ lwG := lwG_of 891 (by decide +kernel) rfl
set_option maxRecDepth 20000 in
theorem ww_1150 : Cond.code yX11_isDesk cX11_isDesk 2 (some .boolean) ∈ lwG := lwG_of 1150 (by decide +kernel) rfl
set_option maxRecDepth 20000 in
theorem ww_1147 : Cond.methodLink RX11 217 yX11_isDesk ∈ lwG := lwG_of 1147 (by decide +kernel) rfl
set_option maxRecDepth 20000 in
theorem ww_1149 : Cond.instanceMethod yX11_isDesk ∈ lwG := lwG_of 1149 (by decide +kernel) rfl
set_option maxRecDepth 20000 in
theorem ww_24 : Cond.selects RX11 yX11_isDesk yX11_isDesk ∈ lwG := lwG_of 24 (by decide +kernel) rfl
set_option maxRecDepth 20000 in
theorem ww_1146 : Cond.code yX11_areTwo cX11_areTwo 3 (some .boolean) ∈ lwG := lwG_of 1146 (by decide +kernel) rfl
set_option maxRecDepth 20000 in
theorem ww_1143 : Cond.methodLink RX11 220 yX11_areTwo ∈ lwG := lwG_of 1143 (by decide +kernel) rfl
set_option maxRecDepth 20000 in
theorem ww_1145 : Cond.instanceMethod yX11_areTwo ∈ lwG := lwG_of 1145 (by decide +kernel) rfl
set_option maxRecDepth 20000 in
theorem ww_23 : Cond.selects RX11 yX11_areTwo yX11_areTwo ∈ lwG := lwG_of 23 (by decide +kernel) rfl
set_option maxRecDepth 20000 in
theorem ww_1151 : Cond.constantLong RX11 223 99 ∈ lwG := lwG_of 1151 (by decide +kernel) rfl
set_option maxRecDepth 20000 in
theorem ww_893 : Cond.fieldLink RX11 225 RX11 "contracts" "I" ∈ lwG := lwG_of 893 (by decide +kernel) rfl
set_option maxRecDepth 20000 in
theorem ww_1159 : Cond.code yX11_gainOf cX11_gainOf 7 (some .int) ∈ lwG := lwG_of 1159 (by decide +kernel) rfl
set_option maxRecDepth 20000 in
theorem ww_1156 : Cond.methodLink RX11 228 yX11_gainOf ∈ lwG := lwG_of 1156 (by decide +kernel) rfl
set_option maxRecDepth 20000 in
theorem ww_1158 : Cond.instanceMethod yX11_gainOf ∈ lwG := lwG_of 1158 (by decide +kernel) rfl
set_option maxRecDepth 20000 in
theorem ww_25 : Cond.selects RX11 yX11_gainOf yX11_gainOf ∈ lwG := lwG_of 25 (by decide +kernel) rfl
set_option maxRecDepth 20000 in
theorem ww_1163 : Cond.code yX11_gainsOf cX11_gainsOf 5 (some .int) ∈ lwG := lwG_of 1163 (by decide +kernel) rfl
set_option maxRecDepth 20000 in
theorem ww_1160 : Cond.methodLink RX11 232 yX11_gainsOf ∈ lwG := lwG_of 1160 (by decide +kernel) rfl
set_option maxRecDepth 20000 in
theorem ww_1162 : Cond.instanceMethod yX11_gainsOf ∈ lwG := lwG_of 1162 (by decide +kernel) rfl
set_option maxRecDepth 20000 in
theorem ww_26 : Cond.selects RX11 yX11_gainsOf yX11_gainsOf ∈ lwG := lwG_of 26 (by decide +kernel) rfl
set_option maxRecDepth 20000 in
theorem ww_1176 : Cond.constantLong RX11 235 5 ∈ lwG := lwG_of 1176 (by decide +kernel) rfl
set_option maxRecDepth 20000 in
theorem ww_899 : Cond.fieldLink RX11 237 RX11 "lents" "I" ∈ lwG := lwG_of 899 (by decide +kernel) rfl
set_option maxRecDepth 20000 in
theorem ww_905 : Cond.fieldLink RX11 240 RX11 "runs" "I" ∈ lwG := lwG_of 905 (by decide +kernel) rfl
set_option maxRecDepth 20000 in
theorem ww_908 : Cond.fieldLink RX11 243 RX11 "words" "I" ∈ lwG := lwG_of 908 (by decide +kernel) rfl
set_option maxRecDepth 20000 in
theorem ww_903 : Cond.fieldLink RX11 246 RX11 "low" "I" ∈ lwG := lwG_of 903 (by decide +kernel) rfl
set_option maxRecDepth 20000 in
theorem ww_904 : Cond.fieldLink RX11 249 RX11 "high" "I" ∈ lwG := lwG_of 904 (by decide +kernel) rfl
set_option maxRecDepth 20000 in
theorem ww_1192 : Cond.code yX11_findLent cX11_findLent 5 (some .boolean) ∈ lwG := lwG_of 1192 (by decide +kernel) rfl
set_option maxRecDepth 20000 in
theorem ww_1189 : Cond.methodLink RX11 252 yX11_findLent ∈ lwG := lwG_of 1189 (by decide +kernel) rfl
set_option maxRecDepth 20000 in
theorem ww_1191 : Cond.instanceMethod yX11_findLent ∈ lwG := lwG_of 1191 (by decide +kernel) rfl
set_option maxRecDepth 20000 in
theorem ww_28 : Cond.selects RX11 yX11_findLent yX11_findLent ∈ lwG := lwG_of 28 (by decide +kernel) rfl
set_option maxRecDepth 20000 in
theorem ww_1188 : Cond.code yX11_findTrue cX11_findTrue 4 (some .boolean) ∈ lwG := lwG_of 1188 (by decide +kernel) rfl
set_option maxRecDepth 20000 in
theorem ww_1185 : Cond.methodLink RX11 255 yX11_findTrue ∈ lwG := lwG_of 1185 (by decide +kernel) rfl
set_option maxRecDepth 20000 in
theorem ww_1187 : Cond.instanceMethod yX11_findTrue ∈ lwG := lwG_of 1187 (by decide +kernel) rfl
set_option maxRecDepth 20000 in
theorem ww_27 : Cond.selects RX11 yX11_findTrue yX11_findTrue ∈ lwG := lwG_of 27 (by decide +kernel) rfl
set_option maxRecDepth 20000 in
theorem ww_1200 : Cond.code yX11_outOf cX11_outOf 4 (some .int) ∈ lwG := lwG_of 1200 (by decide +kernel) rfl
set_option maxRecDepth 20000 in
theorem ww_1197 : Cond.methodLink RX11 258 yX11_outOf ∈ lwG := lwG_of 1197 (by decide +kernel) rfl
set_option maxRecDepth 20000 in
theorem ww_1199 : Cond.instanceMethod yX11_outOf ∈ lwG := lwG_of 1199 (by decide +kernel) rfl
set_option maxRecDepth 20000 in
theorem ww_29 : Cond.selects RX11 yX11_outOf yX11_outOf ∈ lwG := lwG_of 29 (by decide +kernel) rfl
set_option maxRecDepth 20000 in
theorem ww_1208 : Cond.code yX11_findRight cX11_findRight 4 (some .boolean) ∈ lwG := lwG_of 1208 (by decide +kernel) rfl
set_option maxRecDepth 20000 in
theorem ww_1205 : Cond.methodLink RX11 261 yX11_findRight ∈ lwG := lwG_of 1205 (by decide +kernel) rfl
set_option maxRecDepth 20000 in
theorem ww_1207 : Cond.instanceMethod yX11_findRight ∈ lwG := lwG_of 1207 (by decide +kernel) rfl
set_option maxRecDepth 20000 in
theorem ww_30 : Cond.selects RX11 yX11_findRight yX11_findRight ∈ lwG := lwG_of 30 (by decide +kernel) rfl
set_option maxRecDepth 20000 in
theorem ww_1221 : Cond.constantLong RX11 264 1000 ∈ lwG := lwG_of 1221 (by decide +kernel) rfl
set_option maxRecDepth 20000 in
theorem ww_1217 : Cond.constantLong RX11 266 3 ∈ lwG := lwG_of 1217 (by decide +kernel) rfl
set_option maxRecDepth 20000 in
theorem ww_1220 : Cond.code yX11_chanceOf cX11_chanceOf 7 (some .int) ∈ lwG := lwG_of 1220 (by decide +kernel) rfl
set_option maxRecDepth 20000 in
theorem ww_1218 : Cond.methodLink RX11 268 yX11_chanceOf ∈ lwG := lwG_of 1218 (by decide +kernel) rfl
set_option maxRecDepth 20000 in
theorem ww_1219 : Cond.static yX11_chanceOf ∈ lwG := lwG_of 1219 (by decide +kernel) rfl
set_option maxRecDepth 20000 in
theorem ww_1269 : Cond.code yX11_reachedFrom cX11_reachedFrom 5 (some .int) ∈ lwG := lwG_of 1269 (by decide +kernel) rfl
set_option maxRecDepth 20000 in
theorem ww_1266 : Cond.methodLink RX11 271 yX11_reachedFrom ∈ lwG := lwG_of 1266 (by decide +kernel) rfl
set_option maxRecDepth 20000 in
theorem ww_1268 : Cond.instanceMethod yX11_reachedFrom ∈ lwG := lwG_of 1268 (by decide +kernel) rfl
set_option maxRecDepth 20000 in
theorem ww_31 : Cond.selects RX11 yX11_reachedFrom yX11_reachedFrom ∈ lwG := lwG_of 31 (by decide +kernel) rfl
set_option maxRecDepth 20000 in
theorem ww_918 : Cond.fieldLink RX11 274 RX11 "worstBelow" "I" ∈ lwG := lwG_of 918 (by decide +kernel) rfl
set_option maxRecDepth 20000 in
theorem ww_917 : Cond.fieldLink RX11 277 RX11 "worstAbove" "I" ∈ lwG := lwG_of 917 (by decide +kernel) rfl
set_option maxRecDepth 20000 in
theorem ww_1285 : Cond.code yX11_findWorst cX11_findWorst 10 (some .boolean) ∈ lwG := lwG_of 1285 (by decide +kernel) rfl
set_option maxRecDepth 20000 in
theorem ww_1282 : Cond.methodLink RX11 280 yX11_findWorst ∈ lwG := lwG_of 1282 (by decide +kernel) rfl
set_option maxRecDepth 20000 in
theorem ww_1284 : Cond.instanceMethod yX11_findWorst ∈ lwG := lwG_of 1284 (by decide +kernel) rfl
set_option maxRecDepth 20000 in
theorem ww_33 : Cond.selects RX11 yX11_findWorst yX11_findWorst ∈ lwG := lwG_of 33 (by decide +kernel) rfl
set_option maxRecDepth 20000 in
theorem ww_920 : Cond.fieldLink RX11 283 RX11 "bestBelow" "I" ∈ lwG := lwG_of 920 (by decide +kernel) rfl
set_option maxRecDepth 20000 in
theorem ww_919 : Cond.fieldLink RX11 286 RX11 "bestAbove" "I" ∈ lwG := lwG_of 919 (by decide +kernel) rfl
set_option maxRecDepth 20000 in
theorem ww_1277 : Cond.constantLong RX11 289 4 ∈ lwG := lwG_of 1277 (by decide +kernel) rfl
set_option maxRecDepth 20000 in
theorem ww_1276 : Cond.code yX11_isPlan cX11_isPlan 3 (some .boolean) ∈ lwG := lwG_of 1276 (by decide +kernel) rfl
set_option maxRecDepth 20000 in
theorem ww_1274 : Cond.methodLink RX11 291 yX11_isPlan ∈ lwG := lwG_of 1274 (by decide +kernel) rfl
set_option maxRecDepth 20000 in
theorem ww_1275 : Cond.static yX11_isPlan ∈ lwG := lwG_of 1275 (by decide +kernel) rfl
set_option maxRecDepth 20000 in
theorem ww_1281 : Cond.code yX11_findBest cX11_findBest 6 (some .int) ∈ lwG := lwG_of 1281 (by decide +kernel) rfl
set_option maxRecDepth 20000 in
theorem ww_1278 : Cond.methodLink RX11 295 yX11_findBest ∈ lwG := lwG_of 1278 (by decide +kernel) rfl
set_option maxRecDepth 20000 in
theorem ww_1280 : Cond.instanceMethod yX11_findBest ∈ lwG := lwG_of 1280 (by decide +kernel) rfl
set_option maxRecDepth 20000 in
theorem ww_32 : Cond.selects RX11 yX11_findBest yX11_findBest ∈ lwG := lwG_of 32 (by decide +kernel) rfl
set_option maxRecDepth 20000 in
theorem ww_1296 : Cond.code yX11_isSheet cX11_isSheet 2 (some .boolean) ∈ lwG := lwG_of 1296 (by decide +kernel) rfl
set_option maxRecDepth 20000 in
theorem ww_1294 : Cond.methodLink RX11 299 yX11_isSheet ∈ lwG := lwG_of 1294 (by decide +kernel) rfl
set_option maxRecDepth 20000 in
theorem ww_1295 : Cond.static yX11_isSheet ∈ lwG := lwG_of 1295 (by decide +kernel) rfl
set_option maxRecDepth 20000 in
theorem ww_1308 : Cond.code yX11_lacks cX11_lacks 5 (some .int) ∈ lwG := lwG_of 1308 (by decide +kernel) rfl
set_option maxRecDepth 20000 in
theorem ww_1305 : Cond.methodLink RX11 302 yX11_lacks ∈ lwG := lwG_of 1305 (by decide +kernel) rfl
set_option maxRecDepth 20000 in
theorem ww_1307 : Cond.instanceMethod yX11_lacks ∈ lwG := lwG_of 1307 (by decide +kernel) rfl
set_option maxRecDepth 20000 in
theorem ww_34 : Cond.selects RX11 yX11_lacks yX11_lacks ∈ lwG := lwG_of 34 (by decide +kernel) rfl
set_option maxRecDepth 20000 in
theorem ww_55 : Cond.code yX10_init cX10_init 1 none ∈ lwG := lwG_of 55 (by decide +kernel) rfl
set_option maxRecDepth 20000 in
theorem ww_326 : Cond.code yX10_say cX10_say 5 (some .int) ∈ lwG := lwG_of 326 (by decide +kernel) rfl
set_option maxRecDepth 20000 in
theorem ww_350 : Cond.code yX10_said cX10_said 3 (some .int) ∈ lwG := lwG_of 350 (by decide +kernel) rfl
set_option maxRecDepth 20000 in
theorem ww_354 : Cond.code yX10_all cX10_all 7 (some .int) ∈ lwG := lwG_of 354 (by decide +kernel) rfl
set_option maxRecDepth 20000 in
theorem ww_369 : Cond.code yX10_type cX10_type 4 (some .int) ∈ lwG := lwG_of 369 (by decide +kernel) rfl
set_option maxRecDepth 20000 in
theorem ww_385 : Cond.code yX10_rules cX10_rules 2 (some .int) ∈ lwG := lwG_of 385 (by decide +kernel) rfl
set_option maxRecDepth 20000 in
theorem ww_425 : Cond.code yX10_rule cX10_rule 3 (some .int) ∈ lwG := lwG_of 425 (by decide +kernel) rfl
set_option maxRecDepth 20000 in
theorem ww_433 : Cond.code yX10_rate cX10_rate 3 (some .long) ∈ lwG := lwG_of 433 (by decide +kernel) rfl
set_option maxRecDepth 20000 in
theorem ww_478 : Cond.code yX10_thrown cX10_thrown 3 (some .int) ∈ lwG := lwG_of 478 (by decide +kernel) rfl
set_option maxRecDepth 20000 in
theorem ww_486 : Cond.code yX10_reach cX10_reach 5 (some .long) ∈ lwG := lwG_of 486 (by decide +kernel) rfl
set_option maxRecDepth 20000 in
theorem ww_502 : Cond.code yX10_move cX10_move 6 (some .long) ∈ lwG := lwG_of 502 (by decide +kernel) rfl
set_option maxRecDepth 20000 in
theorem ww_515 : Cond.code yX10_many cX10_many 4 (some .int) ∈ lwG := lwG_of 515 (by decide +kernel) rfl
set_option maxRecDepth 20000 in
theorem ww_534 : Cond.code yX10_desk cX10_desk 2 (some .int) ∈ lwG := lwG_of 534 (by decide +kernel) rfl
set_option maxRecDepth 20000 in
theorem ww_542 : Cond.code yX10_contract cX10_contract 6 (some .int) ∈ lwG := lwG_of 542 (by decide +kernel) rfl
set_option maxRecDepth 20000 in
theorem ww_558 : Cond.code yX10_gain cX10_gain 4 (some .int) ∈ lwG := lwG_of 558 (by decide +kernel) rfl
set_option maxRecDepth 20000 in
theorem ww_579 : Cond.code yX10_paid cX10_paid 4 (some .long) ∈ lwG := lwG_of 579 (by decide +kernel) rfl
set_option maxRecDepth 20000 in
theorem ww_592 : Cond.code yX10_unlike cX10_unlike 2 (some .int) ∈ lwG := lwG_of 592 (by decide +kernel) rfl
set_option maxRecDepth 20000 in
theorem ww_604 : Cond.code yX10_count cX10_count 2 (some .int) ∈ lwG := lwG_of 604 (by decide +kernel) rfl
set_option maxRecDepth 20000 in
theorem ww_632 : Cond.code yX10_lent cX10_lent 4 (some .int) ∈ lwG := lwG_of 632 (by decide +kernel) rfl
set_option maxRecDepth 20000 in
theorem ww_640 : Cond.code yX10_truth cX10_truth 4 (some .int) ∈ lwG := lwG_of 640 (by decide +kernel) rfl
set_option maxRecDepth 20000 in
theorem ww_672 : Cond.code yX10_out cX10_out 3 (some .int) ∈ lwG := lwG_of 672 (by decide +kernel) rfl
set_option maxRecDepth 20000 in
theorem ww_680 : Cond.code yX10_right cX10_right 3 (some .long) ∈ lwG := lwG_of 680 (by decide +kernel) rfl
set_option maxRecDepth 20000 in
theorem ww_689 : Cond.code yX10_lost cX10_lost 4 (some .long) ∈ lwG := lwG_of 689 (by decide +kernel) rfl
set_option maxRecDepth 20000 in
theorem ww_694 : Cond.code yX10_lean cX10_lean 9 (some .int) ∈ lwG := lwG_of 694 (by decide +kernel) rfl
set_option maxRecDepth 20000 in
theorem ww_702 : Cond.code yX10_run cX10_run 3 (some .int) ∈ lwG := lwG_of 702 (by decide +kernel) rfl
set_option maxRecDepth 20000 in
theorem ww_710 : Cond.code yX10_untrue cX10_untrue 2 (some .int) ∈ lwG := lwG_of 710 (by decide +kernel) rfl
set_option maxRecDepth 20000 in
theorem ww_727 : Cond.code yX10_backed cX10_backed 5 (some .int) ∈ lwG := lwG_of 727 (by decide +kernel) rfl
set_option maxRecDepth 20000 in
theorem ww_731 : Cond.code yX10_word cX10_word 5 (some .int) ∈ lwG := lwG_of 731 (by decide +kernel) rfl
set_option maxRecDepth 20000 in
theorem ww_739 : Cond.code yX10_wall cX10_wall 4 (some .int) ∈ lwG := lwG_of 739 (by decide +kernel) rfl
set_option maxRecDepth 20000 in
theorem ww_747 : Cond.code yX10_crossed cX10_crossed 2 (some .int) ∈ lwG := lwG_of 747 (by decide +kernel) rfl
set_option maxRecDepth 20000 in
theorem ww_755 : Cond.code yX10_knew cX10_knew 4 (some .int) ∈ lwG := lwG_of 755 (by decide +kernel) rfl
set_option maxRecDepth 20000 in
theorem ww_774 : Cond.code yX10_way cX10_way 4 (some .int) ∈ lwG := lwG_of 774 (by decide +kernel) rfl
set_option maxRecDepth 20000 in
theorem ww_782 : Cond.code yX10_owe cX10_owe 4 (some .int) ∈ lwG := lwG_of 782 (by decide +kernel) rfl
set_option maxRecDepth 20000 in
theorem ww_790 : Cond.code yX10_net cX10_net 2 (some .int) ∈ lwG := lwG_of 790 (by decide +kernel) rfl
set_option maxRecDepth 20000 in
theorem ww_798 : Cond.code yX10_ringed cX10_ringed 1 (some .int) ∈ lwG := lwG_of 798 (by decide +kernel) rfl
set_option maxRecDepth 20000 in
theorem ww_810 : Cond.code yX10_best cX10_best 4 (some .int) ∈ lwG := lwG_of 810 (by decide +kernel) rfl
set_option maxRecDepth 20000 in
theorem ww_839 : Cond.code yX10_worst cX10_worst 5 (some .long) ∈ lwG := lwG_of 839 (by decide +kernel) rfl
set_option maxRecDepth 20000 in
theorem ww_843 : Cond.code yX10_sheet cX10_sheet 4 (some .int) ∈ lwG := lwG_of 843 (by decide +kernel) rfl
set_option maxRecDepth 20000 in
theorem ww_852 : Cond.code yX10_drop cX10_drop 2 (some .int) ∈ lwG := lwG_of 852 (by decide +kernel) rfl
set_option maxRecDepth 20000 in
theorem ww_860 : Cond.code yX10_item cX10_item 6 (some .int) ∈ lwG := lwG_of 860 (by decide +kernel) rfl
set_option maxRecDepth 20000 in
theorem ww_872 : Cond.code yX11_init cX11_init 2 none ∈ lwG := lwG_of 872 (by decide +kernel) rfl
set_option maxRecDepth 20000 in
theorem ww_1029 : Cond.code yX11_say cX11_say 5 (some .int) ∈ lwG := lwG_of 1029 (by decide +kernel) rfl
set_option maxRecDepth 20000 in
theorem ww_1049 : Cond.code yX11_said cX11_said 3 (some .int) ∈ lwG := lwG_of 1049 (by decide +kernel) rfl
set_option maxRecDepth 20000 in
theorem ww_1053 : Cond.code yX11_type cX11_type 5 (some .int) ∈ lwG := lwG_of 1053 (by decide +kernel) rfl
set_option maxRecDepth 20000 in
theorem ww_1061 : Cond.code yX11_rules cX11_rules 4 (some .int) ∈ lwG := lwG_of 1061 (by decide +kernel) rfl
set_option maxRecDepth 20000 in
theorem ww_1079 : Cond.code yX11_rule cX11_rule 3 (some .int) ∈ lwG := lwG_of 1079 (by decide +kernel) rfl
set_option maxRecDepth 20000 in
theorem ww_1088 : Cond.code yX11_rate cX11_rate 3 (some .long) ∈ lwG := lwG_of 1088 (by decide +kernel) rfl
set_option maxRecDepth 20000 in
theorem ww_1115 : Cond.code yX11_thrown cX11_thrown 5 (some .int) ∈ lwG := lwG_of 1115 (by decide +kernel) rfl
set_option maxRecDepth 20000 in
theorem ww_1119 : Cond.code yX11_reach cX11_reach 5 (some .long) ∈ lwG := lwG_of 1119 (by decide +kernel) rfl
set_option maxRecDepth 20000 in
theorem ww_1123 : Cond.code yX11_move cX11_move 5 (some .long) ∈ lwG := lwG_of 1123 (by decide +kernel) rfl
set_option maxRecDepth 20000 in
theorem ww_1131 : Cond.code yX11_many cX11_many 8 (some .int) ∈ lwG := lwG_of 1131 (by decide +kernel) rfl
set_option maxRecDepth 20000 in
theorem ww_1138 : Cond.code yX11_desk cX11_desk 2 (some .int) ∈ lwG := lwG_of 1138 (by decide +kernel) rfl
set_option maxRecDepth 20000 in
theorem ww_1142 : Cond.code yX11_contract cX11_contract 6 (some .int) ∈ lwG := lwG_of 1142 (by decide +kernel) rfl
set_option maxRecDepth 20000 in
theorem ww_1155 : Cond.code yX11_gain cX11_gain 4 (some .int) ∈ lwG := lwG_of 1155 (by decide +kernel) rfl
set_option maxRecDepth 20000 in
theorem ww_1167 : Cond.code yX11_paid cX11_paid 4 (some .long) ∈ lwG := lwG_of 1167 (by decide +kernel) rfl
set_option maxRecDepth 20000 in
theorem ww_1171 : Cond.code yX11_unlike cX11_unlike 6 (some .int) ∈ lwG := lwG_of 1171 (by decide +kernel) rfl
set_option maxRecDepth 20000 in
theorem ww_1175 : Cond.code yX11_count cX11_count 2 (some .int) ∈ lwG := lwG_of 1175 (by decide +kernel) rfl
set_option maxRecDepth 20000 in
theorem ww_1180 : Cond.code yX11_lent cX11_lent 4 (some .int) ∈ lwG := lwG_of 1180 (by decide +kernel) rfl
set_option maxRecDepth 20000 in
theorem ww_1184 : Cond.code yX11_truth cX11_truth 4 (some .int) ∈ lwG := lwG_of 1184 (by decide +kernel) rfl
set_option maxRecDepth 20000 in
theorem ww_1196 : Cond.code yX11_out cX11_out 3 (some .int) ∈ lwG := lwG_of 1196 (by decide +kernel) rfl
set_option maxRecDepth 20000 in
theorem ww_1204 : Cond.code yX11_right cX11_right 3 (some .long) ∈ lwG := lwG_of 1204 (by decide +kernel) rfl
set_option maxRecDepth 20000 in
theorem ww_1212 : Cond.code yX11_lost cX11_lost 6 (some .long) ∈ lwG := lwG_of 1212 (by decide +kernel) rfl
set_option maxRecDepth 20000 in
theorem ww_1216 : Cond.code yX11_lean cX11_lean 9 (some .int) ∈ lwG := lwG_of 1216 (by decide +kernel) rfl
set_option maxRecDepth 20000 in
theorem ww_1225 : Cond.code yX11_run cX11_run 3 (some .int) ∈ lwG := lwG_of 1225 (by decide +kernel) rfl
set_option maxRecDepth 20000 in
theorem ww_1229 : Cond.code yX11_untrue cX11_untrue 2 (some .int) ∈ lwG := lwG_of 1229 (by decide +kernel) rfl
set_option maxRecDepth 20000 in
theorem ww_1233 : Cond.code yX11_backed cX11_backed 4 (some .int) ∈ lwG := lwG_of 1233 (by decide +kernel) rfl
set_option maxRecDepth 20000 in
theorem ww_1237 : Cond.code yX11_word cX11_word 5 (some .int) ∈ lwG := lwG_of 1237 (by decide +kernel) rfl
set_option maxRecDepth 20000 in
theorem ww_1241 : Cond.code yX11_wall cX11_wall 5 (some .int) ∈ lwG := lwG_of 1241 (by decide +kernel) rfl
set_option maxRecDepth 20000 in
theorem ww_1245 : Cond.code yX11_crossed cX11_crossed 4 (some .int) ∈ lwG := lwG_of 1245 (by decide +kernel) rfl
set_option maxRecDepth 20000 in
theorem ww_1249 : Cond.code yX11_knew cX11_knew 7 (some .int) ∈ lwG := lwG_of 1249 (by decide +kernel) rfl
set_option maxRecDepth 20000 in
theorem ww_1253 : Cond.code yX11_way cX11_way 9 (some .int) ∈ lwG := lwG_of 1253 (by decide +kernel) rfl
set_option maxRecDepth 20000 in
theorem ww_1257 : Cond.code yX11_owe cX11_owe 5 (some .int) ∈ lwG := lwG_of 1257 (by decide +kernel) rfl
set_option maxRecDepth 20000 in
theorem ww_1261 : Cond.code yX11_net cX11_net 4 (some .int) ∈ lwG := lwG_of 1261 (by decide +kernel) rfl
set_option maxRecDepth 20000 in
theorem ww_1265 : Cond.code yX11_ringed cX11_ringed 4 (some .int) ∈ lwG := lwG_of 1265 (by decide +kernel) rfl
set_option maxRecDepth 20000 in
theorem ww_1273 : Cond.code yX11_best cX11_best 4 (some .int) ∈ lwG := lwG_of 1273 (by decide +kernel) rfl
set_option maxRecDepth 20000 in
theorem ww_1289 : Cond.code yX11_worst cX11_worst 5 (some .long) ∈ lwG := lwG_of 1289 (by decide +kernel) rfl
set_option maxRecDepth 20000 in
theorem ww_1293 : Cond.code yX11_sheet cX11_sheet 5 (some .int) ∈ lwG := lwG_of 1293 (by decide +kernel) rfl
set_option maxRecDepth 20000 in
theorem ww_1300 : Cond.code yX11_drop cX11_drop 2 (some .int) ∈ lwG := lwG_of 1300 (by decide +kernel) rfl
set_option maxRecDepth 20000 in
theorem ww_1304 : Cond.code yX11_item cX11_item 6 (some .int) ∈ lwG := lwG_of 1304 (by decide +kernel) rfl
set_option maxRecDepth 20000 in
theorem ww_1312 : Cond.code yX11_all cX11_all 8 (some .int) ∈ lwG := lwG_of 1312 (by decide +kernel) rfl
