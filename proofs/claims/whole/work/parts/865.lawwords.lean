/-! ===== the law's words ===== -/
set_option maxRecDepth 20000 in
theorem ww_51 : Cond.classLink "SaidRateLaw" 7 RX10 ∈ lwG := lwG_of 51 (by decide +kernel) rfl
set_option maxRecDepth 20000 in
theorem ww_52 : Cond.instantiable RX10 12 ∈ lwG := lwG_of 52 (by decide +kernel) rfl
set_option maxRecDepth 20000 in
theorem ww_53 : Cond.methodLink "SaidRateLaw" 9 yX10_init ∈ lwG := lwG_of 53 (by decide +kernel) rfl
set_option maxRecDepth 20000 in
theorem ww_54 : Cond.instanceMethod yX10_init ∈ lwG := lwG_of 54 (by decide +kernel) rfl
set_option maxRecDepth 20000 in
theorem ww_868 : Cond.classLink "SaidRateLaw" 10 RX11 ∈ lwG := lwG_of 868 (by decide +kernel) rfl
set_option maxRecDepth 20000 in
theorem ww_869 : Cond.instantiable RX11 50 ∈ lwG := lwG_of 869 (by decide +kernel) rfl
set_option maxRecDepth 20000 in
theorem ww_870 : Cond.methodLink "SaidRateLaw" 12 yX11_init ∈ lwG := lwG_of 870 (by decide +kernel) rfl
set_option maxRecDepth 20000 in
theorem ww_871 : Cond.instanceMethod yX11_init ∈ lwG := lwG_of 871 (by decide +kernel) rfl
set_option maxRecDepth 20000 in
theorem ww_323 : Cond.methodLink "SaidRateLaw" 13 yX10_say ∈ lwG := lwG_of 323 (by decide +kernel) rfl
set_option maxRecDepth 20000 in
theorem ww_324 : Cond.instanceMethod yX10_say ∈ lwG := lwG_of 324 (by decide +kernel) rfl
set_option maxRecDepth 20000 in
theorem ww_325 : Cond.selects RX10 yX10_say yX10_say ∈ lwG := lwG_of 325 (by decide +kernel) rfl
set_option maxRecDepth 20000 in
theorem ww_1026 : Cond.methodLink "SaidRateLaw" 17 yX11_say ∈ lwG := lwG_of 1026 (by decide +kernel) rfl
set_option maxRecDepth 20000 in
theorem ww_1027 : Cond.instanceMethod yX11_say ∈ lwG := lwG_of 1027 (by decide +kernel) rfl
set_option maxRecDepth 20000 in
theorem ww_1028 : Cond.selects RX11 yX11_say yX11_say ∈ lwG := lwG_of 1028 (by decide +kernel) rfl
set_option maxRecDepth 20000 in
theorem ww_347 : Cond.methodLink "SaidRateLaw" 18 yX10_said ∈ lwG := lwG_of 347 (by decide +kernel) rfl
set_option maxRecDepth 20000 in
theorem ww_348 : Cond.instanceMethod yX10_said ∈ lwG := lwG_of 348 (by decide +kernel) rfl
set_option maxRecDepth 20000 in
theorem ww_349 : Cond.selects RX10 yX10_said yX10_said ∈ lwG := lwG_of 349 (by decide +kernel) rfl
set_option maxRecDepth 20000 in
theorem ww_1046 : Cond.methodLink "SaidRateLaw" 22 yX11_said ∈ lwG := lwG_of 1046 (by decide +kernel) rfl
set_option maxRecDepth 20000 in
theorem ww_1047 : Cond.instanceMethod yX11_said ∈ lwG := lwG_of 1047 (by decide +kernel) rfl
set_option maxRecDepth 20000 in
theorem ww_1048 : Cond.selects RX11 yX11_said yX11_said ∈ lwG := lwG_of 1048 (by decide +kernel) rfl
set_option maxRecDepth 20000 in
theorem ww_351 : Cond.methodLink "SaidRateLaw" 23 yX10_all ∈ lwG := lwG_of 351 (by decide +kernel) rfl
set_option maxRecDepth 20000 in
theorem ww_352 : Cond.instanceMethod yX10_all ∈ lwG := lwG_of 352 (by decide +kernel) rfl
set_option maxRecDepth 20000 in
theorem ww_353 : Cond.selects RX10 yX10_all yX10_all ∈ lwG := lwG_of 353 (by decide +kernel) rfl
set_option maxRecDepth 20000 in
theorem ww_1309 : Cond.methodLink "SaidRateLaw" 27 yX11_all ∈ lwG := lwG_of 1309 (by decide +kernel) rfl
set_option maxRecDepth 20000 in
theorem ww_1310 : Cond.instanceMethod yX11_all ∈ lwG := lwG_of 1310 (by decide +kernel) rfl
set_option maxRecDepth 20000 in
theorem ww_1311 : Cond.selects RX11 yX11_all yX11_all ∈ lwG := lwG_of 1311 (by decide +kernel) rfl
set_option maxRecDepth 20000 in
theorem ww_1313 : Cond.constantLong "SaidRateLaw" 28 4294967295 ∈ lwG := lwG_of 1313 (by decide +kernel) rfl
set_option maxRecDepth 20000 in
theorem ww_366 : Cond.methodLink "SaidRateLaw" 30 yX10_type ∈ lwG := lwG_of 366 (by decide +kernel) rfl
set_option maxRecDepth 20000 in
theorem ww_367 : Cond.instanceMethod yX10_type ∈ lwG := lwG_of 367 (by decide +kernel) rfl
set_option maxRecDepth 20000 in
theorem ww_368 : Cond.selects RX10 yX10_type yX10_type ∈ lwG := lwG_of 368 (by decide +kernel) rfl
set_option maxRecDepth 20000 in
theorem ww_1050 : Cond.methodLink "SaidRateLaw" 34 yX11_type ∈ lwG := lwG_of 1050 (by decide +kernel) rfl
set_option maxRecDepth 20000 in
theorem ww_1051 : Cond.instanceMethod yX11_type ∈ lwG := lwG_of 1051 (by decide +kernel) rfl
set_option maxRecDepth 20000 in
theorem ww_1052 : Cond.selects RX11 yX11_type yX11_type ∈ lwG := lwG_of 1052 (by decide +kernel) rfl
set_option maxRecDepth 20000 in
theorem ww_382 : Cond.methodLink "SaidRateLaw" 35 yX10_rules ∈ lwG := lwG_of 382 (by decide +kernel) rfl
set_option maxRecDepth 20000 in
theorem ww_383 : Cond.instanceMethod yX10_rules ∈ lwG := lwG_of 383 (by decide +kernel) rfl
set_option maxRecDepth 20000 in
theorem ww_384 : Cond.selects RX10 yX10_rules yX10_rules ∈ lwG := lwG_of 384 (by decide +kernel) rfl
set_option maxRecDepth 20000 in
theorem ww_1058 : Cond.methodLink "SaidRateLaw" 39 yX11_rules ∈ lwG := lwG_of 1058 (by decide +kernel) rfl
set_option maxRecDepth 20000 in
theorem ww_1059 : Cond.instanceMethod yX11_rules ∈ lwG := lwG_of 1059 (by decide +kernel) rfl
set_option maxRecDepth 20000 in
theorem ww_1060 : Cond.selects RX11 yX11_rules yX11_rules ∈ lwG := lwG_of 1060 (by decide +kernel) rfl
set_option maxRecDepth 20000 in
theorem ww_422 : Cond.methodLink "SaidRateLaw" 40 yX10_rule ∈ lwG := lwG_of 422 (by decide +kernel) rfl
set_option maxRecDepth 20000 in
theorem ww_423 : Cond.instanceMethod yX10_rule ∈ lwG := lwG_of 423 (by decide +kernel) rfl
set_option maxRecDepth 20000 in
theorem ww_424 : Cond.selects RX10 yX10_rule yX10_rule ∈ lwG := lwG_of 424 (by decide +kernel) rfl
set_option maxRecDepth 20000 in
theorem ww_1076 : Cond.methodLink "SaidRateLaw" 43 yX11_rule ∈ lwG := lwG_of 1076 (by decide +kernel) rfl
set_option maxRecDepth 20000 in
theorem ww_1077 : Cond.instanceMethod yX11_rule ∈ lwG := lwG_of 1077 (by decide +kernel) rfl
set_option maxRecDepth 20000 in
theorem ww_1078 : Cond.selects RX11 yX11_rule yX11_rule ∈ lwG := lwG_of 1078 (by decide +kernel) rfl
set_option maxRecDepth 20000 in
theorem ww_430 : Cond.methodLink "SaidRateLaw" 44 yX10_rate ∈ lwG := lwG_of 430 (by decide +kernel) rfl
set_option maxRecDepth 20000 in
theorem ww_431 : Cond.instanceMethod yX10_rate ∈ lwG := lwG_of 431 (by decide +kernel) rfl
set_option maxRecDepth 20000 in
theorem ww_432 : Cond.selects RX10 yX10_rate yX10_rate ∈ lwG := lwG_of 432 (by decide +kernel) rfl
set_option maxRecDepth 20000 in
theorem ww_1085 : Cond.methodLink "SaidRateLaw" 48 yX11_rate ∈ lwG := lwG_of 1085 (by decide +kernel) rfl
set_option maxRecDepth 20000 in
theorem ww_1086 : Cond.instanceMethod yX11_rate ∈ lwG := lwG_of 1086 (by decide +kernel) rfl
set_option maxRecDepth 20000 in
theorem ww_1087 : Cond.selects RX11 yX11_rate yX11_rate ∈ lwG := lwG_of 1087 (by decide +kernel) rfl
set_option maxRecDepth 20000 in
theorem ww_475 : Cond.methodLink "SaidRateLaw" 49 yX10_thrown ∈ lwG := lwG_of 475 (by decide +kernel) rfl
set_option maxRecDepth 20000 in
theorem ww_476 : Cond.instanceMethod yX10_thrown ∈ lwG := lwG_of 476 (by decide +kernel) rfl
set_option maxRecDepth 20000 in
theorem ww_477 : Cond.selects RX10 yX10_thrown yX10_thrown ∈ lwG := lwG_of 477 (by decide +kernel) rfl
set_option maxRecDepth 20000 in
theorem ww_1112 : Cond.methodLink "SaidRateLaw" 52 yX11_thrown ∈ lwG := lwG_of 1112 (by decide +kernel) rfl
set_option maxRecDepth 20000 in
theorem ww_1113 : Cond.instanceMethod yX11_thrown ∈ lwG := lwG_of 1113 (by decide +kernel) rfl
set_option maxRecDepth 20000 in
theorem ww_1114 : Cond.selects RX11 yX11_thrown yX11_thrown ∈ lwG := lwG_of 1114 (by decide +kernel) rfl
set_option maxRecDepth 20000 in
theorem ww_483 : Cond.methodLink "SaidRateLaw" 53 yX10_reach ∈ lwG := lwG_of 483 (by decide +kernel) rfl
set_option maxRecDepth 20000 in
theorem ww_484 : Cond.instanceMethod yX10_reach ∈ lwG := lwG_of 484 (by decide +kernel) rfl
set_option maxRecDepth 20000 in
theorem ww_485 : Cond.selects RX10 yX10_reach yX10_reach ∈ lwG := lwG_of 485 (by decide +kernel) rfl
set_option maxRecDepth 20000 in
theorem ww_1116 : Cond.methodLink "SaidRateLaw" 57 yX11_reach ∈ lwG := lwG_of 1116 (by decide +kernel) rfl
set_option maxRecDepth 20000 in
theorem ww_1117 : Cond.instanceMethod yX11_reach ∈ lwG := lwG_of 1117 (by decide +kernel) rfl
set_option maxRecDepth 20000 in
theorem ww_1118 : Cond.selects RX11 yX11_reach yX11_reach ∈ lwG := lwG_of 1118 (by decide +kernel) rfl
set_option maxRecDepth 20000 in
theorem ww_499 : Cond.methodLink "SaidRateLaw" 58 yX10_move ∈ lwG := lwG_of 499 (by decide +kernel) rfl
set_option maxRecDepth 20000 in
theorem ww_500 : Cond.instanceMethod yX10_move ∈ lwG := lwG_of 500 (by decide +kernel) rfl
set_option maxRecDepth 20000 in
theorem ww_501 : Cond.selects RX10 yX10_move yX10_move ∈ lwG := lwG_of 501 (by decide +kernel) rfl
set_option maxRecDepth 20000 in
theorem ww_1120 : Cond.methodLink "SaidRateLaw" 61 yX11_move ∈ lwG := lwG_of 1120 (by decide +kernel) rfl
set_option maxRecDepth 20000 in
theorem ww_1121 : Cond.instanceMethod yX11_move ∈ lwG := lwG_of 1121 (by decide +kernel) rfl
set_option maxRecDepth 20000 in
theorem ww_1122 : Cond.selects RX11 yX11_move yX11_move ∈ lwG := lwG_of 1122 (by decide +kernel) rfl
set_option maxRecDepth 20000 in
theorem ww_512 : Cond.methodLink "SaidRateLaw" 62 yX10_many ∈ lwG := lwG_of 512 (by decide +kernel) rfl
set_option maxRecDepth 20000 in
theorem ww_513 : Cond.instanceMethod yX10_many ∈ lwG := lwG_of 513 (by decide +kernel) rfl
set_option maxRecDepth 20000 in
theorem ww_514 : Cond.selects RX10 yX10_many yX10_many ∈ lwG := lwG_of 514 (by decide +kernel) rfl
set_option maxRecDepth 20000 in
theorem ww_1128 : Cond.methodLink "SaidRateLaw" 65 yX11_many ∈ lwG := lwG_of 1128 (by decide +kernel) rfl
set_option maxRecDepth 20000 in
theorem ww_1129 : Cond.instanceMethod yX11_many ∈ lwG := lwG_of 1129 (by decide +kernel) rfl
set_option maxRecDepth 20000 in
theorem ww_1130 : Cond.selects RX11 yX11_many yX11_many ∈ lwG := lwG_of 1130 (by decide +kernel) rfl
set_option maxRecDepth 20000 in
theorem ww_531 : Cond.methodLink "SaidRateLaw" 66 yX10_desk ∈ lwG := lwG_of 531 (by decide +kernel) rfl
set_option maxRecDepth 20000 in
theorem ww_532 : Cond.instanceMethod yX10_desk ∈ lwG := lwG_of 532 (by decide +kernel) rfl
set_option maxRecDepth 20000 in
theorem ww_533 : Cond.selects RX10 yX10_desk yX10_desk ∈ lwG := lwG_of 533 (by decide +kernel) rfl
set_option maxRecDepth 20000 in
theorem ww_1135 : Cond.methodLink "SaidRateLaw" 69 yX11_desk ∈ lwG := lwG_of 1135 (by decide +kernel) rfl
set_option maxRecDepth 20000 in
theorem ww_1136 : Cond.instanceMethod yX11_desk ∈ lwG := lwG_of 1136 (by decide +kernel) rfl
set_option maxRecDepth 20000 in
theorem ww_1137 : Cond.selects RX11 yX11_desk yX11_desk ∈ lwG := lwG_of 1137 (by decide +kernel) rfl
set_option maxRecDepth 20000 in
theorem ww_539 : Cond.methodLink "SaidRateLaw" 70 yX10_contract ∈ lwG := lwG_of 539 (by decide +kernel) rfl
set_option maxRecDepth 20000 in
theorem ww_540 : Cond.instanceMethod yX10_contract ∈ lwG := lwG_of 540 (by decide +kernel) rfl
set_option maxRecDepth 20000 in
theorem ww_541 : Cond.selects RX10 yX10_contract yX10_contract ∈ lwG := lwG_of 541 (by decide +kernel) rfl
set_option maxRecDepth 20000 in
theorem ww_1139 : Cond.methodLink "SaidRateLaw" 74 yX11_contract ∈ lwG := lwG_of 1139 (by decide +kernel) rfl
set_option maxRecDepth 20000 in
theorem ww_1140 : Cond.instanceMethod yX11_contract ∈ lwG := lwG_of 1140 (by decide +kernel) rfl
set_option maxRecDepth 20000 in
theorem ww_1141 : Cond.selects RX11 yX11_contract yX11_contract ∈ lwG := lwG_of 1141 (by decide +kernel) rfl
set_option maxRecDepth 20000 in
theorem ww_555 : Cond.methodLink "SaidRateLaw" 75 yX10_gain ∈ lwG := lwG_of 555 (by decide +kernel) rfl
set_option maxRecDepth 20000 in
theorem ww_556 : Cond.instanceMethod yX10_gain ∈ lwG := lwG_of 556 (by decide +kernel) rfl
set_option maxRecDepth 20000 in
theorem ww_557 : Cond.selects RX10 yX10_gain yX10_gain ∈ lwG := lwG_of 557 (by decide +kernel) rfl
set_option maxRecDepth 20000 in
theorem ww_1152 : Cond.methodLink "SaidRateLaw" 78 yX11_gain ∈ lwG := lwG_of 1152 (by decide +kernel) rfl
set_option maxRecDepth 20000 in
theorem ww_1153 : Cond.instanceMethod yX11_gain ∈ lwG := lwG_of 1153 (by decide +kernel) rfl
set_option maxRecDepth 20000 in
theorem ww_1154 : Cond.selects RX11 yX11_gain yX11_gain ∈ lwG := lwG_of 1154 (by decide +kernel) rfl
set_option maxRecDepth 20000 in
theorem ww_576 : Cond.methodLink "SaidRateLaw" 79 yX10_paid ∈ lwG := lwG_of 576 (by decide +kernel) rfl
set_option maxRecDepth 20000 in
theorem ww_577 : Cond.instanceMethod yX10_paid ∈ lwG := lwG_of 577 (by decide +kernel) rfl
set_option maxRecDepth 20000 in
theorem ww_578 : Cond.selects RX10 yX10_paid yX10_paid ∈ lwG := lwG_of 578 (by decide +kernel) rfl
set_option maxRecDepth 20000 in
theorem ww_1164 : Cond.methodLink "SaidRateLaw" 83 yX11_paid ∈ lwG := lwG_of 1164 (by decide +kernel) rfl
set_option maxRecDepth 20000 in
theorem ww_1165 : Cond.instanceMethod yX11_paid ∈ lwG := lwG_of 1165 (by decide +kernel) rfl
set_option maxRecDepth 20000 in
theorem ww_1166 : Cond.selects RX11 yX11_paid yX11_paid ∈ lwG := lwG_of 1166 (by decide +kernel) rfl
set_option maxRecDepth 20000 in
theorem ww_589 : Cond.methodLink "SaidRateLaw" 84 yX10_unlike ∈ lwG := lwG_of 589 (by decide +kernel) rfl
set_option maxRecDepth 20000 in
theorem ww_590 : Cond.instanceMethod yX10_unlike ∈ lwG := lwG_of 590 (by decide +kernel) rfl
set_option maxRecDepth 20000 in
theorem ww_591 : Cond.selects RX10 yX10_unlike yX10_unlike ∈ lwG := lwG_of 591 (by decide +kernel) rfl
set_option maxRecDepth 20000 in
theorem ww_1168 : Cond.methodLink "SaidRateLaw" 87 yX11_unlike ∈ lwG := lwG_of 1168 (by decide +kernel) rfl
set_option maxRecDepth 20000 in
theorem ww_1169 : Cond.instanceMethod yX11_unlike ∈ lwG := lwG_of 1169 (by decide +kernel) rfl
set_option maxRecDepth 20000 in
theorem ww_1170 : Cond.selects RX11 yX11_unlike yX11_unlike ∈ lwG := lwG_of 1170 (by decide +kernel) rfl
set_option maxRecDepth 20000 in
theorem ww_601 : Cond.methodLink "SaidRateLaw" 88 yX10_count ∈ lwG := lwG_of 601 (by decide +kernel) rfl
set_option maxRecDepth 20000 in
theorem ww_602 : Cond.instanceMethod yX10_count ∈ lwG := lwG_of 602 (by decide +kernel) rfl
set_option maxRecDepth 20000 in
theorem ww_603 : Cond.selects RX10 yX10_count yX10_count ∈ lwG := lwG_of 603 (by decide +kernel) rfl
set_option maxRecDepth 20000 in
theorem ww_1172 : Cond.methodLink "SaidRateLaw" 91 yX11_count ∈ lwG := lwG_of 1172 (by decide +kernel) rfl
set_option maxRecDepth 20000 in
theorem ww_1173 : Cond.instanceMethod yX11_count ∈ lwG := lwG_of 1173 (by decide +kernel) rfl
set_option maxRecDepth 20000 in
theorem ww_1174 : Cond.selects RX11 yX11_count yX11_count ∈ lwG := lwG_of 1174 (by decide +kernel) rfl
set_option maxRecDepth 20000 in
theorem ww_629 : Cond.methodLink "SaidRateLaw" 92 yX10_lent ∈ lwG := lwG_of 629 (by decide +kernel) rfl
set_option maxRecDepth 20000 in
theorem ww_630 : Cond.instanceMethod yX10_lent ∈ lwG := lwG_of 630 (by decide +kernel) rfl
set_option maxRecDepth 20000 in
theorem ww_631 : Cond.selects RX10 yX10_lent yX10_lent ∈ lwG := lwG_of 631 (by decide +kernel) rfl
set_option maxRecDepth 20000 in
theorem ww_1177 : Cond.methodLink "SaidRateLaw" 95 yX11_lent ∈ lwG := lwG_of 1177 (by decide +kernel) rfl
set_option maxRecDepth 20000 in
theorem ww_1178 : Cond.instanceMethod yX11_lent ∈ lwG := lwG_of 1178 (by decide +kernel) rfl
set_option maxRecDepth 20000 in
theorem ww_1179 : Cond.selects RX11 yX11_lent yX11_lent ∈ lwG := lwG_of 1179 (by decide +kernel) rfl
set_option maxRecDepth 20000 in
theorem ww_637 : Cond.methodLink "SaidRateLaw" 96 yX10_truth ∈ lwG := lwG_of 637 (by decide +kernel) rfl
set_option maxRecDepth 20000 in
theorem ww_638 : Cond.instanceMethod yX10_truth ∈ lwG := lwG_of 638 (by decide +kernel) rfl
set_option maxRecDepth 20000 in
theorem ww_639 : Cond.selects RX10 yX10_truth yX10_truth ∈ lwG := lwG_of 639 (by decide +kernel) rfl
set_option maxRecDepth 20000 in
theorem ww_1181 : Cond.methodLink "SaidRateLaw" 99 yX11_truth ∈ lwG := lwG_of 1181 (by decide +kernel) rfl
set_option maxRecDepth 20000 in
theorem ww_1182 : Cond.instanceMethod yX11_truth ∈ lwG := lwG_of 1182 (by decide +kernel) rfl
set_option maxRecDepth 20000 in
theorem ww_1183 : Cond.selects RX11 yX11_truth yX11_truth ∈ lwG := lwG_of 1183 (by decide +kernel) rfl
set_option maxRecDepth 20000 in
theorem ww_669 : Cond.methodLink "SaidRateLaw" 100 yX10_out ∈ lwG := lwG_of 669 (by decide +kernel) rfl
set_option maxRecDepth 20000 in
theorem ww_670 : Cond.instanceMethod yX10_out ∈ lwG := lwG_of 670 (by decide +kernel) rfl
set_option maxRecDepth 20000 in
theorem ww_671 : Cond.selects RX10 yX10_out yX10_out ∈ lwG := lwG_of 671 (by decide +kernel) rfl
set_option maxRecDepth 20000 in
theorem ww_1193 : Cond.methodLink "SaidRateLaw" 103 yX11_out ∈ lwG := lwG_of 1193 (by decide +kernel) rfl
set_option maxRecDepth 20000 in
theorem ww_1194 : Cond.instanceMethod yX11_out ∈ lwG := lwG_of 1194 (by decide +kernel) rfl
set_option maxRecDepth 20000 in
theorem ww_1195 : Cond.selects RX11 yX11_out yX11_out ∈ lwG := lwG_of 1195 (by decide +kernel) rfl
set_option maxRecDepth 20000 in
theorem ww_677 : Cond.methodLink "SaidRateLaw" 104 yX10_right ∈ lwG := lwG_of 677 (by decide +kernel) rfl
set_option maxRecDepth 20000 in
theorem ww_678 : Cond.instanceMethod yX10_right ∈ lwG := lwG_of 678 (by decide +kernel) rfl
set_option maxRecDepth 20000 in
theorem ww_679 : Cond.selects RX10 yX10_right yX10_right ∈ lwG := lwG_of 679 (by decide +kernel) rfl
set_option maxRecDepth 20000 in
theorem ww_1201 : Cond.methodLink "SaidRateLaw" 107 yX11_right ∈ lwG := lwG_of 1201 (by decide +kernel) rfl
set_option maxRecDepth 20000 in
theorem ww_1202 : Cond.instanceMethod yX11_right ∈ lwG := lwG_of 1202 (by decide +kernel) rfl
set_option maxRecDepth 20000 in
theorem ww_1203 : Cond.selects RX11 yX11_right yX11_right ∈ lwG := lwG_of 1203 (by decide +kernel) rfl
set_option maxRecDepth 20000 in
theorem ww_686 : Cond.methodLink "SaidRateLaw" 108 yX10_lost ∈ lwG := lwG_of 686 (by decide +kernel) rfl
set_option maxRecDepth 20000 in
theorem ww_687 : Cond.instanceMethod yX10_lost ∈ lwG := lwG_of 687 (by decide +kernel) rfl
set_option maxRecDepth 20000 in
theorem ww_688 : Cond.selects RX10 yX10_lost yX10_lost ∈ lwG := lwG_of 688 (by decide +kernel) rfl
set_option maxRecDepth 20000 in
theorem ww_1209 : Cond.methodLink "SaidRateLaw" 111 yX11_lost ∈ lwG := lwG_of 1209 (by decide +kernel) rfl
set_option maxRecDepth 20000 in
theorem ww_1210 : Cond.instanceMethod yX11_lost ∈ lwG := lwG_of 1210 (by decide +kernel) rfl
set_option maxRecDepth 20000 in
theorem ww_1211 : Cond.selects RX11 yX11_lost yX11_lost ∈ lwG := lwG_of 1211 (by decide +kernel) rfl
set_option maxRecDepth 20000 in
theorem ww_691 : Cond.methodLink "SaidRateLaw" 112 yX10_lean ∈ lwG := lwG_of 691 (by decide +kernel) rfl
set_option maxRecDepth 20000 in
theorem ww_692 : Cond.instanceMethod yX10_lean ∈ lwG := lwG_of 692 (by decide +kernel) rfl
set_option maxRecDepth 20000 in
theorem ww_693 : Cond.selects RX10 yX10_lean yX10_lean ∈ lwG := lwG_of 693 (by decide +kernel) rfl
set_option maxRecDepth 20000 in
theorem ww_1213 : Cond.methodLink "SaidRateLaw" 115 yX11_lean ∈ lwG := lwG_of 1213 (by decide +kernel) rfl
set_option maxRecDepth 20000 in
theorem ww_1214 : Cond.instanceMethod yX11_lean ∈ lwG := lwG_of 1214 (by decide +kernel) rfl
set_option maxRecDepth 20000 in
theorem ww_1215 : Cond.selects RX11 yX11_lean yX11_lean ∈ lwG := lwG_of 1215 (by decide +kernel) rfl
set_option maxRecDepth 20000 in
theorem ww_699 : Cond.methodLink "SaidRateLaw" 116 yX10_run ∈ lwG := lwG_of 699 (by decide +kernel) rfl
set_option maxRecDepth 20000 in
theorem ww_700 : Cond.instanceMethod yX10_run ∈ lwG := lwG_of 700 (by decide +kernel) rfl
set_option maxRecDepth 20000 in
theorem ww_701 : Cond.selects RX10 yX10_run yX10_run ∈ lwG := lwG_of 701 (by decide +kernel) rfl
set_option maxRecDepth 20000 in
theorem ww_1222 : Cond.methodLink "SaidRateLaw" 119 yX11_run ∈ lwG := lwG_of 1222 (by decide +kernel) rfl
set_option maxRecDepth 20000 in
theorem ww_1223 : Cond.instanceMethod yX11_run ∈ lwG := lwG_of 1223 (by decide +kernel) rfl
set_option maxRecDepth 20000 in
theorem ww_1224 : Cond.selects RX11 yX11_run yX11_run ∈ lwG := lwG_of 1224 (by decide +kernel) rfl
set_option maxRecDepth 20000 in
theorem ww_707 : Cond.methodLink "SaidRateLaw" 120 yX10_untrue ∈ lwG := lwG_of 707 (by decide +kernel) rfl
set_option maxRecDepth 20000 in
theorem ww_708 : Cond.instanceMethod yX10_untrue ∈ lwG := lwG_of 708 (by decide +kernel) rfl
set_option maxRecDepth 20000 in
theorem ww_709 : Cond.selects RX10 yX10_untrue yX10_untrue ∈ lwG := lwG_of 709 (by decide +kernel) rfl
set_option maxRecDepth 20000 in
theorem ww_1226 : Cond.methodLink "SaidRateLaw" 123 yX11_untrue ∈ lwG := lwG_of 1226 (by decide +kernel) rfl
set_option maxRecDepth 20000 in
theorem ww_1227 : Cond.instanceMethod yX11_untrue ∈ lwG := lwG_of 1227 (by decide +kernel) rfl
set_option maxRecDepth 20000 in
theorem ww_1228 : Cond.selects RX11 yX11_untrue yX11_untrue ∈ lwG := lwG_of 1228 (by decide +kernel) rfl
set_option maxRecDepth 20000 in
theorem ww_724 : Cond.methodLink "SaidRateLaw" 124 yX10_backed ∈ lwG := lwG_of 724 (by decide +kernel) rfl
set_option maxRecDepth 20000 in
theorem ww_725 : Cond.instanceMethod yX10_backed ∈ lwG := lwG_of 725 (by decide +kernel) rfl
set_option maxRecDepth 20000 in
theorem ww_726 : Cond.selects RX10 yX10_backed yX10_backed ∈ lwG := lwG_of 726 (by decide +kernel) rfl
set_option maxRecDepth 20000 in
theorem ww_1230 : Cond.methodLink "SaidRateLaw" 127 yX11_backed ∈ lwG := lwG_of 1230 (by decide +kernel) rfl
set_option maxRecDepth 20000 in
theorem ww_1231 : Cond.instanceMethod yX11_backed ∈ lwG := lwG_of 1231 (by decide +kernel) rfl
set_option maxRecDepth 20000 in
theorem ww_1232 : Cond.selects RX11 yX11_backed yX11_backed ∈ lwG := lwG_of 1232 (by decide +kernel) rfl
set_option maxRecDepth 20000 in
theorem ww_728 : Cond.methodLink "SaidRateLaw" 128 yX10_word ∈ lwG := lwG_of 728 (by decide +kernel) rfl
set_option maxRecDepth 20000 in
theorem ww_729 : Cond.instanceMethod yX10_word ∈ lwG := lwG_of 729 (by decide +kernel) rfl
set_option maxRecDepth 20000 in
theorem ww_730 : Cond.selects RX10 yX10_word yX10_word ∈ lwG := lwG_of 730 (by decide +kernel) rfl
set_option maxRecDepth 20000 in
theorem ww_1234 : Cond.methodLink "SaidRateLaw" 131 yX11_word ∈ lwG := lwG_of 1234 (by decide +kernel) rfl
set_option maxRecDepth 20000 in
theorem ww_1235 : Cond.instanceMethod yX11_word ∈ lwG := lwG_of 1235 (by decide +kernel) rfl
set_option maxRecDepth 20000 in
theorem ww_1236 : Cond.selects RX11 yX11_word yX11_word ∈ lwG := lwG_of 1236 (by decide +kernel) rfl
set_option maxRecDepth 20000 in
theorem ww_736 : Cond.methodLink "SaidRateLaw" 132 yX10_wall ∈ lwG := lwG_of 736 (by decide +kernel) rfl
set_option maxRecDepth 20000 in
theorem ww_737 : Cond.instanceMethod yX10_wall ∈ lwG := lwG_of 737 (by decide +kernel) rfl
set_option maxRecDepth 20000 in
theorem ww_738 : Cond.selects RX10 yX10_wall yX10_wall ∈ lwG := lwG_of 738 (by decide +kernel) rfl
set_option maxRecDepth 20000 in
theorem ww_1238 : Cond.methodLink "SaidRateLaw" 136 yX11_wall ∈ lwG := lwG_of 1238 (by decide +kernel) rfl
set_option maxRecDepth 20000 in
theorem ww_1239 : Cond.instanceMethod yX11_wall ∈ lwG := lwG_of 1239 (by decide +kernel) rfl
set_option maxRecDepth 20000 in
theorem ww_1240 : Cond.selects RX11 yX11_wall yX11_wall ∈ lwG := lwG_of 1240 (by decide +kernel) rfl
set_option maxRecDepth 20000 in
theorem ww_744 : Cond.methodLink "SaidRateLaw" 137 yX10_crossed ∈ lwG := lwG_of 744 (by decide +kernel) rfl
set_option maxRecDepth 20000 in
theorem ww_745 : Cond.instanceMethod yX10_crossed ∈ lwG := lwG_of 745 (by decide +kernel) rfl
set_option maxRecDepth 20000 in
theorem ww_746 : Cond.selects RX10 yX10_crossed yX10_crossed ∈ lwG := lwG_of 746 (by decide +kernel) rfl
set_option maxRecDepth 20000 in
theorem ww_1242 : Cond.methodLink "SaidRateLaw" 140 yX11_crossed ∈ lwG := lwG_of 1242 (by decide +kernel) rfl
set_option maxRecDepth 20000 in
theorem ww_1243 : Cond.instanceMethod yX11_crossed ∈ lwG := lwG_of 1243 (by decide +kernel) rfl
set_option maxRecDepth 20000 in
theorem ww_1244 : Cond.selects RX11 yX11_crossed yX11_crossed ∈ lwG := lwG_of 1244 (by decide +kernel) rfl
set_option maxRecDepth 20000 in
theorem ww_752 : Cond.methodLink "SaidRateLaw" 141 yX10_knew ∈ lwG := lwG_of 752 (by decide +kernel) rfl
set_option maxRecDepth 20000 in
theorem ww_753 : Cond.instanceMethod yX10_knew ∈ lwG := lwG_of 753 (by decide +kernel) rfl
set_option maxRecDepth 20000 in
theorem ww_754 : Cond.selects RX10 yX10_knew yX10_knew ∈ lwG := lwG_of 754 (by decide +kernel) rfl
set_option maxRecDepth 20000 in
theorem ww_1246 : Cond.methodLink "SaidRateLaw" 144 yX11_knew ∈ lwG := lwG_of 1246 (by decide +kernel) rfl
set_option maxRecDepth 20000 in
theorem ww_1247 : Cond.instanceMethod yX11_knew ∈ lwG := lwG_of 1247 (by decide +kernel) rfl
set_option maxRecDepth 20000 in
theorem ww_1248 : Cond.selects RX11 yX11_knew yX11_knew ∈ lwG := lwG_of 1248 (by decide +kernel) rfl
set_option maxRecDepth 20000 in
theorem ww_771 : Cond.methodLink "SaidRateLaw" 145 yX10_way ∈ lwG := lwG_of 771 (by decide +kernel) rfl
set_option maxRecDepth 20000 in
theorem ww_772 : Cond.instanceMethod yX10_way ∈ lwG := lwG_of 772 (by decide +kernel) rfl
set_option maxRecDepth 20000 in
theorem ww_773 : Cond.selects RX10 yX10_way yX10_way ∈ lwG := lwG_of 773 (by decide +kernel) rfl
set_option maxRecDepth 20000 in
theorem ww_1250 : Cond.methodLink "SaidRateLaw" 148 yX11_way ∈ lwG := lwG_of 1250 (by decide +kernel) rfl
set_option maxRecDepth 20000 in
theorem ww_1251 : Cond.instanceMethod yX11_way ∈ lwG := lwG_of 1251 (by decide +kernel) rfl
set_option maxRecDepth 20000 in
theorem ww_1252 : Cond.selects RX11 yX11_way yX11_way ∈ lwG := lwG_of 1252 (by decide +kernel) rfl
set_option maxRecDepth 20000 in
theorem ww_779 : Cond.methodLink "SaidRateLaw" 149 yX10_owe ∈ lwG := lwG_of 779 (by decide +kernel) rfl
set_option maxRecDepth 20000 in
theorem ww_780 : Cond.instanceMethod yX10_owe ∈ lwG := lwG_of 780 (by decide +kernel) rfl
set_option maxRecDepth 20000 in
theorem ww_781 : Cond.selects RX10 yX10_owe yX10_owe ∈ lwG := lwG_of 781 (by decide +kernel) rfl
set_option maxRecDepth 20000 in
theorem ww_1254 : Cond.methodLink "SaidRateLaw" 152 yX11_owe ∈ lwG := lwG_of 1254 (by decide +kernel) rfl
set_option maxRecDepth 20000 in
theorem ww_1255 : Cond.instanceMethod yX11_owe ∈ lwG := lwG_of 1255 (by decide +kernel) rfl
set_option maxRecDepth 20000 in
theorem ww_1256 : Cond.selects RX11 yX11_owe yX11_owe ∈ lwG := lwG_of 1256 (by decide +kernel) rfl
set_option maxRecDepth 20000 in
theorem ww_787 : Cond.methodLink "SaidRateLaw" 153 yX10_net ∈ lwG := lwG_of 787 (by decide +kernel) rfl
set_option maxRecDepth 20000 in
theorem ww_788 : Cond.instanceMethod yX10_net ∈ lwG := lwG_of 788 (by decide +kernel) rfl
set_option maxRecDepth 20000 in
theorem ww_789 : Cond.selects RX10 yX10_net yX10_net ∈ lwG := lwG_of 789 (by decide +kernel) rfl
set_option maxRecDepth 20000 in
theorem ww_1258 : Cond.methodLink "SaidRateLaw" 156 yX11_net ∈ lwG := lwG_of 1258 (by decide +kernel) rfl
set_option maxRecDepth 20000 in
theorem ww_1259 : Cond.instanceMethod yX11_net ∈ lwG := lwG_of 1259 (by decide +kernel) rfl
set_option maxRecDepth 20000 in
theorem ww_1260 : Cond.selects RX11 yX11_net yX11_net ∈ lwG := lwG_of 1260 (by decide +kernel) rfl
set_option maxRecDepth 20000 in
theorem ww_795 : Cond.methodLink "SaidRateLaw" 157 yX10_ringed ∈ lwG := lwG_of 795 (by decide +kernel) rfl
set_option maxRecDepth 20000 in
theorem ww_796 : Cond.instanceMethod yX10_ringed ∈ lwG := lwG_of 796 (by decide +kernel) rfl
set_option maxRecDepth 20000 in
theorem ww_797 : Cond.selects RX10 yX10_ringed yX10_ringed ∈ lwG := lwG_of 797 (by decide +kernel) rfl
set_option maxRecDepth 20000 in
theorem ww_1262 : Cond.methodLink "SaidRateLaw" 161 yX11_ringed ∈ lwG := lwG_of 1262 (by decide +kernel) rfl
set_option maxRecDepth 20000 in
theorem ww_1263 : Cond.instanceMethod yX11_ringed ∈ lwG := lwG_of 1263 (by decide +kernel) rfl
set_option maxRecDepth 20000 in
theorem ww_1264 : Cond.selects RX11 yX11_ringed yX11_ringed ∈ lwG := lwG_of 1264 (by decide +kernel) rfl
set_option maxRecDepth 20000 in
theorem ww_807 : Cond.methodLink "SaidRateLaw" 162 yX10_best ∈ lwG := lwG_of 807 (by decide +kernel) rfl
set_option maxRecDepth 20000 in
theorem ww_808 : Cond.instanceMethod yX10_best ∈ lwG := lwG_of 808 (by decide +kernel) rfl
set_option maxRecDepth 20000 in
theorem ww_809 : Cond.selects RX10 yX10_best yX10_best ∈ lwG := lwG_of 809 (by decide +kernel) rfl
set_option maxRecDepth 20000 in
theorem ww_1270 : Cond.methodLink "SaidRateLaw" 165 yX11_best ∈ lwG := lwG_of 1270 (by decide +kernel) rfl
set_option maxRecDepth 20000 in
theorem ww_1271 : Cond.instanceMethod yX11_best ∈ lwG := lwG_of 1271 (by decide +kernel) rfl
set_option maxRecDepth 20000 in
theorem ww_1272 : Cond.selects RX11 yX11_best yX11_best ∈ lwG := lwG_of 1272 (by decide +kernel) rfl
set_option maxRecDepth 20000 in
theorem ww_836 : Cond.methodLink "SaidRateLaw" 166 yX10_worst ∈ lwG := lwG_of 836 (by decide +kernel) rfl
set_option maxRecDepth 20000 in
theorem ww_837 : Cond.instanceMethod yX10_worst ∈ lwG := lwG_of 837 (by decide +kernel) rfl
set_option maxRecDepth 20000 in
theorem ww_838 : Cond.selects RX10 yX10_worst yX10_worst ∈ lwG := lwG_of 838 (by decide +kernel) rfl
set_option maxRecDepth 20000 in
theorem ww_1286 : Cond.methodLink "SaidRateLaw" 169 yX11_worst ∈ lwG := lwG_of 1286 (by decide +kernel) rfl
set_option maxRecDepth 20000 in
theorem ww_1287 : Cond.instanceMethod yX11_worst ∈ lwG := lwG_of 1287 (by decide +kernel) rfl
set_option maxRecDepth 20000 in
theorem ww_1288 : Cond.selects RX11 yX11_worst yX11_worst ∈ lwG := lwG_of 1288 (by decide +kernel) rfl
set_option maxRecDepth 20000 in
theorem ww_840 : Cond.methodLink "SaidRateLaw" 170 yX10_sheet ∈ lwG := lwG_of 840 (by decide +kernel) rfl
set_option maxRecDepth 20000 in
theorem ww_841 : Cond.instanceMethod yX10_sheet ∈ lwG := lwG_of 841 (by decide +kernel) rfl
set_option maxRecDepth 20000 in
theorem ww_842 : Cond.selects RX10 yX10_sheet yX10_sheet ∈ lwG := lwG_of 842 (by decide +kernel) rfl
set_option maxRecDepth 20000 in
theorem ww_1290 : Cond.methodLink "SaidRateLaw" 173 yX11_sheet ∈ lwG := lwG_of 1290 (by decide +kernel) rfl
set_option maxRecDepth 20000 in
theorem ww_1291 : Cond.instanceMethod yX11_sheet ∈ lwG := lwG_of 1291 (by decide +kernel) rfl
set_option maxRecDepth 20000 in
theorem ww_1292 : Cond.selects RX11 yX11_sheet yX11_sheet ∈ lwG := lwG_of 1292 (by decide +kernel) rfl
set_option maxRecDepth 20000 in
theorem ww_849 : Cond.methodLink "SaidRateLaw" 174 yX10_drop ∈ lwG := lwG_of 849 (by decide +kernel) rfl
set_option maxRecDepth 20000 in
theorem ww_850 : Cond.instanceMethod yX10_drop ∈ lwG := lwG_of 850 (by decide +kernel) rfl
set_option maxRecDepth 20000 in
theorem ww_851 : Cond.selects RX10 yX10_drop yX10_drop ∈ lwG := lwG_of 851 (by decide +kernel) rfl
set_option maxRecDepth 20000 in
theorem ww_1297 : Cond.methodLink "SaidRateLaw" 177 yX11_drop ∈ lwG := lwG_of 1297 (by decide +kernel) rfl
set_option maxRecDepth 20000 in
theorem ww_1298 : Cond.instanceMethod yX11_drop ∈ lwG := lwG_of 1298 (by decide +kernel) rfl
set_option maxRecDepth 20000 in
theorem ww_1299 : Cond.selects RX11 yX11_drop yX11_drop ∈ lwG := lwG_of 1299 (by decide +kernel) rfl
set_option maxRecDepth 20000 in
theorem ww_857 : Cond.methodLink "SaidRateLaw" 178 yX10_item ∈ lwG := lwG_of 857 (by decide +kernel) rfl
set_option maxRecDepth 20000 in
theorem ww_858 : Cond.instanceMethod yX10_item ∈ lwG := lwG_of 858 (by decide +kernel) rfl
set_option maxRecDepth 20000 in
theorem ww_859 : Cond.selects RX10 yX10_item yX10_item ∈ lwG := lwG_of 859 (by decide +kernel) rfl
set_option maxRecDepth 20000 in
theorem ww_1301 : Cond.methodLink "SaidRateLaw" 181 yX11_item ∈ lwG := lwG_of 1301 (by decide +kernel) rfl
set_option maxRecDepth 20000 in
theorem ww_1302 : Cond.instanceMethod yX11_item ∈ lwG := lwG_of 1302 (by decide +kernel) rfl
set_option maxRecDepth 20000 in
theorem ww_1303 : Cond.selects RX11 yX11_item yX11_item ∈ lwG := lwG_of 1303 (by decide +kernel) rfl
theorem cb_X10_init {own : String} {idx : Nat} : az_Cb own idx 89 0 := ⟨ww_55, ww_36, ⟨by decide, by decide, by decide +kernel⟩, by decide⟩
theorem cb_X11_init {own : String} {idx : Nat} : az_Cb own idx 140 0 := ⟨ww_872, ww_47, ⟨by decide, by decide, by decide +kernel⟩, by decide⟩
theorem cb_X10_say {own : String} {idx : Nat} : az_Cb own idx 90 3 := ⟨ww_326, ww_36, ⟨by decide, by decide, by decide +kernel⟩, by decide⟩
theorem cb_X11_say {own : String} {idx : Nat} : az_Cb own idx 147 3 := ⟨ww_1029, ww_47, ⟨by decide, by decide, by decide +kernel⟩, by decide⟩
theorem cb_X10_said {own : String} {idx : Nat} : az_Cb own idx 91 2 := ⟨ww_350, ww_36, ⟨by decide, by decide, by decide +kernel⟩, by decide⟩
theorem cb_X11_said {own : String} {idx : Nat} : az_Cb own idx 148 2 := ⟨ww_1049, ww_47, ⟨by decide, by decide, by decide +kernel⟩, by decide⟩
theorem cb_X10_all {own : String} {idx : Nat} : az_Cb own idx 92 4 := ⟨ww_354, ww_36, ⟨by decide, by decide, by decide +kernel⟩, by decide⟩
theorem cb_X11_all {own : String} {idx : Nat} : az_Cb own idx 209 4 := ⟨ww_1312, ww_47, ⟨by decide, by decide, by decide +kernel⟩, by decide⟩
theorem cb_X10_type {own : String} {idx : Nat} : az_Cb own idx 93 2 := ⟨ww_369, ww_36, ⟨by decide, by decide, by decide +kernel⟩, by decide⟩
theorem cb_X11_type {own : String} {idx : Nat} : az_Cb own idx 149 2 := ⟨ww_1053, ww_47, ⟨by decide, by decide, by decide +kernel⟩, by decide⟩
theorem cb_X10_rules {own : String} {idx : Nat} : az_Cb own idx 94 1 := ⟨ww_385, ww_36, ⟨by decide, by decide, by decide +kernel⟩, by decide⟩
theorem cb_X11_rules {own : String} {idx : Nat} : az_Cb own idx 153 1 := ⟨ww_1061, ww_47, ⟨by decide, by decide, by decide +kernel⟩, by decide⟩
theorem cb_X10_rule {own : String} {idx : Nat} : az_Cb own idx 95 2 := ⟨ww_425, ww_36, ⟨by decide, by decide, by decide +kernel⟩, by decide⟩
theorem cb_X11_rule {own : String} {idx : Nat} : az_Cb own idx 155 2 := ⟨ww_1079, ww_47, ⟨by decide, by decide, by decide +kernel⟩, by decide⟩
theorem cb_X10_rate {own : String} {idx : Nat} : az_Cb own idx 96 2 := ⟨ww_433, ww_36, ⟨by decide, by decide, by decide +kernel⟩, by decide⟩
theorem cb_X11_rate {own : String} {idx : Nat} : az_Cb own idx 159 2 := ⟨ww_1088, ww_47, ⟨by decide, by decide, by decide +kernel⟩, by decide⟩
theorem cb_X10_thrown {own : String} {idx : Nat} : az_Cb own idx 97 2 := ⟨ww_478, ww_36, ⟨by decide, by decide, by decide +kernel⟩, by decide⟩
theorem cb_X11_thrown {own : String} {idx : Nat} : az_Cb own idx 160 2 := ⟨ww_1115, ww_47, ⟨by decide, by decide, by decide +kernel⟩, by decide⟩
theorem cb_X10_reach {own : String} {idx : Nat} : az_Cb own idx 98 4 := ⟨ww_486, ww_36, ⟨by decide, by decide, by decide +kernel⟩, by decide⟩
theorem cb_X11_reach {own : String} {idx : Nat} : az_Cb own idx 161 4 := ⟨ww_1119, ww_47, ⟨by decide, by decide, by decide +kernel⟩, by decide⟩
theorem cb_X10_move {own : String} {idx : Nat} : az_Cb own idx 99 4 := ⟨ww_502, ww_36, ⟨by decide, by decide, by decide +kernel⟩, by decide⟩
theorem cb_X11_move {own : String} {idx : Nat} : az_Cb own idx 163 4 := ⟨ww_1123, ww_47, ⟨by decide, by decide, by decide +kernel⟩, by decide⟩
theorem cb_X10_many {own : String} {idx : Nat} : az_Cb own idx 100 3 := ⟨ww_515, ww_36, ⟨by decide, by decide, by decide +kernel⟩, by decide⟩
theorem cb_X11_many {own : String} {idx : Nat} : az_Cb own idx 165 3 := ⟨ww_1131, ww_47, ⟨by decide, by decide, by decide +kernel⟩, by decide⟩
theorem cb_X10_desk {own : String} {idx : Nat} : az_Cb own idx 101 1 := ⟨ww_534, ww_36, ⟨by decide, by decide, by decide +kernel⟩, by decide⟩
theorem cb_X11_desk {own : String} {idx : Nat} : az_Cb own idx 166 1 := ⟨ww_1138, ww_47, ⟨by decide, by decide, by decide +kernel⟩, by decide⟩
theorem cb_X10_contract {own : String} {idx : Nat} : az_Cb own idx 102 5 := ⟨ww_542, ww_36, ⟨by decide, by decide, by decide +kernel⟩, by decide⟩
theorem cb_X11_contract {own : String} {idx : Nat} : az_Cb own idx 169 5 := ⟨ww_1142, ww_47, ⟨by decide, by decide, by decide +kernel⟩, by decide⟩
theorem cb_X10_gain {own : String} {idx : Nat} : az_Cb own idx 103 3 := ⟨ww_558, ww_36, ⟨by decide, by decide, by decide +kernel⟩, by decide⟩
theorem cb_X11_gain {own : String} {idx : Nat} : az_Cb own idx 172 3 := ⟨ww_1155, ww_47, ⟨by decide, by decide, by decide +kernel⟩, by decide⟩
theorem cb_X10_paid {own : String} {idx : Nat} : az_Cb own idx 104 3 := ⟨ww_579, ww_36, ⟨by decide, by decide, by decide +kernel⟩, by decide⟩
theorem cb_X11_paid {own : String} {idx : Nat} : az_Cb own idx 173 3 := ⟨ww_1167, ww_47, ⟨by decide, by decide, by decide +kernel⟩, by decide⟩
theorem cb_X10_unlike {own : String} {idx : Nat} : az_Cb own idx 105 1 := ⟨ww_592, ww_36, ⟨by decide, by decide, by decide +kernel⟩, by decide⟩
theorem cb_X11_unlike {own : String} {idx : Nat} : az_Cb own idx 174 1 := ⟨ww_1171, ww_47, ⟨by decide, by decide, by decide +kernel⟩, by decide⟩
theorem cb_X10_count {own : String} {idx : Nat} : az_Cb own idx 106 1 := ⟨ww_604, ww_36, ⟨by decide, by decide, by decide +kernel⟩, by decide⟩
theorem cb_X11_count {own : String} {idx : Nat} : az_Cb own idx 175 1 := ⟨ww_1175, ww_47, ⟨by decide, by decide, by decide +kernel⟩, by decide⟩
theorem cb_X10_lent {own : String} {idx : Nat} : az_Cb own idx 107 3 := ⟨ww_632, ww_36, ⟨by decide, by decide, by decide +kernel⟩, by decide⟩
theorem cb_X11_lent {own : String} {idx : Nat} : az_Cb own idx 176 3 := ⟨ww_1180, ww_47, ⟨by decide, by decide, by decide +kernel⟩, by decide⟩
theorem cb_X10_truth {own : String} {idx : Nat} : az_Cb own idx 108 3 := ⟨ww_640, ww_36, ⟨by decide, by decide, by decide +kernel⟩, by decide⟩
theorem cb_X11_truth {own : String} {idx : Nat} : az_Cb own idx 179 3 := ⟨ww_1184, ww_47, ⟨by decide, by decide, by decide +kernel⟩, by decide⟩
theorem cb_X10_out {own : String} {idx : Nat} : az_Cb own idx 109 2 := ⟨ww_672, ww_36, ⟨by decide, by decide, by decide +kernel⟩, by decide⟩
theorem cb_X11_out {own : String} {idx : Nat} : az_Cb own idx 181 2 := ⟨ww_1196, ww_47, ⟨by decide, by decide, by decide +kernel⟩, by decide⟩
theorem cb_X10_right {own : String} {idx : Nat} : az_Cb own idx 110 2 := ⟨ww_680, ww_36, ⟨by decide, by decide, by decide +kernel⟩, by decide⟩
theorem cb_X11_right {own : String} {idx : Nat} : az_Cb own idx 183 2 := ⟨ww_1204, ww_47, ⟨by decide, by decide, by decide +kernel⟩, by decide⟩
theorem cb_X10_lost {own : String} {idx : Nat} : az_Cb own idx 111 3 := ⟨ww_689, ww_36, ⟨by decide, by decide, by decide +kernel⟩, by decide⟩
theorem cb_X11_lost {own : String} {idx : Nat} : az_Cb own idx 184 3 := ⟨ww_1212, ww_47, ⟨by decide, by decide, by decide +kernel⟩, by decide⟩
theorem cb_X10_lean {own : String} {idx : Nat} : az_Cb own idx 112 2 := ⟨ww_694, ww_36, ⟨by decide, by decide, by decide +kernel⟩, by decide⟩
theorem cb_X11_lean {own : String} {idx : Nat} : az_Cb own idx 186 2 := ⟨ww_1216, ww_47, ⟨by decide, by decide, by decide +kernel⟩, by decide⟩
theorem cb_X10_run {own : String} {idx : Nat} : az_Cb own idx 113 2 := ⟨ww_702, ww_36, ⟨by decide, by decide, by decide +kernel⟩, by decide⟩
theorem cb_X11_run {own : String} {idx : Nat} : az_Cb own idx 187 2 := ⟨ww_1225, ww_47, ⟨by decide, by decide, by decide +kernel⟩, by decide⟩
theorem cb_X10_untrue {own : String} {idx : Nat} : az_Cb own idx 114 1 := ⟨ww_710, ww_36, ⟨by decide, by decide, by decide +kernel⟩, by decide⟩
theorem cb_X11_untrue {own : String} {idx : Nat} : az_Cb own idx 188 1 := ⟨ww_1229, ww_47, ⟨by decide, by decide, by decide +kernel⟩, by decide⟩
theorem cb_X10_backed {own : String} {idx : Nat} : az_Cb own idx 115 1 := ⟨ww_727, ww_36, ⟨by decide, by decide, by decide +kernel⟩, by decide⟩
theorem cb_X11_backed {own : String} {idx : Nat} : az_Cb own idx 189 1 := ⟨ww_1233, ww_47, ⟨by decide, by decide, by decide +kernel⟩, by decide⟩
theorem cb_X10_word {own : String} {idx : Nat} : az_Cb own idx 116 4 := ⟨ww_731, ww_36, ⟨by decide, by decide, by decide +kernel⟩, by decide⟩
theorem cb_X11_word {own : String} {idx : Nat} : az_Cb own idx 190 4 := ⟨ww_1237, ww_47, ⟨by decide, by decide, by decide +kernel⟩, by decide⟩
theorem cb_X10_wall {own : String} {idx : Nat} : az_Cb own idx 117 3 := ⟨ww_739, ww_36, ⟨by decide, by decide, by decide +kernel⟩, by decide⟩
theorem cb_X11_wall {own : String} {idx : Nat} : az_Cb own idx 191 3 := ⟨ww_1241, ww_47, ⟨by decide, by decide, by decide +kernel⟩, by decide⟩
theorem cb_X10_crossed {own : String} {idx : Nat} : az_Cb own idx 118 1 := ⟨ww_747, ww_36, ⟨by decide, by decide, by decide +kernel⟩, by decide⟩
theorem cb_X11_crossed {own : String} {idx : Nat} : az_Cb own idx 192 1 := ⟨ww_1245, ww_47, ⟨by decide, by decide, by decide +kernel⟩, by decide⟩
theorem cb_X10_knew {own : String} {idx : Nat} : az_Cb own idx 119 3 := ⟨ww_755, ww_36, ⟨by decide, by decide, by decide +kernel⟩, by decide⟩
theorem cb_X11_knew {own : String} {idx : Nat} : az_Cb own idx 193 3 := ⟨ww_1249, ww_47, ⟨by decide, by decide, by decide +kernel⟩, by decide⟩
theorem cb_X10_way {own : String} {idx : Nat} : az_Cb own idx 120 3 := ⟨ww_774, ww_36, ⟨by decide, by decide, by decide +kernel⟩, by decide⟩
theorem cb_X11_way {own : String} {idx : Nat} : az_Cb own idx 194 3 := ⟨ww_1253, ww_47, ⟨by decide, by decide, by decide +kernel⟩, by decide⟩
theorem cb_X10_owe {own : String} {idx : Nat} : az_Cb own idx 121 3 := ⟨ww_782, ww_36, ⟨by decide, by decide, by decide +kernel⟩, by decide⟩
theorem cb_X11_owe {own : String} {idx : Nat} : az_Cb own idx 195 3 := ⟨ww_1257, ww_47, ⟨by decide, by decide, by decide +kernel⟩, by decide⟩
theorem cb_X10_net {own : String} {idx : Nat} : az_Cb own idx 122 1 := ⟨ww_790, ww_36, ⟨by decide, by decide, by decide +kernel⟩, by decide⟩
theorem cb_X11_net {own : String} {idx : Nat} : az_Cb own idx 196 1 := ⟨ww_1261, ww_47, ⟨by decide, by decide, by decide +kernel⟩, by decide⟩
theorem cb_X10_ringed {own : String} {idx : Nat} : az_Cb own idx 123 0 := ⟨ww_798, ww_36, ⟨by decide, by decide, by decide +kernel⟩, by decide⟩
theorem cb_X11_ringed {own : String} {idx : Nat} : az_Cb own idx 198 0 := ⟨ww_1265, ww_47, ⟨by decide, by decide, by decide +kernel⟩, by decide⟩
theorem cb_X10_best {own : String} {idx : Nat} : az_Cb own idx 124 3 := ⟨ww_810, ww_36, ⟨by decide, by decide, by decide +kernel⟩, by decide⟩
theorem cb_X11_best {own : String} {idx : Nat} : az_Cb own idx 202 3 := ⟨ww_1273, ww_47, ⟨by decide, by decide, by decide +kernel⟩, by decide⟩
theorem cb_X10_worst {own : String} {idx : Nat} : az_Cb own idx 125 4 := ⟨ww_839, ww_36, ⟨by decide, by decide, by decide +kernel⟩, by decide⟩
theorem cb_X11_worst {own : String} {idx : Nat} : az_Cb own idx 203 4 := ⟨ww_1289, ww_47, ⟨by decide, by decide, by decide +kernel⟩, by decide⟩
theorem cb_X10_sheet {own : String} {idx : Nat} : az_Cb own idx 126 3 := ⟨ww_843, ww_36, ⟨by decide, by decide, by decide +kernel⟩, by decide⟩
theorem cb_X11_sheet {own : String} {idx : Nat} : az_Cb own idx 205 3 := ⟨ww_1293, ww_47, ⟨by decide, by decide, by decide +kernel⟩, by decide⟩
theorem cb_X10_drop {own : String} {idx : Nat} : az_Cb own idx 127 1 := ⟨ww_852, ww_36, ⟨by decide, by decide, by decide +kernel⟩, by decide⟩
theorem cb_X11_drop {own : String} {idx : Nat} : az_Cb own idx 206 1 := ⟨ww_1300, ww_47, ⟨by decide, by decide, by decide +kernel⟩, by decide⟩
theorem cb_X10_item {own : String} {idx : Nat} : az_Cb own idx 128 4 := ⟨ww_860, ww_36, ⟨by decide, by decide, by decide +kernel⟩, by decide⟩
theorem cb_X11_item {own : String} {idx : Nat} : az_Cb own idx 208 4 := ⟨ww_1304, ww_47, ⟨by decide, by decide, by decide +kernel⟩, by decide⟩
