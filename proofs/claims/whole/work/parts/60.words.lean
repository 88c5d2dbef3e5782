/-! ===== the words that the methods use ===== -/
theorem lwG_all {ws : List Cond} (h : (ws.all fun w => decide (w ∈ lw_tbl) && goodWord w) = true) : ∀ w ∈ ws, w ∈ lwG := by
  intro w hw
  have h1 := List.all_eq_true.mp h w hw
  simp only [Bool.and_eq_true, decide_eq_true_eq] at h1
  exact List.mem_filter.mpr h1
set_option maxRecDepth 20000 in
theorem inG_0 : ∀ w ∈ u_ws RX0 TX0 8, w ∈ lwG := lwG_all (by decide +kernel)
theorem df_0 : ∀ j, j < 8 → (((az_ft 0)[j]? = some 0 ∧ tyX0 j = .int) ∨ ((az_ft 0)[j]? = some 1 ∧ tyX0 j = .long) ∨ ((az_ft 0)[j]? = some 2 ∧ defaultValue (tyX0 j) = .null)) := by decide +kernel
set_option maxRecDepth 20000 in
theorem inG_1 : ∀ w ∈ u_ws RX1 TX1 2, w ∈ lwG := lwG_all (by decide +kernel)
theorem df_1 : ∀ j, j < 2 → (((az_ft 1)[j]? = some 0 ∧ tyX1 j = .int) ∨ ((az_ft 1)[j]? = some 1 ∧ tyX1 j = .long) ∨ ((az_ft 1)[j]? = some 2 ∧ defaultValue (tyX1 j) = .null)) := by decide +kernel
set_option maxRecDepth 20000 in
theorem inG_2 : ∀ w ∈ u_ws RX2 TX2 2, w ∈ lwG := lwG_all (by decide +kernel)
theorem df_2 : ∀ j, j < 2 → (((az_ft 2)[j]? = some 0 ∧ tyX2 j = .int) ∨ ((az_ft 2)[j]? = some 1 ∧ tyX2 j = .long) ∨ ((az_ft 2)[j]? = some 2 ∧ defaultValue (tyX2 j) = .null)) := by decide +kernel
set_option maxRecDepth 20000 in
theorem inG_3 : ∀ w ∈ u_ws RX3 TX3 6, w ∈ lwG := lwG_all (by decide +kernel)
theorem df_3 : ∀ j, j < 6 → (((az_ft 3)[j]? = some 0 ∧ tyX3 j = .int) ∨ ((az_ft 3)[j]? = some 1 ∧ tyX3 j = .long) ∨ ((az_ft 3)[j]? = some 2 ∧ defaultValue (tyX3 j) = .null)) := by decide +kernel
set_option maxRecDepth 20000 in
theorem inG_4 : ∀ w ∈ u_ws RX4 TX4 3, w ∈ lwG := lwG_all (by decide +kernel)
theorem df_4 : ∀ j, j < 3 → (((az_ft 4)[j]? = some 0 ∧ tyX4 j = .int) ∨ ((az_ft 4)[j]? = some 1 ∧ tyX4 j = .long) ∨ ((az_ft 4)[j]? = some 2 ∧ defaultValue (tyX4 j) = .null)) := by decide +kernel
set_option maxRecDepth 20000 in
theorem inG_5 : ∀ w ∈ u_ws RX5 TX5 7, w ∈ lwG := lwG_all (by decide +kernel)
theorem df_5 : ∀ j, j < 7 → (((az_ft 5)[j]? = some 0 ∧ tyX5 j = .int) ∨ ((az_ft 5)[j]? = some 1 ∧ tyX5 j = .long) ∨ ((az_ft 5)[j]? = some 2 ∧ defaultValue (tyX5 j) = .null)) := by decide +kernel
set_option maxRecDepth 20000 in
theorem inG_6 : ∀ w ∈ u_ws RX6 TX6 7, w ∈ lwG := lwG_all (by decide +kernel)
theorem df_6 : ∀ j, j < 7 → (((az_ft 6)[j]? = some 0 ∧ tyX6 j = .int) ∨ ((az_ft 6)[j]? = some 1 ∧ tyX6 j = .long) ∨ ((az_ft 6)[j]? = some 2 ∧ defaultValue (tyX6 j) = .null)) := by decide +kernel
set_option maxRecDepth 20000 in
theorem inG_7 : ∀ w ∈ u_ws RX7 TX7 3, w ∈ lwG := lwG_all (by decide +kernel)
theorem df_7 : ∀ j, j < 3 → (((az_ft 7)[j]? = some 0 ∧ tyX7 j = .int) ∨ ((az_ft 7)[j]? = some 1 ∧ tyX7 j = .long) ∨ ((az_ft 7)[j]? = some 2 ∧ defaultValue (tyX7 j) = .null)) := by decide +kernel
set_option maxRecDepth 20000 in
theorem inG_8 : ∀ w ∈ u_ws RX8 TX8 3, w ∈ lwG := lwG_all (by decide +kernel)
theorem df_8 : ∀ j, j < 3 → (((az_ft 8)[j]? = some 0 ∧ tyX8 j = .int) ∨ ((az_ft 8)[j]? = some 1 ∧ tyX8 j = .long) ∨ ((az_ft 8)[j]? = some 2 ∧ defaultValue (tyX8 j) = .null)) := by decide +kernel
set_option maxRecDepth 20000 in
theorem inG_9 : ∀ w ∈ u_ws RX9 TX9 8, w ∈ lwG := lwG_all (by decide +kernel)
theorem df_9 : ∀ j, j < 8 → (((az_ft 9)[j]? = some 0 ∧ tyX9 j = .int) ∨ ((az_ft 9)[j]? = some 1 ∧ tyX9 j = .long) ∨ ((az_ft 9)[j]? = some 2 ∧ defaultValue (tyX9 j) = .null)) := by decide +kernel
set_option maxRecDepth 20000 in
theorem inG_10 : ∀ w ∈ u_ws RX10 TX10 12, w ∈ lwG := lwG_all (by decide +kernel)
theorem df_10 : ∀ j, j < 12 → (((az_ft 10)[j]? = some 0 ∧ tyX10 j = .int) ∨ ((az_ft 10)[j]? = some 1 ∧ tyX10 j = .long) ∨ ((az_ft 10)[j]? = some 2 ∧ defaultValue (tyX10 j) = .null)) := by decide +kernel
set_option maxRecDepth 20000 in
theorem inG_11 : ∀ w ∈ u_ws RX11 TX11 50, w ∈ lwG := lwG_all (by decide +kernel)
theorem df_11 : ∀ j, j < 50 → (((az_ft 11)[j]? = some 0 ∧ tyX11 j = .int) ∨ ((az_ft 11)[j]? = some 1 ∧ tyX11 j = .long) ∨ ((az_ft 11)[j]? = some 2 ∧ defaultValue (tyX11 j) = .null)) := by decide +kernel
set_option maxRecDepth 20000 in
theorem ww_523 : Cond.constant RJ6 265 1431655765 ∈ lwG := lwG_of 523 (by decide +kernel) rfl
set_option maxRecDepth 20000 in
theorem ww_524 : Cond.constant RJ6 266 858993459 ∈ lwG := lwG_of 524 (by decide +kernel) rfl
set_option maxRecDepth 20000 in
theorem ww_525 : Cond.constant RJ6 267 252645135 ∈ lwG := lwG_of 525 (by decide +kernel) rfl
set_option maxRecDepth 20000 in
theorem ww_118 : Cond.methodLink RX2 1 objectInit ∈ lwG := lwG_of 118 (by decide +kernel) rfl
set_option maxRecDepth 20000 in
theorem ww_57 : Cond.instanceMethod objectInit ∈ lwG := lwG_of 57 (by decide +kernel) rfl
set_option maxRecDepth 20000 in
theorem ww_58 : Cond.code objectInit ⟨#[0xb1]⟩ 1 none ∈ lwG := lwG_of 58 (by decide +kernel) rfl
set_option maxRecDepth 20000 in
theorem ww_119 : Cond.fieldLink RX2 7 RX2 "above" "J" ∈ lwG := lwG_of 119 (by decide +kernel) rfl
set_option maxRecDepth 20000 in
theorem ww_120 : Cond.fieldLink RX2 13 RX2 "below" "J" ∈ lwG := lwG_of 120 (by decide +kernel) rfl
set_option maxRecDepth 20000 in
theorem ww_467 : Cond.methodLink RX2 16 Lib.MathLoose.abs_long.x ∈ lwG := lwG_of 467 (by decide +kernel) rfl
set_option maxRecDepth 20000 in
theorem ww_468 : Cond.static Lib.MathLoose.abs_long.x ∈ lwG := lwG_of 468 (by decide +kernel) rfl
set_option maxRecDepth 20000 in
theorem ww_48 : Cond.initialized RJ9 ∈ lwG := lwG_of 48 (by decide +kernel) rfl
set_option maxRecDepth 20000 in
theorem ww_469 : Cond.code Lib.MathLoose.abs_long.x Lib.MathLoose.abs_long.code 2 (some .long) ∈ lwG := lwG_of 469 (by decide +kernel) rfl
set_option maxRecDepth 20000 in
theorem ww_466 : Cond.code yX2_put cX2_put 12 none ∈ lwG := lwG_of 466 (by decide +kernel) rfl
set_option maxRecDepth 20000 in
theorem ww_40 : Cond.initialized RX2 ∈ lwG := lwG_of 40 (by decide +kernel) rfl
set_option maxRecDepth 20000 in
theorem ww_511 : Cond.methodLink RX2 22 yX2_put ∈ lwG := lwG_of 511 (by decide +kernel) rfl
set_option maxRecDepth 20000 in
theorem ww_464 : Cond.instanceMethod yX2_put ∈ lwG := lwG_of 464 (by decide +kernel) rfl
set_option maxRecDepth 20000 in
theorem ww_465 : Cond.selects RX2 yX2_put yX2_put ∈ lwG := lwG_of 465 (by decide +kernel) rfl
set_option maxRecDepth 20000 in
theorem ww_155 : Cond.methodLink RX0 3 objectInit ∈ lwG := lwG_of 155 (by decide +kernel) rfl
set_option maxRecDepth 20000 in
theorem ww_83 : Cond.arrayClass .int ∈ lwG := lwG_of 83 (by decide +kernel) rfl
set_option maxRecDepth 20000 in
theorem ww_156 : Cond.fieldLink RX0 9 RX0 "houses" "[I" ∈ lwG := lwG_of 156 (by decide +kernel) rfl
set_option maxRecDepth 20000 in
theorem ww_157 : Cond.fieldLink RX0 15 RX0 "opened" "I" ∈ lwG := lwG_of 157 (by decide +kernel) rfl
set_option maxRecDepth 20000 in
theorem ww_158 : Cond.fieldLink RX0 19 RX0 "getters" "[I" ∈ lwG := lwG_of 158 (by decide +kernel) rfl
set_option maxRecDepth 20000 in
theorem ww_159 : Cond.fieldLink RX0 22 RX0 "givers" "[I" ∈ lwG := lwG_of 159 (by decide +kernel) rfl
set_option maxRecDepth 20000 in
theorem ww_160 : Cond.fieldLink RX0 25 RX0 "mornings" "[I" ∈ lwG := lwG_of 160 (by decide +kernel) rfl
set_option maxRecDepth 20000 in
theorem ww_161 : Cond.fieldLink RX0 28 RX0 "sizes" "[I" ∈ lwG := lwG_of 161 (by decide +kernel) rfl
set_option maxRecDepth 20000 in
theorem ww_162 : Cond.fieldLink RX0 31 RX0 "strikes" "[I" ∈ lwG := lwG_of 162 (by decide +kernel) rfl
set_option maxRecDepth 20000 in
theorem ww_163 : Cond.fieldLink RX0 34 RX0 "signed" "I" ∈ lwG := lwG_of 163 (by decide +kernel) rfl
set_option maxRecDepth 20000 in
theorem ww_550 : Cond.code yX0_has cX0_has 2 (some .boolean) ∈ lwG := lwG_of 550 (by decide +kernel) rfl
set_option maxRecDepth 20000 in
theorem ww_41 : Cond.initialized RX0 ∈ lwG := lwG_of 41 (by decide +kernel) rfl
set_option maxRecDepth 20000 in
theorem ww_547 : Cond.methodLink RX0 37 yX0_has ∈ lwG := lwG_of 547 (by decide +kernel) rfl
set_option maxRecDepth 20000 in
theorem ww_548 : Cond.instanceMethod yX0_has ∈ lwG := lwG_of 548 (by decide +kernel) rfl
set_option maxRecDepth 20000 in
theorem ww_549 : Cond.selects RX0 yX0_has yX0_has ∈ lwG := lwG_of 549 (by decide +kernel) rfl
set_option maxRecDepth 20000 in
theorem ww_567 : Cond.code yX0_signedSize cX0_signedSize 4 (some .int) ∈ lwG := lwG_of 567 (by decide +kernel) rfl
set_option maxRecDepth 20000 in
theorem ww_564 : Cond.methodLink RX0 41 yX0_signedSize ∈ lwG := lwG_of 564 (by decide +kernel) rfl
set_option maxRecDepth 20000 in
theorem ww_566 : Cond.instanceMethod yX0_signedSize ∈ lwG := lwG_of 566 (by decide +kernel) rfl
set_option maxRecDepth 20000 in
theorem ww_6 : Cond.selects RX0 yX0_signedSize yX0_signedSize ∈ lwG := lwG_of 6 (by decide +kernel) rfl
set_option maxRecDepth 20000 in
theorem ww_563 : Cond.code yX0_deskGain cX0_deskGain 5 (some .int) ∈ lwG := lwG_of 563 (by decide +kernel) rfl
set_option maxRecDepth 20000 in
theorem ww_597 : Cond.methodLink RX0 45 yX0_deskGain ∈ lwG := lwG_of 597 (by decide +kernel) rfl
set_option maxRecDepth 20000 in
theorem ww_561 : Cond.instanceMethod yX0_deskGain ∈ lwG := lwG_of 561 (by decide +kernel) rfl
set_option maxRecDepth 20000 in
theorem ww_562 : Cond.selects RX0 yX0_deskGain yX0_deskGain ∈ lwG := lwG_of 562 (by decide +kernel) rfl
set_option maxRecDepth 20000 in
theorem ww_600 : Cond.code yJ6_signum_0f7a4 cJ6_signum_0f7a4 1 (some .int) ∈ lwG := lwG_of 600 (by decide +kernel) rfl
set_option maxRecDepth 20000 in
theorem ww_49 : Cond.initialized RJ6 ∈ lwG := lwG_of 49 (by decide +kernel) rfl
set_option maxRecDepth 20000 in
theorem ww_598 : Cond.methodLink RX0 49 yJ6_signum_0f7a4 ∈ lwG := lwG_of 598 (by decide +kernel) rfl
set_option maxRecDepth 20000 in
theorem ww_599 : Cond.static yJ6_signum_0f7a4 ∈ lwG := lwG_of 599 (by decide +kernel) rfl
set_option maxRecDepth 20000 in
theorem ww_258 : Cond.methodLink RX1 3 objectInit ∈ lwG := lwG_of 258 (by decide +kernel) rfl
set_option maxRecDepth 20000 in
theorem ww_259 : Cond.classLink RX1 9 "[[I" ∈ lwG := lwG_of 259 (by decide +kernel) rfl
set_option maxRecDepth 20000 in
theorem ww_260 : Cond.fieldLink RX1 11 RX1 "owed" "[[I" ∈ lwG := lwG_of 260 (by decide +kernel) rfl
set_option maxRecDepth 20000 in
theorem ww_261 : Cond.fieldLink RX1 16 RX1 "leads" "[I" ∈ lwG := lwG_of 261 (by decide +kernel) rfl
set_option maxRecDepth 20000 in
theorem ww_806 : Cond.code yX1_findLeads cX1_findLeads 3 none ∈ lwG := lwG_of 806 (by decide +kernel) rfl
set_option maxRecDepth 20000 in
theorem ww_45 : Cond.initialized RX1 ∈ lwG := lwG_of 45 (by decide +kernel) rfl
set_option maxRecDepth 20000 in
theorem ww_803 : Cond.methodLink RX1 20 yX1_findLeads ∈ lwG := lwG_of 803 (by decide +kernel) rfl
set_option maxRecDepth 20000 in
theorem ww_805 : Cond.instanceMethod yX1_findLeads ∈ lwG := lwG_of 805 (by decide +kernel) rfl
set_option maxRecDepth 20000 in
theorem ww_13 : Cond.selects RX1 yX1_findLeads yX1_findLeads ∈ lwG := lwG_of 13 (by decide +kernel) rfl
set_option maxRecDepth 20000 in
theorem ww_186 : Cond.methodLink RX3 3 objectInit ∈ lwG := lwG_of 186 (by decide +kernel) rfl
set_option maxRecDepth 20000 in
theorem ww_187 : Cond.fieldLink RX3 11 RX3 "houses" "[I" ∈ lwG := lwG_of 187 (by decide +kernel) rfl
set_option maxRecDepth 20000 in
theorem ww_188 : Cond.fieldLink RX3 15 RX3 "mornings" "[I" ∈ lwG := lwG_of 188 (by decide +kernel) rfl
set_option maxRecDepth 20000 in
theorem ww_189 : Cond.fieldLink RX3 18 RX3 "prices" "[I" ∈ lwG := lwG_of 189 (by decide +kernel) rfl
set_option maxRecDepth 20000 in
theorem ww_190 : Cond.fieldLink RX3 21 RX3 "rows" "I" ∈ lwG := lwG_of 190 (by decide +kernel) rfl
set_option maxRecDepth 20000 in
theorem ww_191 : Cond.fieldLink RX3 25 RX3 "low" "I" ∈ lwG := lwG_of 191 (by decide +kernel) rfl
set_option maxRecDepth 20000 in
theorem ww_192 : Cond.fieldLink RX3 28 RX3 "high" "I" ∈ lwG := lwG_of 192 (by decide +kernel) rfl
set_option maxRecDepth 20000 in
theorem ww_652 : Cond.code yX3_findSpan cX3_findSpan 4 (some .boolean) ∈ lwG := lwG_of 652 (by decide +kernel) rfl
set_option maxRecDepth 20000 in
theorem ww_42 : Cond.initialized RX3 ∈ lwG := lwG_of 42 (by decide +kernel) rfl
set_option maxRecDepth 20000 in
theorem ww_649 : Cond.methodLink RX3 31 yX3_findSpan ∈ lwG := lwG_of 649 (by decide +kernel) rfl
set_option maxRecDepth 20000 in
theorem ww_651 : Cond.instanceMethod yX3_findSpan ∈ lwG := lwG_of 651 (by decide +kernel) rfl
set_option maxRecDepth 20000 in
theorem ww_8 : Cond.selects RX3 yX3_findSpan yX3_findSpan ∈ lwG := lwG_of 8 (by decide +kernel) rfl
set_option maxRecDepth 20000 in
theorem ww_660 : Cond.code yX3_findAll cX3_findAll 2 (some .boolean) ∈ lwG := lwG_of 660 (by decide +kernel) rfl
set_option maxRecDepth 20000 in
theorem ww_657 : Cond.methodLink RX3 35 yX3_findAll ∈ lwG := lwG_of 657 (by decide +kernel) rfl
set_option maxRecDepth 20000 in
theorem ww_658 : Cond.instanceMethod yX3_findAll ∈ lwG := lwG_of 658 (by decide +kernel) rfl
set_option maxRecDepth 20000 in
theorem ww_659 : Cond.selects RX3 yX3_findAll yX3_findAll ∈ lwG := lwG_of 659 (by decide +kernel) rfl
set_option maxRecDepth 20000 in
theorem ww_654 : Cond.methodLink RX3 39 Lib.Math.max.name ∈ lwG := lwG_of 654 (by decide +kernel) rfl
set_option maxRecDepth 20000 in
theorem ww_655 : Cond.static Lib.Math.max.name ∈ lwG := lwG_of 655 (by decide +kernel) rfl
set_option maxRecDepth 20000 in
theorem ww_656 : Cond.code Lib.Math.max.name Lib.Math.max.code 2 (some .int) ∈ lwG := lwG_of 656 (by decide +kernel) rfl
set_option maxRecDepth 20000 in
theorem ww_653 : Cond.methodLink RX3 45 Lib.Math.min.name ∈ lwG := lwG_of 653 (by decide +kernel) rfl
set_option maxRecDepth 20000 in
theorem ww_416 : Cond.static Lib.Math.min.name ∈ lwG := lwG_of 416 (by decide +kernel) rfl
set_option maxRecDepth 20000 in
theorem ww_417 : Cond.code Lib.Math.min.name Lib.Math.min.code 2 (some .int) ∈ lwG := lwG_of 417 (by decide +kernel) rfl
set_option maxRecDepth 20000 in
theorem ww_211 : Cond.methodLink RX7 3 objectInit ∈ lwG := lwG_of 211 (by decide +kernel) rfl
set_option maxRecDepth 20000 in
theorem ww_212 : Cond.fieldLink RX7 11 RX7 "mornings" "[I" ∈ lwG := lwG_of 212 (by decide +kernel) rfl
set_option maxRecDepth 20000 in
theorem ww_213 : Cond.fieldLink RX7 15 RX7 "prices" "[I" ∈ lwG := lwG_of 213 (by decide +kernel) rfl
set_option maxRecDepth 20000 in
theorem ww_214 : Cond.fieldLink RX7 18 RX7 "given" "I" ∈ lwG := lwG_of 214 (by decide +kernel) rfl
set_option maxRecDepth 20000 in
theorem ww_272 : Cond.methodLink RX8 3 objectInit ∈ lwG := lwG_of 272 (by decide +kernel) rfl
set_option maxRecDepth 20000 in
theorem ww_274 : Cond.fieldLink RX8 11 RX8 "lanes" "[I" ∈ lwG := lwG_of 274 (by decide +kernel) rfl
set_option maxRecDepth 20000 in
theorem ww_275 : Cond.fieldLink RX8 15 RX8 "lengths" "[I" ∈ lwG := lwG_of 275 (by decide +kernel) rfl
set_option maxRecDepth 20000 in
theorem ww_273 : Cond.classLink RX8 18 "[[I" ∈ lwG := lwG_of 273 (by decide +kernel) rfl
set_option maxRecDepth 20000 in
theorem ww_276 : Cond.fieldLink RX8 20 RX8 "items" "[[I" ∈ lwG := lwG_of 276 (by decide +kernel) rfl
set_option maxRecDepth 20000 in
theorem ww_361 : Cond.code yX8_isNamed cX8_isNamed 2 (some .boolean) ∈ lwG := lwG_of 361 (by decide +kernel) rfl
set_option maxRecDepth 20000 in
theorem ww_46 : Cond.initialized RX8 ∈ lwG := lwG_of 46 (by decide +kernel) rfl
set_option maxRecDepth 20000 in
theorem ww_359 : Cond.methodLink RX8 23 yX8_isNamed ∈ lwG := lwG_of 359 (by decide +kernel) rfl
set_option maxRecDepth 20000 in
theorem ww_360 : Cond.static yX8_isNamed ∈ lwG := lwG_of 360 (by decide +kernel) rfl
set_option maxRecDepth 20000 in
theorem ww_867 : Cond.code yX8_narrowed cX8_narrowed 2 (some .int) ∈ lwG := lwG_of 867 (by decide +kernel) rfl
set_option maxRecDepth 20000 in
theorem ww_865 : Cond.methodLink RX8 27 yX8_narrowed ∈ lwG := lwG_of 865 (by decide +kernel) rfl
set_option maxRecDepth 20000 in
theorem ww_866 : Cond.static yX8_narrowed ∈ lwG := lwG_of 866 (by decide +kernel) rfl
set_option maxRecDepth 20000 in
theorem ww_227 : Cond.methodLink RX9 3 objectInit ∈ lwG := lwG_of 227 (by decide +kernel) rfl
set_option maxRecDepth 20000 in
theorem ww_228 : Cond.fieldLink RX9 11 RX9 "tellers" "[I" ∈ lwG := lwG_of 228 (by decide +kernel) rfl
set_option maxRecDepth 20000 in
theorem ww_229 : Cond.fieldLink RX9 15 RX9 "hearers" "[I" ∈ lwG := lwG_of 229 (by decide +kernel) rfl
set_option maxRecDepth 20000 in
theorem ww_230 : Cond.fieldLink RX9 18 RX9 "mornings" "[I" ∈ lwG := lwG_of 230 (by decide +kernel) rfl
set_option maxRecDepth 20000 in
theorem ww_231 : Cond.fieldLink RX9 21 RX9 "minutes" "[I" ∈ lwG := lwG_of 231 (by decide +kernel) rfl
set_option maxRecDepth 20000 in
theorem ww_232 : Cond.fieldLink RX9 24 RX9 "words" "I" ∈ lwG := lwG_of 232 (by decide +kernel) rfl
set_option maxRecDepth 20000 in
theorem ww_233 : Cond.fieldLink RX9 28 RX9 "walls" "[I" ∈ lwG := lwG_of 233 (by decide +kernel) rfl
set_option maxRecDepth 20000 in
theorem ww_234 : Cond.fieldLink RX9 31 RX9 "toldAt" "[I" ∈ lwG := lwG_of 234 (by decide +kernel) rfl
set_option maxRecDepth 20000 in
theorem ww_235 : Cond.fieldLink RX9 34 RX9 "nextToldAt" "[I" ∈ lwG := lwG_of 235 (by decide +kernel) rfl
set_option maxRecDepth 20000 in
theorem ww_763 : Cond.code yX9_startFrom cX9_startFrom 3 none ∈ lwG := lwG_of 763 (by decide +kernel) rfl
set_option maxRecDepth 20000 in
theorem ww_44 : Cond.initialized RX9 ∈ lwG := lwG_of 44 (by decide +kernel) rfl
set_option maxRecDepth 20000 in
theorem ww_760 : Cond.methodLink RX9 37 yX9_startFrom ∈ lwG := lwG_of 760 (by decide +kernel) rfl
set_option maxRecDepth 20000 in
theorem ww_762 : Cond.instanceMethod yX9_startFrom ∈ lwG := lwG_of 762 (by decide +kernel) rfl
set_option maxRecDepth 20000 in
theorem ww_11 : Cond.selects RX9 yX9_startFrom yX9_startFrom ∈ lwG := lwG_of 11 (by decide +kernel) rfl
set_option maxRecDepth 20000 in
theorem ww_767 : Cond.code yX9_followOne cX9_followOne 6 none ∈ lwG := lwG_of 767 (by decide +kernel) rfl
set_option maxRecDepth 20000 in
theorem ww_764 : Cond.methodLink RX9 41 yX9_followOne ∈ lwG := lwG_of 764 (by decide +kernel) rfl
set_option maxRecDepth 20000 in
theorem ww_766 : Cond.instanceMethod yX9_followOne ∈ lwG := lwG_of 766 (by decide +kernel) rfl
set_option maxRecDepth 20000 in
theorem ww_12 : Cond.selects RX9 yX9_followOne yX9_followOne ∈ lwG := lwG_of 12 (by decide +kernel) rfl
set_option maxRecDepth 20000 in
theorem ww_768 : Cond.methodLink RX9 45 arraycopyName ∈ lwG := lwG_of 768 (by decide +kernel) rfl
set_option maxRecDepth 20000 in
theorem ww_770 : Cond.native arraycopyName ∈ lwG := lwG_of 770 (by decide +kernel) rfl
set_option maxRecDepth 20000 in
theorem ww_769 : Cond.static arraycopyName ∈ lwG := lwG_of 769 (by decide +kernel) rfl
set_option maxRecDepth 20000 in
theorem ww_50 : Cond.initialized RJ10 ∈ lwG := lwG_of 50 (by decide +kernel) rfl
set_option maxRecDepth 20000 in
theorem ww_70 : Cond.methodLink RX4 3 objectInit ∈ lwG := lwG_of 70 (by decide +kernel) rfl
set_option maxRecDepth 20000 in
theorem ww_71 : Cond.classLink RX4 9 "[[I" ∈ lwG := lwG_of 71 (by decide +kernel) rfl
set_option maxRecDepth 20000 in
theorem ww_73 : Cond.fieldLink RX4 11 RX4 "heard" "[[I" ∈ lwG := lwG_of 73 (by decide +kernel) rfl
set_option maxRecDepth 20000 in
theorem ww_74 : Cond.fieldLink RX4 16 RX4 "order" "[I" ∈ lwG := lwG_of 74 (by decide +kernel) rfl
set_option maxRecDepth 20000 in
theorem ww_75 : Cond.fieldLink RX4 20 RX4 "speakers" "I" ∈ lwG := lwG_of 75 (by decide +kernel) rfl
set_option maxRecDepth 20000 in
theorem ww_458 : Cond.code yX4_sort cX4_sort 3 none ∈ lwG := lwG_of 458 (by decide +kernel) rfl
set_option maxRecDepth 20000 in
theorem ww_38 : Cond.initialized RX4 ∈ lwG := lwG_of 38 (by decide +kernel) rfl
set_option maxRecDepth 20000 in
theorem ww_455 : Cond.methodLink RX4 24 yX4_sort ∈ lwG := lwG_of 455 (by decide +kernel) rfl
set_option maxRecDepth 20000 in
theorem ww_456 : Cond.instanceMethod yX4_sort ∈ lwG := lwG_of 456 (by decide +kernel) rfl
set_option maxRecDepth 20000 in
theorem ww_457 : Cond.selects RX4 yX4_sort yX4_sort ∈ lwG := lwG_of 457 (by decide +kernel) rfl
set_option maxRecDepth 20000 in
theorem ww_463 : Cond.methodLink RX4 28 yX2_put ∈ lwG := lwG_of 463 (by decide +kernel) rfl
set_option maxRecDepth 20000 in
theorem ww_462 : Cond.code yX4_insert cX4_insert 4 none ∈ lwG := lwG_of 462 (by decide +kernel) rfl
set_option maxRecDepth 20000 in
theorem ww_459 : Cond.methodLink RX4 34 yX4_insert ∈ lwG := lwG_of 459 (by decide +kernel) rfl
set_option maxRecDepth 20000 in
theorem ww_461 : Cond.instanceMethod yX4_insert ∈ lwG := lwG_of 461 (by decide +kernel) rfl
set_option maxRecDepth 20000 in
theorem ww_4 : Cond.selects RX4 yX4_insert yX4_insert ∈ lwG := lwG_of 4 (by decide +kernel) rfl
set_option maxRecDepth 20000 in
theorem ww_89 : Cond.methodLink RX6 3 objectInit ∈ lwG := lwG_of 89 (by decide +kernel) rfl
set_option maxRecDepth 20000 in
theorem ww_91 : Cond.fieldLink RX6 11 RX6 "tape" "[I" ∈ lwG := lwG_of 91 (by decide +kernel) rfl
set_option maxRecDepth 20000 in
theorem ww_92 : Cond.fieldLink RX6 15 RX6 "typed" "I" ∈ lwG := lwG_of 92 (by decide +kernel) rfl
set_option maxRecDepth 20000 in
theorem ww_93 : Cond.fieldLink RX6 19 RX6 "starts" "[I" ∈ lwG := lwG_of 93 (by decide +kernel) rfl
set_option maxRecDepth 20000 in
theorem ww_90 : Cond.classLink RX6 22 "[[I" ∈ lwG := lwG_of 90 (by decide +kernel) rfl
set_option maxRecDepth 20000 in
theorem ww_94 : Cond.fieldLink RX6 24 RX6 "told" "[[I" ∈ lwG := lwG_of 94 (by decide +kernel) rfl
set_option maxRecDepth 20000 in
theorem ww_95 : Cond.fieldLink RX6 27 RX6 "editions" "I" ∈ lwG := lwG_of 95 (by decide +kernel) rfl
set_option maxRecDepth 20000 in
theorem ww_96 : Cond.fieldLink RX6 30 RX6 "draft" "[I" ∈ lwG := lwG_of 96 (by decide +kernel) rfl
set_option maxRecDepth 20000 in
theorem ww_97 : Cond.fieldLink RX6 33 RX6 "at" "I" ∈ lwG := lwG_of 97 (by decide +kernel) rfl
set_option maxRecDepth 20000 in
theorem ww_375 : Cond.code yX6_byteOf cX6_byteOf 3 (some .int) ∈ lwG := lwG_of 375 (by decide +kernel) rfl
set_option maxRecDepth 20000 in
theorem ww_39 : Cond.initialized RX6 ∈ lwG := lwG_of 39 (by decide +kernel) rfl
set_option maxRecDepth 20000 in
theorem ww_373 : Cond.methodLink RX6 36 yX6_byteOf ∈ lwG := lwG_of 373 (by decide +kernel) rfl
set_option maxRecDepth 20000 in
theorem ww_374 : Cond.static yX6_byteOf ∈ lwG := lwG_of 374 (by decide +kernel) rfl
set_option maxRecDepth 20000 in
theorem ww_338 : Cond.code yX10_isIn cX10_isIn 3 (some .boolean) ∈ lwG := lwG_of 338 (by decide +kernel) rfl
set_option maxRecDepth 20000 in
theorem ww_36 : Cond.initialized RX10 ∈ lwG := lwG_of 36 (by decide +kernel) rfl
set_option maxRecDepth 20000 in
theorem ww_337 : Cond.static yX10_isIn ∈ lwG := lwG_of 337 (by decide +kernel) rfl
set_option maxRecDepth 20000 in
theorem ww_376 : Cond.constantLong RX6 44 255 ∈ lwG := lwG_of 376 (by decide +kernel) rfl
set_option maxRecDepth 20000 in
theorem ww_397 : Cond.code yX6_readTape cX6_readTape 3 (some .int) ∈ lwG := lwG_of 397 (by decide +kernel) rfl
set_option maxRecDepth 20000 in
theorem ww_394 : Cond.methodLink RX6 46 yX6_readTape ∈ lwG := lwG_of 394 (by decide +kernel) rfl
set_option maxRecDepth 20000 in
theorem ww_396 : Cond.instanceMethod yX6_readTape ∈ lwG := lwG_of 396 (by decide +kernel) rfl
set_option maxRecDepth 20000 in
theorem ww_0 : Cond.selects RX6 yX6_readTape yX6_readTape ∈ lwG := lwG_of 0 (by decide +kernel) rfl
set_option maxRecDepth 20000 in
theorem ww_398 : Cond.fieldLink RX6 50 RX6 "AT_FIRST" "[I" ∈ lwG := lwG_of 398 (by decide +kernel) rfl
set_option maxRecDepth 20000 in
theorem ww_403 : Cond.code yX6_readClause cX6_readClause 4 (some .int) ∈ lwG := lwG_of 403 (by decide +kernel) rfl
set_option maxRecDepth 20000 in
theorem ww_400 : Cond.methodLink RX6 53 yX6_readClause ∈ lwG := lwG_of 400 (by decide +kernel) rfl
set_option maxRecDepth 20000 in
theorem ww_402 : Cond.instanceMethod yX6_readClause ∈ lwG := lwG_of 402 (by decide +kernel) rfl
set_option maxRecDepth 20000 in
theorem ww_1 : Cond.selects RX6 yX6_readClause yX6_readClause ∈ lwG := lwG_of 1 (by decide +kernel) rfl
set_option maxRecDepth 20000 in
theorem ww_407 : Cond.code yX6_skipBlanks cX6_skipBlanks 1 none ∈ lwG := lwG_of 407 (by decide +kernel) rfl
set_option maxRecDepth 20000 in
theorem ww_404 : Cond.methodLink RX6 56 yX6_skipBlanks ∈ lwG := lwG_of 404 (by decide +kernel) rfl
set_option maxRecDepth 20000 in
theorem ww_406 : Cond.instanceMethod yX6_skipBlanks ∈ lwG := lwG_of 406 (by decide +kernel) rfl
set_option maxRecDepth 20000 in
theorem ww_2 : Cond.selects RX6 yX6_skipBlanks yX6_skipBlanks ∈ lwG := lwG_of 2 (by decide +kernel) rfl
set_option maxRecDepth 20000 in
theorem ww_410 : Cond.code yX6_ruleNamed cX6_ruleNamed 1 (some .int) ∈ lwG := lwG_of 410 (by decide +kernel) rfl
set_option maxRecDepth 20000 in
theorem ww_408 : Cond.methodLink RX6 59 yX6_ruleNamed ∈ lwG := lwG_of 408 (by decide +kernel) rfl
set_option maxRecDepth 20000 in
theorem ww_409 : Cond.static yX6_ruleNamed ∈ lwG := lwG_of 409 (by decide +kernel) rfl
set_option maxRecDepth 20000 in
theorem ww_414 : Cond.code yX6_readNumber cX6_readNumber 2 (some .int) ∈ lwG := lwG_of 414 (by decide +kernel) rfl
set_option maxRecDepth 20000 in
theorem ww_411 : Cond.methodLink RX6 63 yX6_readNumber ∈ lwG := lwG_of 411 (by decide +kernel) rfl
set_option maxRecDepth 20000 in
theorem ww_413 : Cond.instanceMethod yX6_readNumber ∈ lwG := lwG_of 413 (by decide +kernel) rfl
set_option maxRecDepth 20000 in
theorem ww_3 : Cond.selects RX6 yX6_readNumber yX6_readNumber ∈ lwG := lwG_of 3 (by decide +kernel) rfl
set_option maxRecDepth 20000 in
theorem ww_418 : Cond.fieldLink RX6 66 RX6 "LOWEST_RULE" "[I" ∈ lwG := lwG_of 418 (by decide +kernel) rfl
set_option maxRecDepth 20000 in
theorem ww_420 : Cond.fieldLink RX6 69 RX6 "HIGHEST_RULE" "[I" ∈ lwG := lwG_of 420 (by decide +kernel) rfl
set_option maxRecDepth 20000 in
theorem ww_415 : Cond.methodLink RX6 72 Lib.Math.min.name ∈ lwG := lwG_of 415 (by decide +kernel) rfl
set_option maxRecDepth 20000 in
theorem ww_64 : Cond.methodLink RX5 3 objectInit ∈ lwG := lwG_of 64 (by decide +kernel) rfl
set_option maxRecDepth 20000 in
theorem ww_65 : Cond.classLink RX5 9 RX4 ∈ lwG := lwG_of 65 (by decide +kernel) rfl
set_option maxRecDepth 20000 in
theorem ww_66 : Cond.instantiable RX4 3 ∈ lwG := lwG_of 66 (by decide +kernel) rfl
set_option maxRecDepth 20000 in
theorem ww_69 : Cond.code yX4_init cX4_init 3 none ∈ lwG := lwG_of 69 (by decide +kernel) rfl
set_option maxRecDepth 20000 in
theorem ww_67 : Cond.methodLink RX5 11 yX4_init ∈ lwG := lwG_of 67 (by decide +kernel) rfl
set_option maxRecDepth 20000 in
theorem ww_68 : Cond.instanceMethod yX4_init ∈ lwG := lwG_of 68 (by decide +kernel) rfl
set_option maxRecDepth 20000 in
theorem ww_126 : Cond.fieldLink RX5 12 RX5 "panel" "LSaidRate$Panel;" ∈ lwG := lwG_of 126 (by decide +kernel) rfl
set_option maxRecDepth 20000 in
theorem ww_84 : Cond.classLink RX5 18 RX6 ∈ lwG := lwG_of 84 (by decide +kernel) rfl
set_option maxRecDepth 20000 in
theorem ww_85 : Cond.instantiable RX6 7 ∈ lwG := lwG_of 85 (by decide +kernel) rfl
set_option maxRecDepth 20000 in
theorem ww_88 : Cond.code yX6_init cX6_init 1 none ∈ lwG := lwG_of 88 (by decide +kernel) rfl
set_option maxRecDepth 20000 in
theorem ww_87 : Cond.instanceMethod yX6_init ∈ lwG := lwG_of 87 (by decide +kernel) rfl
set_option maxRecDepth 20000 in
theorem ww_128 : Cond.fieldLink RX5 21 RX5 "book" "LSaidRate$RuleBook;" ∈ lwG := lwG_of 128 (by decide +kernel) rfl
set_option maxRecDepth 20000 in
theorem ww_130 : Cond.fieldLink RX5 25 RX5 "bent" "[I" ∈ lwG := lwG_of 130 (by decide +kernel) rfl
set_option maxRecDepth 20000 in
theorem ww_113 : Cond.classLink RX5 29 RX2 ∈ lwG := lwG_of 113 (by decide +kernel) rfl
set_option maxRecDepth 20000 in
theorem ww_114 : Cond.instantiable RX2 2 ∈ lwG := lwG_of 114 (by decide +kernel) rfl
set_option maxRecDepth 20000 in
theorem ww_117 : Cond.code yX2_init cX2_init 1 none ∈ lwG := lwG_of 117 (by decide +kernel) rfl
set_option maxRecDepth 20000 in
theorem ww_116 : Cond.instanceMethod yX2_init ∈ lwG := lwG_of 116 (by decide +kernel) rfl
set_option maxRecDepth 20000 in
theorem ww_131 : Cond.fieldLink RX5 32 RX5 "plain" "LSaidRate$Fraction;" ∈ lwG := lwG_of 131 (by decide +kernel) rfl
set_option maxRecDepth 20000 in
theorem ww_132 : Cond.fieldLink RX5 36 RX5 "bentMean" "LSaidRate$Fraction;" ∈ lwG := lwG_of 132 (by decide +kernel) rfl
set_option maxRecDepth 20000 in
theorem ww_133 : Cond.fieldLink RX5 39 RX5 "moved" "LSaidRate$Fraction;" ∈ lwG := lwG_of 133 (by decide +kernel) rfl
set_option maxRecDepth 20000 in
theorem ww_134 : Cond.fieldLink RX5 42 RX5 "greatest" "LSaidRate$Fraction;" ∈ lwG := lwG_of 134 (by decide +kernel) rfl
set_option maxRecDepth 20000 in
theorem ww_445 : Cond.code yX4_rowOf cX4_rowOf 2 (some (.array .int)) ∈ lwG := lwG_of 445 (by decide +kernel) rfl
set_option maxRecDepth 20000 in
theorem ww_442 : Cond.methodLink RX5 45 yX4_rowOf ∈ lwG := lwG_of 442 (by decide +kernel) rfl
set_option maxRecDepth 20000 in
theorem ww_443 : Cond.instanceMethod yX4_rowOf ∈ lwG := lwG_of 443 (by decide +kernel) rfl
set_option maxRecDepth 20000 in
theorem ww_444 : Cond.selects RX4 yX4_rowOf yX4_rowOf ∈ lwG := lwG_of 444 (by decide +kernel) rfl
set_option maxRecDepth 20000 in
theorem ww_449 : Cond.code yX5_findOf cX5_findOf 4 (some .boolean) ∈ lwG := lwG_of 449 (by decide +kernel) rfl
set_option maxRecDepth 20000 in
theorem ww_37 : Cond.initialized RX5 ∈ lwG := lwG_of 37 (by decide +kernel) rfl
set_option maxRecDepth 20000 in
theorem ww_446 : Cond.methodLink RX5 49 yX5_findOf ∈ lwG := lwG_of 446 (by decide +kernel) rfl
set_option maxRecDepth 20000 in
theorem ww_447 : Cond.instanceMethod yX5_findOf ∈ lwG := lwG_of 447 (by decide +kernel) rfl
set_option maxRecDepth 20000 in
theorem ww_448 : Cond.selects RX5 yX5_findOf yX5_findOf ∈ lwG := lwG_of 448 (by decide +kernel) rfl
set_option maxRecDepth 20000 in
theorem ww_429 : Cond.code yX6_inForce cX6_inForce 4 (some .int) ∈ lwG := lwG_of 429 (by decide +kernel) rfl
set_option maxRecDepth 20000 in
theorem ww_450 : Cond.methodLink RX5 53 yX6_inForce ∈ lwG := lwG_of 450 (by decide +kernel) rfl
set_option maxRecDepth 20000 in
theorem ww_427 : Cond.instanceMethod yX6_inForce ∈ lwG := lwG_of 427 (by decide +kernel) rfl
set_option maxRecDepth 20000 in
theorem ww_428 : Cond.selects RX6 yX6_inForce yX6_inForce ∈ lwG := lwG_of 428 (by decide +kernel) rfl
set_option maxRecDepth 20000 in
theorem ww_454 : Cond.code yX4_findMean cX4_findMean 8 (some .boolean) ∈ lwG := lwG_of 454 (by decide +kernel) rfl
set_option maxRecDepth 20000 in
theorem ww_451 : Cond.methodLink RX5 57 yX4_findMean ∈ lwG := lwG_of 451 (by decide +kernel) rfl
set_option maxRecDepth 20000 in
theorem ww_452 : Cond.instanceMethod yX4_findMean ∈ lwG := lwG_of 452 (by decide +kernel) rfl
set_option maxRecDepth 20000 in
theorem ww_453 : Cond.selects RX4 yX4_findMean yX4_findMean ∈ lwG := lwG_of 453 (by decide +kernel) rfl
set_option maxRecDepth 20000 in
theorem ww_494 : Cond.code yX5_bend cX5_bend 7 none ∈ lwG := lwG_of 494 (by decide +kernel) rfl
set_option maxRecDepth 20000 in
theorem ww_491 : Cond.methodLink RX5 61 yX5_bend ∈ lwG := lwG_of 491 (by decide +kernel) rfl
set_option maxRecDepth 20000 in
theorem ww_493 : Cond.instanceMethod yX5_bend ∈ lwG := lwG_of 493 (by decide +kernel) rfl
set_option maxRecDepth 20000 in
theorem ww_5 : Cond.selects RX5 yX5_bend yX5_bend ∈ lwG := lwG_of 5 (by decide +kernel) rfl
set_option maxRecDepth 20000 in
theorem ww_498 : Cond.code yX5_endOf cX5_endOf 1 (some .int) ∈ lwG := lwG_of 498 (by decide +kernel) rfl
set_option maxRecDepth 20000 in
theorem ww_496 : Cond.methodLink RX5 65 yX5_endOf ∈ lwG := lwG_of 496 (by decide +kernel) rfl
set_option maxRecDepth 20000 in
theorem ww_497 : Cond.static yX5_endOf ∈ lwG := lwG_of 497 (by decide +kernel) rfl
set_option maxRecDepth 20000 in
theorem ww_510 : Cond.code yX2_putDifference cX2_putDifference 3 none ∈ lwG := lwG_of 510 (by decide +kernel) rfl
set_option maxRecDepth 20000 in
theorem ww_507 : Cond.methodLink RX5 69 yX2_putDifference ∈ lwG := lwG_of 507 (by decide +kernel) rfl
set_option maxRecDepth 20000 in
theorem ww_508 : Cond.instanceMethod yX2_putDifference ∈ lwG := lwG_of 508 (by decide +kernel) rfl
set_option maxRecDepth 20000 in
theorem ww_509 : Cond.selects RX2 yX2_putDifference yX2_putDifference ∈ lwG := lwG_of 509 (by decide +kernel) rfl
set_option maxRecDepth 20000 in
theorem ww_522 : Cond.code yJ6_bitCount_0f7a4 cJ6_bitCount_0f7a4 1 (some .int) ∈ lwG := lwG_of 522 (by decide +kernel) rfl
set_option maxRecDepth 20000 in
theorem ww_520 : Cond.methodLink RX5 73 yJ6_bitCount_0f7a4 ∈ lwG := lwG_of 520 (by decide +kernel) rfl
set_option maxRecDepth 20000 in
theorem ww_521 : Cond.static yJ6_bitCount_0f7a4 ∈ lwG := lwG_of 521 (by decide +kernel) rfl
set_option maxRecDepth 20000 in
theorem ww_506 : Cond.code yX5_findMove cX5_findMove 7 (some .boolean) ∈ lwG := lwG_of 506 (by decide +kernel) rfl
set_option maxRecDepth 20000 in
theorem ww_526 : Cond.methodLink RX5 78 yX5_findMove ∈ lwG := lwG_of 526 (by decide +kernel) rfl
set_option maxRecDepth 20000 in
theorem ww_504 : Cond.instanceMethod yX5_findMove ∈ lwG := lwG_of 504 (by decide +kernel) rfl
set_option maxRecDepth 20000 in
theorem ww_505 : Cond.selects RX5 yX5_findMove yX5_findMove ∈ lwG := lwG_of 505 (by decide +kernel) rfl
set_option maxRecDepth 20000 in
theorem ww_530 : Cond.code yX2_isAtLeast cX2_isAtLeast 2 (some .boolean) ∈ lwG := lwG_of 530 (by decide +kernel) rfl
set_option maxRecDepth 20000 in
theorem ww_527 : Cond.methodLink RX5 82 yX2_isAtLeast ∈ lwG := lwG_of 527 (by decide +kernel) rfl
set_option maxRecDepth 20000 in
theorem ww_528 : Cond.instanceMethod yX2_isAtLeast ∈ lwG := lwG_of 528 (by decide +kernel) rfl
set_option maxRecDepth 20000 in
theorem ww_529 : Cond.selects RX2 yX2_isAtLeast yX2_isAtLeast ∈ lwG := lwG_of 529 (by decide +kernel) rfl
set_option maxRecDepth 20000 in
theorem ww_821 : Cond.code yX5_findGreatest cX5_findGreatest 8 (some .boolean) ∈ lwG := lwG_of 821 (by decide +kernel) rfl
set_option maxRecDepth 20000 in
theorem ww_818 : Cond.methodLink RX5 86 yX5_findGreatest ∈ lwG := lwG_of 818 (by decide +kernel) rfl
set_option maxRecDepth 20000 in
theorem ww_820 : Cond.instanceMethod yX5_findGreatest ∈ lwG := lwG_of 820 (by decide +kernel) rfl
set_option maxRecDepth 20000 in
theorem ww_14 : Cond.selects RX5 yX5_findGreatest yX5_findGreatest ∈ lwG := lwG_of 14 (by decide +kernel) rfl
set_option maxRecDepth 20000 in
theorem ww_831 : Cond.code yX2_isAbove cX2_isAbove 2 (some .boolean) ∈ lwG := lwG_of 831 (by decide +kernel) rfl
set_option maxRecDepth 20000 in
theorem ww_828 : Cond.methodLink RX5 90 yX2_isAbove ∈ lwG := lwG_of 828 (by decide +kernel) rfl
set_option maxRecDepth 20000 in
theorem ww_829 : Cond.instanceMethod yX2_isAbove ∈ lwG := lwG_of 829 (by decide +kernel) rfl
set_option maxRecDepth 20000 in
theorem ww_830 : Cond.selects RX2 yX2_isAbove yX2_isAbove ∈ lwG := lwG_of 830 (by decide +kernel) rfl
set_option maxRecDepth 20000 in
theorem ww_835 : Cond.code yX2_copy cX2_copy 2 none ∈ lwG := lwG_of 835 (by decide +kernel) rfl
set_option maxRecDepth 20000 in
theorem ww_832 : Cond.methodLink RX5 94 yX2_copy ∈ lwG := lwG_of 832 (by decide +kernel) rfl
set_option maxRecDepth 20000 in
theorem ww_833 : Cond.instanceMethod yX2_copy ∈ lwG := lwG_of 833 (by decide +kernel) rfl
set_option maxRecDepth 20000 in
theorem ww_834 : Cond.selects RX2 yX2_copy yX2_copy ∈ lwG := lwG_of 834 (by decide +kernel) rfl
set_option maxRecDepth 20000 in
theorem ww_822 : Cond.methodLink RX5 98 yX2_put ∈ lwG := lwG_of 822 (by decide +kernel) rfl
set_option maxRecDepth 20000 in
theorem ww_823 : Cond.methodLink RX5 102 yX4_sort ∈ lwG := lwG_of 823 (by decide +kernel) rfl
set_option maxRecDepth 20000 in
theorem ww_827 : Cond.code yX4_farthest cX4_farthest 5 (some .int) ∈ lwG := lwG_of 827 (by decide +kernel) rfl
set_option maxRecDepth 20000 in
theorem ww_824 : Cond.methodLink RX5 106 yX4_farthest ∈ lwG := lwG_of 824 (by decide +kernel) rfl
set_option maxRecDepth 20000 in
theorem ww_825 : Cond.instanceMethod yX4_farthest ∈ lwG := lwG_of 825 (by decide +kernel) rfl
set_option maxRecDepth 20000 in
theorem ww_826 : Cond.selects RX4 yX4_farthest yX4_farthest ∈ lwG := lwG_of 826 (by decide +kernel) rfl
set_option maxRecDepth 20000 in
theorem ww_342 : Cond.code yX4_heard cX4_heard 3 (some .int) ∈ lwG := lwG_of 342 (by decide +kernel) rfl
set_option maxRecDepth 20000 in
theorem ww_495 : Cond.methodLink RX5 109 yX4_heard ∈ lwG := lwG_of 495 (by decide +kernel) rfl
set_option maxRecDepth 20000 in
theorem ww_340 : Cond.instanceMethod yX4_heard ∈ lwG := lwG_of 340 (by decide +kernel) rfl
set_option maxRecDepth 20000 in
theorem ww_341 : Cond.selects RX4 yX4_heard yX4_heard ∈ lwG := lwG_of 341 (by decide +kernel) rfl
set_option maxRecDepth 20000 in
theorem ww_56 : Cond.methodLink RX10 1 objectInit ∈ lwG := lwG_of 56 (by decide +kernel) rfl
set_option maxRecDepth 20000 in
theorem ww_59 : Cond.classLink RX10 7 RX5 ∈ lwG := lwG_of 59 (by decide +kernel) rfl
set_option maxRecDepth 20000 in
theorem ww_60 : Cond.instantiable RX5 7 ∈ lwG := lwG_of 60 (by decide +kernel) rfl
set_option maxRecDepth 20000 in
theorem ww_63 : Cond.code yX5_init cX5_init 1 none ∈ lwG := lwG_of 63 (by decide +kernel) rfl
set_option maxRecDepth 20000 in
theorem ww_62 : Cond.instanceMethod yX5_init ∈ lwG := lwG_of 62 (by decide +kernel) rfl
set_option maxRecDepth 20000 in
theorem ww_286 : Cond.fieldLink RX10 10 RX10 "rates" "LSaidRate$Rates;" ∈ lwG := lwG_of 286 (by decide +kernel) rfl
set_option maxRecDepth 20000 in
theorem ww_127 : Cond.fieldLink RX10 16 RX5 "panel" "LSaidRate$Panel;" ∈ lwG := lwG_of 127 (by decide +kernel) rfl
set_option maxRecDepth 20000 in
theorem ww_287 : Cond.fieldLink RX10 20 RX10 "panel" "LSaidRate$Panel;" ∈ lwG := lwG_of 287 (by decide +kernel) rfl
set_option maxRecDepth 20000 in
theorem ww_129 : Cond.fieldLink RX10 21 RX5 "book" "LSaidRate$RuleBook;" ∈ lwG := lwG_of 129 (by decide +kernel) rfl
set_option maxRecDepth 20000 in
theorem ww_288 : Cond.fieldLink RX10 25 RX10 "book" "LSaidRate$RuleBook;" ∈ lwG := lwG_of 288 (by decide +kernel) rfl
set_option maxRecDepth 20000 in
theorem ww_150 : Cond.classLink RX10 26 RX0 ∈ lwG := lwG_of 150 (by decide +kernel) rfl
set_option maxRecDepth 20000 in
theorem ww_151 : Cond.instantiable RX0 8 ∈ lwG := lwG_of 151 (by decide +kernel) rfl
set_option maxRecDepth 20000 in
theorem ww_154 : Cond.code yX0_init cX0_init 1 none ∈ lwG := lwG_of 154 (by decide +kernel) rfl
set_option maxRecDepth 20000 in
theorem ww_153 : Cond.instanceMethod yX0_init ∈ lwG := lwG_of 153 (by decide +kernel) rfl
set_option maxRecDepth 20000 in
theorem ww_289 : Cond.fieldLink RX10 29 RX10 "desks" "LSaidRate$Desks;" ∈ lwG := lwG_of 289 (by decide +kernel) rfl
set_option maxRecDepth 20000 in
theorem ww_181 : Cond.classLink RX10 33 RX3 ∈ lwG := lwG_of 181 (by decide +kernel) rfl
set_option maxRecDepth 20000 in
theorem ww_182 : Cond.instantiable RX3 6 ∈ lwG := lwG_of 182 (by decide +kernel) rfl
set_option maxRecDepth 20000 in
theorem ww_185 : Cond.code yX3_init cX3_init 1 none ∈ lwG := lwG_of 185 (by decide +kernel) rfl
set_option maxRecDepth 20000 in
theorem ww_184 : Cond.instanceMethod yX3_init ∈ lwG := lwG_of 184 (by decide +kernel) rfl
set_option maxRecDepth 20000 in
theorem ww_290 : Cond.fieldLink RX10 36 RX10 "loans" "LSaidRate$Loans;" ∈ lwG := lwG_of 290 (by decide +kernel) rfl
set_option maxRecDepth 20000 in
theorem ww_206 : Cond.classLink RX10 40 RX7 ∈ lwG := lwG_of 206 (by decide +kernel) rfl
set_option maxRecDepth 20000 in
theorem ww_207 : Cond.instantiable RX7 3 ∈ lwG := lwG_of 207 (by decide +kernel) rfl
set_option maxRecDepth 20000 in
theorem ww_43 : Cond.initialized RX7 ∈ lwG := lwG_of 43 (by decide +kernel) rfl
set_option maxRecDepth 20000 in
theorem ww_210 : Cond.code yX7_init cX7_init 1 none ∈ lwG := lwG_of 210 (by decide +kernel) rfl
set_option maxRecDepth 20000 in
theorem ww_209 : Cond.instanceMethod yX7_init ∈ lwG := lwG_of 209 (by decide +kernel) rfl
set_option maxRecDepth 20000 in
theorem ww_291 : Cond.fieldLink RX10 43 RX10 "runs" "LSaidRate$Runs;" ∈ lwG := lwG_of 291 (by decide +kernel) rfl
set_option maxRecDepth 20000 in
theorem ww_222 : Cond.classLink RX10 47 RX9 ∈ lwG := lwG_of 222 (by decide +kernel) rfl
set_option maxRecDepth 20000 in
theorem ww_223 : Cond.instantiable RX9 8 ∈ lwG := lwG_of 223 (by decide +kernel) rfl
set_option maxRecDepth 20000 in
theorem ww_226 : Cond.code yX9_init cX9_init 1 none ∈ lwG := lwG_of 226 (by decide +kernel) rfl
set_option maxRecDepth 20000 in
theorem ww_225 : Cond.instanceMethod yX9_init ∈ lwG := lwG_of 225 (by decide +kernel) rfl
set_option maxRecDepth 20000 in
theorem ww_292 : Cond.fieldLink RX10 50 RX10 "talk" "LSaidRate$Talk;" ∈ lwG := lwG_of 292 (by decide +kernel) rfl
set_option maxRecDepth 20000 in
theorem ww_253 : Cond.classLink RX10 54 RX1 ∈ lwG := lwG_of 253 (by decide +kernel) rfl
set_option maxRecDepth 20000 in
theorem ww_254 : Cond.instantiable RX1 2 ∈ lwG := lwG_of 254 (by decide +kernel) rfl
set_option maxRecDepth 20000 in
theorem ww_257 : Cond.code yX1_init cX1_init 1 none ∈ lwG := lwG_of 257 (by decide +kernel) rfl
set_option maxRecDepth 20000 in
theorem ww_256 : Cond.instanceMethod yX1_init ∈ lwG := lwG_of 256 (by decide +kernel) rfl
set_option maxRecDepth 20000 in
theorem ww_293 : Cond.fieldLink RX10 57 RX10 "favours" "LSaidRate$Favours;" ∈ lwG := lwG_of 293 (by decide +kernel) rfl
set_option maxRecDepth 20000 in
theorem ww_267 : Cond.classLink RX10 61 RX8 ∈ lwG := lwG_of 267 (by decide +kernel) rfl
set_option maxRecDepth 20000 in
theorem ww_268 : Cond.instantiable RX8 3 ∈ lwG := lwG_of 268 (by decide +kernel) rfl
set_option maxRecDepth 20000 in
theorem ww_271 : Cond.code yX8_init cX8_init 2 none ∈ lwG := lwG_of 271 (by decide +kernel) rfl
set_option maxRecDepth 20000 in
theorem ww_269 : Cond.methodLink RX10 63 yX8_init ∈ lwG := lwG_of 269 (by decide +kernel) rfl
set_option maxRecDepth 20000 in
theorem ww_270 : Cond.instanceMethod yX8_init ∈ lwG := lwG_of 270 (by decide +kernel) rfl
set_option maxRecDepth 20000 in
theorem ww_294 : Cond.fieldLink RX10 64 RX10 "sheets" "LSaidRate$Sheets;" ∈ lwG := lwG_of 294 (by decide +kernel) rfl
set_option maxRecDepth 20000 in
theorem ww_284 : Cond.classLink RX10 68 RX2 ∈ lwG := lwG_of 284 (by decide +kernel) rfl
set_option maxRecDepth 20000 in
theorem ww_295 : Cond.fieldLink RX10 71 RX10 "found" "LSaidRate$Fraction;" ∈ lwG := lwG_of 295 (by decide +kernel) rfl
set_option maxRecDepth 20000 in
theorem ww_296 : Cond.fieldLink RX10 75 RX10 "other" "LSaidRate$Fraction;" ∈ lwG := lwG_of 296 (by decide +kernel) rfl
set_option maxRecDepth 20000 in
theorem ww_297 : Cond.fieldLink RX10 78 RX10 "righted" "[I" ∈ lwG := lwG_of 297 (by decide +kernel) rfl
set_option maxRecDepth 20000 in
theorem ww_329 : Cond.code yX10_isHouse cX10_isHouse 1 (some .boolean) ∈ lwG := lwG_of 329 (by decide +kernel) rfl
set_option maxRecDepth 20000 in
theorem ww_327 : Cond.methodLink RX10 82 yX10_isHouse ∈ lwG := lwG_of 327 (by decide +kernel) rfl
set_option maxRecDepth 20000 in
theorem ww_328 : Cond.static yX10_isHouse ∈ lwG := lwG_of 328 (by decide +kernel) rfl
set_option maxRecDepth 20000 in
theorem ww_332 : Cond.code yX10_isMorning cX10_isMorning 1 (some .boolean) ∈ lwG := lwG_of 332 (by decide +kernel) rfl
