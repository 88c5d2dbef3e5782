-- ===== PART A: goes FIRST, ahead of the names: the tables' words, and 'selects' of the private methods out of them =====
/-- a private method of a class that the tables say can be made, by its rows of tables_1 -/
def lw_okq (q : MethodName × Nat) : Prop := (q.1.cls ≠ "java/lang/invoke/MethodHandle" ∧ q.1.cls ≠ "java/lang/invoke/VarHandle") ∧ Cond.instantiable q.1.cls q.2 ∈ tables_1 ∧ Cond.privateMethod q.1 ∈ tables_1 ∧ Cond.instanceMethod q.1 ∈ tables_1
theorem lw_p0 : lw_okq (⟨"SaidRate$RuleBook", "readTape", "()I"⟩, 7) := ⟨⟨by decide +kernel, by decide +kernel⟩, List.mem_of_getElem? (i := 50) (by decide +kernel), List.mem_of_getElem? (i := 360) (by decide +kernel), List.mem_of_getElem? (i := 361) (by decide +kernel)⟩
theorem lw_p1 : lw_okq (⟨"SaidRate$RuleBook", "readClause", "()I"⟩, 7) := ⟨⟨by decide +kernel, by decide +kernel⟩, List.mem_of_getElem? (i := 50) (by decide +kernel), List.mem_of_getElem? (i := 366) (by decide +kernel), List.mem_of_getElem? (i := 367) (by decide +kernel)⟩
theorem lw_p2 : lw_okq (⟨"SaidRate$RuleBook", "skipBlanks", "()V"⟩, 7) := ⟨⟨by decide +kernel, by decide +kernel⟩, List.mem_of_getElem? (i := 50) (by decide +kernel), List.mem_of_getElem? (i := 370) (by decide +kernel), List.mem_of_getElem? (i := 371) (by decide +kernel)⟩
theorem lw_p3 : lw_okq (⟨"SaidRate$RuleBook", "readNumber", "()I"⟩, 7) := ⟨⟨by decide +kernel, by decide +kernel⟩, List.mem_of_getElem? (i := 50) (by decide +kernel), List.mem_of_getElem? (i := 377) (by decide +kernel), List.mem_of_getElem? (i := 378) (by decide +kernel)⟩
theorem lw_p4 : lw_okq (⟨"SaidRate$Panel", "insert", "([II)V"⟩, 3) := ⟨⟨by decide +kernel, by decide +kernel⟩, List.mem_of_getElem? (i := 31) (by decide +kernel), List.mem_of_getElem? (i := 425) (by decide +kernel), List.mem_of_getElem? (i := 426) (by decide +kernel)⟩
theorem lw_p5 : lw_okq (⟨"SaidRate$Rates", "bend", "(III)V"⟩, 7) := ⟨⟨by decide +kernel, by decide +kernel⟩, List.mem_of_getElem? (i := 25) (by decide +kernel), List.mem_of_getElem? (i := 457) (by decide +kernel), List.mem_of_getElem? (i := 458) (by decide +kernel)⟩
theorem lw_p6 : lw_okq (⟨"SaidRate$Desks", "signedSize", "(III)I"⟩, 8) := ⟨⟨by decide +kernel, by decide +kernel⟩, List.mem_of_getElem? (i := 116) (by decide +kernel), List.mem_of_getElem? (i := 530) (by decide +kernel), List.mem_of_getElem? (i := 531) (by decide +kernel)⟩
theorem lw_p7 : lw_okq (⟨"SaidRate", "findTrue", "(II)Z"⟩, 12) := ⟨⟨by decide +kernel, by decide +kernel⟩, List.mem_of_getElem? (i := 17) (by decide +kernel), List.mem_of_getElem? (i := 607) (by decide +kernel), List.mem_of_getElem? (i := 608) (by decide +kernel)⟩
theorem lw_p8 : lw_okq (⟨"SaidRate$Loans", "findSpan", "(II)Z"⟩, 6) := ⟨⟨by decide +kernel, by decide +kernel⟩, List.mem_of_getElem? (i := 147) (by decide +kernel), List.mem_of_getElem? (i := 615) (by decide +kernel), List.mem_of_getElem? (i := 616) (by decide +kernel)⟩
theorem lw_p9 : lw_okq (⟨"SaidRate", "outSign", "(II)I"⟩, 12) := ⟨⟨by decide +kernel, by decide +kernel⟩, List.mem_of_getElem? (i := 17) (by decide +kernel), List.mem_of_getElem? (i := 639) (by decide +kernel), List.mem_of_getElem? (i := 640) (by decide +kernel)⟩
theorem lw_p10 : lw_okq (⟨"SaidRate", "findRight", "(ILSaidRate$Fraction;)Z"⟩, 12) := ⟨⟨by decide +kernel, by decide +kernel⟩, List.mem_of_getElem? (i := 17) (by decide +kernel), List.mem_of_getElem? (i := 647) (by decide +kernel), List.mem_of_getElem? (i := 648) (by decide +kernel)⟩
theorem lw_p11 : lw_okq (⟨"SaidRate$Talk", "startFrom", "(I)V"⟩, 8) := ⟨⟨by decide +kernel, by decide +kernel⟩, List.mem_of_getElem? (i := 188) (by decide +kernel), List.mem_of_getElem? (i := 726) (by decide +kernel), List.mem_of_getElem? (i := 727) (by decide +kernel)⟩
theorem lw_p12 : lw_okq (⟨"SaidRate$Talk", "followOne", "(II)V"⟩, 8) := ⟨⟨by decide +kernel, by decide +kernel⟩, List.mem_of_getElem? (i := 188) (by decide +kernel), List.mem_of_getElem? (i := 730) (by decide +kernel), List.mem_of_getElem? (i := 731) (by decide +kernel)⟩
theorem lw_p13 : lw_okq (⟨"SaidRate$Favours", "findLeads", "()V"⟩, 2) := ⟨⟨by decide +kernel, by decide +kernel⟩, List.mem_of_getElem? (i := 219) (by decide +kernel), List.mem_of_getElem? (i := 769) (by decide +kernel), List.mem_of_getElem? (i := 770) (by decide +kernel)⟩
theorem lw_p14 : lw_okq (⟨"SaidRate$Rates", "findGreatest", "(IIII)Z"⟩, 7) := ⟨⟨by decide +kernel, by decide +kernel⟩, List.mem_of_getElem? (i := 25) (by decide +kernel), List.mem_of_getElem? (i := 784) (by decide +kernel), List.mem_of_getElem? (i := 785) (by decide +kernel)⟩
theorem lw_p15 : lw_okq (⟨"SaidRateModel", "readRules", "()Z"⟩, 50) := ⟨⟨by decide +kernel, by decide +kernel⟩, List.mem_of_getElem? (i := 834) (by decide +kernel), List.mem_of_getElem? (i := 1028) (by decide +kernel), List.mem_of_getElem? (i := 1029) (by decide +kernel)⟩
def lw_privs_1 : List (MethodName × Nat) := [(⟨"SaidRate$RuleBook", "readTape", "()I"⟩, 7), (⟨"SaidRate$RuleBook", "readClause", "()I"⟩, 7), (⟨"SaidRate$RuleBook", "skipBlanks", "()V"⟩, 7), (⟨"SaidRate$RuleBook", "readNumber", "()I"⟩, 7), (⟨"SaidRate$Panel", "insert", "([II)V"⟩, 3), (⟨"SaidRate$Rates", "bend", "(III)V"⟩, 7), (⟨"SaidRate$Desks", "signedSize", "(III)I"⟩, 8), (⟨"SaidRate", "findTrue", "(II)Z"⟩, 12), (⟨"SaidRate$Loans", "findSpan", "(II)Z"⟩, 6), (⟨"SaidRate", "outSign", "(II)I"⟩, 12), (⟨"SaidRate", "findRight", "(ILSaidRate$Fraction;)Z"⟩, 12), (⟨"SaidRate$Talk", "startFrom", "(I)V"⟩, 8), (⟨"SaidRate$Talk", "followOne", "(II)V"⟩, 8), (⟨"SaidRate$Favours", "findLeads", "()V"⟩, 2), (⟨"SaidRate$Rates", "findGreatest", "(IIII)Z"⟩, 7), (⟨"SaidRateModel", "readRules", "()Z"⟩, 50)]
theorem lw_r1 : ∀ q ∈ lw_privs_1, lw_okq q := List.forall_mem_cons.mpr ⟨lw_p0, List.forall_mem_cons.mpr ⟨lw_p1, List.forall_mem_cons.mpr ⟨lw_p2, List.forall_mem_cons.mpr ⟨lw_p3, List.forall_mem_cons.mpr ⟨lw_p4, List.forall_mem_cons.mpr ⟨lw_p5, List.forall_mem_cons.mpr ⟨lw_p6, List.forall_mem_cons.mpr ⟨lw_p7, List.forall_mem_cons.mpr ⟨lw_p8, List.forall_mem_cons.mpr ⟨lw_p9, List.forall_mem_cons.mpr ⟨lw_p10, List.forall_mem_cons.mpr ⟨lw_p11, List.forall_mem_cons.mpr ⟨lw_p12, List.forall_mem_cons.mpr ⟨lw_p13, List.forall_mem_cons.mpr ⟨lw_p14, List.forall_mem_cons.mpr ⟨lw_p15, fun _ h => absurd h List.not_mem_nil⟩⟩⟩⟩⟩⟩⟩⟩⟩⟩⟩⟩⟩⟩⟩⟩
theorem lw_p16 : lw_okq (⟨"SaidRateModel", "readClause", "()Z"⟩, 50) := ⟨⟨by decide +kernel, by decide +kernel⟩, List.mem_of_getElem? (i := 834) (by decide +kernel), List.mem_of_getElem? (i := 1032) (by decide +kernel), List.mem_of_getElem? (i := 1033) (by decide +kernel)⟩
theorem lw_p17 : lw_okq (⟨"SaidRateModel", "next", "()I"⟩, 50) := ⟨⟨by decide +kernel, by decide +kernel⟩, List.mem_of_getElem? (i := 834) (by decide +kernel), List.mem_of_getElem? (i := 1036) (by decide +kernel), List.mem_of_getElem? (i := 1037) (by decide +kernel)⟩
theorem lw_p18 : lw_okq (⟨"SaidRateModel", "ruleOn", "(II)I"⟩, 50) := ⟨⟨by decide +kernel, by decide +kernel⟩, List.mem_of_getElem? (i := 834) (by decide +kernel), List.mem_of_getElem? (i := 1047) (by decide +kernel), List.mem_of_getElem? (i := 1048) (by decide +kernel)⟩
theorem lw_p19 : lw_okq (⟨"SaidRateModel", "layMorning", "(I)V"⟩, 50) := ⟨⟨by decide +kernel, by decide +kernel⟩, List.mem_of_getElem? (i := 834) (by decide +kernel), List.mem_of_getElem? (i := 1059) (by decide +kernel), List.mem_of_getElem? (i := 1060) (by decide +kernel)⟩
theorem lw_p20 : lw_okq (⟨"SaidRateModel", "findRateOn", "(I)Z"⟩, 50) := ⟨⟨by decide +kernel, by decide +kernel⟩, List.mem_of_getElem? (i := 834) (by decide +kernel), List.mem_of_getElem? (i := 1063) (by decide +kernel), List.mem_of_getElem? (i := 1064) (by decide +kernel)⟩
theorem lw_p21 : lw_okq (⟨"SaidRateModel", "findRate", "(II)Z"⟩, 50) := ⟨⟨by decide +kernel, by decide +kernel⟩, List.mem_of_getElem? (i := 834) (by decide +kernel), List.mem_of_getElem? (i := 1067) (by decide +kernel), List.mem_of_getElem? (i := 1068) (by decide +kernel)⟩
theorem lw_p22 : lw_okq (⟨"SaidRateModel", "findMove", "(IIII)Z"⟩, 50) := ⟨⟨by decide +kernel, by decide +kernel⟩, List.mem_of_getElem? (i := 834) (by decide +kernel), List.mem_of_getElem? (i := 1090) (by decide +kernel), List.mem_of_getElem? (i := 1091) (by decide +kernel)⟩
theorem lw_p23 : lw_okq (⟨"SaidRateModel", "areTwo", "(II)Z"⟩, 50) := ⟨⟨by decide +kernel, by decide +kernel⟩, List.mem_of_getElem? (i := 834) (by decide +kernel), List.mem_of_getElem? (i := 1109) (by decide +kernel), List.mem_of_getElem? (i := 1110) (by decide +kernel)⟩
theorem lw_p24 : lw_okq (⟨"SaidRateModel", "isDesk", "(I)Z"⟩, 50) := ⟨⟨by decide +kernel, by decide +kernel⟩, List.mem_of_getElem? (i := 834) (by decide +kernel), List.mem_of_getElem? (i := 1113) (by decide +kernel), List.mem_of_getElem? (i := 1114) (by decide +kernel)⟩
theorem lw_p25 : lw_okq (⟨"SaidRateModel", "gainOf", "(IIZ)I"⟩, 50) := ⟨⟨by decide +kernel, by decide +kernel⟩, List.mem_of_getElem? (i := 834) (by decide +kernel), List.mem_of_getElem? (i := 1122) (by decide +kernel), List.mem_of_getElem? (i := 1123) (by decide +kernel)⟩
theorem lw_p26 : lw_okq (⟨"SaidRateModel", "gainsOf", "(II)I"⟩, 50) := ⟨⟨by decide +kernel, by decide +kernel⟩, List.mem_of_getElem? (i := 834) (by decide +kernel), List.mem_of_getElem? (i := 1126) (by decide +kernel), List.mem_of_getElem? (i := 1127) (by decide +kernel)⟩
theorem lw_p27 : lw_okq (⟨"SaidRateModel", "findTrue", "(II)Z"⟩, 50) := ⟨⟨by decide +kernel, by decide +kernel⟩, List.mem_of_getElem? (i := 834) (by decide +kernel), List.mem_of_getElem? (i := 1151) (by decide +kernel), List.mem_of_getElem? (i := 1152) (by decide +kernel)⟩
theorem lw_p28 : lw_okq (⟨"SaidRateModel", "findLent", "(II)Z"⟩, 50) := ⟨⟨by decide +kernel, by decide +kernel⟩, List.mem_of_getElem? (i := 834) (by decide +kernel), List.mem_of_getElem? (i := 1155) (by decide +kernel), List.mem_of_getElem? (i := 1156) (by decide +kernel)⟩
theorem lw_p29 : lw_okq (⟨"SaidRateModel", "outOf", "(II)I"⟩, 50) := ⟨⟨by decide +kernel, by decide +kernel⟩, List.mem_of_getElem? (i := 834) (by decide +kernel), List.mem_of_getElem? (i := 1163) (by decide +kernel), List.mem_of_getElem? (i := 1164) (by decide +kernel)⟩
theorem lw_p30 : lw_okq (⟨"SaidRateModel", "findRight", "(I)Z"⟩, 50) := ⟨⟨by decide +kernel, by decide +kernel⟩, List.mem_of_getElem? (i := 834) (by decide +kernel), List.mem_of_getElem? (i := 1171) (by decide +kernel), List.mem_of_getElem? (i := 1172) (by decide +kernel)⟩
theorem lw_p31 : lw_okq (⟨"SaidRateModel", "reachedFrom", "(I)I"⟩, 50) := ⟨⟨by decide +kernel, by decide +kernel⟩, List.mem_of_getElem? (i := 834) (by decide +kernel), List.mem_of_getElem? (i := 1232) (by decide +kernel), List.mem_of_getElem? (i := 1233) (by decide +kernel)⟩
def lw_privs_2 : List (MethodName × Nat) := [(⟨"SaidRateModel", "readClause", "()Z"⟩, 50), (⟨"SaidRateModel", "next", "()I"⟩, 50), (⟨"SaidRateModel", "ruleOn", "(II)I"⟩, 50), (⟨"SaidRateModel", "layMorning", "(I)V"⟩, 50), (⟨"SaidRateModel", "findRateOn", "(I)Z"⟩, 50), (⟨"SaidRateModel", "findRate", "(II)Z"⟩, 50), (⟨"SaidRateModel", "findMove", "(IIII)Z"⟩, 50), (⟨"SaidRateModel", "areTwo", "(II)Z"⟩, 50), (⟨"SaidRateModel", "isDesk", "(I)Z"⟩, 50), (⟨"SaidRateModel", "gainOf", "(IIZ)I"⟩, 50), (⟨"SaidRateModel", "gainsOf", "(II)I"⟩, 50), (⟨"SaidRateModel", "findTrue", "(II)Z"⟩, 50), (⟨"SaidRateModel", "findLent", "(II)Z"⟩, 50), (⟨"SaidRateModel", "outOf", "(II)I"⟩, 50), (⟨"SaidRateModel", "findRight", "(I)Z"⟩, 50), (⟨"SaidRateModel", "reachedFrom", "(I)I"⟩, 50)]
theorem lw_r2 : ∀ q ∈ lw_privs_2, lw_okq q := List.forall_mem_cons.mpr ⟨lw_p16, List.forall_mem_cons.mpr ⟨lw_p17, List.forall_mem_cons.mpr ⟨lw_p18, List.forall_mem_cons.mpr ⟨lw_p19, List.forall_mem_cons.mpr ⟨lw_p20, List.forall_mem_cons.mpr ⟨lw_p21, List.forall_mem_cons.mpr ⟨lw_p22, List.forall_mem_cons.mpr ⟨lw_p23, List.forall_mem_cons.mpr ⟨lw_p24, List.forall_mem_cons.mpr ⟨lw_p25, List.forall_mem_cons.mpr ⟨lw_p26, List.forall_mem_cons.mpr ⟨lw_p27, List.forall_mem_cons.mpr ⟨lw_p28, List.forall_mem_cons.mpr ⟨lw_p29, List.forall_mem_cons.mpr ⟨lw_p30, List.forall_mem_cons.mpr ⟨lw_p31, fun _ h => absurd h List.not_mem_nil⟩⟩⟩⟩⟩⟩⟩⟩⟩⟩⟩⟩⟩⟩⟩⟩
theorem lw_p32 : lw_okq (⟨"SaidRateModel", "findBest", "(III)I"⟩, 50) := ⟨⟨by decide +kernel, by decide +kernel⟩, List.mem_of_getElem? (i := 834) (by decide +kernel), List.mem_of_getElem? (i := 1244) (by decide +kernel), List.mem_of_getElem? (i := 1245) (by decide +kernel)⟩
theorem lw_p33 : lw_okq (⟨"SaidRateModel", "findWorst", "(IIII)Z"⟩, 50) := ⟨⟨by decide +kernel, by decide +kernel⟩, List.mem_of_getElem? (i := 834) (by decide +kernel), List.mem_of_getElem? (i := 1248) (by decide +kernel), List.mem_of_getElem? (i := 1249) (by decide +kernel)⟩
theorem lw_p34 : lw_okq (⟨"SaidRateModel", "lacks", "(IIII)I"⟩, 50) := ⟨⟨by decide +kernel, by decide +kernel⟩, List.mem_of_getElem? (i := 834) (by decide +kernel), List.mem_of_getElem? (i := 1271) (by decide +kernel), List.mem_of_getElem? (i := 1272) (by decide +kernel)⟩
def lw_privs_3 : List (MethodName × Nat) := [(⟨"SaidRateModel", "findBest", "(III)I"⟩, 50), (⟨"SaidRateModel", "findWorst", "(IIII)Z"⟩, 50), (⟨"SaidRateModel", "lacks", "(IIII)I"⟩, 50)]
theorem lw_r3 : ∀ q ∈ lw_privs_3, lw_okq q := List.forall_mem_cons.mpr ⟨lw_p32, List.forall_mem_cons.mpr ⟨lw_p33, List.forall_mem_cons.mpr ⟨lw_p34, fun _ h => absurd h List.not_mem_nil⟩⟩⟩
def lw_privs : List (MethodName × Nat) := lw_privs_1 ++ (lw_privs_2 ++ (lw_privs_3))
def lw_tbl : List Cond := k2_sels lw_privs ++ tables_1
theorem lw_privs_ok : ∀ q ∈ lw_privs, lw_okq q := by
  show ∀ q ∈ lw_privs_1 ++ (lw_privs_2 ++ (lw_privs_3)), lw_okq q
  exact List.forall_mem_append.mpr ⟨lw_r1, List.forall_mem_append.mpr ⟨lw_r2, lw_r3⟩⟩
def RX0 : String := "SaidRate$Desks"
def TX0 : u_T := fun k => match k with
  | 0 => ("SaidRate$Desks", "houses", "[I", true)
  | 1 => ("SaidRate$Desks", "opened", "I", false)
  | 2 => ("SaidRate$Desks", "getters", "[I", true)
  | 3 => ("SaidRate$Desks", "givers", "[I", true)
  | 4 => ("SaidRate$Desks", "mornings", "[I", true)
  | 5 => ("SaidRate$Desks", "sizes", "[I", true)
  | 6 => ("SaidRate$Desks", "strikes", "[I", true)
  | _ => ("SaidRate$Desks", "signed", "I", false)
def tyX0 : Nat → FieldType := fun k => match k with
  | 0 => .array .int
  | 1 => .int
  | 2 => .array .int
  | 3 => .array .int
  | 4 => .array .int
  | 5 => .array .int
  | 6 => .array .int
  | _ => .int
abbrev wsX00 : List Cond := u_ws RX0 TX0 8
set_option maxRecDepth 20000 in
theorem nmX0 : ∀ a, a < 8 → ∀ b, b < 8 → a ≠ b → (TX0 a).2.1 ≠ (TX0 b).2.1 := by decide +kernel
theorem tyX0_ok : ∀ k, k < 8 → parseFieldDescriptor (TX0 k).2.2.1 = some (tyX0 k) := by decide +kernel
def RX1 : String := "SaidRate$Favours"
def TX1 : u_T := fun k => match k with
  | 0 => ("SaidRate$Favours", "owed", "[[I", true)
  | _ => ("SaidRate$Favours", "leads", "[I", true)
def tyX1 : Nat → FieldType := fun k => match k with
  | 0 => .array (.array .int)
  | _ => .array .int
abbrev wsX10 : List Cond := u_ws RX1 TX1 2
set_option maxRecDepth 20000 in
theorem nmX1 : ∀ a, a < 2 → ∀ b, b < 2 → a ≠ b → (TX1 a).2.1 ≠ (TX1 b).2.1 := by decide +kernel
theorem tyX1_ok : ∀ k, k < 2 → parseFieldDescriptor (TX1 k).2.2.1 = some (tyX1 k) := by decide +kernel
def RX2 : String := "SaidRate$Fraction"
def TX2 : u_T := fun k => match k with
  | 0 => ("SaidRate$Fraction", "above", "J", false)
  | _ => ("SaidRate$Fraction", "below", "J", false)
def tyX2 : Nat → FieldType := fun k => match k with
  | 0 => .long
  | _ => .long
abbrev wsX20 : List Cond := u_ws RX2 TX2 2
set_option maxRecDepth 20000 in
theorem nmX2 : ∀ a, a < 2 → ∀ b, b < 2 → a ≠ b → (TX2 a).2.1 ≠ (TX2 b).2.1 := by decide +kernel
theorem tyX2_ok : ∀ k, k < 2 → parseFieldDescriptor (TX2 k).2.2.1 = some (tyX2 k) := by decide +kernel
def RX3 : String := "SaidRate$Loans"
def TX3 : u_T := fun k => match k with
  | 0 => ("SaidRate$Loans", "houses", "[I", true)
  | 1 => ("SaidRate$Loans", "mornings", "[I", true)
  | 2 => ("SaidRate$Loans", "prices", "[I", true)
  | 3 => ("SaidRate$Loans", "rows", "I", false)
  | 4 => ("SaidRate$Loans", "low", "I", false)
  | _ => ("SaidRate$Loans", "high", "I", false)
def tyX3 : Nat → FieldType := fun k => match k with
  | 0 => .array .int
  | 1 => .array .int
  | 2 => .array .int
  | 3 => .int
  | 4 => .int
  | _ => .int
abbrev wsX30 : List Cond := u_ws RX3 TX3 6
set_option maxRecDepth 20000 in
theorem nmX3 : ∀ a, a < 6 → ∀ b, b < 6 → a ≠ b → (TX3 a).2.1 ≠ (TX3 b).2.1 := by decide +kernel
theorem tyX3_ok : ∀ k, k < 6 → parseFieldDescriptor (TX3 k).2.2.1 = some (tyX3 k) := by decide +kernel
def RX4 : String := "SaidRate$Panel"
def TX4 : u_T := fun k => match k with
  | 0 => ("SaidRate$Panel", "heard", "[[I", true)
  | 1 => ("SaidRate$Panel", "order", "[I", true)
  | _ => ("SaidRate$Panel", "speakers", "I", false)
def tyX4 : Nat → FieldType := fun k => match k with
  | 0 => .array (.array .int)
  | 1 => .array .int
  | _ => .int
abbrev wsX40 : List Cond := u_ws RX4 TX4 3
set_option maxRecDepth 20000 in
theorem nmX4 : ∀ a, a < 3 → ∀ b, b < 3 → a ≠ b → (TX4 a).2.1 ≠ (TX4 b).2.1 := by decide +kernel
theorem tyX4_ok : ∀ k, k < 3 → parseFieldDescriptor (TX4 k).2.2.1 = some (tyX4 k) := by decide +kernel
def RX5 : String := "SaidRate$Rates"
def TX5 : u_T := fun k => match k with
  | 0 => ("SaidRate$Rates", "panel", "LSaidRate$Panel;", true)
  | 1 => ("SaidRate$Rates", "book", "LSaidRate$RuleBook;", true)
  | 2 => ("SaidRate$Rates", "bent", "[I", true)
  | 3 => ("SaidRate$Rates", "plain", "LSaidRate$Fraction;", true)
  | 4 => ("SaidRate$Rates", "bentMean", "LSaidRate$Fraction;", true)
  | 5 => ("SaidRate$Rates", "moved", "LSaidRate$Fraction;", true)
  | _ => ("SaidRate$Rates", "greatest", "LSaidRate$Fraction;", true)
def tyX5 : Nat → FieldType := fun k => match k with
  | 0 => .object "SaidRate$Panel"
  | 1 => .object "SaidRate$RuleBook"
  | 2 => .array .int
  | 3 => .object "SaidRate$Fraction"
  | 4 => .object "SaidRate$Fraction"
  | 5 => .object "SaidRate$Fraction"
  | _ => .object "SaidRate$Fraction"
abbrev wsX50 : List Cond := u_ws RX5 TX5 7
set_option maxRecDepth 20000 in
theorem nmX5 : ∀ a, a < 7 → ∀ b, b < 7 → a ≠ b → (TX5 a).2.1 ≠ (TX5 b).2.1 := by decide +kernel
theorem tyX5_ok : ∀ k, k < 7 → parseFieldDescriptor (TX5 k).2.2.1 = some (tyX5 k) := by decide +kernel
def RX6 : String := "SaidRate$RuleBook"
def TX6 : u_T := fun k => match k with
  | 0 => ("SaidRate$RuleBook", "tape", "[I", true)
  | 1 => ("SaidRate$RuleBook", "typed", "I", false)
  | 2 => ("SaidRate$RuleBook", "starts", "[I", true)
  | 3 => ("SaidRate$RuleBook", "told", "[[I", true)
  | 4 => ("SaidRate$RuleBook", "editions", "I", false)
  | 5 => ("SaidRate$RuleBook", "draft", "[I", true)
  | _ => ("SaidRate$RuleBook", "at", "I", false)
def tyX6 : Nat → FieldType := fun k => match k with
  | 0 => .array .int
  | 1 => .int
  | 2 => .array .int
  | 3 => .array (.array .int)
  | 4 => .int
  | 5 => .array .int
  | _ => .int
abbrev wsX60 : List Cond := u_ws RX6 TX6 7
set_option maxRecDepth 20000 in
theorem nmX6 : ∀ a, a < 7 → ∀ b, b < 7 → a ≠ b → (TX6 a).2.1 ≠ (TX6 b).2.1 := by decide +kernel
theorem tyX6_ok : ∀ k, k < 7 → parseFieldDescriptor (TX6 k).2.2.1 = some (tyX6 k) := by decide +kernel
def RX7 : String := "SaidRate$Runs"
def TX7 : u_T := fun k => match k with
  | 0 => ("SaidRate$Runs", "mornings", "[I", true)
  | 1 => ("SaidRate$Runs", "prices", "[I", true)
  | _ => ("SaidRate$Runs", "given", "I", false)
def tyX7 : Nat → FieldType := fun k => match k with
  | 0 => .array .int
  | 1 => .array .int
  | _ => .int
abbrev wsX70 : List Cond := u_ws RX7 TX7 3
set_option maxRecDepth 20000 in
theorem nmX7 : ∀ a, a < 3 → ∀ b, b < 3 → a ≠ b → (TX7 a).2.1 ≠ (TX7 b).2.1 := by decide +kernel
theorem tyX7_ok : ∀ k, k < 3 → parseFieldDescriptor (TX7 k).2.2.1 = some (tyX7 k) := by decide +kernel
def RX8 : String := "SaidRate$Sheets"
def TX8 : u_T := fun k => match k with
  | 0 => ("SaidRate$Sheets", "lanes", "[I", true)
  | 1 => ("SaidRate$Sheets", "lengths", "[I", true)
  | _ => ("SaidRate$Sheets", "items", "[[I", true)
def tyX8 : Nat → FieldType := fun k => match k with
  | 0 => .array .int
  | 1 => .array .int
  | _ => .array (.array .int)
abbrev wsX80 : List Cond := u_ws RX8 TX8 3
set_option maxRecDepth 20000 in
theorem nmX8 : ∀ a, a < 3 → ∀ b, b < 3 → a ≠ b → (TX8 a).2.1 ≠ (TX8 b).2.1 := by decide +kernel
theorem tyX8_ok : ∀ k, k < 3 → parseFieldDescriptor (TX8 k).2.2.1 = some (tyX8 k) := by decide +kernel
def RX9 : String := "SaidRate$Talk"
def TX9 : u_T := fun k => match k with
  | 0 => ("SaidRate$Talk", "tellers", "[I", true)
  | 1 => ("SaidRate$Talk", "hearers", "[I", true)
  | 2 => ("SaidRate$Talk", "mornings", "[I", true)
  | 3 => ("SaidRate$Talk", "minutes", "[I", true)
  | 4 => ("SaidRate$Talk", "words", "I", false)
  | 5 => ("SaidRate$Talk", "walls", "[I", true)
  | 6 => ("SaidRate$Talk", "toldAt", "[I", true)
  | _ => ("SaidRate$Talk", "nextToldAt", "[I", true)
def tyX9 : Nat → FieldType := fun k => match k with
  | 0 => .array .int
  | 1 => .array .int
  | 2 => .array .int
  | 3 => .array .int
  | 4 => .int
  | 5 => .array .int
  | 6 => .array .int
  | _ => .array .int
abbrev wsX90 : List Cond := u_ws RX9 TX9 8
set_option maxRecDepth 20000 in
theorem nmX9 : ∀ a, a < 8 → ∀ b, b < 8 → a ≠ b → (TX9 a).2.1 ≠ (TX9 b).2.1 := by decide +kernel
theorem tyX9_ok : ∀ k, k < 8 → parseFieldDescriptor (TX9 k).2.2.1 = some (tyX9 k) := by decide +kernel
def RX10 : String := "SaidRate"
def TX10 : u_T := fun k => match k with
  | 0 => ("SaidRate", "rates", "LSaidRate$Rates;", true)
  | 1 => ("SaidRate", "panel", "LSaidRate$Panel;", true)
  | 2 => ("SaidRate", "book", "LSaidRate$RuleBook;", true)
  | 3 => ("SaidRate", "desks", "LSaidRate$Desks;", true)
  | 4 => ("SaidRate", "loans", "LSaidRate$Loans;", true)
  | 5 => ("SaidRate", "runs", "LSaidRate$Runs;", true)
  | 6 => ("SaidRate", "talk", "LSaidRate$Talk;", true)
  | 7 => ("SaidRate", "favours", "LSaidRate$Favours;", true)
  | 8 => ("SaidRate", "sheets", "LSaidRate$Sheets;", true)
  | 9 => ("SaidRate", "found", "LSaidRate$Fraction;", true)
  | 10 => ("SaidRate", "other", "LSaidRate$Fraction;", true)
  | _ => ("SaidRate", "righted", "[I", true)
def tyX10 : Nat → FieldType := fun k => match k with
  | 0 => .object "SaidRate$Rates"
  | 1 => .object "SaidRate$Panel"
  | 2 => .object "SaidRate$RuleBook"
  | 3 => .object "SaidRate$Desks"
  | 4 => .object "SaidRate$Loans"
  | 5 => .object "SaidRate$Runs"
  | 6 => .object "SaidRate$Talk"
  | 7 => .object "SaidRate$Favours"
  | 8 => .object "SaidRate$Sheets"
  | 9 => .object "SaidRate$Fraction"
  | 10 => .object "SaidRate$Fraction"
  | _ => .array .int
abbrev wsX100 : List Cond := u_ws RX10 TX10 12
set_option maxRecDepth 20000 in
theorem nmX10 : ∀ a, a < 12 → ∀ b, b < 12 → a ≠ b → (TX10 a).2.1 ≠ (TX10 b).2.1 := by decide +kernel
theorem tyX10_ok : ∀ k, k < 12 → parseFieldDescriptor (TX10 k).2.2.1 = some (tyX10 k) := by decide +kernel
def RX11 : String := "SaidRateModel"
def TX11 : u_T := fun k => match k with
  | 0 => ("SaidRateModel", "saids", "[I", true)
  | 1 => ("SaidRateModel", "tape", "[I", true)
  | 2 => ("SaidRateModel", "taped", "I", false)
  | 3 => ("SaidRateModel", "at", "I", false)
  | 4 => ("SaidRateModel", "editions", "I", false)
  | 5 => ("SaidRateModel", "editionFrom", "[I", true)
  | 6 => ("SaidRateModel", "numbers", "[I", true)
  | 7 => ("SaidRateModel", "read", "[I", true)
  | 8 => ("SaidRateModel", "lows", "[I", true)
  | 9 => ("SaidRateModel", "highs", "[I", true)
  | 10 => ("SaidRateModel", "firsts", "[I", true)
  | 11 => ("SaidRateModel", "now", "[I", true)
  | 12 => ("SaidRateModel", "order", "[I", true)
  | 13 => ("SaidRateModel", "orderMany", "I", false)
  | 14 => ("SaidRateModel", "sum", "I", false)
  | 15 => ("SaidRateModel", "left", "I", false)
  | 16 => ("SaidRateModel", "moved", "I", false)
  | 17 => ("SaidRateModel", "desks", "I", false)
  | 18 => ("SaidRateModel", "houseOf", "[I", true)
  | 19 => ("SaidRateModel", "contracts", "I", false)
  | 20 => ("SaidRateModel", "getter", "[I", true)
  | 21 => ("SaidRateModel", "giver", "[I", true)
  | 22 => ("SaidRateModel", "onMorning", "[I", true)
  | 23 => ("SaidRateModel", "much", "[I", true)
  | 24 => ("SaidRateModel", "strikes", "[I", true)
  | 25 => ("SaidRateModel", "lents", "I", false)
  | 26 => ("SaidRateModel", "lentHouse", "[I", true)
  | 27 => ("SaidRateModel", "lentMorning", "[I", true)
  | 28 => ("SaidRateModel", "lentAt", "[I", true)
  | 29 => ("SaidRateModel", "low", "I", false)
  | 30 => ("SaidRateModel", "high", "I", false)
  | 31 => ("SaidRateModel", "runs", "I", false)
  | 32 => ("SaidRateModel", "runMorning", "[I", true)
  | 33 => ("SaidRateModel", "runPrice", "[I", true)
  | 34 => ("SaidRateModel", "words", "I", false)
  | 35 => ("SaidRateModel", "wordFrom", "[I", true)
  | 36 => ("SaidRateModel", "wordTo", "[I", true)
  | 37 => ("SaidRateModel", "wordMorning", "[I", true)
  | 38 => ("SaidRateModel", "wordMinute", "[I", true)
  | 39 => ("SaidRateModel", "isWall", "[Z", true)
  | 40 => ("SaidRateModel", "owes", "[I", true)
  | 41 => ("SaidRateModel", "toldAt", "[I", true)
  | 42 => ("SaidRateModel", "steps", "[I", true)
  | 43 => ("SaidRateModel", "worstAbove", "I", false)
  | 44 => ("SaidRateModel", "worstBelow", "I", false)
  | 45 => ("SaidRateModel", "bestAbove", "I", false)
  | 46 => ("SaidRateModel", "bestBelow", "I", false)
  | 47 => ("SaidRateModel", "lanes", "[I", true)
  | 48 => ("SaidRateModel", "sizes", "[I", true)
  | _ => ("SaidRateModel", "items", "[I", true)
def tyX11 : Nat → FieldType := fun k => match k with
  | 0 => .array .int
  | 1 => .array .int
  | 2 => .int
  | 3 => .int
  | 4 => .int
  | 5 => .array .int
  | 6 => .array .int
  | 7 => .array .int
  | 8 => .array .int
  | 9 => .array .int
  | 10 => .array .int
  | 11 => .array .int
  | 12 => .array .int
  | 13 => .int
  | 14 => .int
  | 15 => .int
  | 16 => .int
  | 17 => .int
  | 18 => .array .int
  | 19 => .int
  | 20 => .array .int
  | 21 => .array .int
  | 22 => .array .int
  | 23 => .array .int
  | 24 => .array .int
  | 25 => .int
  | 26 => .array .int
  | 27 => .array .int
  | 28 => .array .int
  | 29 => .int
  | 30 => .int
  | 31 => .int
  | 32 => .array .int
  | 33 => .array .int
  | 34 => .int
  | 35 => .array .int
  | 36 => .array .int
  | 37 => .array .int
  | 38 => .array .int
  | 39 => .array .boolean
  | 40 => .array .int
  | 41 => .array .int
  | 42 => .array .int
  | 43 => .int
  | 44 => .int
  | 45 => .int
  | 46 => .int
  | 47 => .array .int
  | 48 => .array .int
  | _ => .array .int
abbrev wsX110 : List Cond := u_ws RX11 TX11 50
set_option maxRecDepth 20000 in
theorem nmX11 : ∀ a, a < 50 → ∀ b, b < 50 → a ≠ b → (TX11 a).2.1 ≠ (TX11 b).2.1 := by decide +kernel
theorem tyX11_ok : ∀ k, k < 50 → parseFieldDescriptor (TX11 k).2.2.1 = some (tyX11 k) := by decide +kernel
def RJ6 : String := "java/lang/Integer"
def RJ9 : String := "java/lang/Math"
def RJ10 : String := "java/lang/System"
abbrev cX0_init : ByteArray := prog_2_method_1_code
def yX0_init : MethodName := ⟨RX0, "<init>", "()V"⟩
abbrev cX0_deskCount : ByteArray := prog_2_method_2_code
def yX0_deskCount : MethodName := ⟨RX0, "deskCount", "()I"⟩
abbrev cX0_contractCount : ByteArray := prog_2_method_3_code
def yX0_contractCount : MethodName := ⟨RX0, "contractCount", "()I"⟩
abbrev cX0_has : ByteArray := prog_2_method_4_code
def yX0_has : MethodName := ⟨RX0, "has", "(I)Z"⟩
abbrev cX0_areTwo : ByteArray := prog_2_method_5_code
def yX0_areTwo : MethodName := ⟨RX0, "areTwo", "(II)Z"⟩
abbrev cX0_houseOf : ByteArray := prog_2_method_6_code
def yX0_houseOf : MethodName := ⟨RX0, "houseOf", "(I)I"⟩
abbrev cX0_open : ByteArray := prog_2_method_7_code
def yX0_open : MethodName := ⟨RX0, "open", "(I)I"⟩
abbrev cX0_sign : ByteArray := prog_2_method_8_code
def yX0_sign : MethodName := ⟨RX0, "sign", "(IIIII)I"⟩
abbrev cX0_deskGain : ByteArray := prog_2_method_9_code
def yX0_deskGain : MethodName := ⟨RX0, "deskGain", "(II)I"⟩
abbrev cX0_houseGain : ByteArray := prog_2_method_10_code
def yX0_houseGain : MethodName := ⟨RX0, "houseGain", "(II)I"⟩
abbrev cX0_strikeSum : ByteArray := prog_2_method_11_code
def yX0_strikeSum : MethodName := ⟨RX0, "strikeSum", "(II)I"⟩
abbrev cX0_housesGaining : ByteArray := prog_2_method_12_code
def yX0_housesGaining : MethodName := ⟨RX0, "housesGaining", "(II)I"⟩
abbrev cX0_signedSize : ByteArray := prog_2_method_13_code
def yX0_signedSize : MethodName := ⟨RX0, "signedSize", "(III)I"⟩
abbrev cX1_init : ByteArray := prog_3_method_1_code
def yX1_init : MethodName := ⟨RX1, "<init>", "()V"⟩
abbrev cX1_set : ByteArray := prog_3_method_2_code
def yX1_set : MethodName := ⟨RX1, "set", "(III)I"⟩
abbrev cX1_balance : ByteArray := prog_3_method_3_code
def yX1_balance : MethodName := ⟨RX1, "balance", "(I)I"⟩
abbrev cX1_inRings : ByteArray := prog_3_method_4_code
def yX1_inRings : MethodName := ⟨RX1, "inRings", "()I"⟩
abbrev cX1_findLeads : ByteArray := prog_3_method_5_code
def yX1_findLeads : MethodName := ⟨RX1, "findLeads", "()V"⟩
abbrev cX2_init : ByteArray := prog_4_method_1_code
def yX2_init : MethodName := ⟨RX2, "<init>", "()V"⟩
abbrev cX2_put : ByteArray := prog_4_method_2_code
def yX2_put : MethodName := ⟨RX2, "put", "(JJ)V"⟩
abbrev cX2_copy : ByteArray := prog_4_method_3_code
def yX2_copy : MethodName := ⟨RX2, "copy", "(LSaidRate$Fraction;)V"⟩
abbrev cX2_putDifference : ByteArray := prog_4_method_4_code
def yX2_putDifference : MethodName := ⟨RX2, "putDifference", "(LSaidRate$Fraction;LSaidRate$Fraction;)V"⟩
abbrev cX2_scale : ByteArray := prog_4_method_5_code
def yX2_scale : MethodName := ⟨RX2, "scale", "(II)V"⟩
abbrev cX2_isAbove : ByteArray := prog_4_method_6_code
def yX2_isAbove : MethodName := ⟨RX2, "isAbove", "(LSaidRate$Fraction;)Z"⟩
abbrev cX2_isAtLeast : ByteArray := prog_4_method_7_code
def yX2_isAtLeast : MethodName := ⟨RX2, "isAtLeast", "(I)Z"⟩
abbrev cX2_part : ByteArray := prog_4_method_8_code
def yX2_part : MethodName := ⟨RX2, "part", "(I)J"⟩
abbrev cX3_init : ByteArray := prog_5_method_1_code
def yX3_init : MethodName := ⟨RX3, "<init>", "()V"⟩
abbrev cX3_rowCount : ByteArray := prog_5_method_2_code
def yX3_rowCount : MethodName := ⟨RX3, "rowCount", "()I"⟩
abbrev cX3_lowEnd : ByteArray := prog_5_method_3_code
def yX3_lowEnd : MethodName := ⟨RX3, "lowEnd", "()I"⟩
abbrev cX3_highEnd : ByteArray := prog_5_method_4_code
def yX3_highEnd : MethodName := ⟨RX3, "highEnd", "()I"⟩
abbrev cX3_lend : ByteArray := prog_5_method_5_code
def yX3_lend : MethodName := ⟨RX3, "lend", "(III)I"⟩
abbrev cX3_findTrue : ByteArray := prog_5_method_6_code
def yX3_findTrue : MethodName := ⟨RX3, "findTrue", "(III)Z"⟩
abbrev cX3_findAll : ByteArray := prog_5_method_7_code
def yX3_findAll : MethodName := ⟨RX3, "findAll", "(I)Z"⟩
abbrev cX3_findSpan : ByteArray := prog_5_method_8_code
def yX3_findSpan : MethodName := ⟨RX3, "findSpan", "(II)Z"⟩
abbrev cX4_init : ByteArray := prog_6_method_1_code
def yX4_init : MethodName := ⟨RX4, "<init>", "()V"⟩
abbrev cX4_heard : ByteArray := prog_6_method_2_code
def yX4_heard : MethodName := ⟨RX4, "heard", "(II)I"⟩
abbrev cX4_hear : ByteArray := prog_6_method_3_code
def yX4_hear : MethodName := ⟨RX4, "hear", "(III)V"⟩
abbrev cX4_rowOf : ByteArray := prog_6_method_4_code
def yX4_rowOf : MethodName := ⟨RX4, "rowOf", "(I)[I"⟩
abbrev cX4_findMean : ByteArray := prog_6_method_5_code
def yX4_findMean : MethodName := ⟨RX4, "findMean", "([IIILSaidRate$Fraction;)Z"⟩
abbrev cX4_sort : ByteArray := prog_6_method_6_code
def yX4_sort : MethodName := ⟨RX4, "sort", "([I)V"⟩
abbrev cX4_insert : ByteArray := prog_6_method_7_code
def yX4_insert : MethodName := ⟨RX4, "insert", "([II)V"⟩
abbrev cX4_sideOf : ByteArray := prog_6_method_8_code
def yX4_sideOf : MethodName := ⟨RX4, "sideOf", "(II)I"⟩
abbrev cX4_farthest : ByteArray := prog_6_method_9_code
def yX4_farthest : MethodName := ⟨RX4, "farthest", "(II)I"⟩
abbrev cX5_init : ByteArray := prog_7_method_1_code
def yX5_init : MethodName := ⟨RX5, "<init>", "()V"⟩
abbrev cX5_find : ByteArray := prog_7_method_2_code
def yX5_find : MethodName := ⟨RX5, "find", "(ILSaidRate$Fraction;)Z"⟩
abbrev cX5_findOf : ByteArray := prog_7_method_3_code
def yX5_findOf : MethodName := ⟨RX5, "findOf", "([IILSaidRate$Fraction;)Z"⟩
abbrev cX5_findReach : ByteArray := prog_7_method_4_code
def yX5_findReach : MethodName := ⟨RX5, "findReach", "(IIILSaidRate$Fraction;)Z"⟩
abbrev cX5_findMove : ByteArray := prog_7_method_5_code
def yX5_findMove : MethodName := ⟨RX5, "findMove", "(IIIILSaidRate$Fraction;)Z"⟩
abbrev cX5_fewest : ByteArray := prog_7_method_6_code
def yX5_fewest : MethodName := ⟨RX5, "fewest", "(III)I"⟩
abbrev cX5_bestCut : ByteArray := prog_7_method_7_code
def yX5_bestCut : MethodName := ⟨RX5, "bestCut", "(IIILSaidRate$Fraction;)I"⟩
abbrev cX5_findGreatest : ByteArray := prog_7_method_8_code
def yX5_findGreatest : MethodName := ⟨RX5, "findGreatest", "(IIII)Z"⟩
abbrev cX5_bend : ByteArray := prog_7_method_9_code
def yX5_bend : MethodName := ⟨RX5, "bend", "(III)V"⟩
abbrev cX5_endOf : ByteArray := prog_7_method_10_code
def yX5_endOf : MethodName := ⟨RX5, "endOf", "(I)I"⟩
abbrev cX6_init : ByteArray := prog_8_method_1_code
def yX6_init : MethodName := ⟨RX6, "<init>", "()V"⟩
abbrev cX6_isTypeable : ByteArray := prog_8_method_2_code
def yX6_isTypeable : MethodName := ⟨RX6, "isTypeable", "(JI)Z"⟩
abbrev cX6_byteOf : ByteArray := prog_8_method_3_code
def yX6_byteOf : MethodName := ⟨RX6, "byteOf", "(JI)I"⟩
abbrev cX6_addToTape : ByteArray := prog_8_method_4_code
def yX6_addToTape : MethodName := ⟨RX6, "addToTape", "(JI)I"⟩
abbrev cX6_editionCount : ByteArray := prog_8_method_5_code
def yX6_editionCount : MethodName := ⟨RX6, "editionCount", "()I"⟩
abbrev cX6_mayStart : ByteArray := prog_8_method_6_code
def yX6_mayStart : MethodName := ⟨RX6, "mayStart", "(I)Z"⟩
abbrev cX6_addEdition : ByteArray := prog_8_method_7_code
def yX6_addEdition : MethodName := ⟨RX6, "addEdition", "(I)I"⟩
abbrev cX6_inForce : ByteArray := prog_8_method_8_code
def yX6_inForce : MethodName := ⟨RX6, "inForce", "(II)I"⟩
abbrev cX6_readTape : ByteArray := prog_8_method_9_code
def yX6_readTape : MethodName := ⟨RX6, "readTape", "()I"⟩
abbrev cX6_readClause : ByteArray := prog_8_method_10_code
def yX6_readClause : MethodName := ⟨RX6, "readClause", "()I"⟩
abbrev cX6_ruleNamed : ByteArray := prog_8_method_11_code
def yX6_ruleNamed : MethodName := ⟨RX6, "ruleNamed", "(I)I"⟩
abbrev cX6_readNumber : ByteArray := prog_8_method_12_code
def yX6_readNumber : MethodName := ⟨RX6, "readNumber", "()I"⟩
abbrev cX6_skipBlanks : ByteArray := prog_8_method_13_code
def yX6_skipBlanks : MethodName := ⟨RX6, "skipBlanks", "()V"⟩
abbrev cX7_init : ByteArray := prog_9_method_1_code
def yX7_init : MethodName := ⟨RX7, "<init>", "()V"⟩
abbrev cX7_runCount : ByteArray := prog_9_method_2_code
def yX7_runCount : MethodName := ⟨RX7, "runCount", "()I"⟩
abbrev cX7_has : ByteArray := prog_9_method_3_code
def yX7_has : MethodName := ⟨RX7, "has", "(I)Z"⟩
abbrev cX7_morningOf : ByteArray := prog_9_method_4_code
def yX7_morningOf : MethodName := ⟨RX7, "morningOf", "(I)I"⟩
abbrev cX7_priceOf : ByteArray := prog_9_method_5_code
def yX7_priceOf : MethodName := ⟨RX7, "priceOf", "(I)I"⟩
abbrev cX7_give : ByteArray := prog_9_method_6_code
def yX7_give : MethodName := ⟨RX7, "give", "(II)I"⟩
abbrev cX8_init : ByteArray := prog_10_method_1_code
def yX8_init : MethodName := ⟨RX8, "<init>", "()V"⟩
abbrev cX8_isNamed : ByteArray := prog_10_method_2_code
def yX8_isNamed : MethodName := ⟨RX8, "isNamed", "(II)Z"⟩
abbrev cX8_refusal : ByteArray := prog_10_method_3_code
def yX8_refusal : MethodName := ⟨RX8, "refusal", "(IIII)I"⟩
abbrev cX8_renew : ByteArray := prog_10_method_4_code
def yX8_renew : MethodName := ⟨RX8, "renew", "(III)V"⟩
abbrev cX8_clear : ByteArray := prog_10_method_5_code
def yX8_clear : MethodName := ⟨RX8, "clear", "(I)I"⟩
abbrev cX8_read : ByteArray := prog_10_method_6_code
def yX8_read : MethodName := ⟨RX8, "read", "(II)I"⟩
abbrev cX8_write : ByteArray := prog_10_method_7_code
def yX8_write : MethodName := ⟨RX8, "write", "(III)V"⟩
abbrev cX8_narrowed : ByteArray := prog_10_method_8_code
def yX8_narrowed : MethodName := ⟨RX8, "narrowed", "(II)I"⟩
abbrev cX9_init : ByteArray := prog_11_method_1_code
def yX9_init : MethodName := ⟨RX9, "<init>", "()V"⟩
abbrev cX9_wordCount : ByteArray := prog_11_method_2_code
def yX9_wordCount : MethodName := ⟨RX9, "wordCount", "()I"⟩
abbrev cX9_tell : ByteArray := prog_11_method_3_code
def yX9_tell : MethodName := ⟨RX9, "tell", "(IIII)I"⟩
abbrev cX9_setWall : ByteArray := prog_11_method_4_code
def yX9_setWall : MethodName := ⟨RX9, "setWall", "(IIZ)I"⟩
abbrev cX9_crossings : ByteArray := prog_11_method_5_code
def yX9_crossings : MethodName := ⟨RX9, "crossings", "(I)I"⟩
abbrev cX9_knowers : ByteArray := prog_11_method_6_code
def yX9_knowers : MethodName := ⟨RX9, "knowers", "(III)I"⟩
abbrev cX9_fewestWords : ByteArray := prog_11_method_7_code
def yX9_fewestWords : MethodName := ⟨RX9, "fewestWords", "(III)I"⟩
abbrev cX9_startFrom : ByteArray := prog_11_method_8_code
def yX9_startFrom : MethodName := ⟨RX9, "startFrom", "(I)V"⟩
abbrev cX9_followOne : ByteArray := prog_11_method_9_code
def yX9_followOne : MethodName := ⟨RX9, "followOne", "(II)V"⟩
abbrev cX10_init : ByteArray := prog_1_method_1_code
def yX10_init : MethodName := ⟨RX10, "<init>", "()V"⟩
abbrev cX10_say : ByteArray := prog_1_method_2_code
def yX10_say : MethodName := ⟨RX10, "say", "(III)I"⟩
abbrev cX10_said : ByteArray := prog_1_method_3_code
def yX10_said : MethodName := ⟨RX10, "said", "(II)I"⟩
abbrev cX10_all : ByteArray := prog_1_method_4_code
def yX10_all : MethodName := ⟨RX10, "all", "(IIII)I"⟩
abbrev cX10_type : ByteArray := prog_1_method_5_code
def yX10_type : MethodName := ⟨RX10, "type", "(JI)I"⟩
abbrev cX10_rules : ByteArray := prog_1_method_6_code
def yX10_rules : MethodName := ⟨RX10, "rules", "(I)I"⟩
abbrev cX10_rule : ByteArray := prog_1_method_7_code
def yX10_rule : MethodName := ⟨RX10, "rule", "(II)I"⟩
abbrev cX10_rate : ByteArray := prog_1_method_8_code
def yX10_rate : MethodName := ⟨RX10, "rate", "(II)J"⟩
abbrev cX10_thrown : ByteArray := prog_1_method_9_code
def yX10_thrown : MethodName := ⟨RX10, "thrown", "(II)I"⟩
abbrev cX10_reach : ByteArray := prog_1_method_10_code
def yX10_reach : MethodName := ⟨RX10, "reach", "(IIII)J"⟩
abbrev cX10_move : ByteArray := prog_1_method_11_code
def yX10_move : MethodName := ⟨RX10, "move", "(IIII)J"⟩
abbrev cX10_many : ByteArray := prog_1_method_12_code
def yX10_many : MethodName := ⟨RX10, "many", "(III)I"⟩
abbrev cX10_desk : ByteArray := prog_1_method_13_code
def yX10_desk : MethodName := ⟨RX10, "desk", "(I)I"⟩
abbrev cX10_contract : ByteArray := prog_1_method_14_code
def yX10_contract : MethodName := ⟨RX10, "contract", "(IIIII)I"⟩
abbrev cX10_gain : ByteArray := prog_1_method_15_code
def yX10_gain : MethodName := ⟨RX10, "gain", "(III)I"⟩
abbrev cX10_paid : ByteArray := prog_1_method_16_code
def yX10_paid : MethodName := ⟨RX10, "paid", "(III)J"⟩
abbrev cX10_unlike : ByteArray := prog_1_method_17_code
def yX10_unlike : MethodName := ⟨RX10, "unlike", "(I)I"⟩
abbrev cX10_count : ByteArray := prog_1_method_18_code
def yX10_count : MethodName := ⟨RX10, "count", "(I)I"⟩
abbrev cX10_lent : ByteArray := prog_1_method_19_code
def yX10_lent : MethodName := ⟨RX10, "lent", "(III)I"⟩
abbrev cX10_truth : ByteArray := prog_1_method_20_code
def yX10_truth : MethodName := ⟨RX10, "truth", "(III)I"⟩
abbrev cX10_out : ByteArray := prog_1_method_21_code
def yX10_out : MethodName := ⟨RX10, "out", "(II)I"⟩
abbrev cX10_right : ByteArray := prog_1_method_22_code
def yX10_right : MethodName := ⟨RX10, "right", "(II)J"⟩
abbrev cX10_lost : ByteArray := prog_1_method_23_code
def yX10_lost : MethodName := ⟨RX10, "lost", "(III)J"⟩
abbrev cX10_lean : ByteArray := prog_1_method_24_code
def yX10_lean : MethodName := ⟨RX10, "lean", "(II)I"⟩
abbrev cX10_run : ByteArray := prog_1_method_25_code
def yX10_run : MethodName := ⟨RX10, "run", "(II)I"⟩
abbrev cX10_untrue : ByteArray := prog_1_method_26_code
def yX10_untrue : MethodName := ⟨RX10, "untrue", "(I)I"⟩
abbrev cX10_backed : ByteArray := prog_1_method_27_code
def yX10_backed : MethodName := ⟨RX10, "backed", "(I)I"⟩
abbrev cX10_word : ByteArray := prog_1_method_28_code
def yX10_word : MethodName := ⟨RX10, "word", "(IIII)I"⟩
abbrev cX10_wall : ByteArray := prog_1_method_29_code
def yX10_wall : MethodName := ⟨RX10, "wall", "(IIZ)I"⟩
abbrev cX10_crossed : ByteArray := prog_1_method_30_code
def yX10_crossed : MethodName := ⟨RX10, "crossed", "(I)I"⟩
abbrev cX10_knew : ByteArray := prog_1_method_31_code
def yX10_knew : MethodName := ⟨RX10, "knew", "(III)I"⟩
abbrev cX10_way : ByteArray := prog_1_method_32_code
def yX10_way : MethodName := ⟨RX10, "way", "(III)I"⟩
abbrev cX10_owe : ByteArray := prog_1_method_33_code
def yX10_owe : MethodName := ⟨RX10, "owe", "(III)I"⟩
abbrev cX10_net : ByteArray := prog_1_method_34_code
def yX10_net : MethodName := ⟨RX10, "net", "(I)I"⟩
abbrev cX10_ringed : ByteArray := prog_1_method_35_code
def yX10_ringed : MethodName := ⟨RX10, "ringed", "()I"⟩
abbrev cX10_best : ByteArray := prog_1_method_36_code
def yX10_best : MethodName := ⟨RX10, "best", "(III)I"⟩
abbrev cX10_worst : ByteArray := prog_1_method_37_code
def yX10_worst : MethodName := ⟨RX10, "worst", "(IIII)J"⟩
abbrev cX10_sheet : ByteArray := prog_1_method_38_code
def yX10_sheet : MethodName := ⟨RX10, "sheet", "(III)I"⟩
abbrev cX10_drop : ByteArray := prog_1_method_39_code
def yX10_drop : MethodName := ⟨RX10, "drop", "(I)I"⟩
abbrev cX10_item : ByteArray := prog_1_method_40_code
def yX10_item : MethodName := ⟨RX10, "item", "(IIII)I"⟩
abbrev cX10_isIn : ByteArray := prog_1_method_41_code
def yX10_isIn : MethodName := ⟨RX10, "isIn", "(III)Z"⟩
abbrev cX10_isBit : ByteArray := prog_1_method_42_code
def yX10_isBit : MethodName := ⟨RX10, "isBit", "(I)Z"⟩
abbrev cX10_isHouse : ByteArray := prog_1_method_43_code
def yX10_isHouse : MethodName := ⟨RX10, "isHouse", "(I)Z"⟩
abbrev cX10_isMorning : ByteArray := prog_1_method_44_code
def yX10_isMorning : MethodName := ⟨RX10, "isMorning", "(I)Z"⟩
abbrev cX10_isSayable : ByteArray := prog_1_method_45_code
def yX10_isSayable : MethodName := ⟨RX10, "isSayable", "(I)Z"⟩
abbrev cX10_isPlan : ByteArray := prog_1_method_46_code
def yX10_isPlan : MethodName := ⟨RX10, "isPlan", "(III)Z"⟩
abbrev cX10_findTrue : ByteArray := prog_1_method_47_code
def yX10_findTrue : MethodName := ⟨RX10, "findTrue", "(II)Z"⟩
abbrev cX10_outSign : ByteArray := prog_1_method_48_code
def yX10_outSign : MethodName := ⟨RX10, "outSign", "(II)I"⟩
abbrev cX10_findRight : ByteArray := prog_1_method_49_code
def yX10_findRight : MethodName := ⟨RX10, "findRight", "(ILSaidRate$Fraction;)Z"⟩
abbrev cX10_chance : ByteArray := prog_1_method_50_code
def yX10_chance : MethodName := ⟨RX10, "chance", "(II)I"⟩
abbrev cX11_in : ByteArray := prog_13_method_1_code
def yX11_in : MethodName := ⟨RX11, "in", "(JJJ)Z"⟩
abbrev cX11_init : ByteArray := prog_13_method_2_code
def yX11_init : MethodName := ⟨RX11, "<init>", "()V"⟩
abbrev cX11_isHouse : ByteArray := prog_13_method_3_code
def yX11_isHouse : MethodName := ⟨RX11, "isHouse", "(I)Z"⟩
abbrev cX11_isMorning : ByteArray := prog_13_method_4_code
def yX11_isMorning : MethodName := ⟨RX11, "isMorning", "(I)Z"⟩
abbrev cX11_common : ByteArray := prog_13_method_5_code
def yX11_common : MethodName := ⟨RX11, "common", "(JJ)J"⟩
abbrev cX11_told : ByteArray := prog_13_method_6_code
def yX11_told : MethodName := ⟨RX11, "told", "(JJI)J"⟩
abbrev cX11_isWhat : ByteArray := prog_13_method_7_code
def yX11_isWhat : MethodName := ⟨RX11, "isWhat", "(I)Z"⟩
abbrev cX11_isSaid : ByteArray := prog_13_method_8_code
def yX11_isSaid : MethodName := ⟨RX11, "isSaid", "(I)Z"⟩
abbrev cX11_say : ByteArray := prog_13_method_9_code
def yX11_say : MethodName := ⟨RX11, "say", "(III)I"⟩
abbrev cX11_said : ByteArray := prog_13_method_10_code
def yX11_said : MethodName := ⟨RX11, "said", "(II)I"⟩
abbrev cX11_type : ByteArray := prog_13_method_11_code
def yX11_type : MethodName := ⟨RX11, "type", "(JI)I"⟩
abbrev cX11_next : ByteArray := prog_13_method_12_code
def yX11_next : MethodName := ⟨RX11, "next", "()I"⟩
abbrev cX11_readClause : ByteArray := prog_13_method_13_code
def yX11_readClause : MethodName := ⟨RX11, "readClause", "()Z"⟩
abbrev cX11_readRules : ByteArray := prog_13_method_14_code
def yX11_readRules : MethodName := ⟨RX11, "readRules", "()Z"⟩
abbrev cX11_rules : ByteArray := prog_13_method_15_code
def yX11_rules : MethodName := ⟨RX11, "rules", "(I)I"⟩
abbrev cX11_ruleOn : ByteArray := prog_13_method_16_code
def yX11_ruleOn : MethodName := ⟨RX11, "ruleOn", "(II)I"⟩
abbrev cX11_rule : ByteArray := prog_13_method_17_code
def yX11_rule : MethodName := ⟨RX11, "rule", "(II)I"⟩
abbrev cX11_layMorning : ByteArray := prog_13_method_18_code
def yX11_layMorning : MethodName := ⟨RX11, "layMorning", "(I)V"⟩
abbrev cX11_findRate : ByteArray := prog_13_method_19_code
def yX11_findRate : MethodName := ⟨RX11, "findRate", "(II)Z"⟩
abbrev cX11_findRateOn : ByteArray := prog_13_method_20_code
def yX11_findRateOn : MethodName := ⟨RX11, "findRateOn", "(I)Z"⟩
abbrev cX11_rate : ByteArray := prog_13_method_21_code
def yX11_rate : MethodName := ⟨RX11, "rate", "(II)J"⟩
abbrev cX11_thrown : ByteArray := prog_13_method_22_code
def yX11_thrown : MethodName := ⟨RX11, "thrown", "(II)I"⟩
abbrev cX11_reach : ByteArray := prog_13_method_23_code
def yX11_reach : MethodName := ⟨RX11, "reach", "(IIII)J"⟩
abbrev cX11_findMove : ByteArray := prog_13_method_24_code
def yX11_findMove : MethodName := ⟨RX11, "findMove", "(IIII)Z"⟩
abbrev cX11_move : ByteArray := prog_13_method_25_code
def yX11_move : MethodName := ⟨RX11, "move", "(IIII)J"⟩
abbrev cX11_ones : ByteArray := prog_13_method_26_code
def yX11_ones : MethodName := ⟨RX11, "ones", "(I)I"⟩
abbrev cX11_many : ByteArray := prog_13_method_27_code
def yX11_many : MethodName := ⟨RX11, "many", "(III)I"⟩
abbrev cX11_desk : ByteArray := prog_13_method_28_code
def yX11_desk : MethodName := ⟨RX11, "desk", "(I)I"⟩
abbrev cX11_isDesk : ByteArray := prog_13_method_29_code
def yX11_isDesk : MethodName := ⟨RX11, "isDesk", "(I)Z"⟩
abbrev cX11_areTwo : ByteArray := prog_13_method_30_code
def yX11_areTwo : MethodName := ⟨RX11, "areTwo", "(II)Z"⟩
abbrev cX11_contract : ByteArray := prog_13_method_31_code
def yX11_contract : MethodName := ⟨RX11, "contract", "(IIIII)I"⟩
abbrev cX11_gainOf : ByteArray := prog_13_method_32_code
def yX11_gainOf : MethodName := ⟨RX11, "gainOf", "(IIZ)I"⟩
abbrev cX11_gainsOf : ByteArray := prog_13_method_33_code
def yX11_gainsOf : MethodName := ⟨RX11, "gainsOf", "(II)I"⟩
abbrev cX11_gain : ByteArray := prog_13_method_34_code
def yX11_gain : MethodName := ⟨RX11, "gain", "(III)I"⟩
abbrev cX11_paid : ByteArray := prog_13_method_35_code
def yX11_paid : MethodName := ⟨RX11, "paid", "(III)J"⟩
abbrev cX11_unlike : ByteArray := prog_13_method_36_code
def yX11_unlike : MethodName := ⟨RX11, "unlike", "(I)I"⟩
abbrev cX11_count : ByteArray := prog_13_method_37_code
def yX11_count : MethodName := ⟨RX11, "count", "(I)I"⟩
abbrev cX11_lent : ByteArray := prog_13_method_38_code
def yX11_lent : MethodName := ⟨RX11, "lent", "(III)I"⟩
abbrev cX11_findLent : ByteArray := prog_13_method_39_code
def yX11_findLent : MethodName := ⟨RX11, "findLent", "(II)Z"⟩
abbrev cX11_findTrue : ByteArray := prog_13_method_40_code
def yX11_findTrue : MethodName := ⟨RX11, "findTrue", "(II)Z"⟩
abbrev cX11_truth : ByteArray := prog_13_method_41_code
def yX11_truth : MethodName := ⟨RX11, "truth", "(III)I"⟩
abbrev cX11_outOf : ByteArray := prog_13_method_42_code
def yX11_outOf : MethodName := ⟨RX11, "outOf", "(II)I"⟩
abbrev cX11_out : ByteArray := prog_13_method_43_code
def yX11_out : MethodName := ⟨RX11, "out", "(II)I"⟩
abbrev cX11_findRight : ByteArray := prog_13_method_44_code
def yX11_findRight : MethodName := ⟨RX11, "findRight", "(I)Z"⟩
abbrev cX11_right : ByteArray := prog_13_method_45_code
def yX11_right : MethodName := ⟨RX11, "right", "(II)J"⟩
abbrev cX11_lost : ByteArray := prog_13_method_46_code
def yX11_lost : MethodName := ⟨RX11, "lost", "(III)J"⟩
abbrev cX11_chanceOf : ByteArray := prog_13_method_47_code
def yX11_chanceOf : MethodName := ⟨RX11, "chanceOf", "(II)I"⟩
abbrev cX11_lean : ByteArray := prog_13_method_48_code
def yX11_lean : MethodName := ⟨RX11, "lean", "(II)I"⟩
abbrev cX11_run : ByteArray := prog_13_method_49_code
def yX11_run : MethodName := ⟨RX11, "run", "(II)I"⟩
abbrev cX11_untrue : ByteArray := prog_13_method_50_code
def yX11_untrue : MethodName := ⟨RX11, "untrue", "(I)I"⟩
abbrev cX11_backed : ByteArray := prog_13_method_51_code
def yX11_backed : MethodName := ⟨RX11, "backed", "(I)I"⟩
abbrev cX11_word : ByteArray := prog_13_method_52_code
def yX11_word : MethodName := ⟨RX11, "word", "(IIII)I"⟩
abbrev cX11_wall : ByteArray := prog_13_method_53_code
def yX11_wall : MethodName := ⟨RX11, "wall", "(IIZ)I"⟩
abbrev cX11_crossed : ByteArray := prog_13_method_54_code
def yX11_crossed : MethodName := ⟨RX11, "crossed", "(I)I"⟩
abbrev cX11_knew : ByteArray := prog_13_method_55_code
def yX11_knew : MethodName := ⟨RX11, "knew", "(III)I"⟩
abbrev cX11_way : ByteArray := prog_13_method_56_code
def yX11_way : MethodName := ⟨RX11, "way", "(III)I"⟩
abbrev cX11_owe : ByteArray := prog_13_method_57_code
def yX11_owe : MethodName := ⟨RX11, "owe", "(III)I"⟩
abbrev cX11_net : ByteArray := prog_13_method_58_code
def yX11_net : MethodName := ⟨RX11, "net", "(I)I"⟩
abbrev cX11_reachedFrom : ByteArray := prog_13_method_59_code
def yX11_reachedFrom : MethodName := ⟨RX11, "reachedFrom", "(I)I"⟩
abbrev cX11_ringed : ByteArray := prog_13_method_60_code
def yX11_ringed : MethodName := ⟨RX11, "ringed", "()I"⟩
abbrev cX11_findWorst : ByteArray := prog_13_method_61_code
def yX11_findWorst : MethodName := ⟨RX11, "findWorst", "(IIII)Z"⟩
abbrev cX11_findBest : ByteArray := prog_13_method_62_code
def yX11_findBest : MethodName := ⟨RX11, "findBest", "(III)I"⟩
abbrev cX11_isPlan : ByteArray := prog_13_method_63_code
def yX11_isPlan : MethodName := ⟨RX11, "isPlan", "(III)Z"⟩
abbrev cX11_best : ByteArray := prog_13_method_64_code
def yX11_best : MethodName := ⟨RX11, "best", "(III)I"⟩
abbrev cX11_worst : ByteArray := prog_13_method_65_code
def yX11_worst : MethodName := ⟨RX11, "worst", "(IIII)J"⟩
abbrev cX11_isSheet : ByteArray := prog_13_method_66_code
def yX11_isSheet : MethodName := ⟨RX11, "isSheet", "(II)Z"⟩
abbrev cX11_sheet : ByteArray := prog_13_method_67_code
def yX11_sheet : MethodName := ⟨RX11, "sheet", "(III)I"⟩
abbrev cX11_drop : ByteArray := prog_13_method_68_code
def yX11_drop : MethodName := ⟨RX11, "drop", "(I)I"⟩
abbrev cX11_lacks : ByteArray := prog_13_method_69_code
def yX11_lacks : MethodName := ⟨RX11, "lacks", "(IIII)I"⟩
abbrev cX11_item : ByteArray := prog_13_method_70_code
def yX11_item : MethodName := ⟨RX11, "item", "(IIII)I"⟩
abbrev cX11_all : ByteArray := prog_13_method_71_code
def yX11_all : MethodName := ⟨RX11, "all", "(IIII)I"⟩
abbrev cJ6_bitCount_0f7a4 : ByteArray := prog_14_method_49_code
def yJ6_bitCount_0f7a4 : MethodName := ⟨RJ6, "bitCount", "(I)I"⟩
abbrev cJ6_signum_0f7a4 : ByteArray := prog_14_method_56_code
def yJ6_signum_0f7a4 : MethodName := ⟨RJ6, "signum", "(I)I"⟩
abbrev vwCl : List vw_C := [(RX0, TX0, 8), (RX1, TX1, 2), (RX2, TX2, 2), (RX3, TX3, 6), (RX4, TX4, 3), (RX5, TX5, 7), (RX6, TX6, 7), (RX7, TX7, 3), (RX8, TX8, 3), (RX9, TX9, 8), (RX10, TX10, 12), (RX11, TX11, 50)]
/-! ===== the cells: an object of a class, ints, booleans, rows of ints; 9000 on: static ints ===== -/
def az_kl : List (Nat × Nat) := [(0, 10), (0, 5), (0, 4), (3, 30), (1, 8), (1, 8), (1, 8), (1, 8), (1, 8), (1, 8), (1, 8), (1, 8), (1, 8), (1, 8), (1, 8), (1, 8), (1, 8), (1, 8), (1, 8), (1, 8), (1, 8), (1, 8), (1, 8), (1, 8), (1, 8), (1, 8), (1, 8), (1, 8), (1, 8), (1, 8), (1, 8), (1, 8), (1, 8), (1, 8), (1, 8), (0, 6), (1, 40), (1, 4), (3, 4), (1, 3), (1, 3), (1, 3), (1, 3), (1, 3), (1, 8), (0, 2), (0, 2), (0, 2), (0, 2), (0, 0), (1, 12), (1, 24), (1, 24), (1, 24), (1, 24), (1, 24), (0, 3), (1, 60), (1, 60), (1, 60), (0, 7), (1, 20), (1, 20), (0, 9), (1, 40), (1, 40), (1, 40), (1, 40), (1, 12), (1, 12), (1, 12), (0, 1), (3, 12), (1, 12), (1, 12), (1, 12), (1, 12), (1, 12), (1, 12), (1, 12), (1, 12), (1, 12), (1, 12), (1, 12), (1, 12), (1, 12), (0, 8), (1, 4), (1, 4), (3, 4), (1, 16), (1, 16), (1, 16), (1, 16), (0, 2), (0, 2), (1, 8), (0, 11), (1, 240), (1, 40), (1, 4), (1, 12), (1, 3), (1, 3), (1, 3), (1, 3), (1, 8), (1, 8), (1, 12), (1, 24), (1, 24), (1, 24), (1, 24), (1, 24), (1, 60), (1, 60), (1, 60), (1, 20), (1, 20), (1, 40), (1, 40), (1, 40), (1, 40), (2, 144), (1, 144), (1, 12), (1, 40), (1, 4), (1, 4), (1, 64)]
def az_kd (a : Nat) : Nat × Nat := if a < 9000 then az_kl.getD a (9, 0) else if a < 9003 then (4, 3) else (9, 0)
def az_kn (n a : Nat) : Nat × Nat := if a < n then az_kd a else if 9000 ≤ a then az_kd a else (9, 0)
def az_sc (a j : Nat) : Int32 := match a with
  | 9000 => (match j with | 0 => 1 | 1 => 3 | _ => 20)
  | 9001 => (match j with | 0 => 0 | 1 => 1 | _ => 0)
  | _ => (match j with | 0 => 3 | 1 => 8 | _ => 99)
def az_ftl : List (List Nat) := [[2, 0, 2, 2, 2, 2, 2, 0], [2, 2], [1, 1], [2, 2, 2, 0, 0, 0], [2, 2, 0], [2, 2, 2, 2, 2, 2, 2], [2, 0, 2, 2, 0, 2, 0], [2, 2, 0], [2, 2, 2], [2, 2, 2, 2, 0, 2, 2, 2], [2, 2, 2, 2, 2, 2, 2, 2, 2, 2, 2, 2], [2, 2, 0, 0, 0, 2, 2, 2, 2, 2, 2, 2, 2, 0, 0, 0, 0, 0, 2, 0, 2, 2, 2, 2, 2, 0, 2, 2, 2, 0, 0, 0, 2, 2, 0, 2, 2, 2, 2, 2, 2, 2, 2, 0, 0, 0, 0, 2, 2, 2]]
def az_ft (ci : Nat) : List Nat := az_ftl.getD ci []
theorem kn_0 : az_kn 130 0 = (0, 10) := rfl
theorem kn_1 : az_kn 130 1 = (0, 5) := rfl
theorem kn_2 : az_kn 130 2 = (0, 4) := rfl
theorem kn_3 : az_kn 130 3 = (3, 30) := rfl
theorem kn_4 : az_kn 130 4 = (1, 8) := rfl
theorem kn_5 : az_kn 130 5 = (1, 8) := rfl
theorem kn_6 : az_kn 130 6 = (1, 8) := rfl
theorem kn_7 : az_kn 130 7 = (1, 8) := rfl
theorem kn_8 : az_kn 130 8 = (1, 8) := rfl
theorem kn_9 : az_kn 130 9 = (1, 8) := rfl
theorem kn_10 : az_kn 130 10 = (1, 8) := rfl
theorem kn_11 : az_kn 130 11 = (1, 8) := rfl
theorem kn_12 : az_kn 130 12 = (1, 8) := rfl
theorem kn_13 : az_kn 130 13 = (1, 8) := rfl
theorem kn_14 : az_kn 130 14 = (1, 8) := rfl
theorem kn_15 : az_kn 130 15 = (1, 8) := rfl
theorem kn_16 : az_kn 130 16 = (1, 8) := rfl
theorem kn_17 : az_kn 130 17 = (1, 8) := rfl
theorem kn_18 : az_kn 130 18 = (1, 8) := rfl
theorem kn_19 : az_kn 130 19 = (1, 8) := rfl
theorem kn_20 : az_kn 130 20 = (1, 8) := rfl
theorem kn_21 : az_kn 130 21 = (1, 8) := rfl
theorem kn_22 : az_kn 130 22 = (1, 8) := rfl
theorem kn_23 : az_kn 130 23 = (1, 8) := rfl
theorem kn_24 : az_kn 130 24 = (1, 8) := rfl
theorem kn_25 : az_kn 130 25 = (1, 8) := rfl
theorem kn_26 : az_kn 130 26 = (1, 8) := rfl
theorem kn_27 : az_kn 130 27 = (1, 8) := rfl
theorem kn_28 : az_kn 130 28 = (1, 8) := rfl
theorem kn_29 : az_kn 130 29 = (1, 8) := rfl
theorem kn_30 : az_kn 130 30 = (1, 8) := rfl
theorem kn_31 : az_kn 130 31 = (1, 8) := rfl
theorem kn_32 : az_kn 130 32 = (1, 8) := rfl
theorem kn_33 : az_kn 130 33 = (1, 8) := rfl
theorem kn_34 : az_kn 130 34 = (1, 8) := rfl
theorem kn_35 : az_kn 130 35 = (0, 6) := rfl
theorem kn_36 : az_kn 130 36 = (1, 40) := rfl
theorem kn_37 : az_kn 130 37 = (1, 4) := rfl
theorem kn_38 : az_kn 130 38 = (3, 4) := rfl
theorem kn_39 : az_kn 130 39 = (1, 3) := rfl
theorem kn_40 : az_kn 130 40 = (1, 3) := rfl
theorem kn_41 : az_kn 130 41 = (1, 3) := rfl
theorem kn_42 : az_kn 130 42 = (1, 3) := rfl
theorem kn_43 : az_kn 130 43 = (1, 3) := rfl
theorem kn_44 : az_kn 130 44 = (1, 8) := rfl
theorem kn_45 : az_kn 130 45 = (0, 2) := rfl
theorem kn_46 : az_kn 130 46 = (0, 2) := rfl
theorem kn_47 : az_kn 130 47 = (0, 2) := rfl
theorem kn_48 : az_kn 130 48 = (0, 2) := rfl
theorem kn_49 : az_kn 130 49 = (0, 0) := rfl
theorem kn_50 : az_kn 130 50 = (1, 12) := rfl
theorem kn_51 : az_kn 130 51 = (1, 24) := rfl
theorem kn_52 : az_kn 130 52 = (1, 24) := rfl
theorem kn_53 : az_kn 130 53 = (1, 24) := rfl
theorem kn_54 : az_kn 130 54 = (1, 24) := rfl
theorem kn_55 : az_kn 130 55 = (1, 24) := rfl
theorem kn_56 : az_kn 130 56 = (0, 3) := rfl
theorem kn_57 : az_kn 130 57 = (1, 60) := rfl
theorem kn_58 : az_kn 130 58 = (1, 60) := rfl
theorem kn_59 : az_kn 130 59 = (1, 60) := rfl
theorem kn_60 : az_kn 130 60 = (0, 7) := rfl
theorem kn_61 : az_kn 130 61 = (1, 20) := rfl
theorem kn_62 : az_kn 130 62 = (1, 20) := rfl
theorem kn_63 : az_kn 130 63 = (0, 9) := rfl
theorem kn_64 : az_kn 130 64 = (1, 40) := rfl
theorem kn_65 : az_kn 130 65 = (1, 40) := rfl
theorem kn_66 : az_kn 130 66 = (1, 40) := rfl
theorem kn_67 : az_kn 130 67 = (1, 40) := rfl
theorem kn_68 : az_kn 130 68 = (1, 12) := rfl
theorem kn_69 : az_kn 130 69 = (1, 12) := rfl
theorem kn_70 : az_kn 130 70 = (1, 12) := rfl
theorem kn_71 : az_kn 130 71 = (0, 1) := rfl
theorem kn_72 : az_kn 130 72 = (3, 12) := rfl
theorem kn_73 : az_kn 130 73 = (1, 12) := rfl
theorem kn_74 : az_kn 130 74 = (1, 12) := rfl
theorem kn_75 : az_kn 130 75 = (1, 12) := rfl
theorem kn_76 : az_kn 130 76 = (1, 12) := rfl
theorem kn_77 : az_kn 130 77 = (1, 12) := rfl
theorem kn_78 : az_kn 130 78 = (1, 12) := rfl
theorem kn_79 : az_kn 130 79 = (1, 12) := rfl
theorem kn_80 : az_kn 130 80 = (1, 12) := rfl
theorem kn_81 : az_kn 130 81 = (1, 12) := rfl
theorem kn_82 : az_kn 130 82 = (1, 12) := rfl
theorem kn_83 : az_kn 130 83 = (1, 12) := rfl
theorem kn_84 : az_kn 130 84 = (1, 12) := rfl
theorem kn_85 : az_kn 130 85 = (1, 12) := rfl
theorem kn_86 : az_kn 130 86 = (0, 8) := rfl
theorem kn_87 : az_kn 130 87 = (1, 4) := rfl
theorem kn_88 : az_kn 130 88 = (1, 4) := rfl
theorem kn_89 : az_kn 130 89 = (3, 4) := rfl
theorem kn_90 : az_kn 130 90 = (1, 16) := rfl
theorem kn_91 : az_kn 130 91 = (1, 16) := rfl
theorem kn_92 : az_kn 130 92 = (1, 16) := rfl
theorem kn_93 : az_kn 130 93 = (1, 16) := rfl
theorem kn_94 : az_kn 130 94 = (0, 2) := rfl
theorem kn_95 : az_kn 130 95 = (0, 2) := rfl
theorem kn_96 : az_kn 130 96 = (1, 8) := rfl
theorem kn_97 : az_kn 130 97 = (0, 11) := rfl
theorem kn_98 : az_kn 130 98 = (1, 240) := rfl
theorem kn_99 : az_kn 130 99 = (1, 40) := rfl
theorem kn_100 : az_kn 130 100 = (1, 4) := rfl
theorem kn_101 : az_kn 130 101 = (1, 12) := rfl
theorem kn_102 : az_kn 130 102 = (1, 3) := rfl
theorem kn_103 : az_kn 130 103 = (1, 3) := rfl
theorem kn_104 : az_kn 130 104 = (1, 3) := rfl
theorem kn_105 : az_kn 130 105 = (1, 3) := rfl
theorem kn_106 : az_kn 130 106 = (1, 8) := rfl
theorem kn_107 : az_kn 130 107 = (1, 8) := rfl
theorem kn_108 : az_kn 130 108 = (1, 12) := rfl
theorem kn_109 : az_kn 130 109 = (1, 24) := rfl
theorem kn_110 : az_kn 130 110 = (1, 24) := rfl
theorem kn_111 : az_kn 130 111 = (1, 24) := rfl
theorem kn_112 : az_kn 130 112 = (1, 24) := rfl
theorem kn_113 : az_kn 130 113 = (1, 24) := rfl
theorem kn_114 : az_kn 130 114 = (1, 60) := rfl
theorem kn_115 : az_kn 130 115 = (1, 60) := rfl
theorem kn_116 : az_kn 130 116 = (1, 60) := rfl
theorem kn_117 : az_kn 130 117 = (1, 20) := rfl
theorem kn_118 : az_kn 130 118 = (1, 20) := rfl
theorem kn_119 : az_kn 130 119 = (1, 40) := rfl
theorem kn_120 : az_kn 130 120 = (1, 40) := rfl
theorem kn_121 : az_kn 130 121 = (1, 40) := rfl
theorem kn_122 : az_kn 130 122 = (1, 40) := rfl
theorem kn_123 : az_kn 130 123 = (2, 144) := rfl
theorem kn_124 : az_kn 130 124 = (1, 144) := rfl
theorem kn_125 : az_kn 130 125 = (1, 12) := rfl
theorem kn_126 : az_kn 130 126 = (1, 40) := rfl
theorem kn_127 : az_kn 130 127 = (1, 4) := rfl
theorem kn_128 : az_kn 130 128 = (1, 4) := rfl
theorem kn_129 : az_kn 130 129 = (1, 64) := rfl
theorem kn_9000 : az_kn 130 9000 = (4, 3) := rfl
theorem kn_9001 : az_kn 130 9001 = (4, 3) := rfl
theorem kn_9002 : az_kn 130 9002 = (4, 3) := rfl
