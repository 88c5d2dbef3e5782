/-! ===== wall, crossed ===== -/
theorem zsm {b : Nat} (h : b < 32) : ((nI b &&& 31).toBitVec.smod 32).toNat = b := by
  revert b; decide
theorem zbit {w b : Nat} (hw : w < 2 ^ 31) (hb : b < 32) : (nI w >>> (nI b &&& 31)) &&& 1 = if w.testBit b then 1 else 0 := by
  rw [pk_shrN hw _ b (zsm hb), pk_andN (Nat.lt_of_le_of_lt (Nat.div_le_self _ _) (by omega)) 1 (by decide), Nat.testBit_eq_decide_div_mod_eq]
  rcases (show w / 2 ^ b % 2 = 0 ∨ w / 2 ^ b % 2 = 1 by omega) with e | e
  · rw [show (2 : Nat) ^ 1 = 2 from rfl, e]; simp; rfl
  · rw [show (2 : Nat) ^ 1 = 2 from rfl, e]; simp; rfl
theorem z1sh {b : Nat} (hb : b < 31) : (1 : Int32) <<< (nI b &&& 31) = nI (2 ^ b) := by
  have h : 2 ^ b ≤ 2 ^ 30 := Nat.pow_le_pow_right (by decide) (by omega)
  have := pk_shlN (n := 1) (nI b &&& 31) b (zsm (by omega)) (by omega)
  rw [Nat.one_mul] at this
  exact this
theorem zxor (a b : Nat) : nI a ^^^ nI b = nI (a ^^^ b) := by
  apply Int32.toBitVec_inj.mp
  rw [Int32.toBitVec_xor]
  exact BitVec.ofNat_xor.symm
theorem zoro (a b : Nat) : nI a ||| nI b = nI (a ||| b) := by
  apply Int32.toBitVec_inj.mp
  rw [Int32.toBitVec_or]
  exact BitVec.ofNat_or.symm
theorem zando (a b : Nat) : nI a &&& nI b = nI (a &&& b) := by
  apply Int32.toBitVec_inj.mp
  rw [Int32.toBitVec_and]
  exact BitVec.ofNat_and.symm
def zbt (w b : Nat) : Int32 := if w.testBit b then 1 else 0
theorem zbt_1 (w b : Nat) : (if zbt w b = 1 then (1 : Int32) else 0) = zbt w b := by
  unfold zbt; cases w.testBit b <;> decide
theorem zbt_0 (w b : Nat) : (if zbt w b = 0 then (0 : Int32) else 1) = zbt w b := by
  unfold zbt; cases w.testBit b <;> decide
/-- a word that goes through a wall -/
def zcr (I : Nat → Nat → Int32) (m : Int32) (k : Nat) : Int32 := if I 66 k = m then I 123 (12 * (I 64 k).toNatClampNeg + (I 65 k).toNatClampNeg) else 0
section S
variable {d : Nat} {I : Nat → Nat → Int32} {L : Nat → Nat → Int64} {h : az_H}
theorem s_X9_setWall_same {a b wa : Nat} {q : Int32} (ha : a < 12) (hb : b < 12) (e1 : I 68 a = nI wa) (hw : wa < 4096) (hq : zbt wa b = q) : zD (d + 1) 83 [.ref 63, .int (nI a), .int (nI b), .int q] (130, az_Pf, I, L) (some (.int (zbt wa b))) (130, az_Pf, I, L) := by
  refine zD_of zm_X9_setWall rfl ?_
  show az_W _ _ _ 0 [.ref 63, .int (nI a), .int (nI b), .int q, .null] [] _
  have eb : (nI wa >>> (nI b &&& 31)) &&& 1 = zbt wa b := zbit (by omega) (by omega)
  simp only [u_X9_setWall_0, u_X9_setWall_1, u_X9_setWall_4, u_X9_setWall_5, u_X9_setWall_6, u_X9_setWall_7, u_X9_setWall_8, u_X9_setWall_9, u_X9_setWall_10, u_X9_setWall_12, u_X9_setWall_14, u_X9_setWall_15, u_X9_setWall_18, u_X9_setWall_19, u_X9_setWall_22, u_X9_setWall_23, u_X9_setWall_24, u_X9_setWall_27, u_X9_setWall_28, u_X9_setWall_31, u_X9_setWall_32, u_X9_setWall_33, u_X9_setWall_34, u_X9_setWall_35, u_X9_setWall_36, u_X9_setWall_37, u_X9_setWall_38, u_X9_setWall_39, u_X9_setWall_40, u_X9_setWall_43, u_X9_setWall_44, u_X9_setWall_45, u_X9_setWall_46, u_X9_setWall_47, u_X9_setWall_48, u_X9_setWall_49, u_X9_setWall_50, u_X9_setWall_51, u_X9_setWall_53, az_un_i, az_un_r, az_un_n, az_un_l, Option.toList_some, Option.toList_none, List.cons_append, List.nil_append, List.length_cons, List.length_nil, Nat.reduceLeDiff, Nat.reduceAdd, Nat.zero_le, Nat.zero_add, and_true, true_and, zb_1, eq_self, kx_68, zinT ha (by decide), zcl ha (by decide), e1, eb]
  by_cases g : zbt wa b = 1
  · have g2 : (1 : Int32) = q := g.symm.trans hq
    simp only [g, g2, and_self, and_true, true_and, if_true, if_false, not_true, not_false_iff, not_true_eq_false, not_false_eq_true, ite_true, ite_false]
  · have g2 : (0 : Int32) = q := by rw [← hq]; have := zbt_1 wa b; rw [if_neg g] at this; exact this
    simp only [g, g2, and_self, and_true, true_and, if_true, if_false, not_true, not_false_iff, not_true_eq_false, not_false_eq_true, ite_true, ite_false]
theorem s_X9_setWall {a b wa wb : Nat} {q : Int32} (ha : a < 12) (hb : b < 12) (hab : a ≠ b) (e1 : I 68 a = nI wa) (hw : wa < 4096) (e2 : I 68 b = nI wb) (hq : ¬ zbt wa b = q) : zD (d + 1) 83 [.ref 63, .int (nI a), .int (nI b), .int q] (130, az_Pf, I, L) (some (.int (zbt wa b))) (130, az_Pf, az_uI (az_uI I 68 a (nI (wa ^^^ 2 ^ b))) 68 b (nI (wb ^^^ 2 ^ a)), L) := by
  refine zD_of zm_X9_setWall rfl ?_
  show az_W _ _ _ 0 [.ref 63, .int (nI a), .int (nI b), .int q, .null] [] _
  have eb : (nI wa >>> (nI b &&& 31)) &&& 1 = zbt wa b := zbit (by omega) (by omega)
  have e3 : az_uI I 68 a (nI (wa ^^^ 2 ^ b)) 68 b = nI wb := by rw [az_uI_at, if_neg (by omega)]; exact e2
  simp only [u_X9_setWall_0, u_X9_setWall_1, u_X9_setWall_4, u_X9_setWall_5, u_X9_setWall_6, u_X9_setWall_7, u_X9_setWall_8, u_X9_setWall_9, u_X9_setWall_10, u_X9_setWall_12, u_X9_setWall_14, u_X9_setWall_15, u_X9_setWall_18, u_X9_setWall_19, u_X9_setWall_22, u_X9_setWall_23, u_X9_setWall_24, u_X9_setWall_27, u_X9_setWall_28, u_X9_setWall_31, u_X9_setWall_32, u_X9_setWall_33, u_X9_setWall_34, u_X9_setWall_35, u_X9_setWall_36, u_X9_setWall_37, u_X9_setWall_38, u_X9_setWall_39, u_X9_setWall_40, u_X9_setWall_43, u_X9_setWall_44, u_X9_setWall_45, u_X9_setWall_46, u_X9_setWall_47, u_X9_setWall_48, u_X9_setWall_49, u_X9_setWall_50, u_X9_setWall_51, u_X9_setWall_53, az_un_i, az_un_r, az_un_n, az_un_l, Option.toList_some, Option.toList_none, List.cons_append, List.nil_append, List.length_cons, List.length_nil, Nat.reduceLeDiff, Nat.reduceAdd, Nat.zero_le, Nat.zero_add, and_true, true_and, zb_1, eq_self, kx_68, zinT ha (by decide), zcl ha (by decide), zinT hb (by decide), zcl hb (by decide), e1, eb, z1sh (show b < 31 by omega), z1sh (show a < 31 by omega), zxor, e3]
  by_cases g : zbt wa b = 1
  · have g2 : ¬ (1 : Int32) = q := fun z => hq (g.trans z)
    simp only [g, g2, and_self, and_true, true_and, if_true, if_false, not_true, not_false_iff, not_true_eq_false, not_false_eq_true, ite_true, ite_false]
  · have g2 : ¬ (0 : Int32) = q := fun z => hq (by rw [← z]; have := zbt_1 wa b; rw [if_neg g] at this; exact this.symm)
    simp only [g, g2, and_self, and_true, true_and, if_true, if_false, not_true, not_false_iff, not_true_eq_false, not_false_eq_true, ite_true, ite_false]
theorem s_X10_wall_bad1 {x y q : Int32} {n : Nat} (hn : I 49 1 = nI n) (hle : n ≤ 12) (hb : ¬ (((0 ≤ x.toInt ∧ x.toInt < (n : Int)) ∧ (0 ≤ y.toInt ∧ y.toInt < (n : Int)) ∧ ¬ x = y))) : zD (d + 4) 117 [.ref 0, .int x, .int y, .int q] (130, az_Pf, I, L) (some (.int (-1))) (130, az_Pf, I, L) := by
  refine zD_of zm_X10_wall rfl ?_
  show az_W _ _ _ 0 [.ref 0, .int x, .int y, .int q] [] _
  simp only [u_X10_wall_0, u_X10_wall_1, u_X10_wall_4, u_X10_wall_5, u_X10_wall_6, u_X10_wall_9, u_X10_wall_12, u_X10_wall_13, u_X10_wall_16, u_X10_wall_17, u_X10_wall_20, u_X10_wall_21, u_X10_wall_24, u_X10_wall_25, u_X10_wall_28, u_X10_wall_31, u_X10_wall_32, u_X10_wall_33, u_X10_wall_34, u_X10_wall_37, u_X10_wall_38, u_X10_wall_39, u_X10_wall_40, u_X10_wall_43, az_un_i, az_un_r, az_un_n, az_un_l, Option.toList_some, Option.toList_none, List.cons_append, List.nil_append, List.length_cons, List.length_nil, Nat.reduceLeDiff, Nat.reduceAdd, Nat.zero_le, Nat.zero_add, and_true, true_and, zb_1, eq_self, zb_0, az_call (s_X0_areTwoN hn hle)]
  simp only [eq_false hb, and_self, and_true, true_and, if_true, if_false, not_true, not_false_iff, not_true_eq_false, not_false_eq_true, ite_true, ite_false]
theorem s_X11_wall_bad1 {x y q : Int32} {n : Nat} (hn : I 97 17 = nI n) (hle : n ≤ 12) (hb : ¬ (((0 ≤ x.toInt ∧ x.toInt < (n : Int)) ∧ (0 ≤ y.toInt ∧ y.toInt < (n : Int)) ∧ ¬ x = y))) : zD (d + 4) 191 [.ref 97, .int x, .int y, .int q] (130, az_Pf, I, L) (some (.int (-1))) (130, az_Pf, I, L) := by
  refine zD_of zm_X11_wall rfl ?_
  show az_W _ _ _ 0 [.ref 97, .int x, .int y, .int q, .null] [] _
  simp only [u_X11_wall_0, u_X11_wall_1, u_X11_wall_2, u_X11_wall_3, u_X11_wall_6, u_X11_wall_9, u_X11_wall_10, u_X11_wall_13, u_X11_wall_14, u_X11_wall_15, u_X11_wall_16, u_X11_wall_19, u_X11_wall_20, u_X11_wall_21, u_X11_wall_24, u_X11_wall_25, u_X11_wall_26, u_X11_wall_27, u_X11_wall_30, u_X11_wall_32, u_X11_wall_33, u_X11_wall_34, u_X11_wall_35, u_X11_wall_36, u_X11_wall_37, u_X11_wall_40, u_X11_wall_41, u_X11_wall_44, u_X11_wall_45, u_X11_wall_47, u_X11_wall_48, u_X11_wall_51, u_X11_wall_53, u_X11_wall_54, u_X11_wall_55, u_X11_wall_56, u_X11_wall_57, u_X11_wall_58, u_X11_wall_59, u_X11_wall_60, u_X11_wall_63, u_X11_wall_65, u_X11_wall_66, u_X11_wall_67, u_X11_wall_68, u_X11_wall_69, u_X11_wall_70, u_X11_wall_71, u_X11_wall_73, az_un_i, az_un_r, az_un_n, az_un_l, Option.toList_some, Option.toList_none, List.cons_append, List.nil_append, List.length_cons, List.length_nil, Nat.reduceLeDiff, Nat.reduceAdd, Nat.zero_le, Nat.zero_add, and_true, true_and, zb_1, eq_self, zb_0, az_call (s_X11_areTwo hn hle)]
  simp only [eq_false hb, and_self, and_true, true_and, if_true, if_false, not_true, not_false_iff, not_true_eq_false, not_false_eq_true, ite_true, ite_false]
theorem zhouse {a : Nat} (ha : a < 12) : zD (d + 1) 5 [.ref 49, .int (nI a)] (130, az_Pf, I, L) (some (.int (I 50 a))) (130, az_Pf, I, L) := by
  have hh := s_X0_houseOf (d := d) (I := I) (L := L) (x := nI a) (zin ha (by decide))
  rw [zcl ha (by decide)] at hh
  exact hh
theorem ztwo {a b n : Nat} (hle : n ≤ 12) (ha : a < n) (hb : b < n) (hab : a ≠ b) : ((0 ≤ (nI a).toInt ∧ (nI a).toInt < (n : Int)) ∧ (0 ≤ (nI b).toInt ∧ (nI b).toInt < (n : Int)) ∧ ¬ nI a = nI b) = True := eq_true ⟨by rw [nI_toInt (by omega)]; omega, by rw [nI_toInt (by omega)]; omega, fun q => hab ((nI_eq (by omega) (by omega)).mp q)⟩
theorem s_X10_wall_bad2 {a b n : Nat} {q : Int32} (hn : I 49 1 = nI n) (hle : n ≤ 12) (ha : a < n) (hb : b < n) (hab : a ≠ b) (hh : ¬ I 50 a = I 50 b) : zD (d + 4) 117 [.ref 0, .int (nI a), .int (nI b), .int q] (130, az_Pf, I, L) (some (.int (-1))) (130, az_Pf, I, L) := by
  refine zD_of zm_X10_wall rfl ?_
  show az_W _ _ _ 0 [.ref 0, .int (nI a), .int (nI b), .int q] [] _
  simp only [u_X10_wall_0, u_X10_wall_1, u_X10_wall_4, u_X10_wall_5, u_X10_wall_6, u_X10_wall_9, u_X10_wall_12, u_X10_wall_13, u_X10_wall_16, u_X10_wall_17, u_X10_wall_20, u_X10_wall_21, u_X10_wall_24, u_X10_wall_25, u_X10_wall_28, u_X10_wall_31, u_X10_wall_32, u_X10_wall_33, u_X10_wall_34, u_X10_wall_37, u_X10_wall_38, u_X10_wall_39, u_X10_wall_40, u_X10_wall_43, az_un_i, az_un_r, az_un_n, az_un_l, Option.toList_some, Option.toList_none, List.cons_append, List.nil_append, List.length_cons, List.length_nil, Nat.reduceLeDiff, Nat.reduceAdd, Nat.zero_le, Nat.zero_add, and_true, true_and, zb_1, eq_self, az_call (s_X0_areTwoN hn hle), zb_0, ztwo hle ha hb hab, and_self, and_true, true_and, if_true, if_false, not_true, not_false_iff, not_true_eq_false, not_false_eq_true, ite_true, ite_false, az_call (zhouse (show a < 12 by omega)), az_call (zhouse (show b < 12 by omega)), eq_false hh]
theorem s_X11_wall_bad2 {a b n : Nat} {q : Int32} (hn : I 97 17 = nI n) (hle : n ≤ 12) (ha : a < n) (hb : b < n) (hab : a ≠ b) (hh : ¬ I 108 a = I 108 b) : zD (d + 4) 191 [.ref 97, .int (nI a), .int (nI b), .int q] (130, az_Pf, I, L) (some (.int (-1))) (130, az_Pf, I, L) := by
  refine zD_of zm_X11_wall rfl ?_
  show az_W _ _ _ 0 [.ref 97, .int (nI a), .int (nI b), .int q, .null] [] _
  simp only [u_X11_wall_0, u_X11_wall_1, u_X11_wall_2, u_X11_wall_3, u_X11_wall_6, u_X11_wall_9, u_X11_wall_10, u_X11_wall_13, u_X11_wall_14, u_X11_wall_15, u_X11_wall_16, u_X11_wall_19, u_X11_wall_20, u_X11_wall_21, u_X11_wall_24, u_X11_wall_25, u_X11_wall_26, u_X11_wall_27, u_X11_wall_30, u_X11_wall_32, u_X11_wall_33, u_X11_wall_34, u_X11_wall_35, u_X11_wall_36, u_X11_wall_37, u_X11_wall_40, u_X11_wall_41, u_X11_wall_44, u_X11_wall_45, u_X11_wall_47, u_X11_wall_48, u_X11_wall_51, u_X11_wall_53, u_X11_wall_54, u_X11_wall_55, u_X11_wall_56, u_X11_wall_57, u_X11_wall_58, u_X11_wall_59, u_X11_wall_60, u_X11_wall_63, u_X11_wall_65, u_X11_wall_66, u_X11_wall_67, u_X11_wall_68, u_X11_wall_69, u_X11_wall_70, u_X11_wall_71, u_X11_wall_73, az_un_i, az_un_r, az_un_n, az_un_l, Option.toList_some, Option.toList_none, List.cons_append, List.nil_append, List.length_cons, List.length_nil, Nat.reduceLeDiff, Nat.reduceAdd, Nat.zero_le, Nat.zero_add, and_true, true_and, zb_1, eq_self, az_call (s_X11_areTwo hn hle), zb_0, ztwo hle ha hb hab, and_self, and_true, true_and, if_true, if_false, not_true, not_false_iff, not_true_eq_false, not_false_eq_true, ite_true, ite_false, kx_108, zinT (show a < 12 by omega) (by decide), zcl (show a < 12 by omega) (by decide), zinT (show b < 12 by omega) (by decide), zcl (show b < 12 by omega) (by decide), eq_false hh]
theorem s_X10_wall {a b n : Nat} {q r : Int32} {J : Nat → Nat → Int32} (hn : I 49 1 = nI n) (hle : n ≤ 12) (ha : a < n) (hb : b < n) (hab : a ≠ b) (hh : I 50 a = I 50 b) (hr : zD (d + 3) 83 [.ref 63, .int (nI a), .int (nI b), .int q] (130, az_Pf, I, L) (some (.int r)) (130, az_Pf, J, L)) : zD (d + 4) 117 [.ref 0, .int (nI a), .int (nI b), .int q] (130, az_Pf, I, L) (some (.int r)) (130, az_Pf, J, L) := by
  refine zD_of zm_X10_wall rfl ?_
  show az_W _ _ _ 0 [.ref 0, .int (nI a), .int (nI b), .int q] [] _
  simp only [u_X10_wall_0, u_X10_wall_1, u_X10_wall_4, u_X10_wall_5, u_X10_wall_6, u_X10_wall_9, u_X10_wall_12, u_X10_wall_13, u_X10_wall_16, u_X10_wall_17, u_X10_wall_20, u_X10_wall_21, u_X10_wall_24, u_X10_wall_25, u_X10_wall_28, u_X10_wall_31, u_X10_wall_32, u_X10_wall_33, u_X10_wall_34, u_X10_wall_37, u_X10_wall_38, u_X10_wall_39, u_X10_wall_40, u_X10_wall_43, az_un_i, az_un_r, az_un_n, az_un_l, Option.toList_some, Option.toList_none, List.cons_append, List.nil_append, List.length_cons, List.length_nil, Nat.reduceLeDiff, Nat.reduceAdd, Nat.zero_le, Nat.zero_add, and_true, true_and, zb_1, eq_self, az_call (s_X0_areTwoN hn hle), zb_0, ztwo hle ha hb hab, and_self, and_true, true_and, if_true, if_false, not_true, not_false_iff, not_true_eq_false, not_false_eq_true, ite_true, ite_false, az_call (zhouse (show a < 12 by omega)), az_call (zhouse (show b < 12 by omega)), eq_true hh, az_call hr]
theorem s_X11_wall {a b n w : Nat} {q : Int32} (hn : I 97 17 = nI n) (hle : n ≤ 12) (ha : a < n) (hb : b < n) (hab : a ≠ b) (hh : I 108 a = I 108 b) (hw : I 123 (12 * a + b) = zbt w b) (hq : q = 0 ∨ q = 1) : zD (d + 4) 191 [.ref 97, .int (nI a), .int (nI b), .int q] (130, az_Pf, I, L) (some (.int (zbt w b))) (130, az_Pf, az_uI (az_uI I 123 (12 * a + b) q) 123 (12 * b + a) q, L) := by
  refine zD_of zm_X11_wall rfl ?_
  show az_W _ _ _ 0 [.ref 97, .int (nI a), .int (nI b), .int q, .null] [] _
  simp only [u_X11_wall_0, u_X11_wall_1, u_X11_wall_2, u_X11_wall_3, u_X11_wall_6, u_X11_wall_9, u_X11_wall_10, u_X11_wall_13, u_X11_wall_14, u_X11_wall_15, u_X11_wall_16, u_X11_wall_19, u_X11_wall_20, u_X11_wall_21, u_X11_wall_24, u_X11_wall_25, u_X11_wall_26, u_X11_wall_27, u_X11_wall_30, u_X11_wall_32, u_X11_wall_33, u_X11_wall_34, u_X11_wall_35, u_X11_wall_36, u_X11_wall_37, u_X11_wall_40, u_X11_wall_41, u_X11_wall_44, u_X11_wall_45, u_X11_wall_47, u_X11_wall_48, u_X11_wall_51, u_X11_wall_53, u_X11_wall_54, u_X11_wall_55, u_X11_wall_56, u_X11_wall_57, u_X11_wall_58, u_X11_wall_59, u_X11_wall_60, u_X11_wall_63, u_X11_wall_65, u_X11_wall_66, u_X11_wall_67, u_X11_wall_68, u_X11_wall_69, u_X11_wall_70, u_X11_wall_71, u_X11_wall_73, az_un_i, az_un_r, az_un_n, az_un_l, Option.toList_some, Option.toList_none, List.cons_append, List.nil_append, List.length_cons, List.length_nil, Nat.reduceLeDiff, Nat.reduceAdd, Nat.zero_le, Nat.zero_add, and_true, true_and, zb_1, eq_self, az_call (s_X11_areTwo hn hle), zb_0, ztwo hle ha hb hab, and_self, and_true, true_and, if_true, if_false, not_true, not_false_iff, not_true_eq_false, not_false_eq_true, ite_true, ite_false, kx_108, kx_123, z12m, zinT (show a < 12 by omega) (by decide), zcl (show a < 12 by omega) (by decide), zinT (show b < 12 by omega) (by decide), zcl (show b < 12 by omega) (by decide), zinT (show 12 * a + b < 144 by omega) (by decide), zcl (show 12 * a + b < 144 by omega) (by decide), zinT (show 12 * b + a < 144 by omega) (by decide), zcl (show 12 * b + a < 144 by omega) (by decide), eq_true hh, eq_true hq, hw]
  by_cases g : zbt w b = 0
  · simp only [g, and_self, and_true, true_and, if_true, if_false, not_true, not_false_iff, not_true_eq_false, not_false_eq_true, ite_true, ite_false]
  · simp only [g, and_self, and_true, true_and, if_true, if_false, not_true, not_false_iff, not_true_eq_false, not_false_eq_true, ite_true, ite_false]
    have := zbt_0 w b
    rw [if_neg g] at this
    rw [this]
theorem s_X9_crossings {m : Int32} {n w : Nat} (hW : zvW I n w) (hn12 : n ≤ 12) (hX : zvX I n) : zD (d + 1) 84 [.ref 63, .int m] (130, az_Pf, I, L) (some (.int (zsum (zcr I m) w))) (130, az_Pf, I, L) := by
  refine zD_of zm_X9_crossings rfl ?_
  show az_W _ _ _ 0 [.ref 63, .int m, .null, .null] [] _
  simp only [u_X9_crossings_0, u_X9_crossings_1, u_X9_crossings_2, u_X9_crossings_3, u_X9_crossings_5, u_X9_crossings_6, u_X9_crossings_9, u_X9_crossings_12, u_X9_crossings_13, u_X9_crossings_16, u_X9_crossings_17, u_X9_crossings_18, u_X9_crossings_19, u_X9_crossings_22, u_X9_crossings_23, u_X9_crossings_24, u_X9_crossings_27, u_X9_crossings_28, u_X9_crossings_31, u_X9_crossings_32, u_X9_crossings_33, u_X9_crossings_34, u_X9_crossings_35, u_X9_crossings_38, u_X9_crossings_39, u_X9_crossings_40, u_X9_crossings_41, u_X9_crossings_42, u_X9_crossings_43, u_X9_crossings_44, u_X9_crossings_45, u_X9_crossings_48, u_X9_crossings_51, u_X9_crossings_52, az_un_i, az_un_r, az_un_n, az_un_l, Option.toList_some, Option.toList_none, List.cons_append, List.nil_append, List.length_cons, List.length_nil, Nat.reduceLeDiff, Nat.reduceAdd, Nat.zero_le, Nat.zero_add, and_true, true_and, zb_1, eq_self]
  obtain ⟨hw, hn, -, -, -, -, -, hr⟩ := hW
  refine zloop (P := fun k => az_W (zD d) _ _ 4 [.ref 63, .int m, .int (zsum (zcr I m) k), .int (nI k)] [] _) w (fun k hk ih => ?_) ?_ 0 (Nat.zero_le _)
  · have h1 : ¬ nI w ≤ nI k := nI_ge hk (by omega)
    obtain ⟨a, b, mm, t, ha, hb, hab, hm, ht, r1, r2, r3, r4⟩ := hr k hk
    obtain ⟨wa, hwa, ea, eb⟩ := hX a (by omega)
    have e : zsum (zcr I m) (k + 1) = zsum (zcr I m) k + zcr I m k := rfl
    simp only [u_X9_crossings_4]
    simp only [u_X9_crossings_0, u_X9_crossings_1, u_X9_crossings_2, u_X9_crossings_3, u_X9_crossings_5, u_X9_crossings_6, u_X9_crossings_9, u_X9_crossings_12, u_X9_crossings_13, u_X9_crossings_16, u_X9_crossings_17, u_X9_crossings_18, u_X9_crossings_19, u_X9_crossings_22, u_X9_crossings_23, u_X9_crossings_24, u_X9_crossings_27, u_X9_crossings_28, u_X9_crossings_31, u_X9_crossings_32, u_X9_crossings_33, u_X9_crossings_34, u_X9_crossings_35, u_X9_crossings_38, u_X9_crossings_39, u_X9_crossings_40, u_X9_crossings_41, u_X9_crossings_42, u_X9_crossings_43, u_X9_crossings_44, u_X9_crossings_45, u_X9_crossings_48, u_X9_crossings_51, u_X9_crossings_52, az_un_i, az_un_r, az_un_n, az_un_l, Option.toList_some, Option.toList_none, List.cons_append, List.nil_append, List.length_cons, List.length_nil, Nat.reduceLeDiff, Nat.reduceAdd, Nat.zero_le, Nat.zero_add, and_true, true_and, zb_1, eq_self, hn, h1, if_false, kx_64, kx_65, kx_66, kx_68, zinT (show k < 40 by omega) (by decide), zcl (show k < 40 by omega) (by decide), r1, r2, zinT (show a < 12 by omega) (by decide), zcl (show a < 12 by omega) (by decide), ea, zbit (show wa < 2 ^ 31 by omega) (show b < 32 by omega)]
    rw [nI_succ, e] at ih
    rw [show zcr I m k = if I 66 k = m then I 123 (12 * (I 64 k).toNatClampNeg + (I 65 k).toNatClampNeg) else 0 from rfl, r1, r2, zcl (show a < 12 by omega) (by decide), zcl (show b < 12 by omega) (by decide), (eb b (by omega)).1] at ih
    by_cases g : I 66 k = m
    · rw [if_pos g] at ih; rw [if_pos g]; exact ih
    · rw [if_neg g, Int32.add_zero] at ih; rw [if_neg g]; exact ih
  · have h1 : nI w ≤ nI w := nI_le (Nat.le_refl _) (by omega)
    simp only [u_X9_crossings_4]
    simp only [u_X9_crossings_0, u_X9_crossings_1, u_X9_crossings_2, u_X9_crossings_3, u_X9_crossings_5, u_X9_crossings_6, u_X9_crossings_9, u_X9_crossings_12, u_X9_crossings_13, u_X9_crossings_16, u_X9_crossings_17, u_X9_crossings_18, u_X9_crossings_19, u_X9_crossings_22, u_X9_crossings_23, u_X9_crossings_24, u_X9_crossings_27, u_X9_crossings_28, u_X9_crossings_31, u_X9_crossings_32, u_X9_crossings_33, u_X9_crossings_34, u_X9_crossings_35, u_X9_crossings_38, u_X9_crossings_39, u_X9_crossings_40, u_X9_crossings_41, u_X9_crossings_42, u_X9_crossings_43, u_X9_crossings_44, u_X9_crossings_45, u_X9_crossings_48, u_X9_crossings_51, u_X9_crossings_52, az_un_i, az_un_r, az_un_n, az_un_l, Option.toList_some, Option.toList_none, List.cons_append, List.nil_append, List.length_cons, List.length_nil, Nat.reduceLeDiff, Nat.reduceAdd, Nat.zero_le, Nat.zero_add, and_true, true_and, zb_1, eq_self, hn, h1, if_true]
theorem s_X10_crossed_bad {x : Int32} (hb : ¬ ((0 ≤ x.toInt ∧ x.toInt ≤ 29))) : zD (d + 4) 118 [.ref 0, .int x] (130, az_Pf, I, L) (some (.int (-1))) (130, az_Pf, I, L) := by
  refine zD_of zm_X10_crossed rfl ?_
  show az_W _ _ _ 0 [.ref 0, .int x] [] _
  simp only [u_X10_crossed_0, u_X10_crossed_1, u_X10_crossed_4, u_X10_crossed_7, u_X10_crossed_8, u_X10_crossed_9, u_X10_crossed_10, u_X10_crossed_13, u_X10_crossed_14, u_X10_crossed_17, az_un_i, az_un_r, az_un_n, az_un_l, Option.toList_some, Option.toList_none, List.cons_append, List.nil_append, List.length_cons, List.length_nil, Nat.reduceLeDiff, Nat.reduceAdd, Nat.zero_le, Nat.zero_add, and_true, true_and, zb_1, eq_self, zb_0, az_call s_X10_isMorning]
  simp only [eq_false hb, and_self, and_true, true_and, if_true, if_false, not_true, not_false_iff, not_true_eq_false, not_false_eq_true, ite_true, ite_false]
theorem s_X11_crossed_bad {x : Int32} (hb : ¬ ((0 ≤ x.toInt ∧ x.toInt ≤ 29))) : zD (d + 4) 192 [.ref 97, .int x] (130, az_Pf, I, L) (some (.int (-1))) (130, az_Pf, I, L) := by
  refine zD_of zm_X11_crossed rfl ?_
  show az_W _ _ _ 0 [.ref 97, .int x, .null, .null] [] _
  simp only [u_X11_crossed_0, u_X11_crossed_1, u_X11_crossed_4, u_X11_crossed_7, u_X11_crossed_8, u_X11_crossed_9, u_X11_crossed_10, u_X11_crossed_11, u_X11_crossed_12, u_X11_crossed_14, u_X11_crossed_15, u_X11_crossed_18, u_X11_crossed_21, u_X11_crossed_22, u_X11_crossed_23, u_X11_crossed_26, u_X11_crossed_27, u_X11_crossed_28, u_X11_crossed_29, u_X11_crossed_32, u_X11_crossed_33, u_X11_crossed_36, u_X11_crossed_38, u_X11_crossed_39, u_X11_crossed_42, u_X11_crossed_43, u_X11_crossed_44, u_X11_crossed_45, u_X11_crossed_46, u_X11_crossed_49, u_X11_crossed_50, u_X11_crossed_51, u_X11_crossed_52, u_X11_crossed_53, u_X11_crossed_56, u_X11_crossed_57, u_X11_crossed_60, u_X11_crossed_61, u_X11_crossed_62, u_X11_crossed_63, u_X11_crossed_66, u_X11_crossed_69, u_X11_crossed_70, az_un_i, az_un_r, az_un_n, az_un_l, Option.toList_some, Option.toList_none, List.cons_append, List.nil_append, List.length_cons, List.length_nil, Nat.reduceLeDiff, Nat.reduceAdd, Nat.zero_le, Nat.zero_add, and_true, true_and, zb_1, eq_self, zb_0, az_call s_X11_isMorning]
  simp only [eq_false hb, and_self, and_true, true_and, if_true, if_false, not_true, not_false_iff, not_true_eq_false, not_false_eq_true, ite_true, ite_false]
theorem s_X10_crossed {x : Int32} {n w : Nat} (hW : zvW I n w) (hn12 : n ≤ 12) (hX : zvX I n) (h1 : 0 ≤ x.toInt ∧ x.toInt ≤ 29) : zD (d + 4) 118 [.ref 0, .int x] (130, az_Pf, I, L) (some (.int (zsum (zcr I x) w))) (130, az_Pf, I, L) := by
  refine zD_of zm_X10_crossed rfl ?_
  show az_W _ _ _ 0 [.ref 0, .int x] [] _
  simp only [u_X10_crossed_0, u_X10_crossed_1, u_X10_crossed_4, u_X10_crossed_7, u_X10_crossed_8, u_X10_crossed_9, u_X10_crossed_10, u_X10_crossed_13, u_X10_crossed_14, u_X10_crossed_17, az_un_i, az_un_r, az_un_n, az_un_l, Option.toList_some, Option.toList_none, List.cons_append, List.nil_append, List.length_cons, List.length_nil, Nat.reduceLeDiff, Nat.reduceAdd, Nat.zero_le, Nat.zero_add, and_true, true_and, zb_1, eq_self, az_call s_X10_isMorning, zb_0, eq_true h1, and_self, and_true, true_and, if_true, if_false, not_true, not_false_iff, not_true_eq_false, not_false_eq_true, ite_true, ite_false, az_call (s_X9_crossings hW hn12 hX)]
theorem s_X11_crossed {m : Int32} {n w : Nat} (hW : zvW I n w) (hn12 : n ≤ 12) (hX : zvX I n) (h1 : 0 ≤ m.toInt ∧ m.toInt ≤ 29) : zD (d + 4) 192 [.ref 97, .int m] (130, az_Pf, I, L) (some (.int (zsum (zcr I m) w))) (130, az_Pf, I, L) := by
  refine zD_of zm_X11_crossed rfl ?_
  show az_W _ _ _ 0 [.ref 97, .int m, .null, .null] [] _
  simp only [u_X11_crossed_0, u_X11_crossed_1, u_X11_crossed_4, u_X11_crossed_7, u_X11_crossed_8, u_X11_crossed_9, u_X11_crossed_10, u_X11_crossed_11, u_X11_crossed_12, u_X11_crossed_14, u_X11_crossed_15, u_X11_crossed_18, u_X11_crossed_21, u_X11_crossed_22, u_X11_crossed_23, u_X11_crossed_26, u_X11_crossed_27, u_X11_crossed_28, u_X11_crossed_29, u_X11_crossed_32, u_X11_crossed_33, u_X11_crossed_36, u_X11_crossed_38, u_X11_crossed_39, u_X11_crossed_42, u_X11_crossed_43, u_X11_crossed_44, u_X11_crossed_45, u_X11_crossed_46, u_X11_crossed_49, u_X11_crossed_50, u_X11_crossed_51, u_X11_crossed_52, u_X11_crossed_53, u_X11_crossed_56, u_X11_crossed_57, u_X11_crossed_60, u_X11_crossed_61, u_X11_crossed_62, u_X11_crossed_63, u_X11_crossed_66, u_X11_crossed_69, u_X11_crossed_70, az_un_i, az_un_r, az_un_n, az_un_l, Option.toList_some, Option.toList_none, List.cons_append, List.nil_append, List.length_cons, List.length_nil, Nat.reduceLeDiff, Nat.reduceAdd, Nat.zero_le, Nat.zero_add, and_true, true_and, zb_1, eq_self, az_call s_X11_isMorning, zb_0, eq_true h1, and_self, and_true, true_and, if_true, if_false, not_true, not_false_iff, not_true_eq_false, not_false_eq_true, ite_true, ite_false]
  obtain ⟨hw, -, hn, q1, q2, q3, q4, hr⟩ := hW
  refine zloop (P := fun k => az_W (zD (d + 3)) _ _ 13 [.ref 97, .int m, .int (zsum (zcr I m) k), .int (nI k)] [] _) w (fun k hk ih => ?_) ?_ 0 (Nat.zero_le _)
  · have h1 : ¬ nI w ≤ nI k := nI_ge hk (by omega)
    obtain ⟨a, b, mm, t, ha, hb, hab, hm, ht, r1, r2, r3, r4⟩ := hr k hk
    obtain ⟨wa, hwa, ea, eb⟩ := hX a (by omega)
    have e : zsum (zcr I m) (k + 1) = zsum (zcr I m) k + zcr I m k := rfl
    simp only [u_X11_crossed_13]
    simp only [u_X11_crossed_0, u_X11_crossed_1, u_X11_crossed_4, u_X11_crossed_7, u_X11_crossed_8, u_X11_crossed_9, u_X11_crossed_10, u_X11_crossed_11, u_X11_crossed_12, u_X11_crossed_14, u_X11_crossed_15, u_X11_crossed_18, u_X11_crossed_21, u_X11_crossed_22, u_X11_crossed_23, u_X11_crossed_26, u_X11_crossed_27, u_X11_crossed_28, u_X11_crossed_29, u_X11_crossed_32, u_X11_crossed_33, u_X11_crossed_36, u_X11_crossed_38, u_X11_crossed_39, u_X11_crossed_42, u_X11_crossed_43, u_X11_crossed_44, u_X11_crossed_45, u_X11_crossed_46, u_X11_crossed_49, u_X11_crossed_50, u_X11_crossed_51, u_X11_crossed_52, u_X11_crossed_53, u_X11_crossed_56, u_X11_crossed_57, u_X11_crossed_60, u_X11_crossed_61, u_X11_crossed_62, u_X11_crossed_63, u_X11_crossed_66, u_X11_crossed_69, u_X11_crossed_70, az_un_i, az_un_r, az_un_n, az_un_l, Option.toList_some, Option.toList_none, List.cons_append, List.nil_append, List.length_cons, List.length_nil, Nat.reduceLeDiff, Nat.reduceAdd, Nat.zero_le, Nat.zero_add, and_true, true_and, zb_1, eq_self, hn, h1, if_false, kx_119, kx_120, kx_121, kx_123, zinT (show k < 40 by omega) (by decide), zcl (show k < 40 by omega) (by decide), ← q1, ← q2, ← q3, r1, r2, z12m, zinT (show 12 * a + b < 144 by omega) (by decide), zcl (show 12 * a + b < 144 by omega) (by decide), (eb b (by omega)).1]
    rw [nI_succ, e] at ih
    rw [show zcr I m k = if I 66 k = m then I 123 (12 * (I 64 k).toNatClampNeg + (I 65 k).toNatClampNeg) else 0 from rfl, r1, r2, zcl (show a < 12 by omega) (by decide), zcl (show b < 12 by omega) (by decide), (eb b (by omega)).1] at ih
    by_cases g : I 66 k = m
    · rw [if_pos g] at ih; rw [if_pos g]
      cases hz : wa.testBit b
      · rw [hz] at ih
        simp only [Bool.false_eq_true, and_self, and_true, true_and, if_true, if_false, not_true, not_false_iff, not_true_eq_false, not_false_eq_true, ite_true, ite_false] at ih ⊢; exact ih
      · rw [hz] at ih
        simp only [(by decide : ((1 : Int32) = 0) = False), and_self, and_true, true_and, if_true, if_false, not_true, not_false_iff, not_true_eq_false, not_false_eq_true, ite_true, ite_false] at ih ⊢; exact ih
    · rw [if_neg g] at ih; rw [if_neg g]; exact ih
  · have h1 : nI w ≤ nI w := nI_le (Nat.le_refl _) (by omega)
    simp only [u_X11_crossed_13]
    simp only [u_X11_crossed_0, u_X11_crossed_1, u_X11_crossed_4, u_X11_crossed_7, u_X11_crossed_8, u_X11_crossed_9, u_X11_crossed_10, u_X11_crossed_11, u_X11_crossed_12, u_X11_crossed_14, u_X11_crossed_15, u_X11_crossed_18, u_X11_crossed_21, u_X11_crossed_22, u_X11_crossed_23, u_X11_crossed_26, u_X11_crossed_27, u_X11_crossed_28, u_X11_crossed_29, u_X11_crossed_32, u_X11_crossed_33, u_X11_crossed_36, u_X11_crossed_38, u_X11_crossed_39, u_X11_crossed_42, u_X11_crossed_43, u_X11_crossed_44, u_X11_crossed_45, u_X11_crossed_46, u_X11_crossed_49, u_X11_crossed_50, u_X11_crossed_51, u_X11_crossed_52, u_X11_crossed_53, u_X11_crossed_56, u_X11_crossed_57, u_X11_crossed_60, u_X11_crossed_61, u_X11_crossed_62, u_X11_crossed_63, u_X11_crossed_66, u_X11_crossed_69, u_X11_crossed_70, az_un_i, az_un_r, az_un_n, az_un_l, Option.toList_some, Option.toList_none, List.cons_append, List.nil_append, List.length_cons, List.length_nil, Nat.reduceLeDiff, Nat.reduceAdd, Nat.zero_le, Nat.zero_add, and_true, true_and, zb_1, eq_self, hn, h1, if_true]
end S
theorem op_crossed (x : Int32) : zOp 118 192 [.int x] := by
  intro I L hI
  have hI0 := hI
  obtain ⟨hP, hC, hS, ⟨t, e, hB⟩, ⟨nl, hL⟩, ⟨nr, hR⟩, n, c, w, hD, hW, hX, hF⟩ := hI
  by_cases hb : 0 ≤ x.toInt ∧ x.toInt ≤ 29
  · exact ⟨_, I, L, I, L, s_X10_crossed (d := 5) hW hD.1 hX hb, s_X11_crossed (d := 5) hW hD.1 hX hb, hI0⟩
  · exact ⟨_, I, L, I, L, s_X10_crossed_bad (d := 5) hb, s_X11_crossed_bad (d := 5) hb, hI0⟩
theorem op_wall (x y q : Int32) (hq : q = 0 ∨ q = 1) : zOp 117 191 [.int x, .int y, .int q] := by
  intro I L hI
  have hI0 := hI
  obtain ⟨hP, hC, hS, ⟨t, e, hB⟩, ⟨nl, hL⟩, ⟨nr, hR⟩, n, c, w, hD, hW, hX, hF⟩ := hI
  have hn := hD.1
  by_cases hb : (0 ≤ x.toInt ∧ x.toInt < (n : Int)) ∧ (0 ≤ y.toInt ∧ y.toInt < (n : Int)) ∧ ¬ x = y
  · obtain ⟨h1, h2, h3⟩ := hb
    obtain ⟨a, ha, rfl⟩ := znatlt h1.1 h1.2 (by omega)
    obtain ⟨b, hb, rfl⟩ := znatlt h2.1 h2.2 (by omega)
    have hab : a ≠ b := fun z => h3 (by rw [z])
    by_cases hh : I 50 a = I 50 b
    · obtain ⟨wa, hwa, ea, ra⟩ := hX a (by omega)
      obtain ⟨wb, hwb, eb, rb⟩ := hX b (by omega)
      have sab : zbt wb a = zbt wa b := (rb a (by omega)).1.symm.trans ((ra b (by omega)).2.symm.trans (ra b (by omega)).1)
      by_cases hs : zbt wa b = q
      · obtain ⟨J, hJ⟩ : ∃ J, J = az_uI (az_uI I 123 (12 * a + b) q) 123 (12 * b + a) q := ⟨_, rfl⟩
        have eJ : J = I := by
          rw [hJ]; funext b' j'
          simp only [az_uI_at]
          by_cases g1 : b' = 123 ∧ j' = 12 * b + a
          · rw [if_pos g1, g1.1, g1.2, (rb a (by omega)).1]; exact hs.symm.trans sab.symm
          · rw [if_neg g1]
            by_cases g2 : b' = 123 ∧ j' = 12 * a + b
            · rw [if_pos g2, g2.1, g2.2, (ra b (by omega)).1]; exact hs.symm
            · rw [if_neg g2]
        refine ⟨zbt wa b, I, L, I, L, s_X10_wall (d := 5) hD.2.1 hn ha hb hab hh (s_X9_setWall_same (d := 7) (by omega) (by omega) ea hwa hs), ?_, hI0⟩
        have := s_X11_wall (d := 5) (I := I) (L := L) (w := wa) hD.2.2.1 hn ha hb hab (by rw [← hD.2.2.2.1]; exact hh) (ra b (by omega)).1 hq
        rw [← hJ, eJ] at this
        exact this
      · obtain ⟨I1, hI1⟩ : ∃ I1, I1 = az_uI (az_uI I 68 a (nI (wa ^^^ 2 ^ b))) 68 b (nI (wb ^^^ 2 ^ a)) := ⟨_, rfl⟩
        obtain ⟨J, hJ⟩ : ∃ J, J = az_uI (az_uI I1 123 (12 * a + b) q) 123 (12 * b + a) q := ⟨_, rfl⟩
        have f1 : ∀ x j, ¬ x = 68 → I1 x j = I x j := fun x j hz => by rw [hI1, zu_ne hz, zu_ne hz]
        have f2 : ∀ x j, ¬ x = 123 → J x j = I1 x j := fun x j hz => by rw [hJ, zu_ne hz, zu_ne hz]
        have ff : ∀ x j, ¬ (x = 68 ∨ x = 123) → J x j = I x j := fun x j hz => by rw [f2 x j (by omega), f1 x j (by omega)]
        refine ⟨zbt wa b, I1, L, J, L, s_X10_wall (d := 5) hD.2.1 hn ha hb hab hh (hI1 ▸ s_X9_setWall (d := 7) (by omega) (by omega) hab ea hwa eb hs), ?_, ?_⟩
        · rw [hJ]
          refine s_X11_wall (d := 5) (I := I1) (L := L) (w := wa) (by rw [f1 _ _ (by omega)]; exact hD.2.2.1) hn ha hb hab ?_ ?_ hq
          · rw [f1 _ _ (by omega), f1 _ _ (by omega), ← hD.2.2.2.1]; exact hh
          · rw [f1 _ _ (by omega)]; exact (ra b (by omega)).1
        · have J68 : ∀ k, J 68 k = if k = b then nI (wb ^^^ 2 ^ a) else if k = a then nI (wa ^^^ 2 ^ b) else I 68 k := fun k => by
            rw [f2 _ _ (by omega), hI1]; simp only [az_uI_at, true_and]
          have J123 : ∀ a' b', a' < 12 → b' < 12 → J 123 (12 * a' + b') = if (a' = a ∧ b' = b) ∨ (a' = b ∧ b' = a) then q else I 123 (12 * a' + b') := fun a' b' h1 h2 => by
            rw [hJ]; simp only [az_uI_at, true_and]
            by_cases g1 : a' = b ∧ b' = a
            · rw [if_pos (by omega), if_pos (Or.inr g1)]
            · rw [if_neg (by omega)]
              by_cases g2 : a' = a ∧ b' = b
              · rw [if_pos (by omega), if_pos (Or.inl g2)]
              · rw [if_neg (by omega), if_neg (by omega), f1 _ _ (by omega)]
          have hqn : ∀ w b : Nat, ¬ zbt w b = q → q = if !w.testBit b then 1 else 0 := fun w b hz => by
            unfold zbt at hz
            rcases hq with rfl | rfl <;> cases hw : w.testBit b <;> rw [hw] at hz <;> simp at hz ⊢
          have hXn : zvX J n := fun a' ha' => by
            obtain ⟨w', hw', e', r'⟩ := hX a' ha'
            have sy : ∀ b', b' < 12 → J 123 (12 * a' + b') = J 123 (12 * b' + a') := fun b' hb' => by
              rw [J123 a' b' ha' hb', J123 b' a' hb' ha']
              by_cases g : (a' = a ∧ b' = b) ∨ (a' = b ∧ b' = a)
              · rw [if_pos g, if_pos (by omega)]
              · rw [if_neg g, if_neg (by omega)]; exact (r' b' hb').2
            by_cases g1 : a' = b
            · refine ⟨wb ^^^ 2 ^ a, Nat.xor_lt_two_pow (n := 12) hwb (Nat.pow_lt_pow_right (by decide) (by omega)), by rw [J68, if_pos g1], fun b' hb' => ⟨?_, sy b' hb'⟩⟩
              rw [J123 a' b' ha' hb', Nat.testBit_xor, Nat.testBit_two_pow]
              by_cases g2 : b' = a
              · rw [if_pos (by omega)]
                subst g2
                have := hqn wb b' (by rw [sab]; exact hs)
                simpa using this
              · rw [if_neg (by omega), decide_eq_false (by omega)]
                subst g1
                rw [(rb b' hb').1]; simp
            · by_cases g3 : a' = a
              · refine ⟨wa ^^^ 2 ^ b, Nat.xor_lt_two_pow (n := 12) hwa (Nat.pow_lt_pow_right (by decide) (by omega)), by rw [J68, if_neg g1, if_pos g3], fun b' hb' => ⟨?_, sy b' hb'⟩⟩
                rw [J123 a' b' ha' hb', Nat.testBit_xor, Nat.testBit_two_pow]
                by_cases g2 : b' = b
                · rw [if_pos (by omega)]
                  subst g2
                  have := hqn wa b' hs
                  simpa using this
                · rw [if_neg (by omega), decide_eq_false (by omega)]
                  subst g3
                  rw [(ra b' hb').1]; simp
              · refine ⟨w', hw', by rw [J68, if_neg g1, if_neg g3]; exact e', fun b' hb' => ⟨?_, sy b' hb'⟩⟩
                rw [J123 a' b' ha' hb', if_neg (by omega)]
                exact (r' b' hb').1
          exact ⟨(hP.fr (fun m hm => funext fun j => ff _ j (by omega)) (funext fun j => ff _ j (by omega))), (hC.fr (funext fun j => ff _ j (by omega)) (funext fun j => ff _ j (by omega)) (funext fun j => ff _ j (by omega))), (hS.fr (funext fun j => ff _ j (by omega)) (funext fun j => ff _ j (by omega)) (funext fun j => ff _ j (by omega)) (funext fun j => ff _ j (by omega)) (funext fun j => ff _ j (by omega)) (fun s hs => funext fun j => ff _ j (by omega))), ⟨t, e, (hB.fr (ff _ _ (by omega)) (ff _ _ (by omega)) (ff _ _ (by omega)) (ff _ _ (by omega)) (funext fun j => ff _ j (by omega)) (funext fun j => ff _ j (by omega)) (funext fun j => ff _ j (by omega)) (funext fun j => ff _ j (by omega)) (funext fun j => ff _ j (by omega)) (fun k hk => funext fun j => ff _ j (by omega)))⟩, ⟨nl, (hL.fr (ff _ _ (by omega)) (ff _ _ (by omega)) (fun k h1 h2 => funext fun j => ff _ j (by omega)) (fun k h1 h2 => funext fun j => ff _ j (by omega)))⟩, ⟨nr, (hR.fr (ff _ _ (by omega)) (ff _ _ (by omega)) (funext fun j => ff _ j (by omega)) (funext fun j => ff _ j (by omega)) (funext fun j => ff _ j (by omega)) (funext fun j => ff _ j (by omega)))⟩, n, c, w, (hD.fr (ff _ _ (by omega)) (ff _ _ (by omega)) (ff _ _ (by omega)) (ff _ _ (by omega)) (fun k h1 h2 => funext fun j => ff _ j (by omega)) (fun k h1 h2 => funext fun j => ff _ j (by omega))), (hW.fr (ff _ _ (by omega)) (ff _ _ (by omega)) (fun k h1 h2 => funext fun j => ff _ j (by omega)) (fun k h1 h2 => funext fun j => ff _ j (by omega))), (hXn), (hF.fr (fun a ha => funext fun j => ff _ j (by omega)) (funext fun j => ff _ j (by omega)))⟩
    · exact ⟨_, I, L, I, L, s_X10_wall_bad2 (d := 5) hD.2.1 hn ha hb hab hh, s_X11_wall_bad2 (d := 5) hD.2.2.1 hn ha hb hab (by rw [← hD.2.2.2.1]; exact hh), hI0⟩
  · exact ⟨_, I, L, I, L, s_X10_wall_bad1 (d := 5) hD.2.1 hn hb, s_X11_wall_bad1 (d := 5) hD.2.2.1 hn hb, hI0⟩
