/-! ===== said, count, owe, net ===== -/
section S
variable {d : Nat} {I : Nat → Nat → Int32} {L : Nat → Nat → Int64} {h : az_H}
theorem s_X10_said {k m : Nat} (hk : k < 8) (hm : m < 30) : zD (d + 3) 91 [.ref 0, .int (nI k), .int (nI m)] (130, az_Pf, I, L) (some (.int (I (4 + m) k))) (130, az_Pf, I, L) := by
  refine zD_of zm_X10_said rfl ?_
  show az_W _ _ _ 0 [.ref 0, .int (nI k), .int (nI m)] [] _
  have h1 : (0 ≤ (nI k).toInt ∧ (nI k).toInt ≤ 7) = True := eq_true (by rw [nI_toInt (by omega)]; omega)
  have h2 : (0 ≤ (nI m).toInt ∧ (nI m).toInt ≤ 29) = True := eq_true (by rw [nI_toInt (by omega)]; omega)
  simp only [u_X10_said_0, u_X10_said_1, u_X10_said_4, u_X10_said_7, u_X10_said_8, u_X10_said_11, u_X10_said_14, u_X10_said_16, u_X10_said_17, u_X10_said_18, u_X10_said_21, u_X10_said_22, u_X10_said_23, u_X10_said_26, az_un_i, az_un_r, az_un_n, az_un_l, Option.toList_some, Option.toList_none, List.cons_append, List.nil_append, List.length_cons, List.length_nil, Nat.reduceLeDiff, Nat.reduceAdd, Nat.zero_le, Nat.zero_add, and_true, true_and, zb_1, eq_self, az_call s_X10_isHouse, az_call s_X10_isMorning, zb_0, h1, h2, and_self, and_true, true_and, if_true, if_false, not_true, not_false_iff, not_true_eq_false, not_false_eq_true, ite_true, ite_false, az_call (s_X4_heard hk hm)]
theorem s_X10_said_bad {x y : Int32} (hb : ¬ ((0 ≤ x.toInt ∧ x.toInt ≤ 7) ∧ (0 ≤ y.toInt ∧ y.toInt ≤ 29))) : zD (d + 3) 91 [.ref 0, .int x, .int y] (130, az_Pf, I, L) (some (.int (-11))) (130, az_Pf, I, L) := by
  refine zD_of zm_X10_said rfl ?_
  show az_W _ _ _ 0 [.ref 0, .int x, .int y] [] _
  simp only [u_X10_said_0, u_X10_said_1, u_X10_said_4, u_X10_said_7, u_X10_said_8, u_X10_said_11, u_X10_said_14, u_X10_said_16, u_X10_said_17, u_X10_said_18, u_X10_said_21, u_X10_said_22, u_X10_said_23, u_X10_said_26, az_un_i, az_un_r, az_un_n, az_un_l, Option.toList_some, Option.toList_none, List.cons_append, List.nil_append, List.length_cons, List.length_nil, Nat.reduceLeDiff, Nat.reduceAdd, Nat.zero_le, Nat.zero_add, and_true, true_and, zb_1, eq_self, az_call s_X10_isHouse, az_call s_X10_isMorning, zb_0]
  by_cases h1 : 0 ≤ x.toInt ∧ x.toInt ≤ 7 <;> by_cases h2 : 0 ≤ y.toInt ∧ y.toInt ≤ 29 <;> simp only [h1, h2, and_self, and_true, true_and, if_true, if_false, not_true, not_false_iff, not_true_eq_false, not_false_eq_true, ite_true, ite_false]
  exact absurd ⟨h1, h2⟩ hb
theorem s_X11_said {k m : Nat} (hk : k < 8) (hm : m < 30) : zD (d + 3) 148 [.ref 97, .int (nI k), .int (nI m)] (130, az_Pf, I, L) (some (.int (I 98 (8 * m + k)))) (130, az_Pf, I, L) := by
  refine zD_of zm_X11_said rfl ?_
  show az_W _ _ _ 0 [.ref 97, .int (nI k), .int (nI m)] [] _
  have h1 : (0 ≤ (nI k).toInt ∧ (nI k).toInt ≤ 7) = True := eq_true (by rw [nI_toInt (by omega)]; omega)
  have h2 : (0 ≤ (nI m).toInt ∧ (nI m).toInt ≤ 29) = True := eq_true (by rw [nI_toInt (by omega)]; omega)
  simp only [u_X11_said_0, u_X11_said_1, u_X11_said_4, u_X11_said_7, u_X11_said_8, u_X11_said_11, u_X11_said_14, u_X11_said_15, u_X11_said_18, u_X11_said_20, u_X11_said_21, u_X11_said_22, u_X11_said_23, u_X11_said_24, u_X11_said_25, u_X11_said_28, u_X11_said_30, az_un_i, az_un_r, az_un_n, az_un_l, Option.toList_some, Option.toList_none, List.cons_append, List.nil_append, List.length_cons, List.length_nil, Nat.reduceLeDiff, Nat.reduceAdd, Nat.zero_le, Nat.zero_add, and_true, true_and, zb_1, eq_self, az_call s_X11_isHouse, az_call s_X11_isMorning, zb_0, h1, h2, and_self, and_true, true_and, if_true, if_false, not_true, not_false_iff, not_true_eq_false, not_false_eq_true, ite_true, ite_false, z8m, kx_98, zinT (show 8 * m + k < 240 by omega) (by decide), zcl (show 8 * m + k < 240 by omega) (by decide)]
theorem s_X11_said_bad {x y : Int32} (hb : ¬ ((0 ≤ x.toInt ∧ x.toInt ≤ 7) ∧ (0 ≤ y.toInt ∧ y.toInt ≤ 29))) : zD (d + 3) 148 [.ref 97, .int x, .int y] (130, az_Pf, I, L) (some (.int (-11))) (130, az_Pf, I, L) := by
  refine zD_of zm_X11_said rfl ?_
  show az_W _ _ _ 0 [.ref 97, .int x, .int y] [] _
  simp only [u_X11_said_0, u_X11_said_1, u_X11_said_4, u_X11_said_7, u_X11_said_8, u_X11_said_11, u_X11_said_14, u_X11_said_15, u_X11_said_18, u_X11_said_20, u_X11_said_21, u_X11_said_22, u_X11_said_23, u_X11_said_24, u_X11_said_25, u_X11_said_28, u_X11_said_30, az_un_i, az_un_r, az_un_n, az_un_l, Option.toList_some, Option.toList_none, List.cons_append, List.nil_append, List.length_cons, List.length_nil, Nat.reduceLeDiff, Nat.reduceAdd, Nat.zero_le, Nat.zero_add, and_true, true_and, zb_1, eq_self, az_call s_X11_isHouse, az_call s_X11_isMorning, zb_0]
  by_cases h1 : 0 ≤ x.toInt ∧ x.toInt ≤ 7 <;> by_cases h2 : 0 ≤ y.toInt ∧ y.toInt ≤ 29 <;> simp only [h1, h2, and_self, and_true, true_and, if_true, if_false, not_true, not_false_iff, not_true_eq_false, not_false_eq_true, ite_true, ite_false]
  exact absurd ⟨h1, h2⟩ hb
theorem s_X3_rowCount  : zD (d + 1) 27 [.ref 56] (130, az_Pf, I, L) (some (.int (I 56 3))) (130, az_Pf, I, L) := by
  refine zD_of zm_X3_rowCount rfl ?_
  show az_W _ _ _ 0 [.ref 56] [] _
  simp only [u_X3_rowCount_0, u_X3_rowCount_1, u_X3_rowCount_4, az_un_i, az_un_r, az_un_n, az_un_l, Option.toList_some, Option.toList_none, List.cons_append, List.nil_append, List.length_cons, List.length_nil, Nat.reduceLeDiff, Nat.reduceAdd, Nat.zero_le, Nat.zero_add, and_true, true_and, zb_1, eq_self]
theorem s_X7_runCount  : zD (d + 1) 67 [.ref 60] (130, az_Pf, I, L) (some (.int (I 60 2))) (130, az_Pf, I, L) := by
  refine zD_of zm_X7_runCount rfl ?_
  show az_W _ _ _ 0 [.ref 60] [] _
  simp only [u_X7_runCount_0, u_X7_runCount_1, u_X7_runCount_4, az_un_i, az_un_r, az_un_n, az_un_l, Option.toList_some, Option.toList_none, List.cons_append, List.nil_append, List.length_cons, List.length_nil, Nat.reduceLeDiff, Nat.reduceAdd, Nat.zero_le, Nat.zero_add, and_true, true_and, zb_1, eq_self]
theorem s_X9_wordCount  : zD (d + 1) 81 [.ref 63] (130, az_Pf, I, L) (some (.int (I 63 4))) (130, az_Pf, I, L) := by
  refine zD_of zm_X9_wordCount rfl ?_
  show az_W _ _ _ 0 [.ref 63] [] _
  simp only [u_X9_wordCount_0, u_X9_wordCount_1, u_X9_wordCount_4, az_un_i, az_un_r, az_un_n, az_un_l, Option.toList_some, Option.toList_none, List.cons_append, List.nil_append, List.length_cons, List.length_nil, Nat.reduceLeDiff, Nat.reduceAdd, Nat.zero_le, Nat.zero_add, and_true, true_and, zb_1, eq_self]
theorem s_X6_editionCount  : zD (d + 1) 57 [.ref 35] (130, az_Pf, I, L) (some (.int (I 35 4))) (130, az_Pf, I, L) := by
  refine zD_of zm_X6_editionCount rfl ?_
  show az_W _ _ _ 0 [.ref 35] [] _
  simp only [u_X6_editionCount_0, u_X6_editionCount_1, u_X6_editionCount_4, az_un_i, az_un_r, az_un_n, az_un_l, Option.toList_some, Option.toList_none, List.cons_append, List.nil_append, List.length_cons, List.length_nil, Nat.reduceLeDiff, Nat.reduceAdd, Nat.zero_le, Nat.zero_add, and_true, true_and, zb_1, eq_self]
def zcnt (I : Nat → Nat → Int32) (x : Int32) : Int32 := if x = 0 then I 97 17 else if x = 1 then I 97 19 else if x = 2 then I 97 25 else if x = 3 then I 97 31 else if x = 4 then I 97 34 else if x = 5 then I 97 4 else -1
theorem s_X10_count {x : Int32} (h0 : I 49 1 = I 97 17) (h1 : I 49 7 = I 97 19) (h2 : I 56 3 = I 97 25) (h3 : I 60 2 = I 97 31) (h4 : I 63 4 = I 97 34) (h5 : I 35 4 = I 97 4) : zD (d + 3) 106 [.ref 0, .int x] (130, az_Pf, I, L) (some (.int (zcnt I x))) (130, az_Pf, I, L) := by
  refine zD_of zm_X10_count rfl ?_
  show az_W _ _ _ 0 [.ref 0, .int x] [] _
  simp only [u_X10_count_0, u_X10_count_1, az_pick]
  unfold zcnt
  by_cases g0 : x = 0
  · rw [if_pos g0]
    simp only [g0, (by decide : ((0 : Int32) = 0) = True), (by decide : ((0 : Int32) = 1) = False), (by decide : ((0 : Int32) = 2) = False), (by decide : ((0 : Int32) = 3) = False), (by decide : ((0 : Int32) = 4) = False), (by decide : ((0 : Int32) = 5) = False), and_self, and_true, true_and, if_true, if_false, not_true, not_false_iff, not_true_eq_false, not_false_eq_true, ite_true, ite_false, u_X10_count_0, u_X10_count_1, u_X10_count_40, u_X10_count_41, u_X10_count_44, u_X10_count_47, u_X10_count_48, u_X10_count_49, u_X10_count_52, u_X10_count_55, u_X10_count_56, u_X10_count_57, u_X10_count_60, u_X10_count_63, u_X10_count_64, u_X10_count_65, u_X10_count_68, u_X10_count_71, u_X10_count_72, u_X10_count_73, u_X10_count_76, u_X10_count_79, u_X10_count_80, u_X10_count_81, u_X10_count_84, u_X10_count_87, u_X10_count_88, u_X10_count_89, az_un_i, az_un_r, az_un_n, az_un_l, Option.toList_some, Option.toList_none, List.cons_append, List.nil_append, List.length_cons, List.length_nil, Nat.reduceLeDiff, Nat.reduceAdd, Nat.zero_le, Nat.zero_add, and_true, true_and, zb_1, eq_self, az_call s_X0_deskCount, h0]
  by_cases g1 : x = 1
  · rw [if_neg g0, if_pos g1]
    simp only [g1, (by decide : ((1 : Int32) = 0) = False), (by decide : ((1 : Int32) = 1) = True), (by decide : ((1 : Int32) = 2) = False), (by decide : ((1 : Int32) = 3) = False), (by decide : ((1 : Int32) = 4) = False), (by decide : ((1 : Int32) = 5) = False), and_self, and_true, true_and, if_true, if_false, not_true, not_false_iff, not_true_eq_false, not_false_eq_true, ite_true, ite_false, u_X10_count_0, u_X10_count_1, u_X10_count_40, u_X10_count_41, u_X10_count_44, u_X10_count_47, u_X10_count_48, u_X10_count_49, u_X10_count_52, u_X10_count_55, u_X10_count_56, u_X10_count_57, u_X10_count_60, u_X10_count_63, u_X10_count_64, u_X10_count_65, u_X10_count_68, u_X10_count_71, u_X10_count_72, u_X10_count_73, u_X10_count_76, u_X10_count_79, u_X10_count_80, u_X10_count_81, u_X10_count_84, u_X10_count_87, u_X10_count_88, u_X10_count_89, az_un_i, az_un_r, az_un_n, az_un_l, Option.toList_some, Option.toList_none, List.cons_append, List.nil_append, List.length_cons, List.length_nil, Nat.reduceLeDiff, Nat.reduceAdd, Nat.zero_le, Nat.zero_add, and_true, true_and, zb_1, eq_self, az_call s_X0_contractCount, h1]
  by_cases g2 : x = 2
  · rw [if_neg g0, if_neg g1, if_pos g2]
    simp only [g2, (by decide : ((2 : Int32) = 0) = False), (by decide : ((2 : Int32) = 1) = False), (by decide : ((2 : Int32) = 2) = True), (by decide : ((2 : Int32) = 3) = False), (by decide : ((2 : Int32) = 4) = False), (by decide : ((2 : Int32) = 5) = False), and_self, and_true, true_and, if_true, if_false, not_true, not_false_iff, not_true_eq_false, not_false_eq_true, ite_true, ite_false, u_X10_count_0, u_X10_count_1, u_X10_count_40, u_X10_count_41, u_X10_count_44, u_X10_count_47, u_X10_count_48, u_X10_count_49, u_X10_count_52, u_X10_count_55, u_X10_count_56, u_X10_count_57, u_X10_count_60, u_X10_count_63, u_X10_count_64, u_X10_count_65, u_X10_count_68, u_X10_count_71, u_X10_count_72, u_X10_count_73, u_X10_count_76, u_X10_count_79, u_X10_count_80, u_X10_count_81, u_X10_count_84, u_X10_count_87, u_X10_count_88, u_X10_count_89, az_un_i, az_un_r, az_un_n, az_un_l, Option.toList_some, Option.toList_none, List.cons_append, List.nil_append, List.length_cons, List.length_nil, Nat.reduceLeDiff, Nat.reduceAdd, Nat.zero_le, Nat.zero_add, and_true, true_and, zb_1, eq_self, az_call s_X3_rowCount, h2]
  by_cases g3 : x = 3
  · rw [if_neg g0, if_neg g1, if_neg g2, if_pos g3]
    simp only [g3, (by decide : ((3 : Int32) = 0) = False), (by decide : ((3 : Int32) = 1) = False), (by decide : ((3 : Int32) = 2) = False), (by decide : ((3 : Int32) = 3) = True), (by decide : ((3 : Int32) = 4) = False), (by decide : ((3 : Int32) = 5) = False), and_self, and_true, true_and, if_true, if_false, not_true, not_false_iff, not_true_eq_false, not_false_eq_true, ite_true, ite_false, u_X10_count_0, u_X10_count_1, u_X10_count_40, u_X10_count_41, u_X10_count_44, u_X10_count_47, u_X10_count_48, u_X10_count_49, u_X10_count_52, u_X10_count_55, u_X10_count_56, u_X10_count_57, u_X10_count_60, u_X10_count_63, u_X10_count_64, u_X10_count_65, u_X10_count_68, u_X10_count_71, u_X10_count_72, u_X10_count_73, u_X10_count_76, u_X10_count_79, u_X10_count_80, u_X10_count_81, u_X10_count_84, u_X10_count_87, u_X10_count_88, u_X10_count_89, az_un_i, az_un_r, az_un_n, az_un_l, Option.toList_some, Option.toList_none, List.cons_append, List.nil_append, List.length_cons, List.length_nil, Nat.reduceLeDiff, Nat.reduceAdd, Nat.zero_le, Nat.zero_add, and_true, true_and, zb_1, eq_self, az_call s_X7_runCount, h3]
  by_cases g4 : x = 4
  · rw [if_neg g0, if_neg g1, if_neg g2, if_neg g3, if_pos g4]
    simp only [g4, (by decide : ((4 : Int32) = 0) = False), (by decide : ((4 : Int32) = 1) = False), (by decide : ((4 : Int32) = 2) = False), (by decide : ((4 : Int32) = 3) = False), (by decide : ((4 : Int32) = 4) = True), (by decide : ((4 : Int32) = 5) = False), and_self, and_true, true_and, if_true, if_false, not_true, not_false_iff, not_true_eq_false, not_false_eq_true, ite_true, ite_false, u_X10_count_0, u_X10_count_1, u_X10_count_40, u_X10_count_41, u_X10_count_44, u_X10_count_47, u_X10_count_48, u_X10_count_49, u_X10_count_52, u_X10_count_55, u_X10_count_56, u_X10_count_57, u_X10_count_60, u_X10_count_63, u_X10_count_64, u_X10_count_65, u_X10_count_68, u_X10_count_71, u_X10_count_72, u_X10_count_73, u_X10_count_76, u_X10_count_79, u_X10_count_80, u_X10_count_81, u_X10_count_84, u_X10_count_87, u_X10_count_88, u_X10_count_89, az_un_i, az_un_r, az_un_n, az_un_l, Option.toList_some, Option.toList_none, List.cons_append, List.nil_append, List.length_cons, List.length_nil, Nat.reduceLeDiff, Nat.reduceAdd, Nat.zero_le, Nat.zero_add, and_true, true_and, zb_1, eq_self, az_call s_X9_wordCount, h4]
  by_cases g5 : x = 5
  · rw [if_neg g0, if_neg g1, if_neg g2, if_neg g3, if_neg g4, if_pos g5]
    simp only [g5, (by decide : ((5 : Int32) = 0) = False), (by decide : ((5 : Int32) = 1) = False), (by decide : ((5 : Int32) = 2) = False), (by decide : ((5 : Int32) = 3) = False), (by decide : ((5 : Int32) = 4) = False), (by decide : ((5 : Int32) = 5) = True), and_self, and_true, true_and, if_true, if_false, not_true, not_false_iff, not_true_eq_false, not_false_eq_true, ite_true, ite_false, u_X10_count_0, u_X10_count_1, u_X10_count_40, u_X10_count_41, u_X10_count_44, u_X10_count_47, u_X10_count_48, u_X10_count_49, u_X10_count_52, u_X10_count_55, u_X10_count_56, u_X10_count_57, u_X10_count_60, u_X10_count_63, u_X10_count_64, u_X10_count_65, u_X10_count_68, u_X10_count_71, u_X10_count_72, u_X10_count_73, u_X10_count_76, u_X10_count_79, u_X10_count_80, u_X10_count_81, u_X10_count_84, u_X10_count_87, u_X10_count_88, u_X10_count_89, az_un_i, az_un_r, az_un_n, az_un_l, Option.toList_some, Option.toList_none, List.cons_append, List.nil_append, List.length_cons, List.length_nil, Nat.reduceLeDiff, Nat.reduceAdd, Nat.zero_le, Nat.zero_add, and_true, true_and, zb_1, eq_self, az_call s_X6_editionCount, h5]
  simp only [g0, g1, g2, g3, g4, g5, and_self, and_true, true_and, if_true, if_false, not_true, not_false_iff, not_true_eq_false, not_false_eq_true, ite_true, ite_false, u_X10_count_0, u_X10_count_1, u_X10_count_40, u_X10_count_41, u_X10_count_44, u_X10_count_47, u_X10_count_48, u_X10_count_49, u_X10_count_52, u_X10_count_55, u_X10_count_56, u_X10_count_57, u_X10_count_60, u_X10_count_63, u_X10_count_64, u_X10_count_65, u_X10_count_68, u_X10_count_71, u_X10_count_72, u_X10_count_73, u_X10_count_76, u_X10_count_79, u_X10_count_80, u_X10_count_81, u_X10_count_84, u_X10_count_87, u_X10_count_88, u_X10_count_89, az_un_i, az_un_r, az_un_n, az_un_l, Option.toList_some, Option.toList_none, List.cons_append, List.nil_append, List.length_cons, List.length_nil, Nat.reduceLeDiff, Nat.reduceAdd, Nat.zero_le, Nat.zero_add, and_true, true_and, zb_1, eq_self]
theorem s_X11_count {x : Int32} : zD (d + 3) 175 [.ref 97, .int x] (130, az_Pf, I, L) (some (.int (zcnt I x))) (130, az_Pf, I, L) := by
  refine zD_of zm_X11_count rfl ?_
  show az_W _ _ _ 0 [.ref 97, .int x] [] _
  simp only [u_X11_count_0, u_X11_count_1, u_X11_count_2, u_X11_count_3, u_X11_count_6, u_X11_count_9, u_X11_count_12, u_X11_count_13, u_X11_count_14, u_X11_count_15, u_X11_count_18, u_X11_count_19, u_X11_count_22, u_X11_count_25, u_X11_count_26, u_X11_count_27, u_X11_count_30, u_X11_count_31, u_X11_count_34, u_X11_count_37, u_X11_count_38, u_X11_count_39, u_X11_count_42, u_X11_count_43, u_X11_count_46, u_X11_count_49, u_X11_count_50, u_X11_count_51, u_X11_count_54, u_X11_count_55, u_X11_count_58, u_X11_count_61, u_X11_count_62, u_X11_count_63, u_X11_count_66, u_X11_count_67, u_X11_count_70, u_X11_count_73, u_X11_count_74, u_X11_count_77, az_un_i, az_un_r, az_un_n, az_un_l, Option.toList_some, Option.toList_none, List.cons_append, List.nil_append, List.length_cons, List.length_nil, Nat.reduceLeDiff, Nat.reduceAdd, Nat.zero_le, Nat.zero_add, and_true, true_and, zb_1, eq_self, az_call s_X11_in, z64, zj_0, zj_5, zb_0]
  unfold zcnt
  have key : ∀ k : Int, -2147483648 ≤ k → k < 2147483648 → x.toInt = k → x = Int32.ofInt k := fun k h1 h2 h3 => Int32.toInt_inj.mp (by rw [Int32.toInt_ofInt_of_le (by omega) (by omega)]; exact h3)
  by_cases hx : 0 ≤ x.toInt ∧ x.toInt ≤ 5
  · have h6 : x = 0 ∨ x = 1 ∨ x = 2 ∨ x = 3 ∨ x = 4 ∨ x = 5 := by
      obtain ⟨k, hk, rfl⟩ := znat hx.1 (n := 5) hx.2 (by decide)
      rcases (show k = 0 ∨ k = 1 ∨ k = 2 ∨ k = 3 ∨ k = 4 ∨ k = 5 by omega) with rfl | rfl | rfl | rfl | rfl | rfl
      · exact Or.inl rfl
      · exact Or.inr (Or.inl rfl)
      · exact Or.inr (Or.inr (Or.inl rfl))
      · exact Or.inr (Or.inr (Or.inr (Or.inl rfl)))
      · exact Or.inr (Or.inr (Or.inr (Or.inr (Or.inl rfl))))
      · exact Or.inr (Or.inr (Or.inr (Or.inr (Or.inr rfl))))
    simp only [eq_true hx, and_self, and_true, true_and, if_true, if_false, not_true, not_false_iff, not_true_eq_false, not_false_eq_true, ite_true, ite_false]
    rcases h6 with rfl | rfl | rfl | rfl | rfl | rfl <;> simp
  · have g : ¬ x = 0 ∧ ¬ x = 1 ∧ ¬ x = 2 ∧ ¬ x = 3 ∧ ¬ x = 4 ∧ ¬ x = 5 := ⟨fun q => hx (by rw [q]; decide), fun q => hx (by rw [q]; decide), fun q => hx (by rw [q]; decide), fun q => hx (by rw [q]; decide), fun q => hx (by rw [q]; decide), fun q => hx (by rw [q]; decide)⟩
    simp only [eq_false hx, g.1, g.2.1, g.2.2.1, g.2.2.2.1, g.2.2.2.2.1, g.2.2.2.2.2, and_self, and_true, true_and, if_true, if_false, not_true, not_false_iff, not_true_eq_false, not_false_eq_true, ite_true, ite_false]
/-- favours -/
theorem s_X1_set {a b : Nat} {v : Int32} (ha : a < 12) (hb : b < 12) : zD (d + 1) 14 [.ref 71, .int (nI a), .int (nI b), .int v] (130, az_Pf, I, L) (some (.int (I (73 + a) b))) (130, az_Pf, az_uI I (73 + a) b v, L) := by
  refine zD_of zm_X1_set rfl ?_
  show az_W _ _ _ 0 [.ref 71, .int (nI a), .int (nI b), .int v, .null] [] _
  simp only [u_X1_set_0, u_X1_set_1, u_X1_set_4, u_X1_set_5, u_X1_set_6, u_X1_set_7, u_X1_set_8, u_X1_set_10, u_X1_set_11, u_X1_set_14, u_X1_set_15, u_X1_set_16, u_X1_set_17, u_X1_set_18, u_X1_set_19, u_X1_set_21, az_un_i, az_un_r, az_un_n, az_un_l, Option.toList_some, Option.toList_none, List.cons_append, List.nil_append, List.length_cons, List.length_nil, Nat.reduceLeDiff, Nat.reduceAdd, Nat.zero_le, Nat.zero_add, and_true, true_and, zb_1, eq_self, kx_72, zinT ha (by decide), zinT hb (by decide), zcl ha (by decide), zcl hb (by decide), pr_72 a ha, kr_72 a ha, Option.some.injEq, exists_eq_left', exists_eq_left]
theorem s_X1_balance {a : Nat} (ha : a < 12) : zD (d + 1) 15 [.ref 71, .int (nI a)] (130, az_Pf, I, L) (some (.int (zsum (fun b => I (73 + b) a - I (73 + a) b) 12))) (130, az_Pf, I, L) := by
  refine zD_of zm_X1_balance rfl ?_
  show az_W _ _ _ 0 [.ref 71, .int (nI a), .null, .null] [] _
  simp only [u_X1_balance_0, u_X1_balance_1, u_X1_balance_2, u_X1_balance_3, u_X1_balance_5, u_X1_balance_7, u_X1_balance_10, u_X1_balance_11, u_X1_balance_12, u_X1_balance_15, u_X1_balance_16, u_X1_balance_17, u_X1_balance_18, u_X1_balance_19, u_X1_balance_20, u_X1_balance_23, u_X1_balance_24, u_X1_balance_25, u_X1_balance_26, u_X1_balance_27, u_X1_balance_28, u_X1_balance_29, u_X1_balance_30, u_X1_balance_33, u_X1_balance_36, u_X1_balance_37, az_un_i, az_un_r, az_un_n, az_un_l, Option.toList_some, Option.toList_none, List.cons_append, List.nil_append, List.length_cons, List.length_nil, Nat.reduceLeDiff, Nat.reduceAdd, Nat.zero_le, Nat.zero_add, and_true, true_and, zb_1, eq_self]
  refine zloop (P := fun k => az_W (zD d) _ _ 4 [.ref 71, .int (nI a), .int (zsum (fun b => I (73 + b) a - I (73 + a) b) k), .int (nI k)] [] _) 12 (fun k hk ih => ?_) ?_ 0 (Nat.zero_le _)
  · have h1 : ¬ (12 : Int32) ≤ nI k := nI_ge (b := 12) hk (by decide)
    simp only [u_X1_balance_4]
    simp only [u_X1_balance_0, u_X1_balance_1, u_X1_balance_2, u_X1_balance_3, u_X1_balance_5, u_X1_balance_7, u_X1_balance_10, u_X1_balance_11, u_X1_balance_12, u_X1_balance_15, u_X1_balance_16, u_X1_balance_17, u_X1_balance_18, u_X1_balance_19, u_X1_balance_20, u_X1_balance_23, u_X1_balance_24, u_X1_balance_25, u_X1_balance_26, u_X1_balance_27, u_X1_balance_28, u_X1_balance_29, u_X1_balance_30, u_X1_balance_33, u_X1_balance_36, u_X1_balance_37, az_un_i, az_un_r, az_un_n, az_un_l, Option.toList_some, Option.toList_none, List.cons_append, List.nil_append, List.length_cons, List.length_nil, Nat.reduceLeDiff, Nat.reduceAdd, Nat.zero_le, Nat.zero_add, and_true, true_and, zb_1, eq_self, h1, if_false, kx_72, zinT ha (by decide), zinT hk (by decide), zcl ha (by decide), zcl hk (by decide), pr_72 a ha, kr_72 a ha, pr_72 k hk, kr_72 k hk, Option.some.injEq, exists_eq_left', exists_eq_left]
    rw [nI_succ] at ih
    exact ih
  · have h1 : (12 : Int32) ≤ nI 12 := by decide
    simp only [u_X1_balance_4]
    simp only [u_X1_balance_0, u_X1_balance_1, u_X1_balance_2, u_X1_balance_3, u_X1_balance_5, u_X1_balance_7, u_X1_balance_10, u_X1_balance_11, u_X1_balance_12, u_X1_balance_15, u_X1_balance_16, u_X1_balance_17, u_X1_balance_18, u_X1_balance_19, u_X1_balance_20, u_X1_balance_23, u_X1_balance_24, u_X1_balance_25, u_X1_balance_26, u_X1_balance_27, u_X1_balance_28, u_X1_balance_29, u_X1_balance_30, u_X1_balance_33, u_X1_balance_36, u_X1_balance_37, az_un_i, az_un_r, az_un_n, az_un_l, Option.toList_some, Option.toList_none, List.cons_append, List.nil_append, List.length_cons, List.length_nil, Nat.reduceLeDiff, Nat.reduceAdd, Nat.zero_le, Nat.zero_add, and_true, true_and, zb_1, eq_self, h1, if_true]
theorem s_X10_owe {a b : Nat} {v : Int32} {n : Nat} (hn : I 49 1 = nI n) (hle : n ≤ 12) (ha : a < n) (hb : b < n) (hab : ¬ nI a = nI b) (hv : 0 ≤ v.toInt ∧ v.toInt ≤ 99) : zD (d + 4) 121 [.ref 0, .int (nI a), .int (nI b), .int v] (130, az_Pf, I, L) (some (.int (I (73 + a) b))) (130, az_Pf, az_uI I (73 + a) b v, L) := by
  refine zD_of zm_X10_owe rfl ?_
  show az_W _ _ _ 0 [.ref 0, .int (nI a), .int (nI b), .int v] [] _
  have h1 : ((0 ≤ (nI a).toInt ∧ (nI a).toInt < (n : Int)) ∧ (0 ≤ (nI b).toInt ∧ (nI b).toInt < (n : Int)) ∧ ¬ nI a = nI b) = True := eq_true ⟨by rw [nI_toInt (by omega)]; omega, by rw [nI_toInt (by omega)]; omega, hab⟩
  simp only [u_X10_owe_0, u_X10_owe_1, u_X10_owe_4, u_X10_owe_5, u_X10_owe_6, u_X10_owe_9, u_X10_owe_12, u_X10_owe_13, u_X10_owe_14, u_X10_owe_16, u_X10_owe_19, u_X10_owe_22, u_X10_owe_23, u_X10_owe_24, u_X10_owe_25, u_X10_owe_28, u_X10_owe_29, u_X10_owe_30, u_X10_owe_31, u_X10_owe_34, az_un_i, az_un_r, az_un_n, az_un_l, Option.toList_some, Option.toList_none, List.cons_append, List.nil_append, List.length_cons, List.length_nil, Nat.reduceLeDiff, Nat.reduceAdd, Nat.zero_le, Nat.zero_add, and_true, true_and, zb_1, eq_self, az_call (s_X0_areTwoN hn hle), az_call s_X10_isIn, zb_0, h1, zl_0, zl_99, eq_true hv, and_self, and_true, true_and, if_true, if_false, not_true, not_false_iff, not_true_eq_false, not_false_eq_true, ite_true, ite_false, az_call (s_X1_set (show a < 12 by omega) (show b < 12 by omega))]
theorem s_X10_owe_bad {x y v : Int32} {n : Nat} (hn : I 49 1 = nI n) (hle : n ≤ 12) (hb : ¬ (((0 ≤ x.toInt ∧ x.toInt < (n : Int)) ∧ (0 ≤ y.toInt ∧ y.toInt < (n : Int)) ∧ ¬ x = y) ∧ (0 ≤ v.toInt ∧ v.toInt ≤ 99))) : zD (d + 4) 121 [.ref 0, .int x, .int y, .int v] (130, az_Pf, I, L) (some (.int (-1))) (130, az_Pf, I, L) := by
  refine zD_of zm_X10_owe rfl ?_
  show az_W _ _ _ 0 [.ref 0, .int x, .int y, .int v] [] _
  simp only [u_X10_owe_0, u_X10_owe_1, u_X10_owe_4, u_X10_owe_5, u_X10_owe_6, u_X10_owe_9, u_X10_owe_12, u_X10_owe_13, u_X10_owe_14, u_X10_owe_16, u_X10_owe_19, u_X10_owe_22, u_X10_owe_23, u_X10_owe_24, u_X10_owe_25, u_X10_owe_28, u_X10_owe_29, u_X10_owe_30, u_X10_owe_31, u_X10_owe_34, az_un_i, az_un_r, az_un_n, az_un_l, Option.toList_some, Option.toList_none, List.cons_append, List.nil_append, List.length_cons, List.length_nil, Nat.reduceLeDiff, Nat.reduceAdd, Nat.zero_le, Nat.zero_add, and_true, true_and, zb_1, eq_self, az_call (s_X0_areTwoN hn hle), az_call s_X10_isIn, zb_0, zl_0, zl_99]
  by_cases h1 : ((0 ≤ x.toInt ∧ x.toInt < (n : Int)) ∧ (0 ≤ y.toInt ∧ y.toInt < (n : Int)) ∧ ¬ x = y) <;> by_cases h2 : 0 ≤ v.toInt ∧ v.toInt ≤ 99 <;> simp only [h1, h2, and_self, and_true, true_and, if_true, if_false, not_true, not_false_iff, not_true_eq_false, not_false_eq_true, ite_true, ite_false]
  exact absurd ⟨h1, h2⟩ hb
theorem s_X11_owe {a b : Nat} {v : Int32} {n : Nat} (hn : I 97 17 = nI n) (hle : n ≤ 12) (ha : a < n) (hb : b < n) (hab : ¬ nI a = nI b) (hv : 0 ≤ v.toInt ∧ v.toInt ≤ 99) : zD (d + 4) 195 [.ref 97, .int (nI a), .int (nI b), .int v] (130, az_Pf, I, L) (some (.int (I 124 (12 * a + b)))) (130, az_Pf, az_uI I 124 (12 * a + b) v, L) := by
  refine zD_of zm_X11_owe rfl ?_
  show az_W _ _ _ 0 [.ref 97, .int (nI a), .int (nI b), .int v, .null] [] _
  have h1 : ((0 ≤ (nI a).toInt ∧ (nI a).toInt < (n : Int)) ∧ (0 ≤ (nI b).toInt ∧ (nI b).toInt < (n : Int)) ∧ ¬ nI a = nI b) = True := eq_true ⟨by rw [nI_toInt (by omega)]; omega, by rw [nI_toInt (by omega)]; omega, hab⟩
  simp only [u_X11_owe_0, u_X11_owe_1, u_X11_owe_2, u_X11_owe_3, u_X11_owe_6, u_X11_owe_9, u_X11_owe_10, u_X11_owe_11, u_X11_owe_12, u_X11_owe_15, u_X11_owe_18, u_X11_owe_21, u_X11_owe_22, u_X11_owe_23, u_X11_owe_24, u_X11_owe_27, u_X11_owe_29, u_X11_owe_30, u_X11_owe_31, u_X11_owe_32, u_X11_owe_33, u_X11_owe_34, u_X11_owe_36, u_X11_owe_37, u_X11_owe_40, u_X11_owe_42, u_X11_owe_43, u_X11_owe_44, u_X11_owe_45, u_X11_owe_46, u_X11_owe_47, u_X11_owe_48, u_X11_owe_50, az_un_i, az_un_r, az_un_n, az_un_l, Option.toList_some, Option.toList_none, List.cons_append, List.nil_append, List.length_cons, List.length_nil, Nat.reduceLeDiff, Nat.reduceAdd, Nat.zero_le, Nat.zero_add, and_true, true_and, zb_1, eq_self, az_call (s_X11_areTwo hn hle), az_call s_X11_in, z64, zb_0, h1, zj_0, zj_99, eq_true hv, and_self, and_true, true_and, if_true, if_false, not_true, not_false_iff, not_true_eq_false, not_false_eq_true, ite_true, ite_false, z12m, kx_124, zinT (show 12 * a + b < 144 by omega) (by decide), zcl (show 12 * a + b < 144 by omega) (by decide)]
theorem s_X11_owe_bad {x y v : Int32} {n : Nat} (hn : I 97 17 = nI n) (hle : n ≤ 12) (hb : ¬ (((0 ≤ x.toInt ∧ x.toInt < (n : Int)) ∧ (0 ≤ y.toInt ∧ y.toInt < (n : Int)) ∧ ¬ x = y) ∧ (0 ≤ v.toInt ∧ v.toInt ≤ 99))) : zD (d + 4) 195 [.ref 97, .int x, .int y, .int v] (130, az_Pf, I, L) (some (.int (-1))) (130, az_Pf, I, L) := by
  refine zD_of zm_X11_owe rfl ?_
  show az_W _ _ _ 0 [.ref 97, .int x, .int y, .int v, .null] [] _
  simp only [u_X11_owe_0, u_X11_owe_1, u_X11_owe_2, u_X11_owe_3, u_X11_owe_6, u_X11_owe_9, u_X11_owe_10, u_X11_owe_11, u_X11_owe_12, u_X11_owe_15, u_X11_owe_18, u_X11_owe_21, u_X11_owe_22, u_X11_owe_23, u_X11_owe_24, u_X11_owe_27, u_X11_owe_29, u_X11_owe_30, u_X11_owe_31, u_X11_owe_32, u_X11_owe_33, u_X11_owe_34, u_X11_owe_36, u_X11_owe_37, u_X11_owe_40, u_X11_owe_42, u_X11_owe_43, u_X11_owe_44, u_X11_owe_45, u_X11_owe_46, u_X11_owe_47, u_X11_owe_48, u_X11_owe_50, az_un_i, az_un_r, az_un_n, az_un_l, Option.toList_some, Option.toList_none, List.cons_append, List.nil_append, List.length_cons, List.length_nil, Nat.reduceLeDiff, Nat.reduceAdd, Nat.zero_le, Nat.zero_add, and_true, true_and, zb_1, eq_self, az_call (s_X11_areTwo hn hle), az_call s_X11_in, z64, zb_0, zj_0, zj_99]
  by_cases h1 : ((0 ≤ x.toInt ∧ x.toInt < (n : Int)) ∧ (0 ≤ y.toInt ∧ y.toInt < (n : Int)) ∧ ¬ x = y) <;> by_cases h2 : 0 ≤ v.toInt ∧ v.toInt ≤ 99 <;> simp only [h1, h2, and_self, and_true, true_and, if_true, if_false, not_true, not_false_iff, not_true_eq_false, not_false_eq_true, ite_true, ite_false]
  exact absurd ⟨h1, h2⟩ hb
theorem s_X10_net {a n : Nat} (hn : I 49 1 = nI n) (hle : n ≤ 12) (ha : a < n) : zD (d + 3) 122 [.ref 0, .int (nI a)] (130, az_Pf, I, L) (some (.int (zsum (fun b => I (73 + b) a - I (73 + a) b) 12))) (130, az_Pf, I, L) := by
  refine zD_of zm_X10_net rfl ?_
  show az_W _ _ _ 0 [.ref 0, .int (nI a)] [] _
  have h1 : (0 ≤ (nI a).toInt ∧ (nI a).toInt < (n : Int)) = True := eq_true (by rw [nI_toInt (by omega)]; omega)
  simp only [u_X10_net_0, u_X10_net_1, u_X10_net_4, u_X10_net_5, u_X10_net_8, u_X10_net_11, u_X10_net_14, u_X10_net_15, u_X10_net_16, u_X10_net_19, u_X10_net_20, u_X10_net_23, az_un_i, az_un_r, az_un_n, az_un_l, Option.toList_some, Option.toList_none, List.cons_append, List.nil_append, List.length_cons, List.length_nil, Nat.reduceLeDiff, Nat.reduceAdd, Nat.zero_le, Nat.zero_add, and_true, true_and, zb_1, eq_self, az_call (s_X0_hasN hn hle), zb_0, h1, and_self, and_true, true_and, if_true, if_false, not_true, not_false_iff, not_true_eq_false, not_false_eq_true, ite_true, ite_false, az_call (s_X1_balance (show a < 12 by omega))]
theorem s_X10_net_bad {x : Int32} {n : Nat} (hn : I 49 1 = nI n) (hle : n ≤ 12) (hb : ¬ (0 ≤ x.toInt ∧ x.toInt < (n : Int))) : zD (d + 3) 122 [.ref 0, .int x] (130, az_Pf, I, L) (some (.int (-10001))) (130, az_Pf, I, L) := by
  refine zD_of zm_X10_net rfl ?_
  show az_W _ _ _ 0 [.ref 0, .int x] [] _
  simp only [u_X10_net_0, u_X10_net_1, u_X10_net_4, u_X10_net_5, u_X10_net_8, u_X10_net_11, u_X10_net_14, u_X10_net_15, u_X10_net_16, u_X10_net_19, u_X10_net_20, u_X10_net_23, az_un_i, az_un_r, az_un_n, az_un_l, Option.toList_some, Option.toList_none, List.cons_append, List.nil_append, List.length_cons, List.length_nil, Nat.reduceLeDiff, Nat.reduceAdd, Nat.zero_le, Nat.zero_add, and_true, true_and, zb_1, eq_self, az_call (s_X0_hasN hn hle), zb_0, eq_false hb, and_self, and_true, true_and, if_true, if_false, not_true, not_false_iff, not_true_eq_false, not_false_eq_true, ite_true, ite_false]
theorem s_X11_net {a n : Nat} (hn : I 97 17 = nI n) (hle : n ≤ 12) (ha : a < n) : zD (d + 3) 196 [.ref 97, .int (nI a)] (130, az_Pf, I, L) (some (.int (zsum (fun b => I 124 (12 * b + a) - I 124 (12 * a + b)) 12))) (130, az_Pf, I, L) := by
  refine zD_of zm_X11_net rfl ?_
  show az_W _ _ _ 0 [.ref 97, .int (nI a), .null, .null] [] _
  have h1 : (0 ≤ (nI a).toInt ∧ (nI a).toInt < (n : Int)) = True := eq_true (by rw [nI_toInt (by omega)]; omega)
  simp only [u_X11_net_0, u_X11_net_1, u_X11_net_2, u_X11_net_5, u_X11_net_8, u_X11_net_11, u_X11_net_12, u_X11_net_13, u_X11_net_14, u_X11_net_15, u_X11_net_17, u_X11_net_19, u_X11_net_22, u_X11_net_23, u_X11_net_24, u_X11_net_27, u_X11_net_29, u_X11_net_30, u_X11_net_31, u_X11_net_32, u_X11_net_33, u_X11_net_34, u_X11_net_35, u_X11_net_38, u_X11_net_40, u_X11_net_41, u_X11_net_42, u_X11_net_43, u_X11_net_44, u_X11_net_45, u_X11_net_46, u_X11_net_47, u_X11_net_48, u_X11_net_51, u_X11_net_54, u_X11_net_55, az_un_i, az_un_r, az_un_n, az_un_l, Option.toList_some, Option.toList_none, List.cons_append, List.nil_append, List.length_cons, List.length_nil, Nat.reduceLeDiff, Nat.reduceAdd, Nat.zero_le, Nat.zero_add, and_true, true_and, zb_1, eq_self, az_call (s_X11_isDesk hn hle), zb_0, h1, and_self, and_true, true_and, if_true, if_false, not_true, not_false_iff, not_true_eq_false, not_false_eq_true, ite_true, ite_false]
  refine zloop (P := fun k => az_W (zD (d + 2)) _ _ 16 [.ref 97, .int (nI a), .int (zsum (fun b => I 124 (12 * b + a) - I 124 (12 * a + b)) k), .int (nI k)] [] _) 12 (fun k hk ih => ?_) ?_ 0 (Nat.zero_le _)
  · have h1 : ¬ (12 : Int32) ≤ nI k := nI_ge (b := 12) hk (by decide)
    simp only [u_X11_net_16]
    simp only [u_X11_net_0, u_X11_net_1, u_X11_net_2, u_X11_net_5, u_X11_net_8, u_X11_net_11, u_X11_net_12, u_X11_net_13, u_X11_net_14, u_X11_net_15, u_X11_net_17, u_X11_net_19, u_X11_net_22, u_X11_net_23, u_X11_net_24, u_X11_net_27, u_X11_net_29, u_X11_net_30, u_X11_net_31, u_X11_net_32, u_X11_net_33, u_X11_net_34, u_X11_net_35, u_X11_net_38, u_X11_net_40, u_X11_net_41, u_X11_net_42, u_X11_net_43, u_X11_net_44, u_X11_net_45, u_X11_net_46, u_X11_net_47, u_X11_net_48, u_X11_net_51, u_X11_net_54, u_X11_net_55, az_un_i, az_un_r, az_un_n, az_un_l, Option.toList_some, Option.toList_none, List.cons_append, List.nil_append, List.length_cons, List.length_nil, Nat.reduceLeDiff, Nat.reduceAdd, Nat.zero_le, Nat.zero_add, and_true, true_and, zb_1, eq_self, h1, if_false, z12m, kx_124, zinT (show 12 * a + k < 144 by omega) (by decide), zinT (show 12 * k + a < 144 by omega) (by decide), zcl (show 12 * a + k < 144 by omega) (by decide), zcl (show 12 * k + a < 144 by omega) (by decide)]
    rw [nI_succ] at ih
    exact ih
  · have h1 : (12 : Int32) ≤ nI 12 := by decide
    simp only [u_X11_net_16]
    simp only [u_X11_net_0, u_X11_net_1, u_X11_net_2, u_X11_net_5, u_X11_net_8, u_X11_net_11, u_X11_net_12, u_X11_net_13, u_X11_net_14, u_X11_net_15, u_X11_net_17, u_X11_net_19, u_X11_net_22, u_X11_net_23, u_X11_net_24, u_X11_net_27, u_X11_net_29, u_X11_net_30, u_X11_net_31, u_X11_net_32, u_X11_net_33, u_X11_net_34, u_X11_net_35, u_X11_net_38, u_X11_net_40, u_X11_net_41, u_X11_net_42, u_X11_net_43, u_X11_net_44, u_X11_net_45, u_X11_net_46, u_X11_net_47, u_X11_net_48, u_X11_net_51, u_X11_net_54, u_X11_net_55, az_un_i, az_un_r, az_un_n, az_un_l, Option.toList_some, Option.toList_none, List.cons_append, List.nil_append, List.length_cons, List.length_nil, Nat.reduceLeDiff, Nat.reduceAdd, Nat.zero_le, Nat.zero_add, and_true, true_and, zb_1, eq_self, h1, if_true]
theorem s_X11_net_bad {x : Int32} {n : Nat} (hn : I 97 17 = nI n) (hle : n ≤ 12) (hb : ¬ (0 ≤ x.toInt ∧ x.toInt < (n : Int))) : zD (d + 3) 196 [.ref 97, .int x] (130, az_Pf, I, L) (some (.int (-10001))) (130, az_Pf, I, L) := by
  refine zD_of zm_X11_net rfl ?_
  show az_W _ _ _ 0 [.ref 97, .int x, .null, .null] [] _
  simp only [u_X11_net_0, u_X11_net_1, u_X11_net_2, u_X11_net_5, u_X11_net_8, u_X11_net_11, u_X11_net_12, u_X11_net_13, u_X11_net_14, u_X11_net_15, u_X11_net_17, u_X11_net_19, u_X11_net_22, u_X11_net_23, u_X11_net_24, u_X11_net_27, u_X11_net_29, u_X11_net_30, u_X11_net_31, u_X11_net_32, u_X11_net_33, u_X11_net_34, u_X11_net_35, u_X11_net_38, u_X11_net_40, u_X11_net_41, u_X11_net_42, u_X11_net_43, u_X11_net_44, u_X11_net_45, u_X11_net_46, u_X11_net_47, u_X11_net_48, u_X11_net_51, u_X11_net_54, u_X11_net_55, az_un_i, az_un_r, az_un_n, az_un_l, Option.toList_some, Option.toList_none, List.cons_append, List.nil_append, List.length_cons, List.length_nil, Nat.reduceLeDiff, Nat.reduceAdd, Nat.zero_le, Nat.zero_add, and_true, true_and, zb_1, eq_self, az_call (s_X11_isDesk hn hle), zb_0, eq_false hb, and_self, and_true, true_and, if_true, if_false, not_true, not_false_iff, not_true_eq_false, not_false_eq_true, ite_true, ite_false]
end S
theorem op_said (x y : Int32) : zOp 91 148 [.int x, .int y] := by
  intro I L hI
  by_cases hb : (0 ≤ x.toInt ∧ x.toInt ≤ 7) ∧ (0 ≤ y.toInt ∧ y.toInt ≤ 29)
  · obtain ⟨h1, h2⟩ := hb
    obtain ⟨k, hk, rfl⟩ := znat h1.1 (n := 7) h1.2 (by decide)
    obtain ⟨m, hm, rfl⟩ := znat h2.1 (n := 29) h2.2 (by decide)
    have hk : k < 8 := by omega
    have hm : m < 30 := by omega
    refine ⟨_, I, L, I, L, s_X10_said (d := 6) hk hm, ?_, hI⟩
    rw [(hI.1 m hm k hk).1]
    exact s_X11_said (d := 6) hk hm
  · exact ⟨_, I, L, I, L, s_X10_said_bad (d := 6) hb, s_X11_said_bad (d := 6) hb, hI⟩
theorem op_count (x : Int32) : zOp 106 175 [.int x] := by
  intro I L hI
  have hI0 := hI
  obtain ⟨hP, hC, hS, ⟨t, e, hB⟩, ⟨nl, hL⟩, ⟨nr, hR⟩, n, c, w, hD, hW, hX, hF⟩ := hI
  exact ⟨_, I, L, I, L, s_X10_count (d := 6) (hD.2.1.trans hD.2.2.1.symm) (hD.2.2.2.2.2.2.1.trans hD.2.2.2.2.2.2.2.1.symm) (hL.2.1.trans hL.2.2.1.symm) (hR.2.1.trans hR.2.2.1.symm) (hW.2.1.trans hW.2.2.1.symm) (hB.2.2.2.2.2.2.1.trans hB.2.2.2.2.2.2.2.1.symm), s_X11_count (d := 6), hI0⟩
theorem op_owe (x y v : Int32) : zOp 121 195 [.int x, .int y, .int v] := by
  intro I L hI
  have hI0 := hI
  obtain ⟨hP, hC, hS, ⟨t, e, hB⟩, ⟨nl, hL⟩, ⟨nr, hR⟩, n, c, w, hD, hW, hX, hF⟩ := hI
  by_cases hb : ((0 ≤ x.toInt ∧ x.toInt < (n : Int)) ∧ (0 ≤ y.toInt ∧ y.toInt < (n : Int)) ∧ ¬ x = y) ∧ (0 ≤ v.toInt ∧ v.toInt ≤ 99)
  · obtain ⟨⟨h1, h2, h3⟩, h4⟩ := hb
    have hn := hD.1
    obtain ⟨a, ha, rfl⟩ := znatlt h1.1 h1.2 (by omega)
    obtain ⟨b, hb, rfl⟩ := znatlt h2.1 h2.2 (by omega)
    obtain ⟨q, hq, rfl⟩ := znat h4.1 (n := 99) h4.2 (by decide)
    have hab : a ≠ b := fun z => h3 (by rw [z])
    obtain ⟨J, hJ⟩ : ∃ J, J = az_uI (az_uI I (73 + a) b (nI q)) 124 (12 * a + b) (nI q) := ⟨_, rfl⟩
    have ff : ∀ x j, ¬ ((x = 73 + a) ∨ x = 124) → J x j = I x j := fun x j hz => by
      rw [hJ]; simp only [az_uI_at]; rw [if_neg (by omega), if_neg (by omega)]
    refine ⟨I (73 + a) b, _, L, J, L, s_X10_owe (d := 5) hD.2.1 hD.1 ha hb h3 h4, ?_, ?_⟩
    · have := s_X11_owe (d := 5) (I := az_uI I (73 + a) b (nI q)) (L := L) (by rw [zu_ne (by omega)]; exact hD.2.2.1) hD.1 ha hb h3 h4
      rw [zu_ne (show 124 ≠ 73 + a by omega), ← (hF a (by omega) b (by omega)).1] at this
      rw [hJ]; exact this
    · have hFn : zvF J n := fun a' ha' b' hb' => by
        obtain ⟨k1, k2⟩ := hF a' ha' b' hb'
        have e1 : J (73 + a') b' = if a' = a ∧ b' = b then nI q else I (73 + a') b' := by
          rw [hJ, zu_ne (by omega), az_uI_at]
          by_cases z : a' = a ∧ b' = b
          · rw [if_pos (by omega), if_pos z]
          · rw [if_neg (by omega), if_neg z]
        have e2 : J 124 (12 * a' + b') = if a' = a ∧ b' = b then nI q else I 124 (12 * a' + b') := by
          rw [hJ, az_uI_at, zu_ne (show 124 ≠ 73 + a by omega)]
          by_cases z : a' = a ∧ b' = b
          · rw [if_pos (by omega), if_pos z]
          · rw [if_neg (by omega), if_neg z]
        rw [e1, e2]
        by_cases z : a' = a ∧ b' = b
        · rw [if_pos z, if_pos z]
          exact ⟨rfl, q, hq, rfl, fun _ => by omega⟩
        · rw [if_neg z, if_neg z]
          exact ⟨k1, k2⟩
      exact ⟨(hP.fr (fun m hm => funext fun j => ff _ j (by omega)) (funext fun j => ff _ j (by omega))), (hC.fr (funext fun j => ff _ j (by omega)) (funext fun j => ff _ j (by omega)) (funext fun j => ff _ j (by omega))), (hS.fr (funext fun j => ff _ j (by omega)) (funext fun j => ff _ j (by omega)) (funext fun j => ff _ j (by omega)) (funext fun j => ff _ j (by omega)) (funext fun j => ff _ j (by omega)) (fun s hs => funext fun j => ff _ j (by omega))), ⟨t, e, (hB.fr (ff _ _ (by omega)) (ff _ _ (by omega)) (ff _ _ (by omega)) (ff _ _ (by omega)) (funext fun j => ff _ j (by omega)) (funext fun j => ff _ j (by omega)) (funext fun j => ff _ j (by omega)) (funext fun j => ff _ j (by omega)) (funext fun j => ff _ j (by omega)) (fun k hk => funext fun j => ff _ j (by omega)))⟩, ⟨nl, (hL.fr (ff _ _ (by omega)) (ff _ _ (by omega)) (fun k h1 h2 => funext fun j => ff _ j (by omega)) (fun k h1 h2 => funext fun j => ff _ j (by omega)))⟩, ⟨nr, (hR.fr (ff _ _ (by omega)) (ff _ _ (by omega)) (funext fun j => ff _ j (by omega)) (funext fun j => ff _ j (by omega)) (funext fun j => ff _ j (by omega)) (funext fun j => ff _ j (by omega)))⟩, n, c, w, (hD.fr (ff _ _ (by omega)) (ff _ _ (by omega)) (ff _ _ (by omega)) (ff _ _ (by omega)) (fun k h1 h2 => funext fun j => ff _ j (by omega)) (fun k h1 h2 => funext fun j => ff _ j (by omega))), (hW.fr (ff _ _ (by omega)) (ff _ _ (by omega)) (fun k h1 h2 => funext fun j => ff _ j (by omega)) (fun k h1 h2 => funext fun j => ff _ j (by omega))), (hX.fr (funext fun j => ff _ j (by omega)) (funext fun j => ff _ j (by omega))), (hFn)⟩
  · exact ⟨_, I, L, I, L, s_X10_owe_bad (d := 5) hD.2.1 hD.1 hb, s_X11_owe_bad (d := 5) hD.2.2.1 hD.1 hb, hI0⟩
theorem zsum_c {f g : Nat → Int32} : ∀ {n : Nat}, (∀ k, k < n → f k = g k) → zsum f n = zsum g n
  | 0, _ => rfl
  | n + 1, h => by
    show zsum f n + f n = zsum g n + g n
    rw [zsum_c (fun k hk => h k (by omega)), h n (by omega)]
theorem op_net (x : Int32) : zOp 122 196 [.int x] := by
  intro I L hI
  have hI0 := hI
  obtain ⟨hP, hC, hS, ⟨t, e, hB⟩, ⟨nl, hL⟩, ⟨nr, hR⟩, n, c, w, hD, hW, hX, hF⟩ := hI
  by_cases hb : 0 ≤ x.toInt ∧ x.toInt < (n : Int)
  · have hn := hD.1
    obtain ⟨a, ha, rfl⟩ := znatlt hb.1 hb.2 (by omega)
    refine ⟨_, I, L, I, L, s_X10_net (d := 6) hD.2.1 hD.1 ha, ?_, hI0⟩
    rw [zsum_c (fun k hk => by rw [(hF k hk a (by omega)).1, (hF a (by omega) k hk).1])]
    exact s_X11_net (d := 6) hD.2.2.1 hD.1 ha
  · exact ⟨_, I, L, I, L, s_X10_net_bad (d := 6) hD.2.1 hD.1 hb, s_X11_net_bad (d := 6) hD.2.2.1 hD.1 hb, hI0⟩
