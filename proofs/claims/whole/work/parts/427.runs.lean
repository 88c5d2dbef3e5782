/-! ===== untrue, backed ===== -/
def zUn (I : Nat → Nat → Int32) (r m nl : Nat) : Int32 := if zany (zp2 I m) nl then (if (zslo (I 59) (zp2 I m) nl).toInt ≤ (I 62 r).toInt ∧ (I 62 r).toInt ≤ (zshi (I 59) (zp2 I m) nl).toInt then 0 else 1) else 0
theorem zUn_fr {I J : Nat → Nat → Int32} {r m nl : Nat} (h2 : J 58 = I 58) (h3 : J 59 = I 59) (h4 : J 62 = I 62) : zUn J r m nl = zUn I r m nl := by
  unfold zUn
  rw [show zp2 J m = zp2 I m from funext fun k => by unfold zp2; rw [h2], h3, h4]
def zbk (I : Nat → Nat → Int32) (r m nl e k : Nat) : Int32 := if I (4 + m) k = I 62 r ∧ ¬ zOA I k m nl e = 0 then 1 <<< (nI k &&& 31) else 0
section S
variable {d : Nat} {I : Nat → Nat → Int32} {L : Nat → Nat → Int64} {h : az_H}
theorem s_X7_has {x : Int32} {n : Nat} (hn : I 60 2 = nI n) (hle : n ≤ 20) : zD (d + 1) 68 [.ref 60, .int x] (130, az_Pf, I, L) (some (.int (zb (0 ≤ x.toInt ∧ x.toInt < (n : Int))))) (130, az_Pf, I, L) := by
  refine zD_of zm_X7_has rfl ?_
  show az_W _ _ _ 0 [.ref 60, .int x] [] _
  simp only [u_X7_has_0, u_X7_has_1, u_X7_has_4, u_X7_has_5, u_X7_has_6, u_X7_has_9, u_X7_has_12, u_X7_has_13, u_X7_has_16, u_X7_has_17, az_un_i, az_un_r, az_un_n, az_un_l, Option.toList_some, Option.toList_none, List.cons_append, List.nil_append, List.length_cons, List.length_nil, Nat.reduceLeDiff, Nat.reduceAdd, Nat.zero_le, Nat.zero_add, and_true, true_and, zb_1, eq_self, hn]
  simp only [Int32.lt_iff_toInt_lt, Int32.le_iff_toInt_le, nI_toInt (show n < 2 ^ 31 by omega), zl_0, zb]
  (repeat' split) <;> first | (simp; done) | (exfalso; omega)
theorem s_X7_morningOf {r : Nat} (hr : r < 20) : zD (d + 1) 69 [.ref 60, .int (nI r)] (130, az_Pf, I, L) (some (.int (I 61 r))) (130, az_Pf, I, L) := by
  refine zD_of zm_X7_morningOf rfl ?_
  show az_W _ _ _ 0 [.ref 60, .int (nI r)] [] _
  simp only [u_X7_morningOf_0, u_X7_morningOf_1, u_X7_morningOf_4, u_X7_morningOf_5, u_X7_morningOf_6, az_un_i, az_un_r, az_un_n, az_un_l, Option.toList_some, Option.toList_none, List.cons_append, List.nil_append, List.length_cons, List.length_nil, Nat.reduceLeDiff, Nat.reduceAdd, Nat.zero_le, Nat.zero_add, and_true, true_and, zb_1, eq_self, kx_61, zinT hr (by decide), zcl hr (by decide)]
theorem s_X7_priceOf {r : Nat} (hr : r < 20) : zD (d + 1) 70 [.ref 60, .int (nI r)] (130, az_Pf, I, L) (some (.int (I 62 r))) (130, az_Pf, I, L) := by
  refine zD_of zm_X7_priceOf rfl ?_
  show az_W _ _ _ 0 [.ref 60, .int (nI r)] [] _
  simp only [u_X7_priceOf_0, u_X7_priceOf_1, u_X7_priceOf_4, u_X7_priceOf_5, u_X7_priceOf_6, az_un_i, az_un_r, az_un_n, az_un_l, Option.toList_some, Option.toList_none, List.cons_append, List.nil_append, List.length_cons, List.length_nil, Nat.reduceLeDiff, Nat.reduceAdd, Nat.zero_le, Nat.zero_add, and_true, true_and, zb_1, eq_self, kx_62, zinT hr (by decide), zcl hr (by decide)]
theorem s_X10_untrue_bad {x : Int32} {n : Nat} (hn : I 60 2 = nI n) (hle : n ≤ 20) (hb : ¬ ((0 ≤ x.toInt ∧ x.toInt < (n : Int)))) : zD (d + 4) 114 [.ref 0, .int x] (130, az_Pf, I, L) (some (.int (-1))) (130, az_Pf, I, L) := by
  refine zD_of zm_X10_untrue rfl ?_
  show az_W _ _ _ 0 [.ref 0, .int x] [] _
  simp only [u_X10_untrue_0, u_X10_untrue_1, u_X10_untrue_4, u_X10_untrue_5, u_X10_untrue_8, u_X10_untrue_11, u_X10_untrue_12, u_X10_untrue_13, u_X10_untrue_14, u_X10_untrue_17, u_X10_untrue_18, u_X10_untrue_21, u_X10_untrue_22, u_X10_untrue_25, u_X10_untrue_28, u_X10_untrue_31, u_X10_untrue_32, u_X10_untrue_33, u_X10_untrue_34, u_X10_untrue_37, u_X10_untrue_38, u_X10_untrue_41, u_X10_untrue_42, u_X10_untrue_45, u_X10_untrue_48, u_X10_untrue_49, u_X10_untrue_52, u_X10_untrue_55, u_X10_untrue_58, u_X10_untrue_61, u_X10_untrue_62, u_X10_untrue_65, u_X10_untrue_66, az_un_i, az_un_r, az_un_n, az_un_l, Option.toList_some, Option.toList_none, List.cons_append, List.nil_append, List.length_cons, List.length_nil, Nat.reduceLeDiff, Nat.reduceAdd, Nat.zero_le, Nat.zero_add, and_true, true_and, zb_1, eq_self, zb_0, az_call (s_X7_has hn hle)]
  simp only [eq_false hb, and_self, and_true, true_and, if_true, if_false, not_true, not_false_iff, not_true_eq_false, not_false_eq_true, ite_true, ite_false]
theorem s_X11_untrue_bad {x : Int32} {n : Nat} (hn : I 97 31 = nI n) (hle : n ≤ 20) (hb : ¬ ((0 ≤ x.toInt ∧ x.toInt < (n : Int)))) : zD (d + 4) 188 [.ref 97, .int x] (130, az_Pf, I, L) (some (.int (-1))) (130, az_Pf, I, L) := by
  refine zD_of zm_X11_untrue rfl ?_
  show az_W _ _ _ 0 [.ref 97, .int x] [] _
  simp only [u_X11_untrue_0, u_X11_untrue_1, u_X11_untrue_2, u_X11_untrue_3, u_X11_untrue_4, u_X11_untrue_7, u_X11_untrue_8, u_X11_untrue_9, u_X11_untrue_10, u_X11_untrue_13, u_X11_untrue_16, u_X11_untrue_17, u_X11_untrue_18, u_X11_untrue_19, u_X11_untrue_20, u_X11_untrue_21, u_X11_untrue_24, u_X11_untrue_25, u_X11_untrue_26, u_X11_untrue_29, u_X11_untrue_32, u_X11_untrue_33, u_X11_untrue_36, u_X11_untrue_37, u_X11_untrue_38, u_X11_untrue_39, u_X11_untrue_40, u_X11_untrue_43, u_X11_untrue_44, u_X11_untrue_45, u_X11_untrue_48, u_X11_untrue_49, u_X11_untrue_52, u_X11_untrue_55, u_X11_untrue_56, u_X11_untrue_59, u_X11_untrue_60, az_un_i, az_un_r, az_un_n, az_un_l, Option.toList_some, Option.toList_none, List.cons_append, List.nil_append, List.length_cons, List.length_nil, Nat.reduceLeDiff, Nat.reduceAdd, Nat.zero_le, Nat.zero_add, and_true, true_and, zb_1, eq_self, zb_0, az_call s_X11_in, z64, zj_0, hn, (show (nI n - 1).toInt = (n : Int) - 1 from pk_sub_toInt (b := 1) (by omega) (by decide)), Int.le_sub_one_iff]
  simp only [eq_false hb, and_self, and_true, true_and, if_true, if_false, not_true, not_false_iff, not_true_eq_false, not_false_eq_true, ite_true, ite_false]
theorem s_X10_backed_bad {x : Int32} {n : Nat} (hn : I 60 2 = nI n) (hle : n ≤ 20) (hb : ¬ ((0 ≤ x.toInt ∧ x.toInt < (n : Int)))) : zD (d + 7) 115 [.ref 0, .int x] (130, az_Pf, I, L) (some (.int (-1))) (130, az_Pf, I, L) := by
  refine zD_of zm_X10_backed rfl ?_
  show az_W _ _ _ 0 [.ref 0, .int x, .null, .null, .null] [] _
  simp only [u_X10_backed_0, u_X10_backed_1, u_X10_backed_4, u_X10_backed_5, u_X10_backed_8, u_X10_backed_11, u_X10_backed_12, u_X10_backed_13, u_X10_backed_14, u_X10_backed_17, u_X10_backed_18, u_X10_backed_21, u_X10_backed_22, u_X10_backed_23, u_X10_backed_24, u_X10_backed_25, u_X10_backed_29, u_X10_backed_31, u_X10_backed_34, u_X10_backed_35, u_X10_backed_38, u_X10_backed_40, u_X10_backed_41, u_X10_backed_44, u_X10_backed_45, u_X10_backed_48, u_X10_backed_49, u_X10_backed_52, u_X10_backed_55, u_X10_backed_56, u_X10_backed_58, u_X10_backed_59, u_X10_backed_62, u_X10_backed_65, u_X10_backed_66, u_X10_backed_67, u_X10_backed_69, u_X10_backed_70, u_X10_backed_71, u_X10_backed_72, u_X10_backed_75, u_X10_backed_78, u_X10_backed_79, az_un_i, az_un_r, az_un_n, az_un_l, Option.toList_some, Option.toList_none, List.cons_append, List.nil_append, List.length_cons, List.length_nil, Nat.reduceLeDiff, Nat.reduceAdd, Nat.zero_le, Nat.zero_add, and_true, true_and, zb_1, eq_self, zb_0, az_call (s_X7_has hn hle)]
  simp only [eq_false hb, and_self, and_true, true_and, if_true, if_false, not_true, not_false_iff, not_true_eq_false, not_false_eq_true, ite_true, ite_false]
theorem s_X11_backed_bad {x : Int32} {n : Nat} (hn : I 97 31 = nI n) (hle : n ≤ 20) (hb : ¬ ((0 ≤ x.toInt ∧ x.toInt < (n : Int)))) : zD (d + 7) 189 [.ref 97, .int x] (130, az_Pf, I, L) (some (.int (-1))) (130, az_Pf, I, L) := by
  refine zD_of zm_X11_backed rfl ?_
  show az_W _ _ _ 0 [.ref 97, .int x, .null, .null] [] _
  simp only [u_X11_backed_0, u_X11_backed_1, u_X11_backed_2, u_X11_backed_3, u_X11_backed_4, u_X11_backed_7, u_X11_backed_8, u_X11_backed_9, u_X11_backed_10, u_X11_backed_13, u_X11_backed_16, u_X11_backed_17, u_X11_backed_18, u_X11_backed_19, u_X11_backed_20, u_X11_backed_21, u_X11_backed_23, u_X11_backed_25, u_X11_backed_28, u_X11_backed_29, u_X11_backed_30, u_X11_backed_33, u_X11_backed_35, u_X11_backed_36, u_X11_backed_39, u_X11_backed_40, u_X11_backed_41, u_X11_backed_42, u_X11_backed_43, u_X11_backed_44, u_X11_backed_45, u_X11_backed_46, u_X11_backed_49, u_X11_backed_50, u_X11_backed_51, u_X11_backed_54, u_X11_backed_55, u_X11_backed_56, u_X11_backed_57, u_X11_backed_60, u_X11_backed_61, u_X11_backed_62, u_X11_backed_65, u_X11_backed_68, u_X11_backed_69, u_X11_backed_70, u_X11_backed_71, u_X11_backed_74, u_X11_backed_75, u_X11_backed_76, u_X11_backed_77, u_X11_backed_80, u_X11_backed_83, u_X11_backed_84, az_un_i, az_un_r, az_un_n, az_un_l, Option.toList_some, Option.toList_none, List.cons_append, List.nil_append, List.length_cons, List.length_nil, Nat.reduceLeDiff, Nat.reduceAdd, Nat.zero_le, Nat.zero_add, and_true, true_and, zb_1, eq_self, zb_0, az_call s_X11_in, z64, zj_0, hn, (show (nI n - 1).toInt = (n : Int) - 1 from pk_sub_toInt (b := 1) (by omega) (by decide)), Int.le_sub_one_iff]
  simp only [eq_false hb, and_self, and_true, true_and, if_true, if_false, not_true, not_false_iff, not_true_eq_false, not_false_eq_true, ite_true, ite_false]
theorem s_X10_untrue {r m t e nl nr n c w : Nat} (hG : zG I t e nl nr n c w) (hr : r < nr) (hm : I 61 r = nI m) : zE (d + 4) 114 [.ref 0, .int (nI r)] I L (some (.int (zUn I r m nl))) (fun J _ => zFr I J) := by
  refine zE_of zm_X10_untrue rfl ?_
  show az_W _ _ _ 0 [.ref 0, .int (nI r)] [] _
  obtain ⟨hP, hC, hS, hB, hL, hR, hD, hW, hX, hF⟩ := hG
  have h20 := hR.1
  have f : ∀ x y, zFr I (az_uI (az_uI I 56 4 x) 56 5 y) := fun x y => zFr.u2 rfl rfl
  simp only [u_X10_untrue_0, u_X10_untrue_1, u_X10_untrue_4, u_X10_untrue_5, u_X10_untrue_8, u_X10_untrue_11, u_X10_untrue_12, u_X10_untrue_13, u_X10_untrue_14, u_X10_untrue_17, u_X10_untrue_18, u_X10_untrue_21, u_X10_untrue_22, u_X10_untrue_25, u_X10_untrue_28, u_X10_untrue_31, u_X10_untrue_32, u_X10_untrue_33, u_X10_untrue_34, u_X10_untrue_37, u_X10_untrue_38, u_X10_untrue_41, u_X10_untrue_42, u_X10_untrue_45, u_X10_untrue_48, u_X10_untrue_49, u_X10_untrue_52, u_X10_untrue_55, u_X10_untrue_58, u_X10_untrue_61, u_X10_untrue_62, u_X10_untrue_65, u_X10_untrue_66, az_un_i, az_un_r, az_un_n, az_un_l, Option.toList_some, Option.toList_none, List.cons_append, List.nil_append, List.length_cons, List.length_nil, Nat.reduceLeDiff, Nat.reduceAdd, Nat.zero_le, Nat.zero_add, and_true, true_and, zb_1, eq_self, az_call (s_X7_has hR.2.1 hR.1), zb_0, (eq_true (by rw [nI_toInt (by omega)]; omega) : (0 ≤ (nI r).toInt ∧ (nI r).toInt < (nr : Int)) = True), and_self, and_true, true_and, if_true, if_false, not_true, not_false_iff, not_true_eq_false, not_false_eq_true, ite_true, ite_false, az_call (s_X7_morningOf (show r < 20 by omega)), az_call (s_X7_priceOf (show r < 20 by omega)), hm, az_call (s_X3_findAll (m := m) hL), az_call s_X3_highEnd, az_call s_X3_lowEnd, az_call s_X10_isIn, az_uI_at, az_uL_at, Nat.reduceEqDiff, false_and, and_false, and_self, if_true, if_false, ite_true, ite_false, zR_at, f]
  unfold zUn
  cases hz : zany (zp2 I m) nl
  · simp
  · simp only [if_true]
    by_cases g : (zslo (I 59) (zp2 I m) nl).toInt ≤ (I 62 r).toInt ∧ (I 62 r).toInt ≤ (zshi (I 59) (zp2 I m) nl).toInt
    · simp only [g, and_self, and_true, true_and, if_true, if_false, not_true, not_false_iff, not_true_eq_false, not_false_eq_true, ite_true, ite_false]
    · simp only [g, and_self, and_true, true_and, if_true, if_false, not_true, not_false_iff, not_true_eq_false, not_false_eq_true, ite_true, ite_false]
theorem s_X11_untrue {r m t e nl nr n c w : Nat} (hG : zG I t e nl nr n c w) (hr : r < nr) (hm : I 61 r = nI m) : zE (d + 4) 188 [.ref 97, .int (nI r)] I L (some (.int (zUn I r m nl))) (fun J _ => zFr I J) := by
  refine zE_of zm_X11_untrue rfl ?_
  show az_W _ _ _ 0 [.ref 97, .int (nI r)] [] _
  obtain ⟨hP, hC, hS, hB, hL, hR, hD, hW, hX, hF⟩ := hG
  have h20 := hR.1
  have f : ∀ x y, zFr I (az_uI (az_uI I 97 29 x) 97 30 y) := fun x y => zFr.u2 rfl rfl
  simp only [u_X11_untrue_0, u_X11_untrue_1, u_X11_untrue_2, u_X11_untrue_3, u_X11_untrue_4, u_X11_untrue_7, u_X11_untrue_8, u_X11_untrue_9, u_X11_untrue_10, u_X11_untrue_13, u_X11_untrue_16, u_X11_untrue_17, u_X11_untrue_18, u_X11_untrue_19, u_X11_untrue_20, u_X11_untrue_21, u_X11_untrue_24, u_X11_untrue_25, u_X11_untrue_26, u_X11_untrue_29, u_X11_untrue_32, u_X11_untrue_33, u_X11_untrue_36, u_X11_untrue_37, u_X11_untrue_38, u_X11_untrue_39, u_X11_untrue_40, u_X11_untrue_43, u_X11_untrue_44, u_X11_untrue_45, u_X11_untrue_48, u_X11_untrue_49, u_X11_untrue_52, u_X11_untrue_55, u_X11_untrue_56, u_X11_untrue_59, u_X11_untrue_60, az_un_i, az_un_r, az_un_n, az_un_l, Option.toList_some, Option.toList_none, List.cons_append, List.nil_append, List.length_cons, List.length_nil, Nat.reduceLeDiff, Nat.reduceAdd, Nat.zero_le, Nat.zero_add, and_true, true_and, zb_1, eq_self, az_call s_X11_in, z64, zj_0, hR.2.2.1, (show (nI nr - 1).toInt = (nr : Int) - 1 from pk_sub_toInt (b := 1) (by omega) (by decide)), Int.le_sub_one_iff, zb_0, (eq_true (by rw [nI_toInt (by omega)]; omega) : (0 ≤ (nI r).toInt ∧ (nI r).toInt < (nr : Int)) = True), and_self, and_true, true_and, if_true, if_false, not_true, not_false_iff, not_true_eq_false, not_false_eq_true, ite_true, ite_false, kx_117, kx_118, zinT (show r < 20 by omega) (by decide), zcl (show r < 20 by omega) (by decide), ← hR.2.2.2.1, ← hR.2.2.2.2.1, hm, az_call (s_X11_findLent hL (zp2_ok2 (m := m))), az_uI_at, az_uL_at, Nat.reduceEqDiff, false_and, and_false, and_self, if_true, if_false, ite_true, ite_false, zR_at, f]
  unfold zUn
  cases hz : zany (zp2 I m) nl
  · simp
  · simp only [if_true]
    by_cases g : (zslo (I 59) (zp2 I m) nl).toInt ≤ (I 62 r).toInt ∧ (I 62 r).toInt ≤ (zshi (I 59) (zp2 I m) nl).toInt
    · simp only [g, and_self, and_true, true_and, if_true, if_false, not_true, not_false_iff, not_true_eq_false, not_false_eq_true, ite_true, ite_false]
    · simp only [g, and_self, and_true, true_and, if_true, if_false, not_true, not_false_iff, not_true_eq_false, not_false_eq_true, ite_true, ite_false]
theorem s_X10_backed {r m t e nl nr n c w : Nat} (hG : zG I t e nl nr n c w) (hr : r < nr) (hm : I 61 r = nI m) (hm30 : m < 30) : zE (d + 7) 115 [.ref 0, .int (nI r)] I L (some (.int (zor (zbk I r m nl e) 8))) (fun J _ => zFr I J) := by
  refine zE_of zm_X10_backed rfl ?_
  show az_W _ _ _ 0 [.ref 0, .int (nI r), .null, .null, .null] [] _
  have hR := hG.2.2.2.2.2.1
  have he := hG.2.2.2.1.2.2.2.2.2.1
  have h20 := hR.1
  simp only [u_X10_backed_0, u_X10_backed_1, u_X10_backed_4, u_X10_backed_5, u_X10_backed_8, u_X10_backed_11, u_X10_backed_12, u_X10_backed_13, u_X10_backed_14, u_X10_backed_17, u_X10_backed_18, u_X10_backed_21, u_X10_backed_22, u_X10_backed_23, u_X10_backed_24, u_X10_backed_25, u_X10_backed_29, u_X10_backed_31, u_X10_backed_34, u_X10_backed_35, u_X10_backed_38, u_X10_backed_40, u_X10_backed_41, u_X10_backed_44, u_X10_backed_45, u_X10_backed_48, u_X10_backed_49, u_X10_backed_52, u_X10_backed_55, u_X10_backed_56, u_X10_backed_58, u_X10_backed_59, u_X10_backed_62, u_X10_backed_65, u_X10_backed_66, u_X10_backed_67, u_X10_backed_69, u_X10_backed_70, u_X10_backed_71, u_X10_backed_72, u_X10_backed_75, u_X10_backed_78, u_X10_backed_79, az_un_i, az_un_r, az_un_n, az_un_l, Option.toList_some, Option.toList_none, List.cons_append, List.nil_append, List.length_cons, List.length_nil, Nat.reduceLeDiff, Nat.reduceAdd, Nat.zero_le, Nat.zero_add, and_true, true_and, zb_1, eq_self, az_call (s_X7_has hR.2.1 hR.1), zb_0, (eq_true (by rw [nI_toInt (by omega)]; omega) : (0 ≤ (nI r).toInt ∧ (nI r).toInt < (nr : Int)) = True), and_self, and_true, true_and, if_true, if_false, not_true, not_false_iff, not_true_eq_false, not_false_eq_true, ite_true, ite_false, az_call (s_X7_morningOf (show r < 20 by omega)), hm]
  refine zloop (P := fun k => ∀ J, zFr I J → az_W (zD (d + 6)) _ _ 27 [.ref 0, .int (nI r), .int (nI m), .int (zor (zbk I r m nl e) k), .int (nI k)] [] (130, az_Pf, J, L)) 8 (fun k hk ih J f => ?_) (fun J f => ?_) 0 (Nat.zero_le _) I zFr.rf
  · have h1 : ¬ (8 : Int32) ≤ nI k := nI_ge (b := 8) hk (by decide)
    have ho := s_X10_outSign (d := d + 1) (L := L) (hG.fr f) (show k < 8 by omega) hm30
    rw [zOA_fr f hm30 he] at ho
    simp only [u_X10_backed_27]
    simp only [u_X10_backed_0, u_X10_backed_1, u_X10_backed_4, u_X10_backed_5, u_X10_backed_8, u_X10_backed_11, u_X10_backed_12, u_X10_backed_13, u_X10_backed_14, u_X10_backed_17, u_X10_backed_18, u_X10_backed_21, u_X10_backed_22, u_X10_backed_23, u_X10_backed_24, u_X10_backed_25, u_X10_backed_29, u_X10_backed_31, u_X10_backed_34, u_X10_backed_35, u_X10_backed_38, u_X10_backed_40, u_X10_backed_41, u_X10_backed_44, u_X10_backed_45, u_X10_backed_48, u_X10_backed_49, u_X10_backed_52, u_X10_backed_55, u_X10_backed_56, u_X10_backed_58, u_X10_backed_59, u_X10_backed_62, u_X10_backed_65, u_X10_backed_66, u_X10_backed_67, u_X10_backed_69, u_X10_backed_70, u_X10_backed_71, u_X10_backed_72, u_X10_backed_75, u_X10_backed_78, u_X10_backed_79, az_un_i, az_un_r, az_un_n, az_un_l, Option.toList_some, Option.toList_none, List.cons_append, List.nil_append, List.length_cons, List.length_nil, Nat.reduceLeDiff, Nat.reduceAdd, Nat.zero_le, Nat.zero_add, and_true, true_and, zb_1, eq_self, h1, if_false, az_call (s_X4_heard (show k < 8 by omega) hm30), az_call (s_X7_priceOf (show r < 20 by omega)), az_call ho, f.rw (4 + m) (by omega), f.rw 62 (by omega)]
    have e1 : zor (zbk I r m nl e) (k + 1) = zor (zbk I r m nl e) k ||| zbk I r m nl e k := rfl
    rw [nI_succ, e1] at ih
    unfold zbk at ih ⊢
    by_cases g : I (4 + m) k = I 62 r
    · by_cases g2 : zOA I k m nl e = 0
      · rw [if_neg (fun q => q.2 g2), Int32.or_zero] at ih
        rw [if_pos g, if_pos g2]; exact ih _ (f.tr zOS_fr)
      · rw [if_pos ⟨g, g2⟩] at ih
        rw [if_pos g, if_neg g2]; exact ih _ (f.tr zOS_fr)
    · rw [if_neg (fun q => g q.1), Int32.or_zero] at ih
      rw [if_neg g]; exact ih _ f
  · have h1 : (8 : Int32) ≤ nI 8 := by decide
    simp only [u_X10_backed_27]
    simp only [u_X10_backed_0, u_X10_backed_1, u_X10_backed_4, u_X10_backed_5, u_X10_backed_8, u_X10_backed_11, u_X10_backed_12, u_X10_backed_13, u_X10_backed_14, u_X10_backed_17, u_X10_backed_18, u_X10_backed_21, u_X10_backed_22, u_X10_backed_23, u_X10_backed_24, u_X10_backed_25, u_X10_backed_29, u_X10_backed_31, u_X10_backed_34, u_X10_backed_35, u_X10_backed_38, u_X10_backed_40, u_X10_backed_41, u_X10_backed_44, u_X10_backed_45, u_X10_backed_48, u_X10_backed_49, u_X10_backed_52, u_X10_backed_55, u_X10_backed_56, u_X10_backed_58, u_X10_backed_59, u_X10_backed_62, u_X10_backed_65, u_X10_backed_66, u_X10_backed_67, u_X10_backed_69, u_X10_backed_70, u_X10_backed_71, u_X10_backed_72, u_X10_backed_75, u_X10_backed_78, u_X10_backed_79, az_un_i, az_un_r, az_un_n, az_un_l, Option.toList_some, Option.toList_none, List.cons_append, List.nil_append, List.length_cons, List.length_nil, Nat.reduceLeDiff, Nat.reduceAdd, Nat.zero_le, Nat.zero_add, and_true, true_and, zb_1, eq_self, h1, if_true, zR_at, eq_true f]
theorem s_X11_backed {r m t e nl nr n c w : Nat} (hG : zG I t e nl nr n c w) (hr : r < nr) (hm : I 61 r = nI m) (hm30 : m < 30) : zE (d + 7) 189 [.ref 97, .int (nI r)] I L (some (.int (zor (zbk I r m nl e) 8))) (fun J _ => zFr I J) := by
  refine zE_of zm_X11_backed rfl ?_
  show az_W _ _ _ 0 [.ref 97, .int (nI r), .null, .null] [] _
  have hR := hG.2.2.2.2.2.1
  have he := hG.2.2.2.1.2.2.2.2.2.1
  have h20 := hR.1
  simp only [u_X11_backed_0, u_X11_backed_1, u_X11_backed_2, u_X11_backed_3, u_X11_backed_4, u_X11_backed_7, u_X11_backed_8, u_X11_backed_9, u_X11_backed_10, u_X11_backed_13, u_X11_backed_16, u_X11_backed_17, u_X11_backed_18, u_X11_backed_19, u_X11_backed_20, u_X11_backed_21, u_X11_backed_23, u_X11_backed_25, u_X11_backed_28, u_X11_backed_29, u_X11_backed_30, u_X11_backed_33, u_X11_backed_35, u_X11_backed_36, u_X11_backed_39, u_X11_backed_40, u_X11_backed_41, u_X11_backed_42, u_X11_backed_43, u_X11_backed_44, u_X11_backed_45, u_X11_backed_46, u_X11_backed_49, u_X11_backed_50, u_X11_backed_51, u_X11_backed_54, u_X11_backed_55, u_X11_backed_56, u_X11_backed_57, u_X11_backed_60, u_X11_backed_61, u_X11_backed_62, u_X11_backed_65, u_X11_backed_68, u_X11_backed_69, u_X11_backed_70, u_X11_backed_71, u_X11_backed_74, u_X11_backed_75, u_X11_backed_76, u_X11_backed_77, u_X11_backed_80, u_X11_backed_83, u_X11_backed_84, az_un_i, az_un_r, az_un_n, az_un_l, Option.toList_some, Option.toList_none, List.cons_append, List.nil_append, List.length_cons, List.length_nil, Nat.reduceLeDiff, Nat.reduceAdd, Nat.zero_le, Nat.zero_add, and_true, true_and, zb_1, eq_self, az_call s_X11_in, z64, zj_0, hR.2.2.1, (show (nI nr - 1).toInt = (nr : Int) - 1 from pk_sub_toInt (b := 1) (by omega) (by decide)), Int.le_sub_one_iff, zb_0, (eq_true (by rw [nI_toInt (by omega)]; omega) : (0 ≤ (nI r).toInt ∧ (nI r).toInt < (nr : Int)) = True), and_self, and_true, true_and, if_true, if_false, not_true, not_false_iff, not_true_eq_false, not_false_eq_true, ite_true, ite_false]
  refine zloop (P := fun k => ∀ J, zFr I J → az_W (zD (d + 6)) _ _ 22 [.ref 97, .int (nI r), .int (zor (zbk I r m nl e) k), .int (nI k)] [] (130, az_Pf, J, L)) 8 (fun k hk ih J f => ?_) (fun J f => ?_) 0 (Nat.zero_le _) I zFr.rf
  · have h1 : ¬ (8 : Int32) ≤ nI k := nI_ge (b := 8) hk (by decide)
    have ho := s_X11_outOf (d := d + 1) (L := L) (hG.fr f) (show k < 8 by omega) hm30
    rw [zOA_fr f hm30 he] at ho
    simp only [u_X11_backed_22]
    simp only [u_X11_backed_0, u_X11_backed_1, u_X11_backed_2, u_X11_backed_3, u_X11_backed_4, u_X11_backed_7, u_X11_backed_8, u_X11_backed_9, u_X11_backed_10, u_X11_backed_13, u_X11_backed_16, u_X11_backed_17, u_X11_backed_18, u_X11_backed_19, u_X11_backed_20, u_X11_backed_21, u_X11_backed_23, u_X11_backed_25, u_X11_backed_28, u_X11_backed_29, u_X11_backed_30, u_X11_backed_33, u_X11_backed_35, u_X11_backed_36, u_X11_backed_39, u_X11_backed_40, u_X11_backed_41, u_X11_backed_42, u_X11_backed_43, u_X11_backed_44, u_X11_backed_45, u_X11_backed_46, u_X11_backed_49, u_X11_backed_50, u_X11_backed_51, u_X11_backed_54, u_X11_backed_55, u_X11_backed_56, u_X11_backed_57, u_X11_backed_60, u_X11_backed_61, u_X11_backed_62, u_X11_backed_65, u_X11_backed_68, u_X11_backed_69, u_X11_backed_70, u_X11_backed_71, u_X11_backed_74, u_X11_backed_75, u_X11_backed_76, u_X11_backed_77, u_X11_backed_80, u_X11_backed_83, u_X11_backed_84, az_un_i, az_un_r, az_un_n, az_un_l, Option.toList_some, Option.toList_none, List.cons_append, List.nil_append, List.length_cons, List.length_nil, Nat.reduceLeDiff, Nat.reduceAdd, Nat.zero_le, Nat.zero_add, and_true, true_and, zb_1, eq_self, h1, if_false, kx_98, kx_117, kx_118, zinT (show r < 20 by omega) (by decide), zcl (show r < 20 by omega) (by decide), f.rw 98 (by omega), f.rw 117 (by omega), f.rw 118 (by omega), ← hR.2.2.2.1, ← hR.2.2.2.2.1, hm, z8m, zinT (show 8 * m + k < 240 by omega) (by decide), zcl (show 8 * m + k < 240 by omega) (by decide), ← (hG.1 m hm30 k hk).1, az_call ho]
    have e1 : zor (zbk I r m nl e) (k + 1) = zor (zbk I r m nl e) k ||| zbk I r m nl e k := rfl
    rw [nI_succ, e1] at ih
    unfold zbk at ih ⊢
    by_cases g : I (4 + m) k = I 62 r
    · by_cases g2 : zOA I k m nl e = 0
      · rw [if_neg (fun q => q.2 g2)] at ih
        rw [if_pos g, if_pos g2]; exact ih _ (f.tr zOM_fr)
      · rw [if_pos ⟨g, g2⟩] at ih
        rw [if_pos g, if_neg g2]; exact ih _ (f.tr zOM_fr)
    · rw [if_neg (fun q => g q.1)] at ih
      rw [if_neg g]; exact ih _ f
  · have h1 : (8 : Int32) ≤ nI 8 := by decide
    simp only [u_X11_backed_22]
    simp only [u_X11_backed_0, u_X11_backed_1, u_X11_backed_2, u_X11_backed_3, u_X11_backed_4, u_X11_backed_7, u_X11_backed_8, u_X11_backed_9, u_X11_backed_10, u_X11_backed_13, u_X11_backed_16, u_X11_backed_17, u_X11_backed_18, u_X11_backed_19, u_X11_backed_20, u_X11_backed_21, u_X11_backed_23, u_X11_backed_25, u_X11_backed_28, u_X11_backed_29, u_X11_backed_30, u_X11_backed_33, u_X11_backed_35, u_X11_backed_36, u_X11_backed_39, u_X11_backed_40, u_X11_backed_41, u_X11_backed_42, u_X11_backed_43, u_X11_backed_44, u_X11_backed_45, u_X11_backed_46, u_X11_backed_49, u_X11_backed_50, u_X11_backed_51, u_X11_backed_54, u_X11_backed_55, u_X11_backed_56, u_X11_backed_57, u_X11_backed_60, u_X11_backed_61, u_X11_backed_62, u_X11_backed_65, u_X11_backed_68, u_X11_backed_69, u_X11_backed_70, u_X11_backed_71, u_X11_backed_74, u_X11_backed_75, u_X11_backed_76, u_X11_backed_77, u_X11_backed_80, u_X11_backed_83, u_X11_backed_84, az_un_i, az_un_r, az_un_n, az_un_l, Option.toList_some, Option.toList_none, List.cons_append, List.nil_append, List.length_cons, List.length_nil, Nat.reduceLeDiff, Nat.reduceAdd, Nat.zero_le, Nat.zero_add, and_true, true_and, zb_1, eq_self, h1, if_true, zR_at, eq_true f]
theorem zbk_fr {J : Nat → Nat → Int32} {r m nl e : Nat} (f : zFr I J) (hm : m < 30) (he : e ≤ 4) : zbk J r m nl e = zbk I r m nl e := funext fun k => by
  unfold zbk; rw [f.rw (4 + m) (by omega), f.rw 62 (by omega), zOA_fr f hm he]
end S
theorem op_untrue (x : Int32) : zOp 114 188 [.int x] := by
  refine zOp_of (fun I L hI => ?_)
  obtain ⟨t, e, nl, nr, n, c, w, hG⟩ := zInv_G hI
  have hR := hG.2.2.2.2.2.1
  by_cases hb : 0 ≤ x.toInt ∧ x.toInt < (nr : Int)
  · obtain ⟨r, hr, rfl⟩ := znatlt hb.1 hb.2 (by have := hR.1; omega)
    obtain ⟨m, v, h1, h2, h3, h4⟩ := hR.2.2.2.2.2 r hr
    refine ⟨_, s_X10_untrue (d := 5) hG hr h3, fun J M f => ?_⟩
    rw [← zUn_fr (f.rw 58 (by omega)) (f.rw 59 (by omega)) (f.rw 62 (by omega))]
    exact s_X11_untrue (d := 5) (hG.fr f) hr (by rw [f.rw 61 (by omega)]; exact h3)
  · exact ⟨_, zE_D (s_X10_untrue_bad (d := 5) hR.2.1 hR.1 hb) zFr.rf, fun J M f => zE_D (s_X11_untrue_bad (d := 5) (hG.fr f).2.2.2.2.2.1.2.2.1 hR.1 hb) zFr.rf⟩
theorem op_backed (x : Int32) : zOp 115 189 [.int x] := by
  refine zOp_of (fun I L hI => ?_)
  obtain ⟨t, e, nl, nr, n, c, w, hG⟩ := zInv_G hI
  have hR := hG.2.2.2.2.2.1
  by_cases hb : 0 ≤ x.toInt ∧ x.toInt < (nr : Int)
  · obtain ⟨r, hr, rfl⟩ := znatlt hb.1 hb.2 (by have := hR.1; omega)
    obtain ⟨m, v, h1, h2, h3, h4⟩ := hR.2.2.2.2.2 r hr
    refine ⟨_, s_X10_backed (d := 2) hG hr h3 h1, fun J M f => ?_⟩
    rw [← zbk_fr f h1 hG.2.2.2.1.2.2.2.2.2.1]
    exact s_X11_backed (d := 2) (hG.fr f) hr (by rw [f.rw 61 (by omega)]; exact h3) h1
  · exact ⟨_, zE_D (s_X10_backed_bad (d := 2) hR.2.1 hR.1 hb) zFr.rf, fun J M f => zE_D (s_X11_backed_bad (d := 2) (hG.fr f).2.2.2.2.2.1.2.2.1 hR.1 hb) zFr.rf⟩
