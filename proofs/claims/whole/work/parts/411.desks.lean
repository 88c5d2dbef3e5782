/-! ===== desks and contracts of the class ===== -/
def zsum (f : Nat → Int32) : Nat → Int32
  | 0 => 0
  | n + 1 => zsum f n + f n
theorem zloop {P : Nat → Prop} (n : Nat) (hs : ∀ k, k < n → P (k + 1) → P k) (he : P n) : ∀ k, k ≤ n → P k := by
  intro k hk
  obtain ⟨j, rfl⟩ : ∃ j, n = k + j := ⟨n - k, by omega⟩
  clear hk
  induction j generalizing k with
  | zero => exact he
  | succ j ih => exact hs k (by omega) (ih (k + 1) (by rw [show k + 1 + j = k + (j + 1) by omega]; exact hs) (by rw [show k + 1 + j = k + (j + 1) by omega]; exact he))
theorem zin {k n : Nat} (h : k < n) (hn : n < 2 ^ 31) : az_in (nI k) n := by
  rw [az_in, nI_toInt (by omega)]; omega
theorem zinT {k n : Nat} (h : k < n) (hn : n < 2 ^ 31) : az_in (nI k) n = True := eq_true (zin h hn)
theorem az_uI_at (I : Nat → Nat → Int32) (a j b k : Nat) (v : Int32) : az_uI I a j v b k = if b = a ∧ k = j then v else I b k := rfl
theorem az_uL_at (I : Nat → Nat → Int64) (a j b k : Nat) (v : Int64) : az_uL I a j v b k = if b = a ∧ k = j then v else I b k := rfl
theorem zas (a b c : Int32) : a + b - c = a + (b - c) := by rw [Int32.sub_eq_add_neg, Int32.sub_eq_add_neg, Int32.add_assoc]
theorem nI_back (n : Nat) : nI n + 1 - 1 = nI n := by rw [← nI_succ]; exact nI_pred n
section S
variable {d : Nat} {I : Nat → Nat → Int32} {L : Nat → Nat → Int64} {h : az_H}
theorem s_X0_deskCount  : zD (d + 1) 1 [.ref 49] (130, az_Pf, I, L) (some (.int (I 49 1))) (130, az_Pf, I, L) := by
  refine zD_of zm_X0_deskCount rfl ?_
  show az_W _ _ _ 0 [.ref 49] [] _
  simp only [u_X0_deskCount_0, u_X0_deskCount_1, u_X0_deskCount_4, az_un_i, az_un_r, az_un_n, az_un_l, Option.toList_some, Option.toList_none, List.cons_append, List.nil_append, List.length_cons, List.length_nil, Nat.reduceLeDiff, Nat.reduceAdd, Nat.zero_le, Nat.zero_add, and_true, true_and, zb_1, eq_self]
theorem s_X0_contractCount  : zD (d + 1) 2 [.ref 49] (130, az_Pf, I, L) (some (.int (I 49 7))) (130, az_Pf, I, L) := by
  refine zD_of zm_X0_contractCount rfl ?_
  show az_W _ _ _ 0 [.ref 49] [] _
  simp only [u_X0_contractCount_0, u_X0_contractCount_1, u_X0_contractCount_4, az_un_i, az_un_r, az_un_n, az_un_l, Option.toList_some, Option.toList_none, List.cons_append, List.nil_append, List.length_cons, List.length_nil, Nat.reduceLeDiff, Nat.reduceAdd, Nat.zero_le, Nat.zero_add, and_true, true_and, zb_1, eq_self]
theorem s_X0_areTwo {x y : Int32} : zD (d + 2) 4 [.ref 49, .int x, .int y] (130, az_Pf, I, L) (some (.int (zb ((0 ≤ x.toInt ∧ x.toInt < (I 49 1).toInt) ∧ (0 ≤ y.toInt ∧ y.toInt < (I 49 1).toInt) ∧ ¬ x = y)))) (130, az_Pf, I, L) := by
  refine zD_of zm_X0_areTwo rfl ?_
  show az_W _ _ _ 0 [.ref 49, .int x, .int y] [] _
  simp only [u_X0_areTwo_0, u_X0_areTwo_1, u_X0_areTwo_2, u_X0_areTwo_5, u_X0_areTwo_8, u_X0_areTwo_9, u_X0_areTwo_10, u_X0_areTwo_13, u_X0_areTwo_16, u_X0_areTwo_17, u_X0_areTwo_18, u_X0_areTwo_21, u_X0_areTwo_22, u_X0_areTwo_25, u_X0_areTwo_26, az_un_i, az_un_r, az_un_n, az_un_l, Option.toList_some, Option.toList_none, List.cons_append, List.nil_append, List.length_cons, List.length_nil, Nat.reduceLeDiff, Nat.reduceAdd, Nat.zero_le, Nat.zero_add, and_true, true_and, zb_1, eq_self, az_call s_X0_has, zb_0]
  by_cases h1 : 0 ≤ x.toInt ∧ x.toInt < (I 49 1).toInt <;> by_cases h2 : 0 ≤ y.toInt ∧ y.toInt < (I 49 1).toInt <;> by_cases h3 : x = y <;> simp only [h1, h2, h3, zb, not_true, not_false_iff, if_true, if_false, and_true, true_and, and_false, false_and, and_self] <;> simp
theorem s_X0_houseOf {x : Int32} (hx : az_in x 12) : zD (d + 1) 5 [.ref 49, .int x] (130, az_Pf, I, L) (some (.int (I 50 x.toNatClampNeg))) (130, az_Pf, I, L) := by
  refine zD_of zm_X0_houseOf rfl ?_
  show az_W _ _ _ 0 [.ref 49, .int x] [] _
  simp only [u_X0_houseOf_0, u_X0_houseOf_1, u_X0_houseOf_4, u_X0_houseOf_5, u_X0_houseOf_6, az_un_i, az_un_r, az_un_n, az_un_l, Option.toList_some, Option.toList_none, List.cons_append, List.nil_append, List.length_cons, List.length_nil, Nat.reduceLeDiff, Nat.reduceAdd, Nat.zero_le, Nat.zero_add, and_true, true_and, zb_1, eq_self, kx_50, eq_true hx]
theorem s_X0_open {x : Int32} {n : Nat} (hn : I 49 1 = nI n) (hle : n < 12) : zD (d + 1) 6 [.ref 49, .int x] (130, az_Pf, I, L) (some (.int (nI n))) (130, az_Pf, az_uI (az_uI I 50 n x) 49 1 (nI (n + 1)), L) := by
  refine zD_of zm_X0_open rfl ?_
  show az_W _ _ _ 0 [.ref 49, .int x] [] _
  have h1 : nI n < 12 := nI_lt (b := 12) hle (by decide)
  have hi := zinT hle (by decide)
  have hc : (nI n).toNatClampNeg = n := nI_clamp (by omega)
  simp only [u_X0_open_0, u_X0_open_1, u_X0_open_4, u_X0_open_6, u_X0_open_9, u_X0_open_11, u_X0_open_12, u_X0_open_13, u_X0_open_16, u_X0_open_17, u_X0_open_20, u_X0_open_21, u_X0_open_22, u_X0_open_23, u_X0_open_23r, u_X0_open_24, u_X0_open_27, u_X0_open_28, u_X0_open_29, u_X0_open_32, u_X0_open_33, u_X0_open_36, u_X0_open_37, u_X0_open_38, az_un_i, az_un_r, az_un_n, az_un_l, Option.toList_some, Option.toList_none, List.cons_append, List.nil_append, List.length_cons, List.length_nil, Nat.reduceLeDiff, Nat.reduceAdd, Nat.zero_le, Nat.zero_add, and_true, true_and, zb_1, eq_self, kx_50, hn, h1, hi, hc, az_uI_at, az_uL_at, Nat.reduceEqDiff, false_and, and_false, and_self, if_true, if_false, ite_true, ite_false, nI_back, nI_succ]
theorem s_X0_open_full {x : Int32} (hn : I 49 1 = 12) : zD (d + 1) 6 [.ref 49, .int x] (130, az_Pf, I, L) (some (.int (-3))) (130, az_Pf, I, L) := by
  refine zD_of zm_X0_open rfl ?_
  show az_W _ _ _ 0 [.ref 49, .int x] [] _
  have h1 : ¬ (12 : Int32) < 12 := by decide
  simp only [u_X0_open_0, u_X0_open_1, u_X0_open_4, u_X0_open_6, u_X0_open_9, u_X0_open_11, u_X0_open_12, u_X0_open_13, u_X0_open_16, u_X0_open_17, u_X0_open_20, u_X0_open_21, u_X0_open_22, u_X0_open_23, u_X0_open_23r, u_X0_open_24, u_X0_open_27, u_X0_open_28, u_X0_open_29, u_X0_open_32, u_X0_open_33, u_X0_open_36, u_X0_open_37, u_X0_open_38, az_un_i, az_un_r, az_un_n, az_un_l, Option.toList_some, Option.toList_none, List.cons_append, List.nil_append, List.length_cons, List.length_nil, Nat.reduceLeDiff, Nat.reduceAdd, Nat.zero_le, Nat.zero_add, and_true, true_and, zb_1, eq_self, hn, h1, az_uI_at, az_uL_at, Nat.reduceEqDiff, false_and, and_false, and_self, if_true, if_false, ite_true, ite_false]
theorem s_X0_sign {a b m z t : Int32} {n : Nat} (hn : I 49 7 = nI n) (hle : n < 24) : zD (d + 1) 7 [.ref 49, .int a, .int b, .int m, .int z, .int t] (130, az_Pf, I, L) (some (.int (nI n))) (130, az_Pf, az_uI (az_uI (az_uI (az_uI (az_uI (az_uI I 51 n a) 52 n b) 53 n m) 54 n z) 55 n t) 49 7 (nI (n + 1)), L) := by
  refine zD_of zm_X0_sign rfl ?_
  show az_W _ _ _ 0 [.ref 49, .int a, .int b, .int m, .int z, .int t] [] _
  have h1 : nI n < 24 := nI_lt (b := 24) hle (by decide)
  have hi := zinT hle (by decide)
  have hc : (nI n).toNatClampNeg = n := nI_clamp (by omega)
  simp only [u_X0_sign_0, u_X0_sign_1, u_X0_sign_4, u_X0_sign_6, u_X0_sign_9, u_X0_sign_11, u_X0_sign_12, u_X0_sign_13, u_X0_sign_16, u_X0_sign_17, u_X0_sign_20, u_X0_sign_21, u_X0_sign_22, u_X0_sign_23, u_X0_sign_26, u_X0_sign_27, u_X0_sign_30, u_X0_sign_31, u_X0_sign_32, u_X0_sign_33, u_X0_sign_36, u_X0_sign_37, u_X0_sign_40, u_X0_sign_41, u_X0_sign_42, u_X0_sign_43, u_X0_sign_46, u_X0_sign_47, u_X0_sign_50, u_X0_sign_52, u_X0_sign_53, u_X0_sign_54, u_X0_sign_57, u_X0_sign_58, u_X0_sign_61, u_X0_sign_63, u_X0_sign_64, u_X0_sign_65, u_X0_sign_65r, u_X0_sign_66, u_X0_sign_69, u_X0_sign_70, u_X0_sign_71, u_X0_sign_74, u_X0_sign_75, u_X0_sign_78, u_X0_sign_79, u_X0_sign_80, az_un_i, az_un_r, az_un_n, az_un_l, Option.toList_some, Option.toList_none, List.cons_append, List.nil_append, List.length_cons, List.length_nil, Nat.reduceLeDiff, Nat.reduceAdd, Nat.zero_le, Nat.zero_add, and_true, true_and, zb_1, eq_self, kx_51, kx_52, kx_53, kx_54, kx_55, hn, h1, hi, hc, az_uI_at, az_uL_at, Nat.reduceEqDiff, false_and, and_false, and_self, if_true, if_false, ite_true, ite_false, nI_back, nI_succ]
theorem s_X0_sign_full {a b m z t : Int32} (hn : I 49 7 = 24) : zD (d + 1) 7 [.ref 49, .int a, .int b, .int m, .int z, .int t] (130, az_Pf, I, L) (some (.int (-3))) (130, az_Pf, I, L) := by
  refine zD_of zm_X0_sign rfl ?_
  show az_W _ _ _ 0 [.ref 49, .int a, .int b, .int m, .int z, .int t] [] _
  have h1 : ¬ (24 : Int32) < 24 := by decide
  simp only [u_X0_sign_0, u_X0_sign_1, u_X0_sign_4, u_X0_sign_6, u_X0_sign_9, u_X0_sign_11, u_X0_sign_12, u_X0_sign_13, u_X0_sign_16, u_X0_sign_17, u_X0_sign_20, u_X0_sign_21, u_X0_sign_22, u_X0_sign_23, u_X0_sign_26, u_X0_sign_27, u_X0_sign_30, u_X0_sign_31, u_X0_sign_32, u_X0_sign_33, u_X0_sign_36, u_X0_sign_37, u_X0_sign_40, u_X0_sign_41, u_X0_sign_42, u_X0_sign_43, u_X0_sign_46, u_X0_sign_47, u_X0_sign_50, u_X0_sign_52, u_X0_sign_53, u_X0_sign_54, u_X0_sign_57, u_X0_sign_58, u_X0_sign_61, u_X0_sign_63, u_X0_sign_64, u_X0_sign_65, u_X0_sign_65r, u_X0_sign_66, u_X0_sign_69, u_X0_sign_70, u_X0_sign_71, u_X0_sign_74, u_X0_sign_75, u_X0_sign_78, u_X0_sign_79, u_X0_sign_80, az_un_i, az_un_r, az_un_n, az_un_l, Option.toList_some, Option.toList_none, List.cons_append, List.nil_append, List.length_cons, List.length_nil, Nat.reduceLeDiff, Nat.reduceAdd, Nat.zero_le, Nat.zero_add, and_true, true_and, zb_1, eq_self, hn, h1, az_uI_at, az_uL_at, Nat.reduceEqDiff, false_and, and_false, and_self, if_true, if_false, ite_true, ite_false]
def zss (I : Nat → Nat → Int32) (x m : Int32) (c : Nat) : Int32 := if I 53 c = m then (if I 51 c = x then I 54 c else if I 52 c = x then - I 54 c else 0) else 0
theorem s_X0_signedSize {x m : Int32} {k : Nat} (hk : k < 24) : zD (d + 1) 12 [.ref 49, .int (nI k), .int x, .int m] (130, az_Pf, I, L) (some (.int (zss I x m k))) (130, az_Pf, I, L) := by
  refine zD_of zm_X0_signedSize rfl ?_
  show az_W _ _ _ 0 [.ref 49, .int (nI k), .int x, .int m] [] _
  have hi := zinT hk (by decide)
  have hc : (nI k).toNatClampNeg = k := nI_clamp (by omega)
  simp only [u_X0_signedSize_0, u_X0_signedSize_1, u_X0_signedSize_4, u_X0_signedSize_5, u_X0_signedSize_6, u_X0_signedSize_7, u_X0_signedSize_10, u_X0_signedSize_11, u_X0_signedSize_12, u_X0_signedSize_13, u_X0_signedSize_16, u_X0_signedSize_17, u_X0_signedSize_18, u_X0_signedSize_19, u_X0_signedSize_22, u_X0_signedSize_23, u_X0_signedSize_26, u_X0_signedSize_27, u_X0_signedSize_28, u_X0_signedSize_29, u_X0_signedSize_30, u_X0_signedSize_33, u_X0_signedSize_34, u_X0_signedSize_35, u_X0_signedSize_36, u_X0_signedSize_39, u_X0_signedSize_40, u_X0_signedSize_43, u_X0_signedSize_44, u_X0_signedSize_45, u_X0_signedSize_46, u_X0_signedSize_49, u_X0_signedSize_50, az_un_i, az_un_r, az_un_n, az_un_l, Option.toList_some, Option.toList_none, List.cons_append, List.nil_append, List.length_cons, List.length_nil, Nat.reduceLeDiff, Nat.reduceAdd, Nat.zero_le, Nat.zero_add, and_true, true_and, zb_1, eq_self, kx_51, kx_52, kx_53, kx_54, hi, hc]
  unfold zss
  by_cases h1 : I 53 k = m <;> by_cases h2 : I 51 k = x <;> by_cases h3 : I 52 k = x <;> simp only [h1, h2, h3, if_true, if_false]
theorem s_X0_deskGain {x m : Int32} {n : Nat} (hn : I 49 7 = nI n) (hle : n ≤ 24) : zD (d + 2) 8 [.ref 49, .int x, .int m] (130, az_Pf, I, L) (some (.int (zsum (zss I x m) n))) (130, az_Pf, I, L) := by
  refine zD_of zm_X0_deskGain rfl ?_
  show az_W _ _ _ 0 [.ref 49, .int x, .int m, .null, .null] [] _
  simp only [u_X0_deskGain_0, u_X0_deskGain_1, u_X0_deskGain_2, u_X0_deskGain_3, u_X0_deskGain_7, u_X0_deskGain_8, u_X0_deskGain_11, u_X0_deskGain_14, u_X0_deskGain_15, u_X0_deskGain_16, u_X0_deskGain_18, u_X0_deskGain_19, u_X0_deskGain_20, u_X0_deskGain_23, u_X0_deskGain_24, u_X0_deskGain_25, u_X0_deskGain_28, u_X0_deskGain_31, u_X0_deskGain_32, az_un_i, az_un_r, az_un_n, az_un_l, Option.toList_some, Option.toList_none, List.cons_append, List.nil_append, List.length_cons, List.length_nil, Nat.reduceLeDiff, Nat.reduceAdd, Nat.zero_le, Nat.zero_add, and_true, true_and, zb_1, eq_self]
  refine zloop (P := fun k => az_W (zD (d + 1)) _ _ 5 [.ref 49, .int x, .int m, .int (zsum (zss I x m) k), .int (nI k)] [] _) n (fun k hk ih => ?_) ?_ 0 (Nat.zero_le _)
  · have h1 : ¬ nI n ≤ nI k := nI_ge hk (by omega)
    simp only [u_X0_deskGain_5]
    simp only [u_X0_deskGain_0, u_X0_deskGain_1, u_X0_deskGain_2, u_X0_deskGain_3, u_X0_deskGain_7, u_X0_deskGain_8, u_X0_deskGain_11, u_X0_deskGain_14, u_X0_deskGain_15, u_X0_deskGain_16, u_X0_deskGain_18, u_X0_deskGain_19, u_X0_deskGain_20, u_X0_deskGain_23, u_X0_deskGain_24, u_X0_deskGain_25, u_X0_deskGain_28, u_X0_deskGain_31, u_X0_deskGain_32, az_un_i, az_un_r, az_un_n, az_un_l, Option.toList_some, Option.toList_none, List.cons_append, List.nil_append, List.length_cons, List.length_nil, Nat.reduceLeDiff, Nat.reduceAdd, Nat.zero_le, Nat.zero_add, and_true, true_and, zb_1, eq_self, hn, h1, if_false, az_call (s_X0_signedSize (show k < 24 by omega))]
    rw [nI_succ] at ih
    exact ih
  · have h1 : nI n ≤ nI n := nI_le (Nat.le_refl _) (by omega)
    simp only [u_X0_deskGain_5]
    simp only [u_X0_deskGain_0, u_X0_deskGain_1, u_X0_deskGain_2, u_X0_deskGain_3, u_X0_deskGain_7, u_X0_deskGain_8, u_X0_deskGain_11, u_X0_deskGain_14, u_X0_deskGain_15, u_X0_deskGain_16, u_X0_deskGain_18, u_X0_deskGain_19, u_X0_deskGain_20, u_X0_deskGain_23, u_X0_deskGain_24, u_X0_deskGain_25, u_X0_deskGain_28, u_X0_deskGain_31, u_X0_deskGain_32, az_un_i, az_un_r, az_un_n, az_un_l, Option.toList_some, Option.toList_none, List.cons_append, List.nil_append, List.length_cons, List.length_nil, Nat.reduceLeDiff, Nat.reduceAdd, Nat.zero_le, Nat.zero_add, and_true, true_and, zb_1, eq_self, hn, h1, if_true]
theorem s_X0_strikeSum {x m : Int32} {n : Nat} (hn : I 49 7 = nI n) (hle : n ≤ 24) : zD (d + 2) 10 [.ref 49, .int x, .int m] (130, az_Pf, I, L) (some (.int (zsum (fun c => zss I x m c * I 55 c) n))) (130, az_Pf, I, L) := by
  refine zD_of zm_X0_strikeSum rfl ?_
  show az_W _ _ _ 0 [.ref 49, .int x, .int m, .null, .null] [] _
  simp only [u_X0_strikeSum_0, u_X0_strikeSum_1, u_X0_strikeSum_2, u_X0_strikeSum_3, u_X0_strikeSum_7, u_X0_strikeSum_8, u_X0_strikeSum_11, u_X0_strikeSum_14, u_X0_strikeSum_15, u_X0_strikeSum_16, u_X0_strikeSum_18, u_X0_strikeSum_19, u_X0_strikeSum_20, u_X0_strikeSum_23, u_X0_strikeSum_24, u_X0_strikeSum_27, u_X0_strikeSum_29, u_X0_strikeSum_30, u_X0_strikeSum_31, u_X0_strikeSum_32, u_X0_strikeSum_33, u_X0_strikeSum_36, u_X0_strikeSum_39, u_X0_strikeSum_40, az_un_i, az_un_r, az_un_n, az_un_l, Option.toList_some, Option.toList_none, List.cons_append, List.nil_append, List.length_cons, List.length_nil, Nat.reduceLeDiff, Nat.reduceAdd, Nat.zero_le, Nat.zero_add, and_true, true_and, zb_1, eq_self]
  refine zloop (P := fun k => az_W (zD (d + 1)) _ _ 5 [.ref 49, .int x, .int m, .int (zsum (fun c => zss I x m c * I 55 c) k), .int (nI k)] [] _) n (fun k hk ih => ?_) ?_ 0 (Nat.zero_le _)
  · have h1 : ¬ nI n ≤ nI k := nI_ge hk (by omega)
    have hi := zinT (show k < 24 by omega) (by decide)
    have hc : (nI k).toNatClampNeg = k := nI_clamp (by omega)
    simp only [u_X0_strikeSum_5]
    simp only [u_X0_strikeSum_0, u_X0_strikeSum_1, u_X0_strikeSum_2, u_X0_strikeSum_3, u_X0_strikeSum_7, u_X0_strikeSum_8, u_X0_strikeSum_11, u_X0_strikeSum_14, u_X0_strikeSum_15, u_X0_strikeSum_16, u_X0_strikeSum_18, u_X0_strikeSum_19, u_X0_strikeSum_20, u_X0_strikeSum_23, u_X0_strikeSum_24, u_X0_strikeSum_27, u_X0_strikeSum_29, u_X0_strikeSum_30, u_X0_strikeSum_31, u_X0_strikeSum_32, u_X0_strikeSum_33, u_X0_strikeSum_36, u_X0_strikeSum_39, u_X0_strikeSum_40, az_un_i, az_un_r, az_un_n, az_un_l, Option.toList_some, Option.toList_none, List.cons_append, List.nil_append, List.length_cons, List.length_nil, Nat.reduceLeDiff, Nat.reduceAdd, Nat.zero_le, Nat.zero_add, and_true, true_and, zb_1, eq_self, hn, h1, if_false, kx_55, hi, hc, az_call (s_X0_signedSize (show k < 24 by omega))]
    rw [nI_succ] at ih
    exact ih
  · have h1 : nI n ≤ nI n := nI_le (Nat.le_refl _) (by omega)
    simp only [u_X0_strikeSum_5]
    simp only [u_X0_strikeSum_0, u_X0_strikeSum_1, u_X0_strikeSum_2, u_X0_strikeSum_3, u_X0_strikeSum_7, u_X0_strikeSum_8, u_X0_strikeSum_11, u_X0_strikeSum_14, u_X0_strikeSum_15, u_X0_strikeSum_16, u_X0_strikeSum_18, u_X0_strikeSum_19, u_X0_strikeSum_20, u_X0_strikeSum_23, u_X0_strikeSum_24, u_X0_strikeSum_27, u_X0_strikeSum_29, u_X0_strikeSum_30, u_X0_strikeSum_31, u_X0_strikeSum_32, u_X0_strikeSum_33, u_X0_strikeSum_36, u_X0_strikeSum_39, u_X0_strikeSum_40, az_un_i, az_un_r, az_un_n, az_un_l, Option.toList_some, Option.toList_none, List.cons_append, List.nil_append, List.length_cons, List.length_nil, Nat.reduceLeDiff, Nat.reduceAdd, Nat.zero_le, Nat.zero_add, and_true, true_and, zb_1, eq_self, hn, h1, if_true]
/-- what a contract adds to the gain of a house -/
def zhg (I : Nat → Nat → Int32) (x m : Int32) (c : Nat) : Int32 := if I 53 c = m then (if I 50 (I 51 c).toNatClampNeg = x then I 54 c else 0) - (if I 50 (I 52 c).toNatClampNeg = x then I 54 c else 0) else 0
theorem s_X0_houseGain {x m : Int32} {n : Nat} (hn : I 49 7 = nI n) (hle : n ≤ 24) (hg : ∀ c, c < n → az_in (I 51 c) 12 ∧ az_in (I 52 c) 12) : zD (d + 1) 9 [.ref 49, .int x, .int m] (130, az_Pf, I, L) (some (.int (zsum (zhg I x m) n))) (130, az_Pf, I, L) := by
  refine zD_of zm_X0_houseGain rfl ?_
  show az_W _ _ _ 0 [.ref 49, .int x, .int m, .null, .null] [] _
  simp only [u_X0_houseGain_0, u_X0_houseGain_1, u_X0_houseGain_2, u_X0_houseGain_3, u_X0_houseGain_7, u_X0_houseGain_8, u_X0_houseGain_11, u_X0_houseGain_14, u_X0_houseGain_15, u_X0_houseGain_18, u_X0_houseGain_20, u_X0_houseGain_21, u_X0_houseGain_22, u_X0_houseGain_25, u_X0_houseGain_26, u_X0_houseGain_27, u_X0_houseGain_30, u_X0_houseGain_31, u_X0_houseGain_34, u_X0_houseGain_36, u_X0_houseGain_37, u_X0_houseGain_38, u_X0_houseGain_39, u_X0_houseGain_42, u_X0_houseGain_43, u_X0_houseGain_46, u_X0_houseGain_48, u_X0_houseGain_49, u_X0_houseGain_52, u_X0_houseGain_53, u_X0_houseGain_54, u_X0_houseGain_55, u_X0_houseGain_56, u_X0_houseGain_57, u_X0_houseGain_60, u_X0_houseGain_61, u_X0_houseGain_64, u_X0_houseGain_66, u_X0_houseGain_67, u_X0_houseGain_68, u_X0_houseGain_69, u_X0_houseGain_72, u_X0_houseGain_73, u_X0_houseGain_76, u_X0_houseGain_78, u_X0_houseGain_79, u_X0_houseGain_82, u_X0_houseGain_83, u_X0_houseGain_84, u_X0_houseGain_85, u_X0_houseGain_88, u_X0_houseGain_91, u_X0_houseGain_92, az_un_i, az_un_r, az_un_n, az_un_l, Option.toList_some, Option.toList_none, List.cons_append, List.nil_append, List.length_cons, List.length_nil, Nat.reduceLeDiff, Nat.reduceAdd, Nat.zero_le, Nat.zero_add, and_true, true_and, zb_1, eq_self]
  refine zloop (P := fun k => az_W (zD d) _ _ 5 [.ref 49, .int x, .int m, .int (zsum (zhg I x m) k), .int (nI k)] [] _) n (fun k hk ih => ?_) ?_ 0 (Nat.zero_le _)
  · have h1 : ¬ nI n ≤ nI k := nI_ge hk (by omega)
    have hi := zinT (show k < 24 by omega) (by decide)
    have hc : (nI k).toNatClampNeg = k := nI_clamp (by omega)
    obtain ⟨g1, g2⟩ := hg k hk
    simp only [u_X0_houseGain_5]
    simp only [u_X0_houseGain_0, u_X0_houseGain_1, u_X0_houseGain_2, u_X0_houseGain_3, u_X0_houseGain_7, u_X0_houseGain_8, u_X0_houseGain_11, u_X0_houseGain_14, u_X0_houseGain_15, u_X0_houseGain_18, u_X0_houseGain_20, u_X0_houseGain_21, u_X0_houseGain_22, u_X0_houseGain_25, u_X0_houseGain_26, u_X0_houseGain_27, u_X0_houseGain_30, u_X0_houseGain_31, u_X0_houseGain_34, u_X0_houseGain_36, u_X0_houseGain_37, u_X0_houseGain_38, u_X0_houseGain_39, u_X0_houseGain_42, u_X0_houseGain_43, u_X0_houseGain_46, u_X0_houseGain_48, u_X0_houseGain_49, u_X0_houseGain_52, u_X0_houseGain_53, u_X0_houseGain_54, u_X0_houseGain_55, u_X0_houseGain_56, u_X0_houseGain_57, u_X0_houseGain_60, u_X0_houseGain_61, u_X0_houseGain_64, u_X0_houseGain_66, u_X0_houseGain_67, u_X0_houseGain_68, u_X0_houseGain_69, u_X0_houseGain_72, u_X0_houseGain_73, u_X0_houseGain_76, u_X0_houseGain_78, u_X0_houseGain_79, u_X0_houseGain_82, u_X0_houseGain_83, u_X0_houseGain_84, u_X0_houseGain_85, u_X0_houseGain_88, u_X0_houseGain_91, u_X0_houseGain_92, az_un_i, az_un_r, az_un_n, az_un_l, Option.toList_some, Option.toList_none, List.cons_append, List.nil_append, List.length_cons, List.length_nil, Nat.reduceLeDiff, Nat.reduceAdd, Nat.zero_le, Nat.zero_add, and_true, true_and, zb_1, eq_self, hn, h1, if_false, kx_50, kx_51, kx_52, kx_53, kx_54, hi, hc, eq_true g1, eq_true g2]
    rw [nI_succ] at ih
    have e : zsum (zhg I x m) (k + 1) = zsum (zhg I x m) k + zhg I x m k := rfl
    rw [e] at ih
    unfold zhg at ih ⊢
    by_cases h2 : I 53 k = m
    · rw [if_pos h2]
      rw [if_pos h2] at ih
      by_cases h3 : I 50 (I 51 k).toNatClampNeg = x <;> by_cases h4 : I 50 (I 52 k).toNatClampNeg = x <;> simp only [h3, h4, if_true, if_false] at ih ⊢ <;> first | (rw [← zas] at ih; exact ih) | (rw [← zas] at ih; simpa using ih)
    · rw [if_neg h2]
      rw [if_neg h2, Int32.add_zero] at ih
      exact ih
  · have h1 : nI n ≤ nI n := nI_le (Nat.le_refl _) (by omega)
    simp only [u_X0_houseGain_5]
    simp only [u_X0_houseGain_0, u_X0_houseGain_1, u_X0_houseGain_2, u_X0_houseGain_3, u_X0_houseGain_7, u_X0_houseGain_8, u_X0_houseGain_11, u_X0_houseGain_14, u_X0_houseGain_15, u_X0_houseGain_18, u_X0_houseGain_20, u_X0_houseGain_21, u_X0_houseGain_22, u_X0_houseGain_25, u_X0_houseGain_26, u_X0_houseGain_27, u_X0_houseGain_30, u_X0_houseGain_31, u_X0_houseGain_34, u_X0_houseGain_36, u_X0_houseGain_37, u_X0_houseGain_38, u_X0_houseGain_39, u_X0_houseGain_42, u_X0_houseGain_43, u_X0_houseGain_46, u_X0_houseGain_48, u_X0_houseGain_49, u_X0_houseGain_52, u_X0_houseGain_53, u_X0_houseGain_54, u_X0_houseGain_55, u_X0_houseGain_56, u_X0_houseGain_57, u_X0_houseGain_60, u_X0_houseGain_61, u_X0_houseGain_64, u_X0_houseGain_66, u_X0_houseGain_67, u_X0_houseGain_68, u_X0_houseGain_69, u_X0_houseGain_72, u_X0_houseGain_73, u_X0_houseGain_76, u_X0_houseGain_78, u_X0_houseGain_79, u_X0_houseGain_82, u_X0_houseGain_83, u_X0_houseGain_84, u_X0_houseGain_85, u_X0_houseGain_88, u_X0_houseGain_91, u_X0_houseGain_92, az_un_i, az_un_r, az_un_n, az_un_l, Option.toList_some, Option.toList_none, List.cons_append, List.nil_append, List.length_cons, List.length_nil, Nat.reduceLeDiff, Nat.reduceAdd, Nat.zero_le, Nat.zero_add, and_true, true_and, zb_1, eq_self, hn, h1, if_true]
end S
