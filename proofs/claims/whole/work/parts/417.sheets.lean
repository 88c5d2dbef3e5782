/-! ===== sheets ===== -/
def zseg (I : Nat → Nat → Int32) (a lo : Nat) (f : Nat → Int32) (n : Nat) : Nat → Nat → Int32 := fun b j => if b = a ∧ lo ≤ j ∧ j < lo + n then f (j - lo) else I b j
theorem zseg_0 {I : Nat → Nat → Int32} {a lo : Nat} {f : Nat → Int32} : zseg I a lo f 0 = I := funext fun b => funext fun j => if_neg (by omega)
theorem zseg_s {I : Nat → Nat → Int32} {a lo : Nat} {f : Nat → Int32} {n : Nat} : az_uI (zseg I a lo f n) a (lo + n) (f n) = zseg I a lo f (n + 1) := by
  funext b j
  rw [az_uI_at]; unfold zseg
  by_cases h : b = a ∧ j = lo + n
  · rw [if_pos h, if_pos (by omega), h.2, Nat.add_sub_cancel_left]
  · rw [if_neg h]
    by_cases g : b = a ∧ lo ≤ j ∧ j < lo + n
    · rw [if_pos g, if_pos (by omega)]
    · rw [if_neg g, if_neg (by omega)]
theorem zseg_ne {I : Nat → Nat → Int32} {a lo : Nat} {f : Nat → Int32} {n b j : Nat} (h : b ≠ a) : zseg I a lo f n b j = I b j := if_neg (fun q => h q.1)
theorem zseg_at {I : Nat → Nat → Int32} {a lo : Nat} {f : Nat → Int32} {n b j : Nat} : zseg I a lo f n b j = if b = a ∧ lo ≤ j ∧ j < lo + n then f (j - lo) else I b j := rfl
theorem zbmk (k c h : Int) (hc : 0 < c) (hh : 0 < h) (h0 : 0 ≤ k) (h1 : k < 2 * h) : (if k * c < h * c then k * c else k * c - 2 * h * c) / c = if k < h then k else k - 2 * h := by
  by_cases g : k < h
  · rw [if_pos g, if_pos (Int.mul_lt_mul_of_pos_right g hc), Int.mul_ediv_cancel _ (by omega)]
  · rw [if_neg g, if_neg (fun q => g (Int.lt_of_mul_lt_mul_right q (by omega))), ← Int.sub_mul, Int.mul_ediv_cancel _ (by omega)]
theorem zi2b (v : Int32) : (v <<< ((24 : Int32) &&& 31)) >>> ((24 : Int32) &&& 31) = v.toInt8.toInt32 := by
  apply Int32.toInt_inj.mp
  have e := pk_shl v ((24 : Int32) &&& 31) 24 (by decide)
  rw [pk_shr _ _ 24 (by decide), Int8.toInt_toInt32, Int32.toInt_toInt8]
  have e1 : (v <<< ((24 : Int32) &&& 31)).toInt = ((v <<< ((24 : Int32) &&& 31)).toBitVec.toNat : Int).bmod (2 ^ 32) := BitVec.toInt_eq_toNat_bmod _
  have e2 : v.toInt = (v.toBitVec.toNat : Int).bmod (2 ^ 32) := BitVec.toInt_eq_toNat_bmod _
  rw [show (2 : Nat) ^ 32 = 2 ^ 8 * 2 ^ 24 from rfl, Nat.mul_mod_mul_right] at e
  rw [e1, e, e2, Int.shiftRight_eq_div_pow, Int.bmod_bmod_of_dvd (by decide)]
  generalize v.toBitVec.toNat = N
  have hN : N % 2 ^ 8 < 256 := Nat.mod_lt _ (by decide)
  have k := zbmk (N % 2 ^ 8 : Nat) 16777216 128 (by decide) (by decide) (by omega) (by omega)
  rw [Int.bmod_def, Int.bmod_def, Int.emod_eq_of_lt (by omega) (by omega)]
  simp at k ⊢
  omega
theorem zi2s (v : Int32) : (v <<< ((16 : Int32) &&& 31)) >>> ((16 : Int32) &&& 31) = v.toInt16.toInt32 := by
  apply Int32.toInt_inj.mp
  have e := pk_shl v ((16 : Int32) &&& 31) 16 (by decide)
  rw [pk_shr _ _ 16 (by decide), Int16.toInt_toInt32, Int32.toInt_toInt16]
  have e1 : (v <<< ((16 : Int32) &&& 31)).toInt = ((v <<< ((16 : Int32) &&& 31)).toBitVec.toNat : Int).bmod (2 ^ 32) := BitVec.toInt_eq_toNat_bmod _
  have e2 : v.toInt = (v.toBitVec.toNat : Int).bmod (2 ^ 32) := BitVec.toInt_eq_toNat_bmod _
  rw [show (2 : Nat) ^ 32 = 2 ^ 16 * 2 ^ 16 from rfl, Nat.mul_mod_mul_right] at e
  rw [e1, e, e2, Int.shiftRight_eq_div_pow, Int.bmod_bmod_of_dvd (by decide)]
  generalize v.toBitVec.toNat = N
  have hN : N % 2 ^ 16 < 65536 := Nat.mod_lt _ (by decide)
  have k := zbmk (N % 2 ^ 16 : Nat) 65536 32768 (by decide) (by decide) (by omega) (by omega)
  rw [Int.bmod_def, Int.bmod_def, Int.emod_eq_of_lt (by omega) (by omega)]
  simp at k ⊢
  omega
theorem zloopH {P : Nat → az_H → Prop} (H : Nat → az_H) (n : Nat) (hs : ∀ k, k < n → P (k + 1) (H (k + 1)) → P k (H k)) (he : P n (H n)) {h0 : az_H} (e : H 0 = h0) : P 0 h0 := by
  rw [← e]; exact zloop (P := fun k => P k (H k)) n hs he 0 (Nat.zero_le _)
def znar (l : Nat) (v : Int32) : Int32 := if l = 0 then v.toInt8.toInt32 else if l = 1 then v.toInt16.toInt32 else v
def zrf (I : Nat → Nat → Int32) (s l : Nat) (f c : Int32) : Int32 := if I 87 s = -1 then -11 else if I 87 s = nI l then (if 0 ≤ f.toInt ∧ f.toInt ≤ (I 88 s - c).toInt then 0 else -13) else -12
theorem znt {k n : Nat} (h : k ≤ n) (hn : n < 2 ^ 31) : (0 ≤ (nI k).toInt ∧ (nI k).toInt ≤ (n : Int)) = True := eq_true (by rw [nI_toInt (by omega)]; omega)
section S
variable {d : Nat} {I : Nat → Nat → Int32} {L : Nat → Nat → Int64} {h : az_H}
theorem s_X8_isNamed {x y : Int32} : zD (d + 1) 73 [.int x, .int y] h (some (.int (zb ((0 ≤ x.toInt ∧ x.toInt ≤ 3) ∧ (0 ≤ y.toInt ∧ y.toInt ≤ 2))))) h := by
  refine zD_of zm_X8_isNamed rfl ?_
  show az_W _ _ _ 0 [.int x, .int y] [] _
  simp only [u_X8_isNamed_0, u_X8_isNamed_1, u_X8_isNamed_4, u_X8_isNamed_5, u_X8_isNamed_6, u_X8_isNamed_9, u_X8_isNamed_10, u_X8_isNamed_13, u_X8_isNamed_14, u_X8_isNamed_15, u_X8_isNamed_18, u_X8_isNamed_19, u_X8_isNamed_22, u_X8_isNamed_23, az_un_i, az_un_r, az_un_n, az_un_l, Option.toList_some, Option.toList_none, List.cons_append, List.nil_append, List.length_cons, List.length_nil, Nat.reduceLeDiff, Nat.reduceAdd, Nat.zero_le, Nat.zero_add, and_true, true_and, zb_1, eq_self]
  simp only [Int32.lt_iff_toInt_lt, Int32.le_iff_toInt_le, zl_0, zj_0, zl_1, zj_1, zl_2, zj_2, zl_3, zj_3, zl_4, zj_4, zl_5, zj_5, zl_6, zj_6, zl_7, zj_7, zl_8, zj_8, zl_9, zj_9, zl_10, zj_10, zl_11, zj_11, zl_12, zj_12, zl_15, zj_15, zl_16, zj_16, zl_20, zj_20, zl_24, zj_24, zl_29, zj_29, zl_30, zj_30, zl_31, zj_31, zl_32, zj_32, zl_40, zj_40, zl_48, zj_48, zl_57, zj_57, zl_59, zj_59, zl_60, zj_60, zl_63, zj_63, zl_99, zj_99, zl_100, zj_100, zl_126, zj_126, zl_144, zj_144, zl_200, zj_200, zl_240, zj_240, zl_255, zj_255, zl_256, zj_256, zl_999, zj_999, zl_1000, zj_1000, zlm_1, zjm_1, zlm_2, zjm_2, zlm_3, zjm_3, zlm_4, zjm_4, zlm_11, zjm_11, zlm_12, zjm_12, zlm_13, zjm_13, zlm_14, zjm_14, zlm_20, zjm_20, zlm_10001, zjm_10001, zlm_10002, zjm_10002, zb]
  (repeat' split) <;> first | (simp; done) | (exfalso; omega)
theorem s_X11_isSheet {x y : Int32} : zD (d + 2) 204 [.int x, .int y] h (some (.int (zb ((0 ≤ x.toInt ∧ x.toInt ≤ 3) ∧ (0 ≤ y.toInt ∧ y.toInt ≤ 2))))) h := by
  refine zD_of zm_X11_isSheet rfl ?_
  show az_W _ _ _ 0 [.int x, .int y] [] _
  simp only [u_X11_isSheet_0, u_X11_isSheet_1, u_X11_isSheet_2, u_X11_isSheet_3, u_X11_isSheet_6, u_X11_isSheet_9, u_X11_isSheet_12, u_X11_isSheet_13, u_X11_isSheet_14, u_X11_isSheet_15, u_X11_isSheet_18, u_X11_isSheet_21, u_X11_isSheet_24, u_X11_isSheet_25, u_X11_isSheet_28, u_X11_isSheet_29, az_un_i, az_un_r, az_un_n, az_un_l, Option.toList_some, Option.toList_none, List.cons_append, List.nil_append, List.length_cons, List.length_nil, Nat.reduceLeDiff, Nat.reduceAdd, Nat.zero_le, Nat.zero_add, and_true, true_and, zb_1, eq_self, az_call s_X11_in, z64, zb_0, zl_0, zj_0, zl_1, zj_1, zl_2, zj_2, zl_3, zj_3, zl_4, zj_4, zl_5, zj_5, zl_6, zj_6, zl_7, zj_7, zl_8, zj_8, zl_9, zj_9, zl_10, zj_10, zl_11, zj_11, zl_12, zj_12, zl_15, zj_15, zl_16, zj_16, zl_20, zj_20, zl_24, zj_24, zl_29, zj_29, zl_30, zj_30, zl_31, zj_31, zl_32, zj_32, zl_40, zj_40, zl_48, zj_48, zl_57, zj_57, zl_59, zj_59, zl_60, zj_60, zl_63, zj_63, zl_99, zj_99, zl_100, zj_100, zl_126, zj_126, zl_144, zj_144, zl_200, zj_200, zl_240, zj_240, zl_255, zj_255, zl_256, zj_256, zl_999, zj_999, zl_1000, zj_1000, zlm_1, zjm_1, zlm_2, zjm_2, zlm_3, zjm_3, zlm_4, zjm_4, zlm_11, zjm_11, zlm_12, zjm_12, zlm_13, zjm_13, zlm_14, zjm_14, zlm_20, zjm_20, zlm_10001, zjm_10001, zlm_10002, zjm_10002]
  by_cases h1 : 0 ≤ x.toInt ∧ x.toInt ≤ 3 <;> by_cases h2 : 0 ≤ y.toInt ∧ y.toInt ≤ 2 <;> simp only [h1, h2, zb, and_self, and_true, true_and, if_true, if_false, not_true, not_false_iff, not_true_eq_false, not_false_eq_true, ite_true, ite_false, false_and, and_false, false_or, or_false] <;> simp
theorem s_X8_refusal_bad {x y f c : Int32} (hb : ¬ (((0 ≤ x.toInt ∧ x.toInt ≤ 3) ∧ (0 ≤ y.toInt ∧ y.toInt ≤ 2)))) : zD (d + 2) 74 [.ref 86, .int x, .int y, .int f, .int c] (130, az_Pf, I, L) (some (.int (-1))) (130, az_Pf, I, L) := by
  refine zD_of zm_X8_refusal rfl ?_
  show az_W _ _ _ 0 [.ref 86, .int x, .int y, .int f, .int c] [] _
  simp only [u_X8_refusal_0, u_X8_refusal_1, u_X8_refusal_2, u_X8_refusal_5, u_X8_refusal_8, u_X8_refusal_9, u_X8_refusal_10, u_X8_refusal_11, u_X8_refusal_14, u_X8_refusal_15, u_X8_refusal_16, u_X8_refusal_17, u_X8_refusal_20, u_X8_refusal_22, u_X8_refusal_23, u_X8_refusal_24, u_X8_refusal_27, u_X8_refusal_28, u_X8_refusal_29, u_X8_refusal_30, u_X8_refusal_33, u_X8_refusal_35, u_X8_refusal_36, u_X8_refusal_37, u_X8_refusal_40, u_X8_refusal_41, u_X8_refusal_42, u_X8_refusal_45, u_X8_refusal_46, u_X8_refusal_47, u_X8_refusal_49, u_X8_refusal_50, u_X8_refusal_53, u_X8_refusal_55, u_X8_refusal_58, u_X8_refusal_59, az_un_i, az_un_r, az_un_n, az_un_l, Option.toList_some, Option.toList_none, List.cons_append, List.nil_append, List.length_cons, List.length_nil, Nat.reduceLeDiff, Nat.reduceAdd, Nat.zero_le, Nat.zero_add, and_true, true_and, zb_1, eq_self, zb_0, az_call s_X8_isNamed]
  simp only [eq_false hb, and_self, and_true, true_and, if_true, if_false, not_true, not_false_iff, not_true_eq_false, not_false_eq_true, ite_true, ite_false]
theorem s_X8_refusal {s l : Nat} {f c : Int32} (hs : s < 4) (hl : l < 3) : zD (d + 2) 74 [.ref 86, .int (nI s), .int (nI l), .int f, .int c] (130, az_Pf, I, L) (some (.int (zrf I s l f c))) (130, az_Pf, I, L) := by
  refine zD_of zm_X8_refusal rfl ?_
  show az_W _ _ _ 0 [.ref 86, .int (nI s), .int (nI l), .int f, .int c] [] _
  simp only [u_X8_refusal_0, u_X8_refusal_1, u_X8_refusal_2, u_X8_refusal_5, u_X8_refusal_8, u_X8_refusal_9, u_X8_refusal_10, u_X8_refusal_11, u_X8_refusal_14, u_X8_refusal_15, u_X8_refusal_16, u_X8_refusal_17, u_X8_refusal_20, u_X8_refusal_22, u_X8_refusal_23, u_X8_refusal_24, u_X8_refusal_27, u_X8_refusal_28, u_X8_refusal_29, u_X8_refusal_30, u_X8_refusal_33, u_X8_refusal_35, u_X8_refusal_36, u_X8_refusal_37, u_X8_refusal_40, u_X8_refusal_41, u_X8_refusal_42, u_X8_refusal_45, u_X8_refusal_46, u_X8_refusal_47, u_X8_refusal_49, u_X8_refusal_50, u_X8_refusal_53, u_X8_refusal_55, u_X8_refusal_58, u_X8_refusal_59, az_un_i, az_un_r, az_un_n, az_un_l, Option.toList_some, Option.toList_none, List.cons_append, List.nil_append, List.length_cons, List.length_nil, Nat.reduceLeDiff, Nat.reduceAdd, Nat.zero_le, Nat.zero_add, and_true, true_and, zb_1, eq_self, az_call s_X8_isNamed, zb_0, znt (show s ≤ 3 by omega) (by decide), znt (show l ≤ 2 by omega) (by decide), kx_87, kx_88, zinT hs (by decide), zcl hs (by decide), Int32.lt_iff_toInt_lt, Int32.le_iff_toInt_le, and_self, and_true, true_and, if_true, if_false, not_true, not_false_iff, not_true_eq_false, not_false_eq_true, ite_true, ite_false]
  have t1 : (0 ≤ (nI s).toInt ∧ (nI s).toInt ≤ 3) = True := znt (show s ≤ 3 by omega) (by decide)
  have t2 : (0 ≤ (nI l).toInt ∧ (nI l).toInt ≤ 2) = True := znt (show l ≤ 2 by omega) (by decide)
  simp only [t1, t2, and_self, and_true, true_and, if_true, if_false, not_true, not_false_iff, not_true_eq_false, not_false_eq_true, ite_true, ite_false, zl_0]
  unfold zrf
  by_cases h1 : I 87 s = -1
  · simp only [h1, and_self, and_true, true_and, if_true, if_false, not_true, not_false_iff, not_true_eq_false, not_false_eq_true, ite_true, ite_false]
  · by_cases h2 : I 87 s = nI l
    · by_cases h3 : 0 ≤ f.toInt <;> by_cases h4 : f.toInt ≤ (I 88 s - c).toInt
      · have h5 : ¬ f.toInt < 0 := by omega
        have h6 : ¬ (I 88 s - c).toInt < f.toInt := by omega
        simp only [h1, h2, h3, h4, h5, h6, and_self, and_true, true_and, if_true, if_false, not_true, not_false_iff, not_true_eq_false, not_false_eq_true, ite_true, ite_false]
        simp only [h2 ▸ h1, and_self, and_true, true_and, if_true, if_false, not_true, not_false_iff, not_true_eq_false, not_false_eq_true, ite_true, ite_false]
      · have h5 : ¬ f.toInt < 0 := by omega
        have h6 : (I 88 s - c).toInt < f.toInt := by omega
        simp only [h1, h2, h3, h4, h5, h6, and_self, and_true, true_and, if_true, if_false, not_true, not_false_iff, not_true_eq_false, not_false_eq_true, ite_true, ite_false, and_false]
        simp only [h2 ▸ h1, and_self, and_true, true_and, if_true, if_false, not_true, not_false_iff, not_true_eq_false, not_false_eq_true, ite_true, ite_false]
      · have h5 : f.toInt < 0 := by omega
        simp only [h1, h2, h3, h4, h5, and_self, and_true, true_and, if_true, if_false, not_true, not_false_iff, not_true_eq_false, not_false_eq_true, ite_true, ite_false, false_and]
        simp only [h2 ▸ h1, and_self, and_true, true_and, if_true, if_false, not_true, not_false_iff, not_true_eq_false, not_false_eq_true, ite_true, ite_false]
      · have h5 : f.toInt < 0 := by omega
        simp only [h1, h2, h3, h4, h5, and_self, and_true, true_and, if_true, if_false, not_true, not_false_iff, not_true_eq_false, not_false_eq_true, ite_true, ite_false, false_and]
        simp only [h2 ▸ h1, and_self, and_true, true_and, if_true, if_false, not_true, not_false_iff, not_true_eq_false, not_false_eq_true, ite_true, ite_false]
    · simp only [h1, h2, and_self, and_true, true_and, if_true, if_false, not_true, not_false_iff, not_true_eq_false, not_false_eq_true, ite_true, ite_false]
theorem s_X11_lacks {s l : Nat} {f c : Int32} (hs : s < 4) (hl : l < 3) (e1 : I 127 s = I 87 s) (e2 : I 128 s = I 88 s) (hv : I 87 s = -1 ∨ ∃ k, k < 3 ∧ I 87 s = nI k) : zD (d + 2) 207 [.ref 97, .int (nI s), .int (nI l), .int f, .int c] (130, az_Pf, I, L) (some (.int (zrf I s l f c))) (130, az_Pf, I, L) := by
  refine zD_of zm_X11_lacks rfl ?_
  show az_W _ _ _ 0 [.ref 97, .int (nI s), .int (nI l), .int f, .int c] [] _
  simp only [u_X11_lacks_0, u_X11_lacks_1, u_X11_lacks_4, u_X11_lacks_5, u_X11_lacks_6, u_X11_lacks_7, u_X11_lacks_10, u_X11_lacks_11, u_X11_lacks_14, u_X11_lacks_15, u_X11_lacks_16, u_X11_lacks_19, u_X11_lacks_21, u_X11_lacks_24, u_X11_lacks_26, u_X11_lacks_27, u_X11_lacks_28, u_X11_lacks_29, u_X11_lacks_30, u_X11_lacks_31, u_X11_lacks_34, u_X11_lacks_35, u_X11_lacks_36, u_X11_lacks_38, u_X11_lacks_39, u_X11_lacks_40, u_X11_lacks_43, u_X11_lacks_46, u_X11_lacks_47, u_X11_lacks_50, u_X11_lacks_52, az_un_i, az_un_r, az_un_n, az_un_l, Option.toList_some, Option.toList_none, List.cons_append, List.nil_append, List.length_cons, List.length_nil, Nat.reduceLeDiff, Nat.reduceAdd, Nat.zero_le, Nat.zero_add, and_true, true_and, zb_1, eq_self, az_call s_X11_in, z64, zb_0, kx_127, kx_128, zinT hs (by decide), zcl hs (by decide), e1, e2, and_self, and_true, true_and, if_true, if_false, not_true, not_false_iff, not_true_eq_false, not_false_eq_true, ite_true, ite_false, zl_0, zj_0, zl_1, zj_1, zl_2, zj_2, zl_3, zj_3, zl_4, zj_4, zl_5, zj_5, zl_6, zj_6, zl_7, zj_7, zl_8, zj_8, zl_9, zj_9, zl_10, zj_10, zl_11, zj_11, zl_12, zj_12, zl_15, zj_15, zl_16, zj_16, zl_20, zj_20, zl_24, zj_24, zl_29, zj_29, zl_30, zj_30, zl_31, zj_31, zl_32, zj_32, zl_40, zj_40, zl_48, zj_48, zl_57, zj_57, zl_59, zj_59, zl_60, zj_60, zl_63, zj_63, zl_99, zj_99, zl_100, zj_100, zl_126, zj_126, zl_144, zj_144, zl_200, zj_200, zl_240, zj_240, zl_255, zj_255, zl_256, zj_256, zl_999, zj_999, zl_1000, zj_1000, zlm_1, zjm_1, zlm_2, zjm_2, zlm_3, zjm_3, zlm_4, zjm_4, zlm_11, zjm_11, zlm_12, zjm_12, zlm_13, zjm_13, zlm_14, zjm_14, zlm_20, zjm_20, zlm_10001, zjm_10001, zlm_10002, zjm_10002]
  unfold zrf
  have m1 : ¬ (-1 : Int32) = nI l := fun q => by
    have := congrArg Int32.toInt q
    rw [nI_toInt (by omega)] at this
    simp at this
  rcases hv with h1 | ⟨k, hk, h1⟩
  · have h2 : (-1 : Int32) < 0 := by decide
    have h3 : ¬ (0 : Int32) ≤ -1 := by decide
    simp only [h1, m1, h2, h3, and_self, and_true, true_and, if_true, if_false, not_true, not_false_iff, not_true_eq_false, not_false_eq_true, ite_true, ite_false]
  · have h2 : ¬ nI k < 0 := nI_pos (by omega)
    have h3 : 0 ≤ nI k := nI_pos' (by omega)
    have h4 : ¬ nI k = -1 := fun q => by
      have := congrArg Int32.toInt q
      rw [nI_toInt (by omega)] at this
      simp at this
    by_cases h5 : nI k = nI l
    · by_cases h6 : 0 ≤ f.toInt ∧ f.toInt ≤ (I 88 s - c).toInt
      · simp only [h1, h4, h5, h6, and_self, and_true, true_and, if_true, if_false, not_true, not_false_iff, not_true_eq_false, not_false_eq_true, ite_true, ite_false]
        simp only [h5 ▸ h4, and_self, and_true, true_and, if_true, if_false, not_true, not_false_iff, not_true_eq_false, not_false_eq_true, ite_true, ite_false]
      · simp only [h1, h4, h5, h6, and_self, and_true, true_and, if_true, if_false, not_true, not_false_iff, not_true_eq_false, not_false_eq_true, ite_true, ite_false]
        simp only [h5 ▸ h4, and_self, and_true, true_and, if_true, if_false, not_true, not_false_iff, not_true_eq_false, not_false_eq_true, ite_true, ite_false]
    · simp only [h1, h2, h3, h4, h5, and_self, and_true, true_and, if_true, if_false, not_true, not_false_iff, not_true_eq_false, not_false_eq_true, ite_true, ite_false]
theorem s_X8_narrowed {l : Nat} {v : Int32} (hl : l < 3) : zD (d + 1) 79 [.int (nI l), .int v] h (some (.int (znar l v))) h := by
  refine zD_of zm_X8_narrowed rfl ?_
  show az_W _ _ _ 0 [.int (nI l), .int v] [] _
  simp only [u_X8_narrowed_0, u_X8_narrowed_1, u_X8_narrowed_4, u_X8_narrowed_5, u_X8_narrowed_6, u_X8_narrowed_7, u_X8_narrowed_8, u_X8_narrowed_9, u_X8_narrowed_12, u_X8_narrowed_13, u_X8_narrowed_14, u_X8_narrowed_17, u_X8_narrowed_18, az_un_i, az_un_r, az_un_n, az_un_l, Option.toList_some, Option.toList_none, List.cons_append, List.nil_append, List.length_cons, List.length_nil, Nat.reduceLeDiff, Nat.reduceAdd, Nat.zero_le, Nat.zero_add, and_true, true_and, zb_1, eq_self]
  have h1 : nI l = 0 ↔ l = 0 := nI_eq (b := 0) (by omega) (by decide)
  have h2 : nI l = 1 ↔ l = 1 := nI_eq (b := 1) (by omega) (by decide)
  simp only [h1, h2]
  unfold znar
  by_cases g : l = 0 <;> by_cases g2 : l = 1 <;> simp only [g, g2, and_self, and_true, true_and, if_true, if_false, not_true, not_false_iff, not_true_eq_false, not_false_eq_true, ite_true, ite_false] <;> simp
theorem s_X8_write {s l i : Nat} {v : Int32} (hs : s < 4) (hl : l < 3) (hi : i < 16) (hv : I 87 s = nI l) : zD (d + 2) 78 [.ref 86, .int (nI s), .int (nI i), .int v] (130, az_Pf, I, L) none (130, az_Pf, az_uI I (90 + s) i (znar l v), L) := by
  refine zD_of zm_X8_write rfl ?_
  show az_W _ _ _ 0 [.ref 86, .int (nI s), .int (nI i), .int v] [] _
  simp only [u_X8_write_0, u_X8_write_1, u_X8_write_4, u_X8_write_5, u_X8_write_6, u_X8_write_7, u_X8_write_8, u_X8_write_11, u_X8_write_12, u_X8_write_13, u_X8_write_14, u_X8_write_17, u_X8_write_18, az_un_i, az_un_r, az_un_n, az_un_l, Option.toList_some, Option.toList_none, List.cons_append, List.nil_append, List.length_cons, List.length_nil, Nat.reduceLeDiff, Nat.reduceAdd, Nat.zero_le, Nat.zero_add, and_true, true_and, zb_1, eq_self, kx_87, kx_89, zinT hs (by decide), zcl hs (by decide), zinT hi (by decide), zcl hi (by decide), pr_89 s hs, kr_89 s hs, hv, az_call (s_X8_narrowed hl), Option.some.injEq, exists_eq_left', exists_eq_left]
theorem s_X8_read {s i : Nat} (hs : s < 4) (hi : i < 16) : zD (d + 1) 77 [.ref 86, .int (nI s), .int (nI i)] (130, az_Pf, I, L) (some (.int (I (90 + s) i))) (130, az_Pf, I, L) := by
  refine zD_of zm_X8_read rfl ?_
  show az_W _ _ _ 0 [.ref 86, .int (nI s), .int (nI i)] [] _
  simp only [u_X8_read_0, u_X8_read_1, u_X8_read_4, u_X8_read_5, u_X8_read_6, u_X8_read_7, u_X8_read_8, az_un_i, az_un_r, az_un_n, az_un_l, Option.toList_some, Option.toList_none, List.cons_append, List.nil_append, List.length_cons, List.length_nil, Nat.reduceLeDiff, Nat.reduceAdd, Nat.zero_le, Nat.zero_add, and_true, true_and, zb_1, eq_self, kx_89, zinT hs (by decide), zcl hs (by decide), zinT hi (by decide), zcl hi (by decide), pr_89 s hs, kr_89 s hs, Option.some.injEq, exists_eq_left', exists_eq_left]
theorem s_X8_clear_no {s : Nat} (hs : s < 4) (h1 : I 87 s = -1) : zD (d + 1) 76 [.ref 86, .int (nI s)] (130, az_Pf, I, L) (some (.int (-11))) (130, az_Pf, I, L) := by
  refine zD_of zm_X8_clear rfl ?_
  show az_W _ _ _ 0 [.ref 86, .int (nI s)] [] _
  simp only [u_X8_clear_0, u_X8_clear_1, u_X8_clear_4, u_X8_clear_5, u_X8_clear_6, u_X8_clear_7, u_X8_clear_10, u_X8_clear_12, u_X8_clear_13, u_X8_clear_14, u_X8_clear_17, u_X8_clear_18, u_X8_clear_19, u_X8_clear_20, u_X8_clear_21, u_X8_clear_24, u_X8_clear_25, u_X8_clear_26, az_un_i, az_un_r, az_un_n, az_un_l, Option.toList_some, Option.toList_none, List.cons_append, List.nil_append, List.length_cons, List.length_nil, Nat.reduceLeDiff, Nat.reduceAdd, Nat.zero_le, Nat.zero_add, and_true, true_and, zb_1, eq_self, kx_87, zinT hs (by decide), zcl hs (by decide), h1, and_self, and_true, true_and, if_true, if_false, not_true, not_false_iff, not_true_eq_false, not_false_eq_true, ite_true, ite_false]
theorem s_X8_clear {s : Nat} (hs : s < 4) (h1 : ¬ I 87 s = -1) : zD (d + 1) 76 [.ref 86, .int (nI s)] (130, az_Pf, I, L) (some (.int (I 88 s))) (130, az_Pf, az_uI I 87 s (-1), L) := by
  refine zD_of zm_X8_clear rfl ?_
  show az_W _ _ _ 0 [.ref 86, .int (nI s)] [] _
  simp only [u_X8_clear_0, u_X8_clear_1, u_X8_clear_4, u_X8_clear_5, u_X8_clear_6, u_X8_clear_7, u_X8_clear_10, u_X8_clear_12, u_X8_clear_13, u_X8_clear_14, u_X8_clear_17, u_X8_clear_18, u_X8_clear_19, u_X8_clear_20, u_X8_clear_21, u_X8_clear_24, u_X8_clear_25, u_X8_clear_26, az_un_i, az_un_r, az_un_n, az_un_l, Option.toList_some, Option.toList_none, List.cons_append, List.nil_append, List.length_cons, List.length_nil, Nat.reduceLeDiff, Nat.reduceAdd, Nat.zero_le, Nat.zero_add, and_true, true_and, zb_1, eq_self, kx_87, kx_88, zinT hs (by decide), zcl hs (by decide), h1, and_self, and_true, true_and, if_true, if_false, not_true, not_false_iff, not_true_eq_false, not_false_eq_true, ite_true, ite_false, az_uI_at, az_uL_at, Nat.reduceEqDiff, false_and, and_false, and_self, if_true, if_false, ite_true, ite_false]
theorem s_X8_renew {s : Nat} {l n : Int32} (hs : s < 4) : zD (d + 1) 75 [.ref 86, .int (nI s), .int l, .int n] (130, az_Pf, I, L) none (130, az_Pf, zseg (az_uI (az_uI I 87 s l) 88 s n) (90 + s) 0 (fun _ => 0) 16, L) := by
  refine zD_of zm_X8_renew rfl ?_
  show az_W _ _ _ 0 [.ref 86, .int (nI s), .int l, .int n, .null] [] _
  simp only [u_X8_renew_0, u_X8_renew_1, u_X8_renew_4, u_X8_renew_5, u_X8_renew_6, u_X8_renew_7, u_X8_renew_8, u_X8_renew_11, u_X8_renew_12, u_X8_renew_13, u_X8_renew_14, u_X8_renew_15, u_X8_renew_19, u_X8_renew_21, u_X8_renew_24, u_X8_renew_25, u_X8_renew_28, u_X8_renew_29, u_X8_renew_30, u_X8_renew_32, u_X8_renew_33, u_X8_renew_34, u_X8_renew_37, u_X8_renew_40, az_un_i, az_un_r, az_un_n, az_un_l, Option.toList_some, Option.toList_none, List.cons_append, List.nil_append, List.length_cons, List.length_nil, Nat.reduceLeDiff, Nat.reduceAdd, Nat.zero_le, Nat.zero_add, and_true, true_and, zb_1, eq_self, kx_87, kx_88, zinT hs (by decide), zcl hs (by decide)]
  refine zloopH (P := fun k h => az_W (zD d) _ _ 17 [.ref 86, .int (nI s), .int l, .int n, .int (nI k)] [] h) (fun k => (130, az_Pf, zseg (az_uI (az_uI I 87 s l) 88 s n) (90 + s) 0 (fun _ => 0) k, L)) 16 (fun k hk ih => ?_) ?_ (by rw [zseg_0])
  · have h1 : ¬ (16 : Int32) ≤ nI k := nI_ge (b := 16) hk (by decide)
    simp only [u_X8_renew_17]
    simp only [u_X8_renew_0, u_X8_renew_1, u_X8_renew_4, u_X8_renew_5, u_X8_renew_6, u_X8_renew_7, u_X8_renew_8, u_X8_renew_11, u_X8_renew_12, u_X8_renew_13, u_X8_renew_14, u_X8_renew_15, u_X8_renew_19, u_X8_renew_21, u_X8_renew_24, u_X8_renew_25, u_X8_renew_28, u_X8_renew_29, u_X8_renew_30, u_X8_renew_32, u_X8_renew_33, u_X8_renew_34, u_X8_renew_37, u_X8_renew_40, az_un_i, az_un_r, az_un_n, az_un_l, Option.toList_some, Option.toList_none, List.cons_append, List.nil_append, List.length_cons, List.length_nil, Nat.reduceLeDiff, Nat.reduceAdd, Nat.zero_le, Nat.zero_add, and_true, true_and, zb_1, eq_self, h1, if_false, kx_89, zinT hs (by decide), zinT hk (by decide), zcl hs (by decide), zcl hk (by decide), pr_89 s hs, kr_89 s hs, Option.some.injEq, exists_eq_left', exists_eq_left]
    rw [nI_succ, ← zseg_s (n := k), Nat.zero_add] at ih
    exact ih
  · have h1 : (16 : Int32) ≤ nI 16 := by decide
    simp only [u_X8_renew_17]
    simp only [u_X8_renew_0, u_X8_renew_1, u_X8_renew_4, u_X8_renew_5, u_X8_renew_6, u_X8_renew_7, u_X8_renew_8, u_X8_renew_11, u_X8_renew_12, u_X8_renew_13, u_X8_renew_14, u_X8_renew_15, u_X8_renew_19, u_X8_renew_21, u_X8_renew_24, u_X8_renew_25, u_X8_renew_28, u_X8_renew_29, u_X8_renew_30, u_X8_renew_32, u_X8_renew_33, u_X8_renew_34, u_X8_renew_37, u_X8_renew_40, az_un_i, az_un_r, az_un_n, az_un_l, Option.toList_some, Option.toList_none, List.cons_append, List.nil_append, List.length_cons, List.length_nil, Nat.reduceLeDiff, Nat.reduceAdd, Nat.zero_le, Nat.zero_add, and_true, true_and, zb_1, eq_self, h1, if_true]
end S
