/-! ===== type ===== -/
def zbl (w : Int64) (i : Int32) : Int64 := (w >>> (((8 : Int32) * i).toInt64 &&& 63)) &&& 255
def zby (w : Int64) (i : Int32) : Int32 := (zbl w i).toInt32
theorem zbl_r (w : Int64) (i : Int32) : 0 ≤ (zbl w i).toInt ∧ (zbl w i).toInt ≤ 255 := by
  unfold zbl
  generalize w >>> (((8 : Int32) * i).toInt64 &&& 63) = x
  have h : (x &&& 255).toBitVec.toNat ≤ 255 := by
    rw [Int64.toBitVec_and, BitVec.toNat_and]
    exact Nat.and_le_right
  have e : (x &&& 255).toInt = ((x &&& 255).toBitVec.toNat : Int) := BitVec.toInt_eq_toNat_of_lt (by omega)
  rw [e]; omega
theorem zby_i (w : Int64) (i : Int32) : (zby w i).toInt = (zbl w i).toInt := by
  have := zbl_r w i
  unfold zby
  rw [Int64.toInt_toInt32, Int.bmod_def]; omega
/-- the first k bytes can be typed -/
def zgd (w : Int64) : Nat → Bool
  | 0 => true
  | k + 1 => zgd w k && decide (32 ≤ (zbl w (nI k)).toInt ∧ (zbl w (nI k)).toInt ≤ 126)
theorem zgd_t {w : Int64} : ∀ n, zgd w n = true → ∀ k, k < n → 32 ≤ (zbl w (nI k)).toInt ∧ (zbl w (nI k)).toInt ≤ 126
  | 0, _, k, hk => absurd hk (Nat.not_lt_zero _)
  | n + 1, h, k, hk => by
    rw [zgd, Bool.and_eq_true_iff, decide_eq_true_iff] at h
    by_cases c : k = n
    · rw [c]; exact h.2
    · exact zgd_t n h.1 k (by omega)
theorem zgd_a {w : Int64} : ∀ n, (∀ k, k < n → 32 ≤ (zbl w (nI k)).toInt ∧ (zbl w (nI k)).toInt ≤ 126) → zgd w n = true
  | 0, _ => rfl
  | n + 1, h => by
    rw [zgd, Bool.and_eq_true_iff, decide_eq_true_iff]
    exact ⟨zgd_a n (fun k hk => h k (by omega)), h n (by omega)⟩
theorem zgd_f {w : Int64} {n k : Nat} (hk : k < n) (h : ¬ (32 ≤ (zbl w (nI k)).toInt ∧ (zbl w (nI k)).toInt ≤ 126)) : zgd w n = false := by
  cases hz : zgd w n
  · rfl
  · exact absurd (zgd_t n hz k hk) h
/-- the bytes in the order in which they are typed -/
def ztf (w : Int64) (n : Nat) (q : Nat) : Int32 := zby w (nI (n - 1 - q))
theorem zu3 {X : Nat → Nat → Int32} {A i B j : Nat} {a b c : Int32} (h : ¬ (B = A ∧ j = i)) : az_uI (az_uI (az_uI X A i a) B j b) A i c = az_uI (az_uI X B j b) A i c := by
  rw [zucc h, zuss]
section S
variable {d : Nat} {I : Nat → Nat → Int32} {L : Nat → Nat → Int64} {h : az_H}
theorem s_X6_byteOf {w : Int64} {i : Int32} : zD (d + 1) 55 [.long w, .int i] h (some (.int (zby w i))) h := by
  refine zD_of zm_X6_byteOf rfl ?_
  show az_W _ _ _ 0 [.long w, .null, .int i] [] _
  simp only [u_X6_byteOf_0, u_X6_byteOf_1, u_X6_byteOf_3, u_X6_byteOf_4, u_X6_byteOf_5, u_X6_byteOf_6, u_X6_byteOf_9, u_X6_byteOf_10, u_X6_byteOf_11, az_un_i, az_un_r, az_un_n, az_un_l, Option.toList_some, Option.toList_none, List.cons_append, List.nil_append, List.length_cons, List.length_nil, Nat.reduceLeDiff, Nat.reduceAdd, Nat.zero_le, Nat.zero_add, and_true, true_and, zb_1, eq_self]
  rfl
theorem s_X6_isTypeable {w : Int64} {n : Nat} (hn : n ≤ 8) : zD (d + 2) 54 [.long w, .int (nI n)] h (some (.int (zb (zgd w n = true)))) h := by
  refine zD_of zm_X6_isTypeable rfl ?_
  show az_W _ _ _ 0 [.long w, .null, .int (nI n), .null] [] _
  simp only [u_X6_isTypeable_0, u_X6_isTypeable_1, az_un_i, az_un_r, az_un_n, az_un_l, Option.toList_some, Option.toList_none, List.cons_append, List.nil_append, List.length_cons, List.length_nil, Nat.reduceLeDiff, Nat.reduceAdd, Nat.zero_le, Nat.zero_add, and_true, true_and, zb_1, eq_self]
  refine zloop (P := fun k => zgd w k = true → az_W (zD (d + 1)) _ _ 2 [.long w, .null, .int (nI n), .int (nI k)] [] h) n (fun k hk ih hg => ?_) (fun hg => ?_) 0 (Nat.zero_le _) rfl
  · have h1 : ¬ nI n ≤ nI k := nI_ge hk (by omega)
    simp only [u_X6_isTypeable_2]
    simp only [u_X6_isTypeable_3, u_X6_isTypeable_4, u_X6_isTypeable_7, u_X6_isTypeable_8, u_X6_isTypeable_9, u_X6_isTypeable_12, u_X6_isTypeable_14, u_X6_isTypeable_16, u_X6_isTypeable_19, u_X6_isTypeable_22, u_X6_isTypeable_23, u_X6_isTypeable_24, u_X6_isTypeable_27, u_X6_isTypeable_30, u_X6_isTypeable_31, az_un_i, az_un_r, az_un_n, az_un_l, Option.toList_some, Option.toList_none, List.cons_append, List.nil_append, List.length_cons, List.length_nil, Nat.reduceLeDiff, Nat.reduceAdd, Nat.zero_le, Nat.zero_add, and_true, true_and, zb_1, eq_self, h1, if_false, az_call s_X6_byteOf, az_call s_X10_isIn, zby_i, zl_0, zj_0, zl_1, zj_1, zl_2, zj_2, zl_3, zj_3, zl_4, zj_4, zl_5, zj_5, zl_6, zj_6, zl_7, zj_7, zl_8, zj_8, zl_9, zj_9, zl_10, zj_10, zl_11, zj_11, zl_12, zj_12, zl_15, zj_15, zl_16, zj_16, zl_20, zj_20, zl_24, zj_24, zl_29, zj_29, zl_30, zj_30, zl_31, zj_31, zl_32, zj_32, zl_40, zj_40, zl_48, zj_48, zl_57, zj_57, zl_59, zj_59, zl_60, zj_60, zl_63, zj_63, zl_99, zj_99, zl_100, zj_100, zl_126, zj_126, zl_144, zj_144, zl_200, zj_200, zl_240, zj_240, zl_255, zj_255, zl_256, zj_256, zl_999, zj_999, zl_1000, zj_1000, zlm_1, zjm_1, zlm_2, zjm_2, zlm_3, zjm_3, zlm_4, zjm_4, zlm_11, zjm_11, zlm_12, zjm_12, zlm_13, zjm_13, zlm_14, zjm_14, zlm_20, zjm_20, zlm_10001, zjm_10001, zlm_10002, zjm_10002, zb_0]
    by_cases g : 32 ≤ (zbl w (nI k)).toInt ∧ (zbl w (nI k)).toInt ≤ 126
    · rw [if_neg (fun q => q g)]
      rw [nI_succ] at ih
      exact ih (by rw [zgd, hg]; simp [g])
    · rw [if_pos g, zgd_f hk g]
      simp [zb]
  · have h1 : nI n ≤ nI n := nI_le (Nat.le_refl _) (by omega)
    simp only [u_X6_isTypeable_2]
    simp only [u_X6_isTypeable_3, u_X6_isTypeable_4, u_X6_isTypeable_7, u_X6_isTypeable_8, u_X6_isTypeable_9, u_X6_isTypeable_12, u_X6_isTypeable_14, u_X6_isTypeable_16, u_X6_isTypeable_19, u_X6_isTypeable_22, u_X6_isTypeable_23, u_X6_isTypeable_24, u_X6_isTypeable_27, u_X6_isTypeable_30, u_X6_isTypeable_31, az_un_i, az_un_r, az_un_n, az_un_l, Option.toList_some, Option.toList_none, List.cons_append, List.nil_append, List.length_cons, List.length_nil, Nat.reduceLeDiff, Nat.reduceAdd, Nat.zero_le, Nat.zero_add, and_true, true_and, zb_1, eq_self, h1, if_true, hg]
    simp [zb]
theorem s_X6_addToTape {w : Int64} {n t : Nat} (hn : n ≤ 8) (ht : t + n ≤ 40) (e1 : I 35 1 = nI t) : zD (d + 2) 56 [.ref 35, .long w, .int (nI n)] (130, az_Pf, I, L) (some (.int (nI (t + n)))) (130, az_Pf, az_uI (zseg I 36 t (ztf w n) n) 35 1 (nI (t + n)), L) := by
  refine zD_of zm_X6_addToTape rfl ?_
  show az_W _ _ _ 0 [.ref 35, .long w, .null, .int (nI n), .null] [] _
  have h0 : nI t + nI n ≤ 40 := by rw [nI_add]; exact show nI (t + n) ≤ nI 40 from nI_le ht (by decide)
  simp only [u_X6_addToTape_0, u_X6_addToTape_1, u_X6_addToTape_4, u_X6_addToTape_5, u_X6_addToTape_6, u_X6_addToTape_8, u_X6_addToTape_11, u_X6_addToTape_13, u_X6_addToTape_14, u_X6_addToTape_15, u_X6_addToTape_16, u_X6_addToTape_17, az_un_i, az_un_r, az_un_n, az_un_l, Option.toList_some, Option.toList_none, List.cons_append, List.nil_append, List.length_cons, List.length_nil, Nat.reduceLeDiff, Nat.reduceAdd, Nat.zero_le, Nat.zero_add, and_true, true_and, zb_1, eq_self, e1, h0, if_true]
  refine zloopH (P := fun q h => az_W (zD (d + 1)) _ _ 19 [.ref 35, .long w, .null, .int (nI n), .int (nI (n - q) - 1)] [] h) (fun q => (130, az_Pf, az_uI (zseg I 36 t (ztf w n) q) 35 1 (nI (t + q)), L)) n (fun q hq ih => ?_) ?_ (by rw [zseg_0, Nat.add_zero, ← e1, zself])
  · obtain ⟨j, ej⟩ : ∃ j, n - q = j + 1 := ⟨n - q - 1, by omega⟩
    have h1 : ¬ nI j < 0 := nI_pos (by omega)
    have ef : ztf w n q = zby w (nI j) := by unfold ztf; rw [show n - 1 - q = j by omega]
    rw [show n - (q + 1) = j by omega, ← zseg_s (n := q), ef] at ih
    rw [ej, zm1]
    simp only [u_X6_addToTape_19]
    simp only [u_X6_addToTape_21, u_X6_addToTape_24, u_X6_addToTape_25, u_X6_addToTape_28, u_X6_addToTape_29, u_X6_addToTape_32, u_X6_addToTape_33, u_X6_addToTape_35, u_X6_addToTape_38, u_X6_addToTape_39, u_X6_addToTape_40, u_X6_addToTape_40r, u_X6_addToTape_41, u_X6_addToTape_44, u_X6_addToTape_45, u_X6_addToTape_46, u_X6_addToTape_49, u_X6_addToTape_52, u_X6_addToTape_55, u_X6_addToTape_56, u_X6_addToTape_59, az_un_i, az_un_r, az_un_n, az_un_l, Option.toList_some, Option.toList_none, List.cons_append, List.nil_append, List.length_cons, List.length_nil, Nat.reduceLeDiff, Nat.reduceAdd, Nat.zero_le, Nat.zero_add, and_true, true_and, zb_1, eq_self, h1, if_false, az_call s_X6_byteOf, az_uI_at, az_uL_at, Nat.reduceEqDiff, false_and, and_false, and_self, if_true, if_false, ite_true, ite_false, kx_36, zinT (show t + q < 40 by omega) (by decide), zcl (show t + q < 40 by omega) (by decide)]
    rw [zu3 (by omega), show nI (t + q) + 1 = nI (t + (q + 1)) from (nI_succ (t + q)).symm, ← Int32.sub_eq_add_neg]
    exact ih
  · have h1 : nI (n - n) - 1 < 0 := by rw [Nat.sub_self]; decide
    simp only [u_X6_addToTape_19]
    simp only [u_X6_addToTape_21, u_X6_addToTape_24, u_X6_addToTape_25, u_X6_addToTape_28, u_X6_addToTape_29, u_X6_addToTape_32, u_X6_addToTape_33, u_X6_addToTape_35, u_X6_addToTape_38, u_X6_addToTape_39, u_X6_addToTape_40, u_X6_addToTape_40r, u_X6_addToTape_41, u_X6_addToTape_44, u_X6_addToTape_45, u_X6_addToTape_46, u_X6_addToTape_49, u_X6_addToTape_52, u_X6_addToTape_55, u_X6_addToTape_56, u_X6_addToTape_59, az_un_i, az_un_r, az_un_n, az_un_l, Option.toList_some, Option.toList_none, List.cons_append, List.nil_append, List.length_cons, List.length_nil, Nat.reduceLeDiff, Nat.reduceAdd, Nat.zero_le, Nat.zero_add, and_true, true_and, zb_1, eq_self, h1, if_true, az_uI_at, az_uL_at, Nat.reduceEqDiff, false_and, and_false, and_self, if_true, if_false, ite_true, ite_false]
theorem s_X6_addToTape_full {w : Int64} {n t : Nat} (hn : n ≤ 8) (h4 : t ≤ 40) (ht : ¬ t + n ≤ 40) (e1 : I 35 1 = nI t) : zD (d + 2) 56 [.ref 35, .long w, .int (nI n)] (130, az_Pf, I, L) (some (.int (-3))) (130, az_Pf, I, L) := by
  refine zD_of zm_X6_addToTape rfl ?_
  show az_W _ _ _ 0 [.ref 35, .long w, .null, .int (nI n), .null] [] _
  have h0 : ¬ nI t + nI n ≤ 40 := by rw [nI_add]; exact show ¬ nI (t + n) ≤ nI 40 from nI_ge (by omega) (by omega)
  simp only [u_X6_addToTape_0, u_X6_addToTape_1, u_X6_addToTape_4, u_X6_addToTape_5, u_X6_addToTape_6, u_X6_addToTape_8, u_X6_addToTape_11, u_X6_addToTape_13, u_X6_addToTape_14, u_X6_addToTape_15, u_X6_addToTape_16, u_X6_addToTape_17, az_un_i, az_un_r, az_un_n, az_un_l, Option.toList_some, Option.toList_none, List.cons_append, List.nil_append, List.length_cons, List.length_nil, Nat.reduceLeDiff, Nat.reduceAdd, Nat.zero_le, Nat.zero_add, and_true, true_and, zb_1, eq_self, e1, h0, if_false]
theorem s_X10_type_bad {w : Int64} {x : Int32} (hx : ¬ (1 ≤ x.toInt ∧ x.toInt ≤ 8)) : zD (d + 4) 93 [.ref 0, .long w, .int x] h (some (.int (-1))) h := by
  refine zD_of zm_X10_type rfl ?_
  show az_W _ _ _ 0 [.ref 0, .long w, .null, .int x] [] _
  simp only [u_X10_type_0, u_X10_type_1, u_X10_type_2, u_X10_type_4, u_X10_type_7, u_X10_type_10, u_X10_type_11, u_X10_type_12, u_X10_type_15, u_X10_type_18, u_X10_type_19, u_X10_type_20, u_X10_type_21, u_X10_type_24, u_X10_type_25, u_X10_type_26, u_X10_type_29, az_un_i, az_un_r, az_un_n, az_un_l, Option.toList_some, Option.toList_none, List.cons_append, List.nil_append, List.length_cons, List.length_nil, Nat.reduceLeDiff, Nat.reduceAdd, Nat.zero_le, Nat.zero_add, and_true, true_and, zb_1, eq_self, az_call s_X10_isIn, zl_0, zj_0, zl_1, zj_1, zl_2, zj_2, zl_3, zj_3, zl_4, zj_4, zl_5, zj_5, zl_6, zj_6, zl_7, zj_7, zl_8, zj_8, zl_9, zj_9, zl_10, zj_10, zl_11, zj_11, zl_12, zj_12, zl_15, zj_15, zl_16, zj_16, zl_20, zj_20, zl_24, zj_24, zl_29, zj_29, zl_30, zj_30, zl_31, zj_31, zl_32, zj_32, zl_40, zj_40, zl_48, zj_48, zl_57, zj_57, zl_59, zj_59, zl_60, zj_60, zl_63, zj_63, zl_99, zj_99, zl_100, zj_100, zl_126, zj_126, zl_144, zj_144, zl_200, zj_200, zl_240, zj_240, zl_255, zj_255, zl_256, zj_256, zl_999, zj_999, zl_1000, zj_1000, zlm_1, zjm_1, zlm_2, zjm_2, zlm_3, zjm_3, zlm_4, zjm_4, zlm_11, zjm_11, zlm_12, zjm_12, zlm_13, zjm_13, zlm_14, zjm_14, zlm_20, zjm_20, zlm_10001, zjm_10001, zlm_10002, zjm_10002, zb_0, eq_false hx, and_self, and_true, true_and, if_true, if_false, not_true, not_false_iff, not_true_eq_false, not_false_eq_true, ite_true, ite_false]
theorem s_X10_type_bad2 {w : Int64} {n : Nat} (hn1 : 1 ≤ n) (hn : n ≤ 8) (hg : zgd w n = false) : zD (d + 4) 93 [.ref 0, .long w, .int (nI n)] h (some (.int (-1))) h := by
  refine zD_of zm_X10_type rfl ?_
  show az_W _ _ _ 0 [.ref 0, .long w, .null, .int (nI n)] [] _
  have tx : (1 ≤ (nI n).toInt ∧ (nI n).toInt ≤ 8) = True := eq_true (by rw [nI_toInt (by omega)]; omega)
  simp only [u_X10_type_0, u_X10_type_1, u_X10_type_2, u_X10_type_4, u_X10_type_7, u_X10_type_10, u_X10_type_11, u_X10_type_12, u_X10_type_15, u_X10_type_18, u_X10_type_19, u_X10_type_20, u_X10_type_21, u_X10_type_24, u_X10_type_25, u_X10_type_26, u_X10_type_29, az_un_i, az_un_r, az_un_n, az_un_l, Option.toList_some, Option.toList_none, List.cons_append, List.nil_append, List.length_cons, List.length_nil, Nat.reduceLeDiff, Nat.reduceAdd, Nat.zero_le, Nat.zero_add, and_true, true_and, zb_1, eq_self, az_call s_X10_isIn, zl_0, zj_0, zl_1, zj_1, zl_2, zj_2, zl_3, zj_3, zl_4, zj_4, zl_5, zj_5, zl_6, zj_6, zl_7, zj_7, zl_8, zj_8, zl_9, zj_9, zl_10, zj_10, zl_11, zj_11, zl_12, zj_12, zl_15, zj_15, zl_16, zj_16, zl_20, zj_20, zl_24, zj_24, zl_29, zj_29, zl_30, zj_30, zl_31, zj_31, zl_32, zj_32, zl_40, zj_40, zl_48, zj_48, zl_57, zj_57, zl_59, zj_59, zl_60, zj_60, zl_63, zj_63, zl_99, zj_99, zl_100, zj_100, zl_126, zj_126, zl_144, zj_144, zl_200, zj_200, zl_240, zj_240, zl_255, zj_255, zl_256, zj_256, zl_999, zj_999, zl_1000, zj_1000, zlm_1, zjm_1, zlm_2, zjm_2, zlm_3, zjm_3, zlm_4, zjm_4, zlm_11, zjm_11, zlm_12, zjm_12, zlm_13, zjm_13, zlm_14, zjm_14, zlm_20, zjm_20, zlm_10001, zjm_10001, zlm_10002, zjm_10002, zb_0, tx, az_call (s_X6_isTypeable hn), hg, Bool.false_eq_true, and_self, and_true, true_and, if_true, if_false, not_true, not_false_iff, not_true_eq_false, not_false_eq_true, ite_true, ite_false]
theorem s_X10_type {w : Int64} {n t : Nat} {r : Int32} {J : Nat → Nat → Int32} (hn1 : 1 ≤ n) (hn : n ≤ 8) (hg : zgd w n = true) (hc : zD (d + 3) 56 [.ref 35, .long w, .int (nI n)] (130, az_Pf, I, L) (some (.int r)) (130, az_Pf, J, L)) : zD (d + 4) 93 [.ref 0, .long w, .int (nI n)] (130, az_Pf, I, L) (some (.int r)) (130, az_Pf, J, L) := by
  refine zD_of zm_X10_type rfl ?_
  show az_W _ _ _ 0 [.ref 0, .long w, .null, .int (nI n)] [] _
  have tx : (1 ≤ (nI n).toInt ∧ (nI n).toInt ≤ 8) = True := eq_true (by rw [nI_toInt (by omega)]; omega)
  simp only [u_X10_type_0, u_X10_type_1, u_X10_type_2, u_X10_type_4, u_X10_type_7, u_X10_type_10, u_X10_type_11, u_X10_type_12, u_X10_type_15, u_X10_type_18, u_X10_type_19, u_X10_type_20, u_X10_type_21, u_X10_type_24, u_X10_type_25, u_X10_type_26, u_X10_type_29, az_un_i, az_un_r, az_un_n, az_un_l, Option.toList_some, Option.toList_none, List.cons_append, List.nil_append, List.length_cons, List.length_nil, Nat.reduceLeDiff, Nat.reduceAdd, Nat.zero_le, Nat.zero_add, and_true, true_and, zb_1, eq_self, az_call s_X10_isIn, zl_0, zj_0, zl_1, zj_1, zl_2, zj_2, zl_3, zj_3, zl_4, zj_4, zl_5, zj_5, zl_6, zj_6, zl_7, zj_7, zl_8, zj_8, zl_9, zj_9, zl_10, zj_10, zl_11, zj_11, zl_12, zj_12, zl_15, zj_15, zl_16, zj_16, zl_20, zj_20, zl_24, zj_24, zl_29, zj_29, zl_30, zj_30, zl_31, zj_31, zl_32, zj_32, zl_40, zj_40, zl_48, zj_48, zl_57, zj_57, zl_59, zj_59, zl_60, zj_60, zl_63, zj_63, zl_99, zj_99, zl_100, zj_100, zl_126, zj_126, zl_144, zj_144, zl_200, zj_200, zl_240, zj_240, zl_255, zj_255, zl_256, zj_256, zl_999, zj_999, zl_1000, zj_1000, zlm_1, zjm_1, zlm_2, zjm_2, zlm_3, zjm_3, zlm_4, zjm_4, zlm_11, zjm_11, zlm_12, zjm_12, zlm_13, zjm_13, zlm_14, zjm_14, zlm_20, zjm_20, zlm_10001, zjm_10001, zlm_10002, zjm_10002, zb_0, tx, az_call (s_X6_isTypeable hn), hg, az_call hc, and_self, and_true, true_and, if_true, if_false, not_true, not_false_iff, not_true_eq_false, not_false_eq_true, ite_true, ite_false]
theorem s_X11_type_bad {w : Int64} {x : Int32} (hx : ¬ (1 ≤ x.toInt ∧ x.toInt ≤ 8)) : zD (d + 4) 149 [.ref 97, .long w, .int x] h (some (.int (-1))) h := by
  refine zD_of zm_X11_type rfl ?_
  show az_W _ _ _ 0 [.ref 97, .long w, .null, .int x, .null] [] _
  simp only [u_X11_type_0, u_X11_type_1, u_X11_type_2, u_X11_type_3, u_X11_type_6, u_X11_type_9, u_X11_type_12, u_X11_type_13, u_X11_type_14, u_X11_type_15, u_X11_type_16, u_X11_type_17, u_X11_type_21, u_X11_type_24, u_X11_type_25, u_X11_type_27, u_X11_type_29, u_X11_type_30, u_X11_type_31, u_X11_type_34, u_X11_type_35, u_X11_type_38, u_X11_type_41, u_X11_type_44, u_X11_type_47, u_X11_type_48, u_X11_type_49, u_X11_type_52, u_X11_type_55, u_X11_type_56, u_X11_type_59, u_X11_type_60, u_X11_type_61, u_X11_type_63, u_X11_type_66, u_X11_type_68, u_X11_type_69, u_X11_type_70, u_X11_type_71, u_X11_type_72, u_X11_type_76, u_X11_type_79, u_X11_type_80, u_X11_type_83, u_X11_type_84, u_X11_type_87, u_X11_type_88, u_X11_type_90, u_X11_type_92, u_X11_type_93, u_X11_type_94, u_X11_type_97, u_X11_type_98, u_X11_type_99, u_X11_type_100, u_X11_type_101, u_X11_type_101r, u_X11_type_102, u_X11_type_105, u_X11_type_106, u_X11_type_107, u_X11_type_110, u_X11_type_113, u_X11_type_116, u_X11_type_117, u_X11_type_120, az_un_i, az_un_r, az_un_n, az_un_l, Option.toList_some, Option.toList_none, List.cons_append, List.nil_append, List.length_cons, List.length_nil, Nat.reduceLeDiff, Nat.reduceAdd, Nat.zero_le, Nat.zero_add, and_true, true_and, zb_1, eq_self, az_call s_X11_in, z64, zl_0, zj_0, zl_1, zj_1, zl_2, zj_2, zl_3, zj_3, zl_4, zj_4, zl_5, zj_5, zl_6, zj_6, zl_7, zj_7, zl_8, zj_8, zl_9, zj_9, zl_10, zj_10, zl_11, zj_11, zl_12, zj_12, zl_15, zj_15, zl_16, zj_16, zl_20, zj_20, zl_24, zj_24, zl_29, zj_29, zl_30, zj_30, zl_31, zj_31, zl_32, zj_32, zl_40, zj_40, zl_48, zj_48, zl_57, zj_57, zl_59, zj_59, zl_60, zj_60, zl_63, zj_63, zl_99, zj_99, zl_100, zj_100, zl_126, zj_126, zl_144, zj_144, zl_200, zj_200, zl_240, zj_240, zl_255, zj_255, zl_256, zj_256, zl_999, zj_999, zl_1000, zj_1000, zlm_1, zjm_1, zlm_2, zjm_2, zlm_3, zjm_3, zlm_4, zjm_4, zlm_11, zjm_11, zlm_12, zjm_12, zlm_13, zjm_13, zlm_14, zjm_14, zlm_20, zjm_20, zlm_10001, zjm_10001, zlm_10002, zjm_10002, zb_0, eq_false hx, and_self, and_true, true_and, if_true, if_false, not_true, not_false_iff, not_true_eq_false, not_false_eq_true, ite_true, ite_false]
theorem zty_loop {R : az_R} {w : Int64} {n : Nat} (hn : n ≤ 8) (hb : zgd w n = false → R (some (.int (-1))) (130, az_Pf, I, L)) (ha : zgd w n = true → ∀ v, az_W (zD (d + 3)) R k_X11_type 55 [.ref 97, .long w, .null, .int (nI n), v] [] (130, az_Pf, I, L)) : ∀ k, k ≤ n → (∀ i, k ≤ i → i < n → 32 ≤ (zbl w (nI i)).toInt ∧ (zbl w (nI i)).toInt ≤ 126) → az_W (zD (d + 3)) R k_X11_type 19 [.ref 97, .long w, .null, .int (nI n), .int (nI k - 1)] [] (130, az_Pf, I, L) := by
  intro k
  induction k with
  | zero =>
    intro _ hi
    have h1 : nI 0 - 1 < 0 := by decide
    simp only [u_X11_type_19]
    simp only [u_X11_type_21, az_un_i, az_un_r, az_un_n, az_un_l, Option.toList_some, Option.toList_none, List.cons_append, List.nil_append, List.length_cons, List.length_nil, Nat.reduceLeDiff, Nat.reduceAdd, Nat.zero_le, Nat.zero_add, and_true, true_and, zb_1, eq_self, h1, if_true]
    exact ha (zgd_a n (fun k hk => hi k (Nat.zero_le _) hk)) _
  | succ k ih =>
    intro hk hi
    have h1 : ¬ nI k < 0 := nI_pos (by omega)
    rw [zm1]
    simp only [u_X11_type_19]
    simp only [u_X11_type_21, u_X11_type_24, u_X11_type_25, u_X11_type_27, u_X11_type_29, u_X11_type_30, u_X11_type_31, u_X11_type_34, u_X11_type_35, u_X11_type_38, u_X11_type_41, u_X11_type_44, u_X11_type_47, u_X11_type_48, u_X11_type_49, u_X11_type_52, az_un_i, az_un_r, az_un_n, az_un_l, Option.toList_some, Option.toList_none, List.cons_append, List.nil_append, List.length_cons, List.length_nil, Nat.reduceLeDiff, Nat.reduceAdd, Nat.zero_le, Nat.zero_add, and_true, true_and, zb_1, eq_self, h1, if_false, az_call s_X11_in, zl_0, zj_0, zl_1, zj_1, zl_2, zj_2, zl_3, zj_3, zl_4, zj_4, zl_5, zj_5, zl_6, zj_6, zl_7, zj_7, zl_8, zj_8, zl_9, zj_9, zl_10, zj_10, zl_11, zj_11, zl_12, zj_12, zl_15, zj_15, zl_16, zj_16, zl_20, zj_20, zl_24, zj_24, zl_29, zj_29, zl_30, zj_30, zl_31, zj_31, zl_32, zj_32, zl_40, zj_40, zl_48, zj_48, zl_57, zj_57, zl_59, zj_59, zl_60, zj_60, zl_63, zj_63, zl_99, zj_99, zl_100, zj_100, zl_126, zj_126, zl_144, zj_144, zl_200, zj_200, zl_240, zj_240, zl_255, zj_255, zl_256, zj_256, zl_999, zj_999, zl_1000, zj_1000, zlm_1, zjm_1, zlm_2, zjm_2, zlm_3, zjm_3, zlm_4, zjm_4, zlm_11, zjm_11, zlm_12, zjm_12, zlm_13, zjm_13, zlm_14, zjm_14, zlm_20, zjm_20, zlm_10001, zjm_10001, zlm_10002, zjm_10002, zb_0, show (w >>> (((8 : Int32) * nI k).toInt64 &&& 63)) &&& 255 = zbl w (nI k) from rfl]
    by_cases g : 32 ≤ (zbl w (nI k)).toInt ∧ (zbl w (nI k)).toInt ≤ 126
    · rw [if_neg (fun q => q g), ← Int32.sub_eq_add_neg]
      exact ih (by omega) (fun i h2 h3 => by
        by_cases c : i = k
        · rw [c]; exact g
        · exact hi i (by omega) h3)
    · rw [if_pos g]
      exact hb (zgd_f (by omega) g)
theorem s_X11_type_bad2 {w : Int64} {n : Nat} (hn1 : 1 ≤ n) (hn : n ≤ 8) (hg : zgd w n = false) : zD (d + 4) 149 [.ref 97, .long w, .int (nI n)] (130, az_Pf, I, L) (some (.int (-1))) (130, az_Pf, I, L) := by
  refine zD_of zm_X11_type rfl ?_
  show az_W _ _ _ 0 [.ref 97, .long w, .null, .int (nI n), .null] [] _
  have tx : (1 ≤ (nI n).toInt ∧ (nI n).toInt ≤ 8) = True := eq_true (by rw [nI_toInt (by omega)]; omega)
  simp only [u_X11_type_0, u_X11_type_1, u_X11_type_2, u_X11_type_3, u_X11_type_6, u_X11_type_9, u_X11_type_12, u_X11_type_13, u_X11_type_14, u_X11_type_15, u_X11_type_16, u_X11_type_17, az_un_i, az_un_r, az_un_n, az_un_l, Option.toList_some, Option.toList_none, List.cons_append, List.nil_append, List.length_cons, List.length_nil, Nat.reduceLeDiff, Nat.reduceAdd, Nat.zero_le, Nat.zero_add, and_true, true_and, zb_1, eq_self, az_call s_X11_in, z64, zl_0, zj_0, zl_1, zj_1, zl_2, zj_2, zl_3, zj_3, zl_4, zj_4, zl_5, zj_5, zl_6, zj_6, zl_7, zj_7, zl_8, zj_8, zl_9, zj_9, zl_10, zj_10, zl_11, zj_11, zl_12, zj_12, zl_15, zj_15, zl_16, zj_16, zl_20, zj_20, zl_24, zj_24, zl_29, zj_29, zl_30, zj_30, zl_31, zj_31, zl_32, zj_32, zl_40, zj_40, zl_48, zj_48, zl_57, zj_57, zl_59, zj_59, zl_60, zj_60, zl_63, zj_63, zl_99, zj_99, zl_100, zj_100, zl_126, zj_126, zl_144, zj_144, zl_200, zj_200, zl_240, zj_240, zl_255, zj_255, zl_256, zj_256, zl_999, zj_999, zl_1000, zj_1000, zlm_1, zjm_1, zlm_2, zjm_2, zlm_3, zjm_3, zlm_4, zjm_4, zlm_11, zjm_11, zlm_12, zjm_12, zlm_13, zjm_13, zlm_14, zjm_14, zlm_20, zjm_20, zlm_10001, zjm_10001, zlm_10002, zjm_10002, zb_0, tx, and_self, and_true, true_and, if_true, if_false, not_true, not_false_iff, not_true_eq_false, not_false_eq_true, ite_true, ite_false]
  exact zty_loop hn (fun _ => ⟨rfl, rfl⟩) (fun q => by rw [hg] at q; cases q) n (Nat.le_refl _) (fun i h1 h2 => by omega)
theorem s_X11_type_full {w : Int64} {n t : Nat} (hn1 : 1 ≤ n) (hn : n ≤ 8) (hg : zgd w n = true) (h4 : t ≤ 40) (ht : ¬ t + n ≤ 40) (e1 : I 97 2 = nI t) : zD (d + 4) 149 [.ref 97, .long w, .int (nI n)] (130, az_Pf, I, L) (some (.int (-3))) (130, az_Pf, I, L) := by
  refine zD_of zm_X11_type rfl ?_
  show az_W _ _ _ 0 [.ref 97, .long w, .null, .int (nI n), .null] [] _
  have tx : (1 ≤ (nI n).toInt ∧ (nI n).toInt ≤ 8) = True := eq_true (by rw [nI_toInt (by omega)]; omega)
  have h0 : ¬ nI t + nI n ≤ 40 := by rw [nI_add]; exact show ¬ nI (t + n) ≤ nI 40 from nI_ge (by omega) (by omega)
  simp only [u_X11_type_0, u_X11_type_1, u_X11_type_2, u_X11_type_3, u_X11_type_6, u_X11_type_9, u_X11_type_12, u_X11_type_13, u_X11_type_14, u_X11_type_15, u_X11_type_16, u_X11_type_17, az_un_i, az_un_r, az_un_n, az_un_l, Option.toList_some, Option.toList_none, List.cons_append, List.nil_append, List.length_cons, List.length_nil, Nat.reduceLeDiff, Nat.reduceAdd, Nat.zero_le, Nat.zero_add, and_true, true_and, zb_1, eq_self, az_call s_X11_in, z64, zl_0, zj_0, zl_1, zj_1, zl_2, zj_2, zl_3, zj_3, zl_4, zj_4, zl_5, zj_5, zl_6, zj_6, zl_7, zj_7, zl_8, zj_8, zl_9, zj_9, zl_10, zj_10, zl_11, zj_11, zl_12, zj_12, zl_15, zj_15, zl_16, zj_16, zl_20, zj_20, zl_24, zj_24, zl_29, zj_29, zl_30, zj_30, zl_31, zj_31, zl_32, zj_32, zl_40, zj_40, zl_48, zj_48, zl_57, zj_57, zl_59, zj_59, zl_60, zj_60, zl_63, zj_63, zl_99, zj_99, zl_100, zj_100, zl_126, zj_126, zl_144, zj_144, zl_200, zj_200, zl_240, zj_240, zl_255, zj_255, zl_256, zj_256, zl_999, zj_999, zl_1000, zj_1000, zlm_1, zjm_1, zlm_2, zjm_2, zlm_3, zjm_3, zlm_4, zjm_4, zlm_11, zjm_11, zlm_12, zjm_12, zlm_13, zjm_13, zlm_14, zjm_14, zlm_20, zjm_20, zlm_10001, zjm_10001, zlm_10002, zjm_10002, zb_0, tx, and_self, and_true, true_and, if_true, if_false, not_true, not_false_iff, not_true_eq_false, not_false_eq_true, ite_true, ite_false]
  refine zty_loop hn (fun q => by rw [hg] at q; cases q) (fun _ v => ?_) n (Nat.le_refl _) (fun i h1 h2 => by omega)
  simp only [u_X11_type_55, u_X11_type_56, u_X11_type_59, u_X11_type_60, u_X11_type_61, u_X11_type_63, u_X11_type_66, u_X11_type_68, u_X11_type_69, u_X11_type_70, u_X11_type_71, u_X11_type_72, u_X11_type_76, u_X11_type_79, u_X11_type_80, u_X11_type_83, u_X11_type_84, u_X11_type_87, u_X11_type_88, u_X11_type_90, u_X11_type_92, u_X11_type_93, u_X11_type_94, u_X11_type_97, u_X11_type_98, u_X11_type_99, u_X11_type_100, u_X11_type_101, u_X11_type_101r, u_X11_type_102, u_X11_type_105, u_X11_type_106, u_X11_type_107, u_X11_type_110, u_X11_type_113, u_X11_type_116, u_X11_type_117, u_X11_type_120, az_un_i, az_un_r, az_un_n, az_un_l, Option.toList_some, Option.toList_none, List.cons_append, List.nil_append, List.length_cons, List.length_nil, Nat.reduceLeDiff, Nat.reduceAdd, Nat.zero_le, Nat.zero_add, and_true, true_and, zb_1, eq_self, e1, h0, if_false]
theorem s_X11_type {w : Int64} {n t : Nat} (hn1 : 1 ≤ n) (hn : n ≤ 8) (hg : zgd w n = true) (ht : t + n ≤ 40) (e1 : I 97 2 = nI t) : zD (d + 4) 149 [.ref 97, .long w, .int (nI n)] (130, az_Pf, I, L) (some (.int (nI (t + n)))) (130, az_Pf, az_uI (zseg I 99 t (ztf w n) n) 97 2 (nI (t + n)), L) := by
  refine zD_of zm_X11_type rfl ?_
  show az_W _ _ _ 0 [.ref 97, .long w, .null, .int (nI n), .null] [] _
  have tx : (1 ≤ (nI n).toInt ∧ (nI n).toInt ≤ 8) = True := eq_true (by rw [nI_toInt (by omega)]; omega)
  have h0 : nI t + nI n ≤ 40 := by rw [nI_add]; exact show nI (t + n) ≤ nI 40 from nI_le ht (by decide)
  simp only [u_X11_type_0, u_X11_type_1, u_X11_type_2, u_X11_type_3, u_X11_type_6, u_X11_type_9, u_X11_type_12, u_X11_type_13, u_X11_type_14, u_X11_type_15, u_X11_type_16, u_X11_type_17, az_un_i, az_un_r, az_un_n, az_un_l, Option.toList_some, Option.toList_none, List.cons_append, List.nil_append, List.length_cons, List.length_nil, Nat.reduceLeDiff, Nat.reduceAdd, Nat.zero_le, Nat.zero_add, and_true, true_and, zb_1, eq_self, az_call s_X11_in, z64, zl_0, zj_0, zl_1, zj_1, zl_2, zj_2, zl_3, zj_3, zl_4, zj_4, zl_5, zj_5, zl_6, zj_6, zl_7, zj_7, zl_8, zj_8, zl_9, zj_9, zl_10, zj_10, zl_11, zj_11, zl_12, zj_12, zl_15, zj_15, zl_16, zj_16, zl_20, zj_20, zl_24, zj_24, zl_29, zj_29, zl_30, zj_30, zl_31, zj_31, zl_32, zj_32, zl_40, zj_40, zl_48, zj_48, zl_57, zj_57, zl_59, zj_59, zl_60, zj_60, zl_63, zj_63, zl_99, zj_99, zl_100, zj_100, zl_126, zj_126, zl_144, zj_144, zl_200, zj_200, zl_240, zj_240, zl_255, zj_255, zl_256, zj_256, zl_999, zj_999, zl_1000, zj_1000, zlm_1, zjm_1, zlm_2, zjm_2, zlm_3, zjm_3, zlm_4, zjm_4, zlm_11, zjm_11, zlm_12, zjm_12, zlm_13, zjm_13, zlm_14, zjm_14, zlm_20, zjm_20, zlm_10001, zjm_10001, zlm_10002, zjm_10002, zb_0, tx, and_self, and_true, true_and, if_true, if_false, not_true, not_false_iff, not_true_eq_false, not_false_eq_true, ite_true, ite_false]
  refine zty_loop hn (fun q => by rw [hg] at q; cases q) (fun _ v => ?_) n (Nat.le_refl _) (fun i h1 h2 => by omega)
  simp only [u_X11_type_55, u_X11_type_56, u_X11_type_59, u_X11_type_60, u_X11_type_61, u_X11_type_63, u_X11_type_66, u_X11_type_68, u_X11_type_69, u_X11_type_70, u_X11_type_71, u_X11_type_72, az_un_i, az_un_r, az_un_n, az_un_l, Option.toList_some, Option.toList_none, List.cons_append, List.nil_append, List.length_cons, List.length_nil, Nat.reduceLeDiff, Nat.reduceAdd, Nat.zero_le, Nat.zero_add, and_true, true_and, zb_1, eq_self, e1, h0, if_true]
  refine zloopH (P := fun q h => az_W (zD (d + 3)) _ _ 74 [.ref 97, .long w, .null, .int (nI n), .int (nI (n - q) - 1)] [] h) (fun q => (130, az_Pf, az_uI (zseg I 99 t (ztf w n) q) 97 2 (nI (t + q)), L)) n (fun q hq ih => ?_) ?_ (by rw [zseg_0, Nat.add_zero, ← e1, zself])
  · obtain ⟨j, ej⟩ : ∃ j, n - q = j + 1 := ⟨n - q - 1, by omega⟩
    have h1 : ¬ nI j < 0 := nI_pos (by omega)
    have ef : ztf w n q = zby w (nI j) := by unfold ztf; rw [show n - 1 - q = j by omega]
    rw [show n - (q + 1) = j by omega, ← zseg_s (n := q), ef] at ih
    rw [ej, zm1]
    simp only [u_X11_type_74]
    simp only [u_X11_type_76, u_X11_type_79, u_X11_type_80, u_X11_type_83, u_X11_type_84, u_X11_type_87, u_X11_type_88, u_X11_type_90, u_X11_type_92, u_X11_type_93, u_X11_type_94, u_X11_type_97, u_X11_type_98, u_X11_type_99, u_X11_type_100, u_X11_type_101, u_X11_type_101r, u_X11_type_102, u_X11_type_105, u_X11_type_106, u_X11_type_107, u_X11_type_110, u_X11_type_113, u_X11_type_116, u_X11_type_117, u_X11_type_120, az_un_i, az_un_r, az_un_n, az_un_l, Option.toList_some, Option.toList_none, List.cons_append, List.nil_append, List.length_cons, List.length_nil, Nat.reduceLeDiff, Nat.reduceAdd, Nat.zero_le, Nat.zero_add, and_true, true_and, zb_1, eq_self, h1, if_false, az_uI_at, az_uL_at, Nat.reduceEqDiff, false_and, and_false, and_self, if_true, if_false, ite_true, ite_false, kx_99, zinT (show t + q < 40 by omega) (by decide), zcl (show t + q < 40 by omega) (by decide)]
    rw [zu3 (by omega), show nI (t + q) + 1 = nI (t + (q + 1)) from (nI_succ (t + q)).symm, ← Int32.sub_eq_add_neg]
    exact ih
  · have h1 : nI (n - n) - 1 < 0 := by rw [Nat.sub_self]; decide
    simp only [u_X11_type_74]
    simp only [u_X11_type_76, u_X11_type_79, u_X11_type_80, u_X11_type_83, u_X11_type_84, u_X11_type_87, u_X11_type_88, u_X11_type_90, u_X11_type_92, u_X11_type_93, u_X11_type_94, u_X11_type_97, u_X11_type_98, u_X11_type_99, u_X11_type_100, u_X11_type_101, u_X11_type_101r, u_X11_type_102, u_X11_type_105, u_X11_type_106, u_X11_type_107, u_X11_type_110, u_X11_type_113, u_X11_type_116, u_X11_type_117, u_X11_type_120, az_un_i, az_un_r, az_un_n, az_un_l, Option.toList_some, Option.toList_none, List.cons_append, List.nil_append, List.length_cons, List.length_nil, Nat.reduceLeDiff, Nat.reduceAdd, Nat.zero_le, Nat.zero_add, and_true, true_and, zb_1, eq_self, h1, if_true, az_uI_at, az_uL_at, Nat.reduceEqDiff, false_and, and_false, and_self, if_true, if_false, ite_true, ite_false]
end S
theorem op_type (w : Int64) (x : Int32) : zOp 93 149 [.long w, .int x] := by
  intro I L hI
  have hI0 := hI
  obtain ⟨hP, hC, hS, ⟨t, e, hB⟩, ⟨nl, hL⟩, ⟨nr, hR⟩, n', c, w', hD, hW, hX, hF⟩ := hI
  by_cases hb : 1 ≤ x.toInt ∧ x.toInt ≤ 8
  · obtain ⟨n, hn, rfl⟩ := znat (show 0 ≤ x.toInt by omega) (n := 8) hb.2 (by decide)
    rw [nI_toInt (by omega)] at hb
    cases hg : zgd w n
    · exact ⟨_, I, L, I, L, s_X10_type_bad2 (d := 5) (by omega) hn hg, s_X11_type_bad2 (d := 5) (by omega) hn hg, hI0⟩
    · obtain ⟨b1, b2, b3, b4, b5, b6, b7, b8, b9, b10, b11⟩ := hB
      by_cases ht : t + n ≤ 40
      · obtain ⟨J1, hJ1⟩ : ∃ J1, J1 = az_uI (zseg I 36 t (ztf w n) n) 35 1 (nI (t + n)) := ⟨_, rfl⟩
        obtain ⟨J, hJ⟩ : ∃ J, J = az_uI (zseg J1 99 t (ztf w n) n) 97 2 (nI (t + n)) := ⟨_, rfl⟩
        have f1 : ∀ b j, ¬ (b = 36 ∨ (b = 35 ∧ j = 1)) → J1 b j = I b j := fun b j hz => by
          rw [hJ1, az_uI_at, if_neg (by omega), zseg_ne (by omega)]
        have ff : ∀ b j, ¬ (b = 36 ∨ (b = 35 ∧ j = 1) ∨ b = 99 ∨ (b = 97 ∧ j = 2)) → J b j = I b j := fun b j hz => by
          rw [hJ, az_uI_at, if_neg (by omega), zseg_ne (by omega)]; exact f1 b j (by omega)
        have e36 : ∀ j, J 36 j = if t ≤ j ∧ j < t + n then ztf w n (j - t) else I 36 j := fun j => by
          rw [hJ, az_uI_at, if_neg (by omega), zseg_ne (by omega), hJ1, az_uI_at, if_neg (by omega), zseg_at]
          simp only [true_and]
        have e99 : ∀ j, J 99 j = if t ≤ j ∧ j < t + n then ztf w n (j - t) else I 99 j := fun j => by
          rw [hJ, az_uI_at, if_neg (by omega), zseg_at, f1 99 j (by omega)]
          simp only [true_and]
        refine ⟨_, J1, L, J, L, hJ1 ▸ s_X10_type (d := 5) (t := t) (by omega) hn hg (s_X6_addToTape (d := 6) hn ht b2), hJ ▸ s_X11_type (d := 5) (by omega) hn hg ht (by rw [f1 97 2 (by omega)]; exact b3), ?_⟩
        have hBn : zvB J (t + n) e := by
          refine ⟨ht, ?_, ?_, ?_, ?_, b6, by rw [ff 35 4 (by omega)]; exact b7, by rw [ff 97 4 (by omega)]; exact b8, ?_, ?_, ?_⟩
          · rw [hJ, az_uI_at, if_neg (by omega), zseg_ne (by omega), hJ1, az_uI_at, if_pos ⟨rfl, rfl⟩]
          · rw [hJ, az_uI_at, if_pos ⟨rfl, rfl⟩]
          · funext j; rw [e36, e99, b4]
          · intro k hk
            rw [e36]
            by_cases c : t ≤ k ∧ k < t + n
            · rw [if_pos c]; unfold ztf; rw [zby_i]; exact zgd_t n hg _ (by omega)
            · rw [if_neg c]; exact b5 k (by omega)
          · rw [show J 37 = I 37 from funext fun j => ff 37 j (by omega), show J 100 = I 100 from funext fun j => ff 100 j (by omega)]; exact b9
          · rw [show J 37 = I 37 from funext fun j => ff 37 j (by omega)]; exact b10
          · intro k hk
            rw [show J (39 + k) = I (39 + k) from funext fun j => ff _ j (by omega), show J 101 = I 101 from funext fun j => ff _ j (by omega)]
            exact b11 k hk
        exact ⟨(hP.fr (fun m hm => funext fun j => ff _ j (by omega)) (funext fun j => ff _ j (by omega))), (hC.fr (funext fun j => ff _ j (by omega)) (funext fun j => ff _ j (by omega)) (funext fun j => ff _ j (by omega))), (hS.fr (funext fun j => ff _ j (by omega)) (funext fun j => ff _ j (by omega)) (funext fun j => ff _ j (by omega)) (funext fun j => ff _ j (by omega)) (funext fun j => ff _ j (by omega)) (fun s hs => funext fun j => ff _ j (by omega))), ⟨t + n, e, (hBn)⟩, ⟨nl, (hL.fr (ff _ _ (by omega)) (ff _ _ (by omega)) (fun k h1 h2 => funext fun j => ff _ j (by omega)) (fun k h1 h2 => funext fun j => ff _ j (by omega)))⟩, ⟨nr, (hR.fr (ff _ _ (by omega)) (ff _ _ (by omega)) (funext fun j => ff _ j (by omega)) (funext fun j => ff _ j (by omega)) (funext fun j => ff _ j (by omega)) (funext fun j => ff _ j (by omega)))⟩, n', c, w', (hD.fr (ff _ _ (by omega)) (ff _ _ (by omega)) (ff _ _ (by omega)) (ff _ _ (by omega)) (fun k h1 h2 => funext fun j => ff _ j (by omega)) (fun k h1 h2 => funext fun j => ff _ j (by omega))), (hW.fr (ff _ _ (by omega)) (ff _ _ (by omega)) (fun k h1 h2 => funext fun j => ff _ j (by omega)) (fun k h1 h2 => funext fun j => ff _ j (by omega))), (hX.fr (funext fun j => ff _ j (by omega)) (funext fun j => ff _ j (by omega))), (hF.fr (fun a ha => funext fun j => ff _ j (by omega)) (funext fun j => ff _ j (by omega)))⟩
      · exact ⟨_, I, L, I, L, s_X10_type (d := 5) (t := t) (by omega) hn hg (s_X6_addToTape_full (d := 6) hn b1 ht b2), s_X11_type_full (d := 5) (by omega) hn hg b1 ht b3, hI0⟩
  · exact ⟨_, I, L, I, L, s_X10_type_bad (d := 5) hb, s_X11_type_bad (d := 5) hb, hI0⟩
