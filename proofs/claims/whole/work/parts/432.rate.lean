/-! ===== rate, reach, thrown ===== -/
def zF1 (q : Nat) (I J : Nat → Nat → Int32) : Prop := ∀ b, b ≠ q → J b = I b
theorem zF1.rf {q : Nat} {I : Nat → Nat → Int32} : zF1 q I I := fun _ _ => rfl
theorem zF1.up {q j : Nat} {v : Int32} {I J : Nat → Nat → Int32} (f : zF1 q I J) : zF1 q I (az_uI J q j v) := fun b hb => by rw [zu_row hb]; exact f b hb
theorem zF1.fr {q : Nat} {I J : Nat → Nat → Int32} (f : zF1 q I J) (hq : ∀ j, zscr q j = true) : zFr I J := fun a j hs => by
  rw [f a (fun e => by subst e; rw [hq j] at hs; cases hs)]
theorem zscr44 (j : Nat) : zscr 44 j = true := rfl
theorem zscr96 (j : Nat) : zscr 96 j = true := rfl
theorem zscr106 (j : Nat) : zscr 106 j = true := rfl
theorem kx_m {m : Nat} (hm : m < 30) : az_kn 130 (4 + m) = (1, 8) := kr_3 m hm
def zen (w : Int32) : Int32 := if w = 0 then 0 else 999
def zbn (v : Nat → Int32) (g : Nat) (w : Int32) (h : Nat) : Int32 := if v h ≠ -1 ∧ g.testBit h = true then zen w else v h
theorem zen_r {w : Int32} : -1 ≤ (zen w).toInt ∧ (zen w).toInt ≤ 999 := by unfold zen; split <;> decide
theorem zVr_bn {v : Nat → Int32} {g : Nat} {w : Int32} (hv : zVr v) : zVr (zbn v g w) := fun h hh => by
  unfold zbn; split
  · exact zen_r
  · exact hv h hh
def zQM (I : Nat → Nat → Int32) (L : Nat → Nat → Int64) (r f c l : Nat) (J : Nat → Nat → Int32) (L' : Nat → Nat → Int64) : Prop := zFo I J ∧ J 2 2 = nI (zK (I r)) ∧ zSt (J 34) (zK (I r)) (zO (I r)) ∧ L' = if zok (I r) c l then zLs L f (zS (I r) c) (zK (I r) - 2 * c) else L
def zQR (I : Nat → Nat → Int32) (L : Nat → Nat → Int64) (c : Nat) (J : Nat → Nat → Int32) (L' : Nat → Nat → Int64) : Prop := L' = L ∧ zFm I J ∧ J 97 13 = nI (zK (I 106)) ∧ zSt (J 107) (zK (I 106)) (zO (I 106)) ∧ J 97 14 = nI (zS (I 106) c) ∧ J 97 15 = nI (zK (I 106)) - nI (2 * c)
theorem zG.vr {I : Nat → Nat → Int32} {t e nl nr n c w : Nat} (hG : zG I t e nl nr n c w) {m : Nat} (hm : m < 30) : zVr (I (4 + m)) := fun h hh => by
  obtain ⟨p1, p2, p3⟩ := hG.1 m hm h hh
  rw [p1]; exact ⟨p2, p3⟩
section S
variable {d : Nat} {I : Nat → Nat → Int32} {L : Nat → Nat → Int64} {h : az_H}
theorem s_X4_rowOf {m : Nat} (hm : m < 30) : zD (d + 1) 37 [.ref 2, .int (nI m)] (130, az_Pf, I, L) (some (.ref (4 + m))) (130, az_Pf, I, L) := by
  refine zD_of zm_X4_rowOf rfl ?_
  show az_W _ _ _ 0 [.ref 2, .int (nI m)] [] _
  simp only [u_X4_rowOf_0, u_X4_rowOf_1, u_X4_rowOf_4, u_X4_rowOf_5, u_X4_rowOf_6, az_un_i, az_un_r, az_un_n, az_un_l, Option.toList_some, Option.toList_none, List.cons_append, List.nil_append, List.length_cons, List.length_nil, Nat.reduceLeDiff, Nat.reduceAdd, Nat.zero_le, Nat.zero_add, and_true, true_and, zb_1, eq_self, kx_3, zinT hm (by decide), zcl hm (by decide), pr_3 m hm, Option.some.injEq, exists_eq_left', exists_eq_left, and_self, and_true, true_and, if_true, if_false, not_true, not_false_iff, not_true_eq_false, not_false_eq_true, ite_true, ite_false]
theorem s_X5_findOf {r m c l f t e : Nat} (hB : zvB I t e) (hr : az_kn 130 r = (1, 8)) (r1 : r ≠ 34) (r2 : r ≠ 2) (hf : az_kn 130 f = (0, 2)) (hv : zVr (I r)) (hc : c ≤ 3) (hl : l ≤ 8) (ec : zrl I (nI m) 0 e = nI c) (el : zrl I (nI m) 1 e = nI l) : zE (d + 4) 45 [.ref 1, .ref r, .int (nI m), .ref f] I L (some (.int (zb (zok (I r) c l = true)))) (zQM I L r f c l) := by
  refine zE_of zm_X5_findOf rfl ?_
  show az_W _ _ _ 0 [.ref 1, .ref r, .int (nI m), .ref f] [] _
  obtain ⟨J, L', hm, hq⟩ := s_X4_findMean (d := d) (L := L) hr r1 r2 hf hv hc hl
  have c0 : zD (d + 3) 60 [.ref 35, .int (nI m), .int 0] (130, az_Pf, I, L) (some (.int (nI c))) (130, az_Pf, I, L) := ec ▸ s_X6_inForce hB (w := 0) (by decide)
  have c1 : zD (d + 3) 60 [.ref 35, .int (nI m), .int 1] (130, az_Pf, I, L) (some (.int (nI l))) (130, az_Pf, I, L) := el ▸ s_X6_inForce hB (w := 1) (by decide)
  simp only [u_X5_findOf_0, u_X5_findOf_1, u_X5_findOf_4, u_X5_findOf_5, u_X5_findOf_6, u_X5_findOf_9, u_X5_findOf_10, u_X5_findOf_11, u_X5_findOf_14, u_X5_findOf_15, u_X5_findOf_18, u_X5_findOf_19, u_X5_findOf_20, u_X5_findOf_23, u_X5_findOf_24, u_X5_findOf_27, az_un_i, az_un_r, az_un_n, az_un_l, Option.toList_some, Option.toList_none, List.cons_append, List.nil_append, List.length_cons, List.length_nil, Nat.reduceLeDiff, Nat.reduceAdd, Nat.zero_le, Nat.zero_add, and_true, true_and, zb_1, eq_self, az_call c0, az_call c1, hr, hf, az_call hm, zR_at]
  exact hq
theorem s_X5_find {m c l f t e nl nr n cc w : Nat} (hG : zG I t e nl nr n cc w) (hm : m < 30) (hf : az_kn 130 f = (0, 2)) (hc : c ≤ 3) (hl : l ≤ 8) (ec : zrl I (nI m) 0 e = nI c) (el : zrl I (nI m) 1 e = nI l) : zE (d + 5) 44 [.ref 1, .int (nI m), .ref f] I L (some (.int (zb (zok (I (4 + m)) c l = true)))) (zQM I L (4 + m) f c l) := by
  refine zE_of zm_X5_find rfl ?_
  show az_W _ _ _ 0 [.ref 1, .int (nI m), .ref f] [] _
  obtain ⟨J, L', hk, hq⟩ := s_X5_findOf (d := d) (L := L) (r := 4 + m) hG.2.2.2.1 (kx_m hm) (by omega) (by omega) hf (hG.vr hm) hc hl ec el
  simp only [u_X5_find_0, u_X5_find_1, u_X5_find_2, u_X5_find_5, u_X5_find_6, u_X5_find_9, u_X5_find_10, u_X5_find_11, u_X5_find_14, az_un_i, az_un_r, az_un_n, az_un_l, Option.toList_some, Option.toList_none, List.cons_append, List.nil_append, List.length_cons, List.length_nil, Nat.reduceLeDiff, Nat.reduceAdd, Nat.zero_le, Nat.zero_add, and_true, true_and, zb_1, eq_self, az_call (s_X4_rowOf hm), kx_m hm, hf, az_call hk, zR_at]
  exact hq
theorem s_X11_layMorning {m : Nat} (hm : m < 30) : zE (d + 1) 156 [.ref 97, .int (nI m)] I L none (fun J L' => L' = L ∧ zF1 106 I J ∧ ∀ h, h < 8 → J 106 h = I 98 (8 * m + h)) := by
  refine zE_of zm_X11_layMorning rfl ?_
  show az_W _ _ _ 0 [.ref 97, .int (nI m), .null] [] _
  simp only [u_X11_layMorning_0, u_X11_layMorning_1, az_un_i, az_un_r, az_un_n, az_un_l, Option.toList_some, Option.toList_none, List.cons_append, List.nil_append, List.length_cons, List.length_nil, Nat.reduceLeDiff, Nat.reduceAdd, Nat.zero_le, Nat.zero_add, and_true, true_and, zb_1, eq_self]
  refine zloop (P := fun k => ∀ J, zF1 106 I J → (∀ h, h < k → J 106 h = I 98 (8 * m + h)) → az_W (zD d) _ _ 2 [.ref 97, .int (nI m), .int (nI k)] [] (130, az_Pf, J, L)) 8 (fun k hk ih J f e1 => ?_) (fun J f e1 => ?_) 0 (Nat.zero_le _) _ zF1.rf (fun i hi => absurd hi (Nat.not_lt_zero _))
  · have h1 : ¬ (8 : Int32) ≤ nI k := nI_ge (b := 8) hk (by decide)
    simp only [u_X11_layMorning_2]
    simp only [u_X11_layMorning_3, u_X11_layMorning_5, u_X11_layMorning_8, u_X11_layMorning_9, u_X11_layMorning_12, u_X11_layMorning_13, u_X11_layMorning_14, u_X11_layMorning_17, u_X11_layMorning_19, u_X11_layMorning_20, u_X11_layMorning_21, u_X11_layMorning_22, u_X11_layMorning_23, u_X11_layMorning_24, u_X11_layMorning_25, u_X11_layMorning_28, u_X11_layMorning_31, az_un_i, az_un_r, az_un_n, az_un_l, Option.toList_some, Option.toList_none, List.cons_append, List.nil_append, List.length_cons, List.length_nil, Nat.reduceLeDiff, Nat.reduceAdd, Nat.zero_le, Nat.zero_add, and_true, true_and, zb_1, eq_self, h1, if_false, z8m, kx_98, kx_106, zinT (show 8 * m + k < 240 by omega) (by decide), zcl (show 8 * m + k < 240 by omega) (by decide), zinT hk (by decide), zcl hk (by decide), f 98 (by decide)]
    rw [nI_succ] at ih
    refine ih _ f.up (fun h hh => ?_)
    rw [az_uI_at]
    by_cases c : h = k
    · rw [if_pos ⟨rfl, c⟩, c]
    · rw [if_neg (by omega)]; exact e1 h (by omega)
  · have h1 : (8 : Int32) ≤ nI 8 := by decide
    simp only [u_X11_layMorning_2]
    simp only [u_X11_layMorning_3, u_X11_layMorning_5, u_X11_layMorning_8, u_X11_layMorning_9, u_X11_layMorning_12, u_X11_layMorning_13, u_X11_layMorning_14, u_X11_layMorning_17, u_X11_layMorning_19, u_X11_layMorning_20, u_X11_layMorning_21, u_X11_layMorning_22, u_X11_layMorning_23, u_X11_layMorning_24, u_X11_layMorning_25, u_X11_layMorning_28, u_X11_layMorning_31, az_un_i, az_un_r, az_un_n, az_un_l, Option.toList_some, Option.toList_none, List.cons_append, List.nil_append, List.length_cons, List.length_nil, Nat.reduceLeDiff, Nat.reduceAdd, Nat.zero_le, Nat.zero_add, and_true, true_and, zb_1, eq_self, h1, if_true, zR_at]
    exact ⟨f, e1⟩
theorem s_X11_findRateOn {m c l t e : Nat} (hB : zvB I t e) (hC : zvC I) (hv : zVr (I 106)) (hc : c ≤ 3) (hl : l ≤ 8) (ec : zrl I (nI m) 0 e = nI c) (el : zrl I (nI m) 1 e = nI l) : zE (d + 2) 158 [.ref 97, .int (nI m)] I L (some (.int (zb (zok (I 106) c l = true)))) (zQR I L c) := by
  refine zE_of zm_X11_findRateOn rfl ?_
  show az_W _ _ _ 0 [.ref 97, .int (nI m)] [] _
  obtain ⟨J, L', hk, hq⟩ := s_X11_findRate (d := d) (L := L) hv hc hl
  have c0 : zD (d + 1) 154 [.ref 97, .int (nI m), .int 0] (130, az_Pf, I, L) (some (.int (nI c))) (130, az_Pf, I, L) := ec ▸ s_X11_ruleOn hB hC (w := 0) (by decide)
  have c1 : zD (d + 1) 154 [.ref 97, .int (nI m), .int 1] (130, az_Pf, I, L) (some (.int (nI l))) (130, az_Pf, I, L) := el ▸ s_X11_ruleOn hB hC (w := 1) (by decide)
  simp only [u_X11_findRateOn_0, u_X11_findRateOn_1, u_X11_findRateOn_2, u_X11_findRateOn_3, u_X11_findRateOn_4, u_X11_findRateOn_7, u_X11_findRateOn_8, u_X11_findRateOn_9, u_X11_findRateOn_10, u_X11_findRateOn_13, u_X11_findRateOn_16, az_un_i, az_un_r, az_un_n, az_un_l, Option.toList_some, Option.toList_none, List.cons_append, List.nil_append, List.length_cons, List.length_nil, Nat.reduceLeDiff, Nat.reduceAdd, Nat.zero_le, Nat.zero_add, and_true, true_and, zb_1, eq_self, az_call c0, az_call c1, az_call hk, zR_at]
  exact hq
/-- the answer of rate, for a row -/
def zAr (v : Nat → Int32) (c l : Nat) (x : Int32) : Int64 := if zok v c l then zfP (zS v c) (zK v - 2 * c) x else -1099511627780
theorem zAr_c {v w : Nat → Int32} (h : ∀ i, i < 8 → v i = w i) (c l : Nat) (x : Int32) : zAr v c l x = zAr w c l x := by
  unfold zAr; rw [zok_c h, zS_c h, zK_c h]
theorem zLs_p {f : Nat} {A : Int} {B : Nat} {x : Int32} : (if x = 0 then zLs L f A B f 0 else zLs L f A B f 1) = zfP A B x := by
  rw [zLs_0, zLs_1]; rfl
theorem s_X10_rate_bad {x y : Int32} (hb : ¬ ((0 ≤ x.toInt ∧ x.toInt ≤ 29) ∧ (0 ≤ y.toInt ∧ y.toInt ≤ 1))) : zD (d + 6) 96 [.ref 0, .int x, .int y] (130, az_Pf, I, L) (some (.long (-1099511627777))) (130, az_Pf, I, L) := by
  refine zD_of zm_X10_rate rfl ?_
  show az_W _ _ _ 0 [.ref 0, .int x, .int y] [] _
  simp only [u_X10_rate_0, u_X10_rate_1, u_X10_rate_4, u_X10_rate_7, u_X10_rate_8, u_X10_rate_11, u_X10_rate_14, u_X10_rate_17, u_X10_rate_18, u_X10_rate_19, u_X10_rate_22, u_X10_rate_23, u_X10_rate_24, u_X10_rate_27, u_X10_rate_30, u_X10_rate_33, u_X10_rate_34, u_X10_rate_37, u_X10_rate_38, u_X10_rate_41, u_X10_rate_44, u_X10_rate_47, az_un_i, az_un_r, az_un_n, az_un_l, Option.toList_some, Option.toList_none, List.cons_append, List.nil_append, List.length_cons, List.length_nil, Nat.reduceLeDiff, Nat.reduceAdd, Nat.zero_le, Nat.zero_add, and_true, true_and, zb_1, eq_self, zb_0, az_call s_X10_isMorning, az_call s_X10_isBit]
  by_cases h1 : 0 ≤ x.toInt ∧ x.toInt ≤ 29 <;> by_cases h2 : 0 ≤ y.toInt ∧ y.toInt ≤ 1 <;> simp only [h1, h2, and_self, and_true, true_and, if_true, if_false, not_true, not_false_iff, not_true_eq_false, not_false_eq_true, ite_true, ite_false]
  exact absurd ⟨h1, h2⟩ hb
theorem s_X11_rate_bad {x y : Int32} (hb : ¬ ((0 ≤ x.toInt ∧ x.toInt ≤ 29) ∧ (0 ≤ y.toInt ∧ y.toInt ≤ 1))) : zD (d + 6) 159 [.ref 97, .int x, .int y] (130, az_Pf, I, L) (some (.long (-1099511627777))) (130, az_Pf, I, L) := by
  refine zD_of zm_X11_rate rfl ?_
  show az_W _ _ _ 0 [.ref 97, .int x, .int y] [] _
  simp only [u_X11_rate_0, u_X11_rate_1, u_X11_rate_4, u_X11_rate_7, u_X11_rate_8, u_X11_rate_11, u_X11_rate_14, u_X11_rate_17, u_X11_rate_18, u_X11_rate_19, u_X11_rate_20, u_X11_rate_23, u_X11_rate_24, u_X11_rate_25, u_X11_rate_28, u_X11_rate_31, u_X11_rate_32, u_X11_rate_35, u_X11_rate_36, u_X11_rate_37, u_X11_rate_40, u_X11_rate_41, u_X11_rate_42, u_X11_rate_45, u_X11_rate_48, u_X11_rate_51, az_un_i, az_un_r, az_un_n, az_un_l, Option.toList_some, Option.toList_none, List.cons_append, List.nil_append, List.length_cons, List.length_nil, Nat.reduceLeDiff, Nat.reduceAdd, Nat.zero_le, Nat.zero_add, and_true, true_and, zb_1, eq_self, zb_0, az_call s_X11_isMorning, az_call s_X11_isWhat]
  by_cases h1 : 0 ≤ x.toInt ∧ x.toInt ≤ 29 <;> by_cases h2 : 0 ≤ y.toInt ∧ y.toInt ≤ 1 <;> simp only [h1, h2, and_self, and_true, true_and, if_true, if_false, not_true, not_false_iff, not_true_eq_false, not_false_eq_true, ite_true, ite_false]
  exact absurd ⟨h1, h2⟩ hb
theorem s_X10_rate {m c l t e nl nr n cc w : Nat} {x : Int32} (hG : zG I t e nl nr n cc w) (hm : m < 30) (hx : 0 ≤ x.toInt ∧ x.toInt ≤ 1) (hc : c ≤ 3) (hl : l ≤ 8) (ec : zrl I (nI m) 0 e = nI c) (el : zrl I (nI m) 1 e = nI l) : zE (d + 6) 96 [.ref 0, .int (nI m), .int x] I L (some (.long (zAr (I (4 + m)) c l x))) (fun J _ => zFr I J) := by
  refine zE_of zm_X10_rate rfl ?_
  show az_W _ _ _ 0 [.ref 0, .int (nI m), .int x] [] _
  obtain ⟨J, L', hk, q1, q2, q3, q4⟩ := s_X5_find (d := d) (L := L) (f := 94) hG hm kx_94 hc hl ec el
  simp only [u_X10_rate_0, u_X10_rate_1, u_X10_rate_4, u_X10_rate_7, u_X10_rate_8, u_X10_rate_11, u_X10_rate_14, u_X10_rate_17, u_X10_rate_18, u_X10_rate_19, u_X10_rate_22, u_X10_rate_23, u_X10_rate_24, u_X10_rate_27, u_X10_rate_30, u_X10_rate_33, u_X10_rate_34, u_X10_rate_37, u_X10_rate_38, u_X10_rate_41, u_X10_rate_44, u_X10_rate_47, az_un_i, az_un_r, az_un_n, az_un_l, Option.toList_some, Option.toList_none, List.cons_append, List.nil_append, List.length_cons, List.length_nil, Nat.reduceLeDiff, Nat.reduceAdd, Nat.zero_le, Nat.zero_add, and_true, true_and, zb_1, eq_self, az_call s_X10_isMorning, az_call s_X10_isBit, zb_0, (eq_true (by rw [nI_toInt (by omega)]; omega) : (0 ≤ (nI m).toInt ∧ (nI m).toInt ≤ 29) = True), eq_true hx, and_self, and_true, true_and, if_true, if_false, not_true, not_false_iff, not_true_eq_false, not_false_eq_true, ite_true, ite_false, az_call hk, kx_94, az_call (s_X2_part kx_94), zR_at]
  unfold zAr
  cases hz : zok (I (4 + m)) c l
  · simp [q1.fr]
  · rw [hz] at q4
    simp only [if_true] at q4
    rw [q4]
    simp only [not_true, not_true_eq_false, if_false, if_true, zLs_p]
    exact ⟨trivial, q1.fr⟩
theorem s_X11_rate {m c l t e nl nr n cc w : Nat} {x : Int32} (hG : zG I t e nl nr n cc w) (hm : m < 30) (hx : 0 ≤ x.toInt ∧ x.toInt ≤ 1) (hc : c ≤ 3) (hl : l ≤ 8) (ec : zrl I (nI m) 0 e = nI c) (el : zrl I (nI m) 1 e = nI l) : zE (d + 6) 159 [.ref 97, .int (nI m), .int x] I L (some (.long (zAr (I (4 + m)) c l x))) (fun J _ => zFr I J) := by
  refine zE_of zm_X11_rate rfl ?_
  show az_W _ _ _ 0 [.ref 97, .int (nI m), .int x] [] _
  obtain ⟨J1, L1, h1, q0, f1, e1⟩ := s_X11_layMorning (d := d + 4) (I := I) (L := L) hm
  subst q0
  have fr1 := f1.fr zscr106
  have hG1 := hG.fr fr1
  have ev : ∀ h, h < 8 → I (4 + m) h = J1 106 h := fun h hh => by rw [e1 h hh]; exact (hG.1 m hm h hh).1
  have er : ∀ k, zrl J1 (nI m) k e = zrl I (nI m) k e := fun k => zrl_fr (f1 37 (by decide)) (fun k hk => f1 (39 + k) (by omega)) e hG.2.2.2.1.2.2.2.2.2.1
  have hv := zVr_c ev (hG.vr hm)
  obtain ⟨J2, L2, h2, q0, f2, e2, e3, e4, e5⟩ := s_X11_findRateOn (d := d + 3) (I := J1) (L := L1) (m := m) hG1.2.2.2.1 hG1.2.1 hv hc hl ((er 0).trans ec) ((er 1).trans el)
  subst q0
  simp only [u_X11_rate_0, u_X11_rate_1, u_X11_rate_4, u_X11_rate_7, u_X11_rate_8, u_X11_rate_11, u_X11_rate_14, u_X11_rate_17, u_X11_rate_18, u_X11_rate_19, u_X11_rate_20, u_X11_rate_23, u_X11_rate_24, u_X11_rate_25, u_X11_rate_28, u_X11_rate_31, u_X11_rate_32, u_X11_rate_35, u_X11_rate_36, u_X11_rate_37, u_X11_rate_40, u_X11_rate_41, u_X11_rate_42, u_X11_rate_45, u_X11_rate_48, u_X11_rate_51, az_un_i, az_un_r, az_un_n, az_un_l, Option.toList_some, Option.toList_none, List.cons_append, List.nil_append, List.length_cons, List.length_nil, Nat.reduceLeDiff, Nat.reduceAdd, Nat.zero_le, Nat.zero_add, and_true, true_and, zb_1, eq_self, az_call s_X11_isMorning, az_call s_X11_isWhat, zb_0, (eq_true (by rw [nI_toInt (by omega)]; omega) : (0 ≤ (nI m).toInt ∧ (nI m).toInt ≤ 29) = True), eq_true hx, and_self, and_true, true_and, if_true, if_false, not_true, not_false_iff, not_true_eq_false, not_false_eq_true, ite_true, ite_false, az_call h1, az_call h2, e4, e5]
  rw [zAr_c ev]
  unfold zAr
  cases hz : zok (J1 106) c l
  · simp only [Bool.false_eq_true, if_false, not_false_eq_true, if_true, zR_at]
    exact ⟨trivial, fr1.tr f2.fr⟩
  · have hz' := zok_i.mp hz
    have b := zS_b hv c
    have hK := zK_le (v := J1 106)
    have ht := s_X11_told (d := d + 3) (h := (130, az_Pf, J2, L2)) (B := zK (J1 106) - 2 * c) (a := (nI (zS (J1 106) c)).toInt64) (b := (nI (zK (J1 106) - 2 * c)).toInt64) (A := (zS (J1 106) c : Int)) (x := x) (by rw [z64, nI_toInt (by omega)]) (zil (by omega)) (by omega) (by omega) (by omega) (by omega)
    simp only [if_true, pk_sub (show 2 * c ≤ zK (J1 106) by omega), az_call ht, not_true, not_true_eq_false, if_false, zR_at, u_X11_rate_45, u_X11_rate_48, u_X11_rate_51, az_un_i, az_un_r, az_un_n, az_un_l, Option.toList_some, Option.toList_none, List.cons_append, List.nil_append, List.length_cons, List.length_nil, Nat.reduceLeDiff, Nat.reduceAdd, Nat.zero_le, Nat.zero_add, and_true, true_and, zb_1, eq_self]
    exact fr1.tr f2.fr
end S
theorem op_rate (x y : Int32) : zOpL 96 159 [.int x, .int y] := by
  refine zOpL_of (fun I L hI => ?_)
  obtain ⟨t, e, nl, nr, n, cc, w, hG⟩ := zInv_G hI
  by_cases hb : (0 ≤ x.toInt ∧ x.toInt ≤ 29) ∧ (0 ≤ y.toInt ∧ y.toInt ≤ 1)
  · obtain ⟨h1, h2⟩ := hb
    obtain ⟨m, hm, rfl⟩ := znat h1.1 (n := 29) h1.2 (by decide)
    obtain ⟨c, l, s, hc, -, hl, -, ec, el, -⟩ := zrl_rg hG.2.2.2.1 (nI m) e (Nat.le_refl _)
    refine ⟨_, s_X10_rate (d := 3) hG (by omega) h2 hc hl ec el, fun J M f => ?_⟩
    have er : ∀ k, zrl J (nI m) k e = zrl I (nI m) k e := fun k => zrl_fr (f.rw 37 (by omega)) (fun k hk => f.rw (39 + k) (by omega)) e hG.2.2.2.1.2.2.2.2.2.1
    rw [← f.rw (4 + m) (by omega)]
    exact s_X11_rate (d := 3) (hG.fr f) (by omega) h2 hc hl ((er 0).trans ec) ((er 1).trans el)
  · exact ⟨_, zE_D (s_X10_rate_bad (d := 3) hb) zFr.rf, fun J M f => zE_D (s_X11_rate_bad (d := 3) hb) zFr.rf⟩
