/-! ===== reach ===== -/
/-- a row with one house put to an end -/
def zre (v : Nat → Int32) (q : Nat) (w : Int32) (h : Nat) : Int32 := if h = q then zen w else v h
theorem zVr_re {v : Nat → Int32} {q : Nat} {w : Int32} (hv : zVr v) : zVr (zre v q w) := fun h hh => by
  unfold zre; split
  · exact zen_r
  · exact hv h hh
section S
variable {d : Nat} {I : Nat → Nat → Int32} {L : Nat → Nat → Int64} {h : az_H}
theorem s_X5_endOf {y : Int32} : zD (d + 1) 52 [.int y] h (some (.int (zen y))) h := by
  refine zD_of zm_X5_endOf rfl ?_
  show az_W _ _ _ 0 [.int y] [] _
  simp only [u_X5_endOf_0, u_X5_endOf_1, u_X5_endOf_4, u_X5_endOf_5, u_X5_endOf_8, u_X5_endOf_11, az_un_i, az_un_r, az_un_n, az_un_l, Option.toList_some, Option.toList_none, List.cons_append, List.nil_append, List.length_cons, List.length_nil, Nat.reduceLeDiff, Nat.reduceAdd, Nat.zero_le, Nat.zero_add, and_true, true_and, zb_1, eq_self]
  unfold zen
  by_cases g : y = 0 <;> simp [g]
theorem s_X5_bend {m g : Nat} {y : Int32} (hm : m < 30) (hg : g < 256) : zE (d + 2) 51 [.ref 1, .int (nI g), .int (nI m), .int y] I L none (fun J L' => L' = L ∧ zF1 44 I J ∧ ∀ h, h < 8 → J 44 h = zbn (I (4 + m)) g y h) := by
  refine zE_of zm_X5_bend rfl ?_
  show az_W _ _ _ 0 [.ref 1, .int (nI g), .int (nI m), .int y, .null, .null, .null] [] _
  simp only [u_X5_bend_0, u_X5_bend_1, az_un_i, az_un_r, az_un_n, az_un_l, Option.toList_some, Option.toList_none, List.cons_append, List.nil_append, List.length_cons, List.length_nil, Nat.reduceLeDiff, Nat.reduceAdd, Nat.zero_le, Nat.zero_add, and_true, true_and, zb_1, eq_self]
  refine zloop (P := fun k => ∀ J v5 v6, zF1 44 I J → (∀ h, h < k → J 44 h = zbn (I (4 + m)) g y h) → az_W (zD (d + 1)) _ _ 3 [.ref 1, .int (nI g), .int (nI m), .int y, .int (nI k), v5, v6] [] (130, az_Pf, J, L)) 8 (fun k hk ih J v5 v6 f e1 => ?_) (fun J v5 v6 f e1 => ?_) 0 (Nat.zero_le _) _ _ _ zF1.rf (fun i hi => absurd hi (Nat.not_lt_zero _))
  · have h1 : ¬ (8 : Int32) ≤ nI k := nI_ge (b := 8) hk (by decide)
    have hh := s_X4_heard (d := d) (I := J) (L := L) hk hm
    rw [f (4 + m) (by omega)] at hh
    simp only [u_X5_bend_3]
    simp only [u_X5_bend_5, u_X5_bend_7, u_X5_bend_10, u_X5_bend_11, u_X5_bend_14, u_X5_bend_16, u_X5_bend_17, u_X5_bend_20, u_X5_bend_22, u_X5_bend_24, u_X5_bend_25, u_X5_bend_28, u_X5_bend_29, u_X5_bend_31, u_X5_bend_32, u_X5_bend_33, u_X5_bend_34, u_X5_bend_35, u_X5_bend_38, u_X5_bend_39, u_X5_bend_42, u_X5_bend_43, u_X5_bend_45, u_X5_bend_46, u_X5_bend_49, u_X5_bend_51, u_X5_bend_53, u_X5_bend_56, u_X5_bend_57, u_X5_bend_60, u_X5_bend_63, u_X5_bend_65, u_X5_bend_66, u_X5_bend_69, u_X5_bend_72, az_un_i, az_un_r, az_un_n, az_un_l, Option.toList_some, Option.toList_none, List.cons_append, List.nil_append, List.length_cons, List.length_nil, Nat.reduceLeDiff, Nat.reduceAdd, Nat.zero_le, Nat.zero_add, and_true, true_and, zb_1, eq_self, h1, if_false, az_call hh, zbit (show g < 2 ^ 31 by omega) (show k < 32 by omega), az_call s_X5_endOf, kx_44, zinT hk (by decide), zcl hk (by decide)]
    rw [nI_succ] at ih
    have ih := fun v5 v6 => ih (az_uI J 44 k (zbn (I (4 + m)) g y k)) v5 v6 f.up (fun h hh => by
      rw [az_uI_at]
      by_cases c : h = k
      · rw [if_pos ⟨rfl, c⟩, c]
      · rw [if_neg (by omega)]; exact e1 h (by omega))
    unfold zbn at ih
    by_cases g1 : I (4 + m) k = -1
    · simp [g1] at ih ⊢; exact ih _ _
    · by_cases g2 : g.testBit k = true
      · simp [g1, g2] at ih ⊢; exact ih _ _
      · simp [g1, g2] at ih ⊢; exact ih _ _
  · have h1 : (8 : Int32) ≤ nI 8 := by decide
    simp only [u_X5_bend_3]
    simp only [u_X5_bend_5, u_X5_bend_7, u_X5_bend_10, u_X5_bend_11, u_X5_bend_14, u_X5_bend_16, u_X5_bend_17, u_X5_bend_20, u_X5_bend_22, u_X5_bend_24, u_X5_bend_25, u_X5_bend_28, u_X5_bend_29, u_X5_bend_31, u_X5_bend_32, u_X5_bend_33, u_X5_bend_34, u_X5_bend_35, u_X5_bend_38, u_X5_bend_39, u_X5_bend_42, u_X5_bend_43, u_X5_bend_45, u_X5_bend_46, u_X5_bend_49, u_X5_bend_51, u_X5_bend_53, u_X5_bend_56, u_X5_bend_57, u_X5_bend_60, u_X5_bend_63, u_X5_bend_65, u_X5_bend_66, u_X5_bend_69, u_X5_bend_72, az_un_i, az_un_r, az_un_n, az_un_l, Option.toList_some, Option.toList_none, List.cons_append, List.nil_append, List.length_cons, List.length_nil, Nat.reduceLeDiff, Nat.reduceAdd, Nat.zero_le, Nat.zero_add, and_true, true_and, zb_1, eq_self, h1, if_true, zR_at]
    exact ⟨f, e1⟩
theorem s_X5_findReach {q m c l f t e nl nr n cc w : Nat} {y : Int32} (hG : zG I t e nl nr n cc w) (hq : q < 8) (hm : m < 30) (hf : az_kn 130 f = (0, 2)) (hc : c ≤ 3) (hl : l ≤ 8) (ec : zrl I (nI m) 0 e = nI c) (el : zrl I (nI m) 1 e = nI l) : zE (d + 5) 46 [.ref 1, .int (nI q), .int (nI m), .int y, .ref f] I L (some (.int (zb (zok (zre (I (4 + m)) q y) c l = true)))) (fun J L' => zFr I J ∧ L' = if zok (zre (I (4 + m)) q y) c l then zLs L f (zS (zre (I (4 + m)) q y) c) (zK (zre (I (4 + m)) q y) - 2 * c) else L) := by
  refine zE_of zm_X5_findReach rfl ?_
  show az_W _ _ _ 0 [.ref 1, .int (nI q), .int (nI m), .int y, .ref f] [] _
  obtain ⟨J1, L1, h1, q0, f1, e1⟩ := s_X5_bend (d := d + 2) (I := I) (L := L) (m := m) (g := 0) (y := y) hm (by decide)
  subst q0
  have fr1 : zFr I (az_uI J1 44 q (zen y)) := (f1.fr zscr44).up rfl
  have hG1 := hG.fr fr1
  have f2 : zF1 44 I (az_uI J1 44 q (zen y)) := f1.up
  have er : ∀ k, zrl (az_uI J1 44 q (zen y)) (nI m) k e = zrl I (nI m) k e := fun k => zrl_fr (f2 37 (by decide)) (fun k hk => f2 (39 + k) (by omega)) e hG.2.2.2.1.2.2.2.2.2.1
  have ev : ∀ h, h < 8 → zre (I (4 + m)) q y h = az_uI J1 44 q (zen y) 44 h := fun h hh => by
    rw [az_uI_at]
    unfold zre
    by_cases c : h = q
    · rw [if_pos c, if_pos ⟨rfl, c⟩]
    · rw [if_neg c, if_neg (by omega), e1 h hh]
      unfold zbn; rw [if_neg (by rw [Nat.zero_testBit]; simp)]
  obtain ⟨J2, L2, h2, p1, p2, p3, p4⟩ := s_X5_findOf (d := d) (I := az_uI J1 44 q (zen y)) (L := L1) (r := 44) (f := f) (m := m) hG1.2.2.2.1 kx_44 (by decide) (by decide) hf (zVr_c ev (zVr_re (hG.vr hm))) hc hl ((er 0).trans ec) ((er 1).trans el)
  rw [← zok_c ev] at h2
  rw [← zok_c ev, ← zS_c ev, ← zK_c ev] at p4
  simp only [u_X5_findReach_0, u_X5_findReach_1, u_X5_findReach_2, u_X5_findReach_3, u_X5_findReach_4, u_X5_findReach_7, u_X5_findReach_8, u_X5_findReach_11, u_X5_findReach_12, u_X5_findReach_13, u_X5_findReach_16, u_X5_findReach_17, u_X5_findReach_18, u_X5_findReach_19, u_X5_findReach_22, u_X5_findReach_23, u_X5_findReach_25, u_X5_findReach_28, az_un_i, az_un_r, az_un_n, az_un_l, Option.toList_some, Option.toList_none, List.cons_append, List.nil_append, List.length_cons, List.length_nil, Nat.reduceLeDiff, Nat.reduceAdd, Nat.zero_le, Nat.zero_add, and_true, true_and, zb_1, eq_self, az_call (show zD (d + 4) 51 [.ref 1, .int 0, .int (nI m), .int y] _ _ _ from h1), az_call s_X5_endOf, kx_44, hf, zinT hq (by decide), zcl hq (by decide), az_call h2, zR_at]
  exact ⟨fr1.tr p1.fr, p4⟩
theorem s_X10_reach_bad {x y z u : Int32} (hb : ¬ ((0 ≤ x.toInt ∧ x.toInt ≤ 7) ∧ (0 ≤ y.toInt ∧ y.toInt ≤ 29) ∧ (0 ≤ z.toInt ∧ z.toInt ≤ 1) ∧ (0 ≤ u.toInt ∧ u.toInt ≤ 1))) : zD (d + 6) 98 [.ref 0, .int x, .int y, .int z, .int u] (130, az_Pf, I, L) (some (.long (-1099511627777))) (130, az_Pf, I, L) := by
  refine zD_of zm_X10_reach rfl ?_
  show az_W _ _ _ 0 [.ref 0, .int x, .int y, .int z, .int u] [] _
  simp only [u_X10_reach_0, u_X10_reach_1, u_X10_reach_4, u_X10_reach_7, u_X10_reach_8, u_X10_reach_11, u_X10_reach_14, u_X10_reach_15, u_X10_reach_18, u_X10_reach_21, u_X10_reach_23, u_X10_reach_26, u_X10_reach_29, u_X10_reach_32, u_X10_reach_33, u_X10_reach_34, u_X10_reach_37, u_X10_reach_38, u_X10_reach_39, u_X10_reach_40, u_X10_reach_41, u_X10_reach_44, u_X10_reach_47, u_X10_reach_50, u_X10_reach_51, u_X10_reach_54, u_X10_reach_56, u_X10_reach_59, u_X10_reach_62, u_X10_reach_65, az_un_i, az_un_r, az_un_n, az_un_l, Option.toList_some, Option.toList_none, List.cons_append, List.nil_append, List.length_cons, List.length_nil, Nat.reduceLeDiff, Nat.reduceAdd, Nat.zero_le, Nat.zero_add, and_true, true_and, zb_1, eq_self, zb_0, az_call s_X10_isHouse, az_call s_X10_isMorning, az_call s_X10_isBit]
  by_cases h1 : 0 ≤ x.toInt ∧ x.toInt ≤ 7 <;> by_cases h2 : 0 ≤ y.toInt ∧ y.toInt ≤ 29 <;> by_cases h3 : 0 ≤ z.toInt ∧ z.toInt ≤ 1 <;> by_cases h4 : 0 ≤ u.toInt ∧ u.toInt ≤ 1 <;> simp only [h1, h2, h3, h4, and_self, and_true, true_and, if_true, if_false, not_true, not_false_iff, not_true_eq_false, not_false_eq_true, ite_true, ite_false]
  exact absurd ⟨h1, h2, h3, h4⟩ hb
theorem s_X11_reach_bad {x y z u : Int32} (hb : ¬ ((0 ≤ x.toInt ∧ x.toInt ≤ 7) ∧ (0 ≤ y.toInt ∧ y.toInt ≤ 29) ∧ (0 ≤ z.toInt ∧ z.toInt ≤ 1) ∧ (0 ≤ u.toInt ∧ u.toInt ≤ 1))) : zD (d + 6) 161 [.ref 97, .int x, .int y, .int z, .int u] (130, az_Pf, I, L) (some (.long (-1099511627777))) (130, az_Pf, I, L) := by
  refine zD_of zm_X11_reach rfl ?_
  show az_W _ _ _ 0 [.ref 97, .int x, .int y, .int z, .int u] [] _
  simp only [u_X11_reach_0, u_X11_reach_1, u_X11_reach_4, u_X11_reach_7, u_X11_reach_8, u_X11_reach_11, u_X11_reach_14, u_X11_reach_15, u_X11_reach_16, u_X11_reach_17, u_X11_reach_18, u_X11_reach_21, u_X11_reach_24, u_X11_reach_26, u_X11_reach_29, u_X11_reach_32, u_X11_reach_35, u_X11_reach_36, u_X11_reach_37, u_X11_reach_38, u_X11_reach_41, u_X11_reach_42, u_X11_reach_45, u_X11_reach_46, u_X11_reach_47, u_X11_reach_50, u_X11_reach_51, u_X11_reach_54, u_X11_reach_57, u_X11_reach_58, u_X11_reach_59, u_X11_reach_60, u_X11_reach_63, u_X11_reach_66, u_X11_reach_67, u_X11_reach_70, u_X11_reach_71, u_X11_reach_72, u_X11_reach_75, u_X11_reach_76, u_X11_reach_78, u_X11_reach_81, u_X11_reach_84, u_X11_reach_87, az_un_i, az_un_r, az_un_n, az_un_l, Option.toList_some, Option.toList_none, List.cons_append, List.nil_append, List.length_cons, List.length_nil, Nat.reduceLeDiff, Nat.reduceAdd, Nat.zero_le, Nat.zero_add, and_true, true_and, zb_1, eq_self, zb_0, az_call s_X11_isHouse, az_call s_X11_isMorning, az_call s_X11_isWhat, az_call s_X11_in, z64, zl_0, zj_0, zl_1, zj_1, zl_2, zj_2, zl_3, zj_3, zl_4, zj_4, zl_5, zj_5, zl_6, zj_6, zl_7, zj_7, zl_8, zj_8, zl_9, zj_9, zl_10, zj_10, zl_11, zj_11, zl_12, zj_12, zl_15, zj_15, zl_16, zj_16, zl_20, zj_20, zl_24, zj_24, zl_29, zj_29, zl_30, zj_30, zl_31, zj_31, zl_32, zj_32, zl_40, zj_40, zl_48, zj_48, zl_57, zj_57, zl_59, zj_59, zl_60, zj_60, zl_63, zj_63, zl_99, zj_99, zl_100, zj_100, zl_126, zj_126, zl_144, zj_144, zl_200, zj_200, zl_240, zj_240, zl_255, zj_255, zl_256, zj_256, zl_999, zj_999, zl_1000, zj_1000, zlm_1, zjm_1, zlm_2, zjm_2, zlm_3, zjm_3, zlm_4, zjm_4, zlm_11, zjm_11, zlm_12, zjm_12, zlm_13, zjm_13, zlm_14, zjm_14, zlm_20, zjm_20, zlm_10001, zjm_10001, zlm_10002, zjm_10002]
  by_cases h1 : 0 ≤ x.toInt ∧ x.toInt ≤ 7 <;> by_cases h2 : 0 ≤ y.toInt ∧ y.toInt ≤ 29 <;> by_cases h3 : 0 ≤ z.toInt ∧ z.toInt ≤ 1 <;> by_cases h4 : 0 ≤ u.toInt ∧ u.toInt ≤ 1 <;> simp only [h1, h2, h3, h4, and_self, and_true, true_and, if_true, if_false, not_true, not_false_iff, not_true_eq_false, not_false_eq_true, ite_true, ite_false]
  exact absurd ⟨h1, h2, h3, h4⟩ hb
theorem s_X10_reach {q m c l t e nl nr n cc w : Nat} {y x : Int32} (hG : zG I t e nl nr n cc w) (hq : q < 8) (hm : m < 30) (hy : 0 ≤ y.toInt ∧ y.toInt ≤ 1) (hx : 0 ≤ x.toInt ∧ x.toInt ≤ 1) (hc : c ≤ 3) (hl : l ≤ 8) (ec : zrl I (nI m) 0 e = nI c) (el : zrl I (nI m) 1 e = nI l) : zE (d + 6) 98 [.ref 0, .int (nI q), .int (nI m), .int y, .int x] I L (some (.long (zAr (zre (I (4 + m)) q y) c l x))) (fun J _ => zFr I J) := by
  refine zE_of zm_X10_reach rfl ?_
  show az_W _ _ _ 0 [.ref 0, .int (nI q), .int (nI m), .int y, .int x] [] _
  obtain ⟨J, L', hk, q1, q4⟩ := s_X5_findReach (d := d) (L := L) (f := 94) (y := y) hG hq hm kx_94 hc hl ec el
  simp only [u_X10_reach_0, u_X10_reach_1, u_X10_reach_4, u_X10_reach_7, u_X10_reach_8, u_X10_reach_11, u_X10_reach_14, u_X10_reach_15, u_X10_reach_18, u_X10_reach_21, u_X10_reach_23, u_X10_reach_26, u_X10_reach_29, u_X10_reach_32, u_X10_reach_33, u_X10_reach_34, u_X10_reach_37, u_X10_reach_38, u_X10_reach_39, u_X10_reach_40, u_X10_reach_41, u_X10_reach_44, u_X10_reach_47, u_X10_reach_50, u_X10_reach_51, u_X10_reach_54, u_X10_reach_56, u_X10_reach_59, u_X10_reach_62, u_X10_reach_65, az_un_i, az_un_r, az_un_n, az_un_l, Option.toList_some, Option.toList_none, List.cons_append, List.nil_append, List.length_cons, List.length_nil, Nat.reduceLeDiff, Nat.reduceAdd, Nat.zero_le, Nat.zero_add, and_true, true_and, zb_1, eq_self, az_call s_X10_isHouse, az_call s_X10_isMorning, az_call s_X10_isBit, zb_0, (eq_true (by rw [nI_toInt (by omega)]; omega) : (0 ≤ (nI q).toInt ∧ (nI q).toInt ≤ 7) = True), (eq_true (by rw [nI_toInt (by omega)]; omega) : (0 ≤ (nI m).toInt ∧ (nI m).toInt ≤ 29) = True), eq_true hy, eq_true hx, and_self, and_true, true_and, if_true, if_false, not_true, not_false_iff, not_true_eq_false, not_false_eq_true, ite_true, ite_false, az_call hk, kx_94, az_call (s_X2_part kx_94), zR_at]
  unfold zAr
  cases hz : zok (zre (I (4 + m)) q y) c l
  · simp [q1]
  · rw [hz] at q4
    simp only [if_true] at q4
    rw [q4]
    simp only [not_true, not_true_eq_false, if_false, if_true, zLs_p]
    exact ⟨trivial, q1⟩
theorem s_X11_reach {q m c l t e nl nr n cc w : Nat} {y x : Int32} (hG : zG I t e nl nr n cc w) (hq : q < 8) (hm : m < 30) (hy : 0 ≤ y.toInt ∧ y.toInt ≤ 1) (hx : 0 ≤ x.toInt ∧ x.toInt ≤ 1) (hc : c ≤ 3) (hl : l ≤ 8) (ec : zrl I (nI m) 0 e = nI c) (el : zrl I (nI m) 1 e = nI l) : zE (d + 6) 161 [.ref 97, .int (nI q), .int (nI m), .int y, .int x] I L (some (.long (zAr (zre (I (4 + m)) q y) c l x))) (fun J _ => zFr I J) := by
  refine zE_of zm_X11_reach rfl ?_
  show az_W _ _ _ 0 [.ref 97, .int (nI q), .int (nI m), .int y, .int x] [] _
  obtain ⟨J0, L1, h1, q0, f0, e1⟩ := s_X11_layMorning (d := d + 4) (I := I) (L := L) hm
  subst q0
  obtain ⟨J1, ej⟩ : ∃ J1, J1 = az_uI J0 106 q (zen y) := ⟨_, rfl⟩
  have f1 : zF1 106 I J1 := by rw [ej]; exact f0.up
  have fr1 := f1.fr zscr106
  have hG1 := hG.fr fr1
  have ev : ∀ h, h < 8 → zre (I (4 + m)) q y h = J1 106 h := fun h hh => by
    rw [ej, az_uI_at]
    unfold zre
    by_cases c : h = q
    · rw [if_pos c, if_pos ⟨rfl, c⟩]
    · rw [if_neg c, if_neg (by omega), e1 h hh]; exact (hG.1 m hm h hh).1
  have er : ∀ k, zrl J1 (nI m) k e = zrl I (nI m) k e := fun k => zrl_fr (f1 37 (by decide)) (fun k hk => f1 (39 + k) (by omega)) e hG.2.2.2.1.2.2.2.2.2.1
  have hv := zVr_c ev (zVr_re (hG.vr hm))
  obtain ⟨J2, L2, h2, q0, f2, e2, e3, e4, e5⟩ := s_X11_findRateOn (d := d + 3) (I := J1) (L := L1) (m := m) hG1.2.2.2.1 hG1.2.1 hv hc hl ((er 0).trans ec) ((er 1).trans el)
  subst q0
  have tl : az_W (zD (d + 5)) (zR (some (.long (zAr (zre (I (4 + m)) q y) c l x))) (fun J _ => zFr I J)) k_X11_reach 57 [.ref 97, .int (nI q), .int (nI m), .int y, .int x] [.int (zen y), .int (nI q), .ref 106] (130, az_Pf, J0, L2) := by
    rw [ej] at h2
    simp only [u_X11_reach_57, u_X11_reach_58, u_X11_reach_59, u_X11_reach_60, u_X11_reach_63, u_X11_reach_66, u_X11_reach_67, u_X11_reach_70, u_X11_reach_71, u_X11_reach_72, u_X11_reach_75, u_X11_reach_76, u_X11_reach_78, u_X11_reach_81, u_X11_reach_84, u_X11_reach_87, az_un_i, az_un_r, az_un_n, az_un_l, Option.toList_some, Option.toList_none, List.cons_append, List.nil_append, List.length_cons, List.length_nil, Nat.reduceLeDiff, Nat.reduceAdd, Nat.zero_le, Nat.zero_add, and_true, true_and, zb_1, eq_self, kx_106, zinT hq (by decide), zcl hq (by decide), az_call h2, zb_0, e4, e5]
    rw [← ej, zAr_c ev]
    unfold zAr
    cases hz : zok (J1 106) c l
    · simp only [Bool.false_eq_true, if_false, not_false_eq_true, if_true, zR_at]
      exact ⟨trivial, fr1.tr f2.fr⟩
    · have hz' := zok_i.mp hz
      have b := zS_b hv c
      have hK := zK_le (v := J1 106)
      have ht := s_X11_told (d := d + 3) (h := (130, az_Pf, J2, L2)) (B := zK (J1 106) - 2 * c) (a := (nI (zS (J1 106) c)).toInt64) (b := (nI (zK (J1 106) - 2 * c)).toInt64) (A := (zS (J1 106) c : Int)) (x := x) (by rw [z64, nI_toInt (by omega)]) (zil (by omega)) (by omega) (by omega) (by omega) (by omega)
      simp only [if_true, pk_sub (show 2 * c ≤ zK (J1 106) by omega), az_call ht, not_true, not_true_eq_false, if_false, zR_at, u_X11_reach_81, u_X11_reach_84, u_X11_reach_87, az_un_i, az_un_r, az_un_n, az_un_l, Option.toList_some, Option.toList_none, List.cons_append, List.nil_append, List.length_cons, List.length_nil, Nat.reduceLeDiff, Nat.reduceAdd, Nat.zero_le, Nat.zero_add, and_true, true_and, zb_1, eq_self]
      exact fr1.tr f2.fr
  simp only [u_X11_reach_0, u_X11_reach_1, u_X11_reach_4, u_X11_reach_7, u_X11_reach_8, u_X11_reach_11, u_X11_reach_14, u_X11_reach_15, u_X11_reach_16, u_X11_reach_17, u_X11_reach_18, u_X11_reach_21, u_X11_reach_24, u_X11_reach_26, u_X11_reach_29, u_X11_reach_32, u_X11_reach_35, u_X11_reach_36, u_X11_reach_37, u_X11_reach_38, u_X11_reach_41, u_X11_reach_42, u_X11_reach_45, u_X11_reach_46, u_X11_reach_47, u_X11_reach_50, u_X11_reach_51, u_X11_reach_54, az_un_i, az_un_r, az_un_n, az_un_l, Option.toList_some, Option.toList_none, List.cons_append, List.nil_append, List.length_cons, List.length_nil, Nat.reduceLeDiff, Nat.reduceAdd, Nat.zero_le, Nat.zero_add, and_true, true_and, zb_1, eq_self, az_call s_X11_isHouse, az_call s_X11_isMorning, az_call s_X11_isWhat, az_call s_X11_in, z64, zl_0, zj_0, zl_1, zj_1, zl_2, zj_2, zl_3, zj_3, zl_4, zj_4, zl_5, zj_5, zl_6, zj_6, zl_7, zj_7, zl_8, zj_8, zl_9, zj_9, zl_10, zj_10, zl_11, zj_11, zl_12, zj_12, zl_15, zj_15, zl_16, zj_16, zl_20, zj_20, zl_24, zj_24, zl_29, zj_29, zl_30, zj_30, zl_31, zj_31, zl_32, zj_32, zl_40, zj_40, zl_48, zj_48, zl_57, zj_57, zl_59, zj_59, zl_60, zj_60, zl_63, zj_63, zl_99, zj_99, zl_100, zj_100, zl_126, zj_126, zl_144, zj_144, zl_200, zj_200, zl_240, zj_240, zl_255, zj_255, zl_256, zj_256, zl_999, zj_999, zl_1000, zj_1000, zlm_1, zjm_1, zlm_2, zjm_2, zlm_3, zjm_3, zlm_4, zjm_4, zlm_11, zjm_11, zlm_12, zjm_12, zlm_13, zjm_13, zlm_14, zjm_14, zlm_20, zjm_20, zlm_10001, zjm_10001, zlm_10002, zjm_10002, zb_0, (eq_true (by rw [nI_toInt (by omega)]; omega) : (0 ≤ (nI q).toInt ∧ (nI q).toInt ≤ 7) = True), (eq_true (by rw [nI_toInt (by omega)]; omega) : (0 ≤ (nI m).toInt ∧ (nI m).toInt ≤ 29) = True), eq_true hx, eq_true hy, and_self, and_true, true_and, if_true, if_false, not_true, not_false_iff, not_true_eq_false, not_false_eq_true, ite_true, ite_false, az_call h1]
  by_cases gy : y = 0
  · rw [show zen y = 0 from if_pos gy] at tl
    rw [if_pos gy]; exact tl
  · rw [show zen y = 999 from if_neg gy] at tl
    rw [if_neg gy]; exact tl
end S
theorem op_reach (x y z u : Int32) : zOpL 98 161 [.int x, .int y, .int z, .int u] := by
  refine zOpL_of (fun I L hI => ?_)
  obtain ⟨t, e, nl, nr, n, cc, w, hG⟩ := zInv_G hI
  by_cases hb : (0 ≤ x.toInt ∧ x.toInt ≤ 7) ∧ (0 ≤ y.toInt ∧ y.toInt ≤ 29) ∧ (0 ≤ z.toInt ∧ z.toInt ≤ 1) ∧ (0 ≤ u.toInt ∧ u.toInt ≤ 1)
  · obtain ⟨h0, h1, h2, h3⟩ := hb
    obtain ⟨q, hq, rfl⟩ := znat h0.1 (n := 7) h0.2 (by decide)
    obtain ⟨m, hm, rfl⟩ := znat h1.1 (n := 29) h1.2 (by decide)
    obtain ⟨c, l, s, hc, -, hl, -, ec, el, -⟩ := zrl_rg hG.2.2.2.1 (nI m) e (Nat.le_refl _)
    refine ⟨_, s_X10_reach (d := 3) hG (by omega) (by omega) h2 h3 hc hl ec el, fun J M f => ?_⟩
    have er : ∀ k, zrl J (nI m) k e = zrl I (nI m) k e := fun k => zrl_fr (f.rw 37 (by omega)) (fun k hk => f.rw (39 + k) (by omega)) e hG.2.2.2.1.2.2.2.2.2.1
    rw [← f.rw (4 + m) (by omega)]
    exact s_X11_reach (d := 3) (hG.fr f) (by omega) (by omega) h2 h3 hc hl ((er 0).trans ec) ((er 1).trans el)
  · exact ⟨_, zE_D (s_X10_reach_bad (d := 3) hb) zFr.rf, fun J M f => zE_D (s_X11_reach_bad (d := 3) hb) zFr.rf⟩
/-! ===== thrown ===== -/
theorem zins_at {O : Nat → Nat} {p x : Nat} : zins O p x p = x := by unfold zins; rw [if_neg (Nat.lt_irrefl _), if_pos rfl]
theorem zins_lt {O : Nat → Nat} {p x i : Nat} (h : i < p) : zins O p x i = O i := by unfold zins; rw [if_pos h]
theorem zins_gt {O : Nat → Nat} {p x i : Nat} (h : p < i) : zins O p x i = O (i - 1) := by unfold zins; rw [if_neg (by omega), if_neg (by omega)]
theorem zso_inj {v : Nat → Int32} : ∀ h i j, i < (zso v h).1 → j < (zso v h).1 → (zso v h).2 i = (zso v h).2 j → i = j
  | 0, i, _, hi, _, _ => absurd hi (Nat.not_lt_zero _)
  | h + 1, i, j, hi, hj, e => by
    have ih := zso_inj (v := v) h
    have im := zso_m (v := v) h
    rw [zso] at hi hj e
    by_cases g : v h = -1
    · rw [if_pos g] at hi hj e
      exact ih i j hi hj e
    · rw [if_neg g] at hi hj e
      have hi : i < (zso v h).1 + 1 := hi
      have hj : j < (zso v h).1 + 1 := hj
      have e : zins _ _ _ i = zins _ _ _ j := e
      have hp := zpos_le (v := v) (O := (zso v h).2) (x := h) (zso v h).1
      generalize zpos v (zso v h).2 h (zso v h).1 = p at e hp
      rcases Nat.lt_trichotomy i p with c1 | c1 | c1 <;> rcases Nat.lt_trichotomy j p with c2 | c2 | c2
      · rw [zins_lt c1, zins_lt c2] at e; exact ih i j (by omega) (by omega) e
      · rw [zins_lt c1, c2, zins_at] at e; have := (im i (by omega)).1; omega
      · rw [zins_lt c1, zins_gt c2] at e; have := ih i (j - 1) (by omega) (by omega) e; omega
      · rw [c1, zins_at, zins_lt c2] at e; have := (im j (by omega)).1; omega
      · omega
      · rw [c1, zins_at, zins_gt c2] at e; have := (im (j - 1) (by omega)).1; omega
      · rw [zins_gt c1, zins_lt c2] at e; have := ih (i - 1) j (by omega) (by omega) e; omega
      · rw [zins_gt c1, c2, zins_at] at e; have := (im (i - 1) (by omega)).1; omega
      · rw [zins_gt c1, zins_gt c2] at e; have := ih (i - 1) (j - 1) (by omega) (by omega) e; omega
theorem zso_sur {v : Nat → Int32} : ∀ h x, x < h → v x ≠ -1 → ∃ i, i < (zso v h).1 ∧ (zso v h).2 i = x
  | 0, x, hx, _ => absurd hx (Nat.not_lt_zero _)
  | h + 1, x, hx, hn => by
    have ih := zso_sur (v := v) h x
    rw [zso]
    by_cases g : v h = -1
    · rw [if_pos g]
      by_cases c : x = h
      · rw [c] at hn; exact absurd g hn
      · exact ih (by omega) hn
    · rw [if_neg g]
      show ∃ i, i < (zso v h).1 + 1 ∧ zins _ _ _ i = x
      have hp := zpos_le (v := v) (O := (zso v h).2) (x := h) (zso v h).1
      generalize zpos v (zso v h).2 h (zso v h).1 = p at hp ⊢
      by_cases c : x = h
      · exact ⟨p, by omega, by rw [zins_at, c]⟩
      · obtain ⟨i, hi, ei⟩ := ih (by omega) hn
        by_cases c1 : i < p
        · exact ⟨i, by omega, by rw [zins_lt c1, ei]⟩
        · exact ⟨i + 1, by omega, by rw [zins_gt (by omega)]; exact ei⟩
theorem zO_inj {v : Nat → Int32} {i j : Nat} (hi : i < zK v) (hj : j < zK v) (e : zO v i = zO v j) : i = j := zso_inj 8 i j hi hj e
theorem zO_sur {v : Nat → Int32} {x : Nat} (hx : x < 8) (hn : v x ≠ -1) : ∃ i, i < zK v ∧ zO v i = x := zso_sur 8 x hx hn
section S
variable {d : Nat} {I : Nat → Nat → Int32} {L : Nat → Nat → Int64} {h : az_H}
theorem s_X4_sideOf {p c : Nat} {v : Nat → Int32} (h2 : I 2 2 = nI (zK v)) (h3 : zSt (I 34) (zK v) (zO v)) (hp : p < zK v) (hc : 2 * c < zK v) : zD (d + 1) 41 [.ref 2, .int (nI (zO v p)), .int (nI c)] (130, az_Pf, I, L) (some (.int (if p < c then -1 else if zK v - c ≤ p then 1 else 0))) (130, az_Pf, I, L) := by
  refine zD_of zm_X4_sideOf rfl ?_
  show az_W _ _ _ 0 [.ref 2, .int (nI (zO v p)), .int (nI c), .null] [] _
  have hK := zK_le (v := v)
  simp only [u_X4_sideOf_0, u_X4_sideOf_1, az_un_i, az_un_r, az_un_n, az_un_l, Option.toList_some, Option.toList_none, List.cons_append, List.nil_append, List.length_cons, List.length_nil, Nat.reduceLeDiff, Nat.reduceAdd, Nat.zero_le, Nat.zero_add, and_true, true_and, zb_1, eq_self]
  refine zloop (P := fun i => i ≤ p → p < zK v - i → az_W (zD d) _ _ 2 [.ref 2, .int (nI (zO v p)), .int (nI c), .int (nI i)] [] (130, az_Pf, I, L)) c (fun i hi ih c1 c2 => ?_) (fun c1 c2 => ?_) 0 (Nat.zero_le _) (Nat.zero_le _) (by omega)
  · have h1 : ¬ nI c ≤ nI i := nI_ge hi (by omega)
    have h4 : ¬ nI (zK v) ≤ nI i := nI_ge (by omega) (by omega)
    have e3 : nI (zK v) - 1 - nI i = nI (zK v - 1 - i) := by
      rw [show (1 : Int32) = nI 1 from rfl, pk_sub (by omega), pk_sub (by omega)]
    have o1 := zO_lt (v := v) (i := i) (by omega)
    have o2 := zO_lt (v := v) (i := zK v - 1 - i) (by omega)
    have o3 := zO_lt hp
    simp only [u_X4_sideOf_2]
    simp only [u_X4_sideOf_3, u_X4_sideOf_4, u_X4_sideOf_7, u_X4_sideOf_8, u_X4_sideOf_9, u_X4_sideOf_12, u_X4_sideOf_15, u_X4_sideOf_16, u_X4_sideOf_19, u_X4_sideOf_20, u_X4_sideOf_21, u_X4_sideOf_22, u_X4_sideOf_25, u_X4_sideOf_26, u_X4_sideOf_27, u_X4_sideOf_28, u_X4_sideOf_31, u_X4_sideOf_32, u_X4_sideOf_35, u_X4_sideOf_36, u_X4_sideOf_37, u_X4_sideOf_38, u_X4_sideOf_39, u_X4_sideOf_40, u_X4_sideOf_41, u_X4_sideOf_44, u_X4_sideOf_45, u_X4_sideOf_46, u_X4_sideOf_49, u_X4_sideOf_52, u_X4_sideOf_53, az_un_i, az_un_r, az_un_n, az_un_l, Option.toList_some, Option.toList_none, List.cons_append, List.nil_append, List.length_cons, List.length_nil, Nat.reduceLeDiff, Nat.reduceAdd, Nat.zero_le, Nat.zero_add, and_true, true_and, zb_1, eq_self, h1, h2, h4, if_false, kx_34, zinT (show i < 8 by omega) (by decide), zcl (show i < 8 by omega) (by decide), h3 i (by omega), e3, zinT (show zK v - 1 - i < 8 by omega) (by decide), zcl (show zK v - 1 - i < 8 by omega) (by decide), h3 (zK v - 1 - i) (by omega), nI_eq (show zO v i < 2 ^ 31 by omega) (show zO v p < 2 ^ 31 by omega), nI_eq (show zO v (zK v - 1 - i) < 2 ^ 31 by omega) (show zO v p < 2 ^ 31 by omega)]
    by_cases g1 : zO v i = zO v p
    · have := zO_inj (by omega) hp g1
      rw [if_pos g1, if_pos (show p < c by omega)]
    · have n1 : i ≠ p := fun e => g1 (by rw [e])
      rw [if_neg g1]
      by_cases g2 : zO v (zK v - 1 - i) = zO v p
      · have := zO_inj (by omega) hp g2
        rw [if_pos g2, if_neg (show ¬ p < c by omega), if_pos (show zK v - c ≤ p by omega)]
      · have n2 : zK v - 1 - i ≠ p := fun e => g2 (by rw [e])
        rw [if_neg g2]
        rw [nI_succ] at ih
        exact ih (by omega) (by omega)
  · have h1 : nI c ≤ nI c := nI_le (Nat.le_refl _) (by omega)
    simp only [u_X4_sideOf_2]
    simp only [u_X4_sideOf_3, u_X4_sideOf_4, u_X4_sideOf_7, u_X4_sideOf_8, u_X4_sideOf_9, u_X4_sideOf_12, u_X4_sideOf_15, u_X4_sideOf_16, u_X4_sideOf_19, u_X4_sideOf_20, u_X4_sideOf_21, u_X4_sideOf_22, u_X4_sideOf_25, u_X4_sideOf_26, u_X4_sideOf_27, u_X4_sideOf_28, u_X4_sideOf_31, u_X4_sideOf_32, u_X4_sideOf_35, u_X4_sideOf_36, u_X4_sideOf_37, u_X4_sideOf_38, u_X4_sideOf_39, u_X4_sideOf_40, u_X4_sideOf_41, u_X4_sideOf_44, u_X4_sideOf_45, u_X4_sideOf_46, u_X4_sideOf_49, u_X4_sideOf_52, u_X4_sideOf_53, az_un_i, az_un_r, az_un_n, az_un_l, Option.toList_some, Option.toList_none, List.cons_append, List.nil_append, List.length_cons, List.length_nil, Nat.reduceLeDiff, Nat.reduceAdd, Nat.zero_le, Nat.zero_add, and_true, true_and, zb_1, eq_self, h1, if_true]
    rw [if_neg (show ¬ p < c by omega), if_neg (show ¬ zK v - c ≤ p by omega)]
/-- the answer of thrown -/
def zAt (v : Nat → Int32) (c l p : Nat) : Int32 := if zok v c l then (if p < c then -1 else if zK v - c ≤ p then 1 else 0) else -14
theorem s_X10_thrown_bad {x y : Int32} (hb : ¬ ((0 ≤ x.toInt ∧ x.toInt ≤ 7) ∧ (0 ≤ y.toInt ∧ y.toInt ≤ 29))) : zD (d + 6) 97 [.ref 0, .int x, .int y] (130, az_Pf, I, L) (some (.int (-11))) (130, az_Pf, I, L) := by
  refine zD_of zm_X10_thrown rfl ?_
  show az_W _ _ _ 0 [.ref 0, .int x, .int y] [] _
  simp only [u_X10_thrown_0, u_X10_thrown_1, u_X10_thrown_4, u_X10_thrown_7, u_X10_thrown_8, u_X10_thrown_11, u_X10_thrown_14, u_X10_thrown_16, u_X10_thrown_17, u_X10_thrown_18, u_X10_thrown_21, u_X10_thrown_22, u_X10_thrown_23, u_X10_thrown_26, u_X10_thrown_27, u_X10_thrown_30, u_X10_thrown_32, u_X10_thrown_33, u_X10_thrown_34, u_X10_thrown_37, u_X10_thrown_38, u_X10_thrown_39, u_X10_thrown_42, u_X10_thrown_45, u_X10_thrown_48, u_X10_thrown_50, u_X10_thrown_51, u_X10_thrown_52, u_X10_thrown_55, u_X10_thrown_56, u_X10_thrown_57, u_X10_thrown_60, u_X10_thrown_61, u_X10_thrown_62, u_X10_thrown_65, u_X10_thrown_68, az_un_i, az_un_r, az_un_n, az_un_l, Option.toList_some, Option.toList_none, List.cons_append, List.nil_append, List.length_cons, List.length_nil, Nat.reduceLeDiff, Nat.reduceAdd, Nat.zero_le, Nat.zero_add, and_true, true_and, zb_1, eq_self, zb_0, az_call s_X10_isHouse, az_call s_X10_isMorning]
  by_cases h1 : 0 ≤ x.toInt ∧ x.toInt ≤ 7 <;> by_cases h2 : 0 ≤ y.toInt ∧ y.toInt ≤ 29 <;> simp only [h1, h2, and_self, and_true, true_and, if_true, if_false, not_true, not_false_iff, not_true_eq_false, not_false_eq_true, ite_true, ite_false]
  exact absurd ⟨h1, h2⟩ hb
theorem s_X11_thrown_bad {x y : Int32} (hb : ¬ ((0 ≤ x.toInt ∧ x.toInt ≤ 7) ∧ (0 ≤ y.toInt ∧ y.toInt ≤ 29))) : zD (d + 6) 160 [.ref 97, .int x, .int y] (130, az_Pf, I, L) (some (.int (-11))) (130, az_Pf, I, L) := by
  refine zD_of zm_X11_thrown rfl ?_
  show az_W _ _ _ 0 [.ref 97, .int x, .int y, .null, .null] [] _
  simp only [u_X11_thrown_0, u_X11_thrown_1, u_X11_thrown_4, u_X11_thrown_7, u_X11_thrown_8, u_X11_thrown_11, u_X11_thrown_14, u_X11_thrown_16, u_X11_thrown_17, u_X11_thrown_18, u_X11_thrown_19, u_X11_thrown_22, u_X11_thrown_23, u_X11_thrown_26, u_X11_thrown_27, u_X11_thrown_28, u_X11_thrown_31, u_X11_thrown_33, u_X11_thrown_34, u_X11_thrown_35, u_X11_thrown_36, u_X11_thrown_39, u_X11_thrown_42, u_X11_thrown_44, u_X11_thrown_45, u_X11_thrown_46, u_X11_thrown_47, u_X11_thrown_48, u_X11_thrown_51, u_X11_thrown_52, u_X11_thrown_53, u_X11_thrown_56, u_X11_thrown_59, u_X11_thrown_61, u_X11_thrown_62, u_X11_thrown_63, u_X11_thrown_66, u_X11_thrown_69, u_X11_thrown_72, u_X11_thrown_74, u_X11_thrown_75, u_X11_thrown_78, u_X11_thrown_79, u_X11_thrown_82, u_X11_thrown_84, u_X11_thrown_85, u_X11_thrown_88, u_X11_thrown_89, u_X11_thrown_90, u_X11_thrown_93, u_X11_thrown_94, u_X11_thrown_97, u_X11_thrown_98, az_un_i, az_un_r, az_un_n, az_un_l, Option.toList_some, Option.toList_none, List.cons_append, List.nil_append, List.length_cons, List.length_nil, Nat.reduceLeDiff, Nat.reduceAdd, Nat.zero_le, Nat.zero_add, and_true, true_and, zb_1, eq_self, zb_0, az_call s_X11_isHouse, az_call s_X11_isMorning]
  by_cases h1 : 0 ≤ x.toInt ∧ x.toInt ≤ 7 <;> by_cases h2 : 0 ≤ y.toInt ∧ y.toInt ≤ 29 <;> simp only [h1, h2, and_self, and_true, true_and, if_true, if_false, not_true, not_false_iff, not_true_eq_false, not_false_eq_true, ite_true, ite_false]
  exact absurd ⟨h1, h2⟩ hb
theorem s_X10_thrown {p m c l t e nl nr n cc w : Nat} (hG : zG I t e nl nr n cc w) (hm : m < 30) (hp : p < zK (I (4 + m))) (hc : c ≤ 3) (hl : l ≤ 8) (ec : zrl I (nI m) 0 e = nI c) (el : zrl I (nI m) 1 e = nI l) : zE (d + 6) 97 [.ref 0, .int (nI (zO (I (4 + m)) p)), .int (nI m)] I L (some (.int (zAt (I (4 + m)) c l p))) (fun J _ => zFr I J) := by
  refine zE_of zm_X10_thrown rfl ?_
  show az_W _ _ _ 0 [.ref 0, .int (nI (zO (I (4 + m)) p)), .int (nI m)] [] _
  have ho := zO_lt hp
  have hs := zO_sp hp
  obtain ⟨J, L', hk, q1, q2, q3, q4⟩ := s_X5_find (d := d) (L := L) (f := 94) hG hm kx_94 hc hl ec el
  have c0 : zD (d + 5) 60 [.ref 35, .int (nI m), .int 0] (130, az_Pf, J, L') (some (.int (nI c))) (130, az_Pf, J, L') := by
    have := s_X6_inForce (d := d + 4) (I := J) (L := L') (m := nI m) (w := 0) (hG.fr q1.fr).2.2.2.1 (by decide)
    rw [zrl_fr (q1.fr.rw 37 (by omega)) (fun k hk => q1.fr.rw (39 + k) (by omega)) e hG.2.2.2.1.2.2.2.2.2.1, ec] at this
    exact this
  generalize hv : I (4 + m) = v at *
  have hh := s_X4_heard (d := d + 4) (I := I) (L := L) ho hm
  rw [hv] at hh
  generalize hx : zO v p = x at *
  simp only [u_X10_thrown_0, u_X10_thrown_1, u_X10_thrown_4, u_X10_thrown_7, u_X10_thrown_8, u_X10_thrown_11, u_X10_thrown_14, u_X10_thrown_16, u_X10_thrown_17, u_X10_thrown_18, u_X10_thrown_21, u_X10_thrown_22, u_X10_thrown_23, u_X10_thrown_26, u_X10_thrown_27, u_X10_thrown_30, u_X10_thrown_32, u_X10_thrown_33, u_X10_thrown_34, u_X10_thrown_37, u_X10_thrown_38, u_X10_thrown_39, u_X10_thrown_42, u_X10_thrown_45, u_X10_thrown_48, u_X10_thrown_50, u_X10_thrown_51, u_X10_thrown_52, u_X10_thrown_55, u_X10_thrown_56, u_X10_thrown_57, u_X10_thrown_60, u_X10_thrown_61, u_X10_thrown_62, u_X10_thrown_65, u_X10_thrown_68, az_un_i, az_un_r, az_un_n, az_un_l, Option.toList_some, Option.toList_none, List.cons_append, List.nil_append, List.length_cons, List.length_nil, Nat.reduceLeDiff, Nat.reduceAdd, Nat.zero_le, Nat.zero_add, and_true, true_and, zb_1, eq_self, az_call s_X10_isHouse, az_call s_X10_isMorning, zb_0, (eq_true (by rw [nI_toInt (by omega)]; omega) : (0 ≤ (nI x).toInt ∧ (nI x).toInt ≤ 7) = True), (eq_true (by rw [nI_toInt (by omega)]; omega) : (0 ≤ (nI m).toInt ∧ (nI m).toInt ≤ 29) = True), and_self, and_true, true_and, if_true, if_false, not_true, not_false_iff, not_true_eq_false, not_false_eq_true, ite_true, ite_false, az_call hh, hs, az_call hk, zR_at, az_call c0]
  unfold zAt
  cases hz : zok v c l
  · simp [q1.fr]
  · have hz' := zok_i.mp hz
    have hsd := s_X4_sideOf (d := d + 4) (I := J) (L := L') q2 q3 hp hz'.2
    rw [hx] at hsd
    simp only [not_true, not_true_eq_false, if_false, if_true, az_call hsd, u_X10_thrown_60, u_X10_thrown_61, u_X10_thrown_62, u_X10_thrown_65, u_X10_thrown_68, az_un_i, az_un_r, az_un_n, az_un_l, Option.toList_some, Option.toList_none, List.cons_append, List.nil_append, List.length_cons, List.length_nil, Nat.reduceLeDiff, Nat.reduceAdd, Nat.zero_le, Nat.zero_add, and_true, true_and, zb_1, eq_self, zR_at]
    exact q1.fr
theorem s_X11_thrown {p m c l t e nl nr n cc w : Nat} (hG : zG I t e nl nr n cc w) (hm : m < 30) (hp : p < zK (I (4 + m))) (hc : c ≤ 3) (hl : l ≤ 8) (ec : zrl I (nI m) 0 e = nI c) (el : zrl I (nI m) 1 e = nI l) : zE (d + 6) 160 [.ref 97, .int (nI (zO (I (4 + m)) p)), .int (nI m)] I L (some (.int (zAt (I (4 + m)) c l p))) (fun J _ => zFr I J) := by
  refine zE_of zm_X11_thrown rfl ?_
  show az_W _ _ _ 0 [.ref 97, .int (nI (zO (I (4 + m)) p)), .int (nI m), .null, .null] [] _
  have ho := zO_lt hp
  have hs := zO_sp hp
  obtain ⟨J1, L1, h1, q0, f1, e1⟩ := s_X11_layMorning (d := d + 4) (I := I) (L := L) hm
  subst q0
  have fr1 := f1.fr zscr106
  have hG1 := hG.fr fr1
  have ev : ∀ h, h < 8 → I (4 + m) h = J1 106 h := fun h hh => by rw [e1 h hh]; exact (hG.1 m hm h hh).1
  have er : ∀ k, zrl J1 (nI m) k e = zrl I (nI m) k e := fun k => zrl_fr (f1 37 (by decide)) (fun k hk => f1 (39 + k) (by omega)) e hG.2.2.2.1.2.2.2.2.2.1
  have hv := zVr_c ev (hG.vr hm)
  obtain ⟨J2, L2, h2, q0, f2, e2, e3, e4, e5⟩ := s_X11_findRateOn (d := d + 3) (I := J1) (L := L1) (m := m) hG1.2.2.2.1 hG1.2.1 hv hc hl ((er 0).trans ec) ((er 1).trans el)
  subst q0
  have fr2 := fr1.tr f2.fr
  have c0 : zD (d + 5) 154 [.ref 97, .int (nI m), .int 0] (130, az_Pf, J2, L2) (some (.int (nI c))) (130, az_Pf, J2, L2) := by
    have := s_X11_ruleOn (d := d + 4) (I := J2) (L := L2) (m := nI m) (w := 0) (hG.fr fr2).2.2.2.1 (hG.fr fr2).2.1 (by decide)
    rw [zrl_fr (fr2.rw 37 (by omega)) (fun k hk => fr2.rw (39 + k) (by omega)) e hG.2.2.2.1.2.2.2.2.2.1, ec] at this
    exact this
  rw [← zok_c ev] at h2
  rw [← zK_c ev] at e2
  rw [← zK_c ev, ← zO_c ev] at e3
  have vx := ev _ ho
  have hvr := (hG.vr hm) _ ho
  generalize I (4 + m) = v at *
  generalize hx : zO v p = x at *
  have nn : 0 ≤ v x := Int32.le_iff_toInt_le.mpr (by have := zpo hvr.1 hs; simpa using this)
  simp only [u_X11_thrown_0, u_X11_thrown_1, u_X11_thrown_4, u_X11_thrown_7, u_X11_thrown_8, u_X11_thrown_11, u_X11_thrown_14, u_X11_thrown_16, u_X11_thrown_17, u_X11_thrown_18, u_X11_thrown_19, u_X11_thrown_22, u_X11_thrown_23, u_X11_thrown_26, u_X11_thrown_27, u_X11_thrown_28, u_X11_thrown_31, u_X11_thrown_33, u_X11_thrown_34, u_X11_thrown_35, u_X11_thrown_36, u_X11_thrown_39, u_X11_thrown_42, u_X11_thrown_44, u_X11_thrown_45, u_X11_thrown_46, u_X11_thrown_47, u_X11_thrown_48, u_X11_thrown_51, u_X11_thrown_52, u_X11_thrown_53, az_un_i, az_un_r, az_un_n, az_un_l, Option.toList_some, Option.toList_none, List.cons_append, List.nil_append, List.length_cons, List.length_nil, Nat.reduceLeDiff, Nat.reduceAdd, Nat.zero_le, Nat.zero_add, and_true, true_and, zb_1, eq_self, az_call s_X11_isHouse, az_call s_X11_isMorning, zb_0, (eq_true (by rw [nI_toInt (by omega)]; omega) : (0 ≤ (nI x).toInt ∧ (nI x).toInt ≤ 7) = True), (eq_true (by rw [nI_toInt (by omega)]; omega) : (0 ≤ (nI m).toInt ∧ (nI m).toInt ≤ 29) = True), and_self, and_true, true_and, if_true, if_false, not_true, not_false_iff, not_true_eq_false, not_false_eq_true, ite_true, ite_false, az_call h1, kx_106, zinT ho (by decide), zcl ho (by decide), ← vx, eq_true nn, az_call h2, az_call c0]
  unfold zAt
  cases hz : zok v c l
  · simp only [Bool.false_eq_true, if_false, not_false_eq_true, if_true, zR_at]
    exact ⟨trivial, fr2⟩
  · have hz' := zok_i.mp hz
    have hK := zK_le (v := v)
    simp only [if_true, not_true, not_true_eq_false, if_false]
    refine zloop (P := fun i => az_W (zD (d + 5)) _ _ 55 [.ref 97, .int (nI x), .int (nI m), .int (nI c), .int (nI i)] [] (130, az_Pf, J2, L2)) p (fun i hi ih => ?_) ?_ 0 (Nat.zero_le _)
    · have o1 := zO_lt (v := v) (i := i) (by omega)
      have g1 : ¬ zO v i = x := fun g => by rw [← hx] at g; have := zO_inj (by omega) hp g; omega
      simp only [u_X11_thrown_55]
      simp only [u_X11_thrown_56, u_X11_thrown_59, u_X11_thrown_61, u_X11_thrown_62, u_X11_thrown_63, u_X11_thrown_66, u_X11_thrown_69, az_un_i, az_un_r, az_un_n, az_un_l, Option.toList_some, Option.toList_none, List.cons_append, List.nil_append, List.length_cons, List.length_nil, Nat.reduceLeDiff, Nat.reduceAdd, Nat.zero_le, Nat.zero_add, and_true, true_and, zb_1, eq_self, kx_107, zinT (show i < 8 by omega) (by decide), zcl (show i < 8 by omega) (by decide), e3 i (by omega), nI_eq (show zO v i < 2 ^ 31 by omega) (show x < 2 ^ 31 by omega), g1, if_false]
      rw [nI_succ] at ih
      exact ih
    · simp only [u_X11_thrown_55]
      simp only [u_X11_thrown_56, u_X11_thrown_59, u_X11_thrown_61, u_X11_thrown_62, u_X11_thrown_63, u_X11_thrown_66, u_X11_thrown_69, u_X11_thrown_72, u_X11_thrown_74, u_X11_thrown_75, u_X11_thrown_78, u_X11_thrown_79, u_X11_thrown_82, u_X11_thrown_84, u_X11_thrown_85, u_X11_thrown_88, u_X11_thrown_89, u_X11_thrown_90, u_X11_thrown_93, u_X11_thrown_94, u_X11_thrown_97, u_X11_thrown_98, az_un_i, az_un_r, az_un_n, az_un_l, Option.toList_some, Option.toList_none, List.cons_append, List.nil_append, List.length_cons, List.length_nil, Nat.reduceLeDiff, Nat.reduceAdd, Nat.zero_le, Nat.zero_add, and_true, true_and, zb_1, eq_self, kx_107, zinT (show p < 8 by omega) (by decide), zcl (show p < 8 by omega) (by decide), e3 p hp, hx, if_true, e2, pk_sub (show c ≤ zK v by omega), zR_at]
      by_cases g1 : p < c
      · rw [if_neg (nI_ge g1 (by omega)), if_pos g1]
        exact ⟨rfl, fr2⟩
      · rw [if_pos (nI_le (by omega) (by omega)), if_neg g1]
        by_cases g2 : zK v - c ≤ p
        · rw [if_neg (nI_nlt g2 (by omega)), if_pos g2]
          exact ⟨rfl, fr2⟩
        · rw [if_pos (nI_lt (by omega) (by omega)), if_neg g2]
          exact ⟨rfl, fr2⟩
theorem s_X10_thrown_s {x m : Nat} (hx : x < 8) (hm : m < 30) (hs : I (4 + m) x = -1) : zD (d + 6) 97 [.ref 0, .int (nI x), .int (nI m)] (130, az_Pf, I, L) (some (.int (-12))) (130, az_Pf, I, L) := by
  refine zD_of zm_X10_thrown rfl ?_
  show az_W _ _ _ 0 [.ref 0, .int (nI x), .int (nI m)] [] _
  have hh := s_X4_heard (d := d + 4) (I := I) (L := L) hx hm
  rw [hs] at hh
  simp only [u_X10_thrown_0, u_X10_thrown_1, u_X10_thrown_4, u_X10_thrown_7, u_X10_thrown_8, u_X10_thrown_11, u_X10_thrown_14, u_X10_thrown_16, u_X10_thrown_17, u_X10_thrown_18, u_X10_thrown_21, u_X10_thrown_22, u_X10_thrown_23, u_X10_thrown_26, u_X10_thrown_27, u_X10_thrown_30, u_X10_thrown_32, u_X10_thrown_33, u_X10_thrown_34, u_X10_thrown_37, u_X10_thrown_38, u_X10_thrown_39, u_X10_thrown_42, u_X10_thrown_45, u_X10_thrown_48, u_X10_thrown_50, u_X10_thrown_51, u_X10_thrown_52, u_X10_thrown_55, u_X10_thrown_56, u_X10_thrown_57, u_X10_thrown_60, u_X10_thrown_61, u_X10_thrown_62, u_X10_thrown_65, u_X10_thrown_68, az_un_i, az_un_r, az_un_n, az_un_l, Option.toList_some, Option.toList_none, List.cons_append, List.nil_append, List.length_cons, List.length_nil, Nat.reduceLeDiff, Nat.reduceAdd, Nat.zero_le, Nat.zero_add, and_true, true_and, zb_1, eq_self, az_call s_X10_isHouse, az_call s_X10_isMorning, zb_0, (eq_true (by rw [nI_toInt (by omega)]; omega) : (0 ≤ (nI x).toInt ∧ (nI x).toInt ≤ 7) = True), (eq_true (by rw [nI_toInt (by omega)]; omega) : (0 ≤ (nI m).toInt ∧ (nI m).toInt ≤ 29) = True), and_self, and_true, true_and, if_true, if_false, not_true, not_false_iff, not_true_eq_false, not_false_eq_true, ite_true, ite_false, az_call hh]
theorem s_X11_thrown_s {x m t e nl nr n cc w : Nat} (hG : zG I t e nl nr n cc w) (hx : x < 8) (hm : m < 30) (hs : I (4 + m) x = -1) : zE (d + 6) 160 [.ref 97, .int (nI x), .int (nI m)] I L (some (.int (-12))) (fun J _ => zFr I J) := by
  refine zE_of zm_X11_thrown rfl ?_
  show az_W _ _ _ 0 [.ref 97, .int (nI x), .int (nI m), .null, .null] [] _
  obtain ⟨J1, L1, h1, q0, f1, e1⟩ := s_X11_layMorning (d := d + 4) (I := I) (L := L) hm
  have ev : J1 106 x = -1 := by rw [e1 x hx, ← hs]; exact (hG.1 m hm x hx).1.symm
  have nn : ¬ (0 : Int32) ≤ -1 := by decide
  simp only [u_X11_thrown_0, u_X11_thrown_1, u_X11_thrown_4, u_X11_thrown_7, u_X11_thrown_8, u_X11_thrown_11, u_X11_thrown_14, u_X11_thrown_16, u_X11_thrown_17, u_X11_thrown_18, u_X11_thrown_19, u_X11_thrown_22, u_X11_thrown_23, u_X11_thrown_26, u_X11_thrown_27, u_X11_thrown_28, u_X11_thrown_31, u_X11_thrown_33, u_X11_thrown_34, u_X11_thrown_35, u_X11_thrown_36, u_X11_thrown_39, u_X11_thrown_42, u_X11_thrown_44, u_X11_thrown_45, u_X11_thrown_46, u_X11_thrown_47, u_X11_thrown_48, u_X11_thrown_51, u_X11_thrown_52, u_X11_thrown_53, az_un_i, az_un_r, az_un_n, az_un_l, Option.toList_some, Option.toList_none, List.cons_append, List.nil_append, List.length_cons, List.length_nil, Nat.reduceLeDiff, Nat.reduceAdd, Nat.zero_le, Nat.zero_add, and_true, true_and, zb_1, eq_self, az_call s_X11_isHouse, az_call s_X11_isMorning, zb_0, (eq_true (by rw [nI_toInt (by omega)]; omega) : (0 ≤ (nI x).toInt ∧ (nI x).toInt ≤ 7) = True), (eq_true (by rw [nI_toInt (by omega)]; omega) : (0 ≤ (nI m).toInt ∧ (nI m).toInt ≤ 29) = True), and_self, and_true, true_and, if_true, if_false, not_true, not_false_iff, not_true_eq_false, not_false_eq_true, ite_true, ite_false, az_call h1, kx_106, zinT hx (by decide), zcl hx (by decide), ev, nn, zR_at]
  exact f1.fr zscr106
end S
theorem op_thrown (x y : Int32) : zOp 97 160 [.int x, .int y] := by
  refine zOp_of (fun I L hI => ?_)
  obtain ⟨t, e, nl, nr, n, cc, w, hG⟩ := zInv_G hI
  by_cases hb : (0 ≤ x.toInt ∧ x.toInt ≤ 7) ∧ (0 ≤ y.toInt ∧ y.toInt ≤ 29)
  · obtain ⟨h0, h1⟩ := hb
    obtain ⟨q, hq, rfl⟩ := znat h0.1 (n := 7) h0.2 (by decide)
    obtain ⟨m, hm, rfl⟩ := znat h1.1 (n := 29) h1.2 (by decide)
    obtain ⟨c, l, s, hc, -, hl, -, ec, el, -⟩ := zrl_rg hG.2.2.2.1 (nI m) e (Nat.le_refl _)
    by_cases hs : I (4 + m) q = -1
    · refine ⟨_, zE_D (s_X10_thrown_s (d := 3) (by omega) (by omega) hs) zFr.rf, fun J M f => ?_⟩
      exact s_X11_thrown_s (d := 3) (hG.fr f) (by omega) (by omega) (by rw [f.rw (4 + m) (by omega)]; exact hs)
    · obtain ⟨p, hp, rfl⟩ := zO_sur (show q < 8 by omega) hs
      refine ⟨_, s_X10_thrown (d := 3) hG (by omega) hp hc hl ec el, fun J M f => ?_⟩
      have er : ∀ k, zrl J (nI m) k e = zrl I (nI m) k e := fun k => zrl_fr (f.rw 37 (by omega)) (fun k hk => f.rw (39 + k) (by omega)) e hG.2.2.2.1.2.2.2.2.2.1
      have ej := f.rw (4 + m) (by omega)
      have := s_X11_thrown (d := 3) (L := M) (p := p) (hG.fr f) (by omega) (by rw [ej]; exact hp) hc hl ((er 0).trans ec) ((er 1).trans el)
      rw [ej] at this
      exact this
  · exact ⟨_, zE_D (s_X10_thrown_bad (d := 3) hb) zFr.rf, fun J M f => zE_D (s_X11_thrown_bad (d := 3) hb) zFr.rf⟩
