/-! ===== all that holds, with its numbers; calls that leave it as it was ===== -/
def zG (I : Nat → Nat → Int32) (t e nl nr n c w : Nat) : Prop := zvP I ∧ zvC I ∧ zvS I ∧ zvB I t e ∧ zvL I nl ∧ zvR I nr ∧ zvD I n c ∧ zvW I n w ∧ zvX I n ∧ zvF I n
theorem zInv_G {I : Nat → Nat → Int32} (h : zInv I) : ∃ t e nl nr n c w, zG I t e nl nr n c w := by
  obtain ⟨hP, hC, hS, ⟨t, e, hB⟩, ⟨nl, hL⟩, ⟨nr, hR⟩, n, c, w, hD, hW, hX, hF⟩ := h
  exact ⟨t, e, nl, nr, n, c, w, hP, hC, hS, hB, hL, hR, hD, hW, hX, hF⟩
theorem zG.fr {I J : Nat → Nat → Int32} {t e nl nr n c w : Nat} (h : zG I t e nl nr n c w) (f : zFr I J) : zG J t e nl nr n c w := by
  obtain ⟨hP, hC, hS, hB, hL, hR, hD, hW, hX, hF⟩ := h
  have r : ∀ a, a < 130 → a ≠ 34 → a ≠ 43 → a ≠ 44 → a ≠ 69 → a ≠ 70 → a ≠ 85 → a ≠ 96 → a ≠ 2 → a ≠ 35 → a ≠ 56 → a ≠ 102 → a ≠ 106 → a ≠ 107 → a ≠ 125 → a ≠ 126 → a ≠ 97 → J a = I a := fun a h0 h1 h2 h3 h4 h5 h6 h7 h8 h9 h10 h11 h12 h13 h14 h15 h16 => f.row (zscr_r a h0 h1 h2 h3 h4 h5 h6 h7 h8 h9 h10 h11 h12 h13 h14 h15 h16)
  exact ⟨hP.fr (fun m hm => by apply r <;> omega) (by apply r <;> omega), hC.fr (by apply r <;> omega) (by apply r <;> omega) (by apply r <;> omega), hS.fr (by apply r <;> omega) (by apply r <;> omega) (by apply r <;> omega) (by apply r <;> omega) (by apply r <;> omega) (fun s hs => by apply r <;> omega), (hB.fr (f _ _ rfl) (f _ _ rfl) (f _ _ rfl) (f _ _ rfl) (by apply r <;> omega) (by apply r <;> omega) (by apply r <;> omega) (by apply r <;> omega) (by apply r <;> omega) (fun k hk => by apply r <;> omega)), (hL.fr (f _ _ rfl) (f _ _ rfl) (fun k h1 h2 => by apply r <;> omega) (fun k h1 h2 => by apply r <;> omega)), (hR.fr (f _ _ rfl) (f _ _ rfl) (by apply r <;> omega) (by apply r <;> omega) (by apply r <;> omega) (by apply r <;> omega)), hD.fr (f _ _ rfl) (f _ _ rfl) (f _ _ rfl) (f _ _ rfl) (fun k h1 h2 => by apply r <;> omega) (fun k h1 h2 => by apply r <;> omega), hW.fr (f _ _ rfl) (f _ _ rfl) (fun k h1 h2 => by apply r <;> omega) (fun k h1 h2 => by apply r <;> omega), hX.fr (by apply r <;> omega) (by apply r <;> omega), hF.fr (fun a ha => by apply r <;> omega) (by apply r <;> omega)⟩
theorem zFr.rw {I J : Nat → Nat → Int32} (f : zFr I J) : ∀ a, (a < 130 ∧ a ≠ 34 ∧ a ≠ 43 ∧ a ≠ 44 ∧ a ≠ 69 ∧ a ≠ 70 ∧ a ≠ 85 ∧ a ≠ 96 ∧ a ≠ 2 ∧ a ≠ 35 ∧ a ≠ 56 ∧ a ≠ 102 ∧ a ≠ 106 ∧ a ≠ 107 ∧ a ≠ 125 ∧ a ≠ 126 ∧ a ≠ 97) → J a = I a := fun a ⟨h0, h1, h2, h3, h4, h5, h6, h7, h8, h9, h10, h11, h12, h13, h14, h15, h16⟩ => f.row (zscr_r a h0 h1 h2 h3 h4 h5 h6 h7 h8 h9 h10 h11 h12 h13 h14 h15 h16)
theorem zOp_of {cl mo : Nat} {as : List Value} (h : ∀ I L, zInv I → ∃ r : Int32, zE 9 cl (.ref 0 :: as) I L (some (.int r)) (fun J _ => zFr I J) ∧ ∀ J M, zFr I J → zE 9 mo (.ref 97 :: as) J M (some (.int r)) (fun J' _ => zFr J J')) : zOp cl mo as := by
  intro I L hI
  obtain ⟨r, ⟨J, M, h1, f1⟩, h2⟩ := h I L hI
  obtain ⟨J', M', h3, f2⟩ := h2 J M f1
  exact ⟨r, J, M, J', M', h1, h3, hI.fr (f1.tr f2)⟩
theorem zOpL_of {cl mo : Nat} {as : List Value} (h : ∀ I L, zInv I → ∃ r : Int64, zE 9 cl (.ref 0 :: as) I L (some (.long r)) (fun J _ => zFr I J) ∧ ∀ J M, zFr I J → zE 9 mo (.ref 97 :: as) J M (some (.long r)) (fun J' _ => zFr J J')) : zOpL cl mo as := by
  intro I L hI
  obtain ⟨r, ⟨J, M, h1, f1⟩, h2⟩ := h I L hI
  obtain ⟨J', M', h3, f2⟩ := h2 J M f1
  exact ⟨r, J, M, J', M', h1, h3, hI.fr (f1.tr f2)⟩
theorem zE_D {d no : Nat} {as : List Value} {I J : Nat → Nat → Int32} {L L' : Nat → Nat → Int64} {r : Option Value} {Q : (Nat → Nat → Int32) → (Nat → Nat → Int64) → Prop} (h : zD d no as (130, az_Pf, I, L) r (130, az_Pf, J, L')) (q : Q J L') : zE d no as I L r Q := ⟨J, L', h, q⟩
theorem zFr.u2 {I : Nat → Nat → Int32} {a j b k : Nat} {x y : Int32} (h1 : zscr a j = true) (h2 : zscr b k = true) : zFr I (az_uI (az_uI I a j x) b k y) := (zFr.rf.up h1).up h2
/-- is it out, to which side -/
def zOA (I : Nat → Nat → Int32) (h m nl e : Nat) : Int32 := zOut (I (4 + m) h) (zTb I h m nl) (zTl I h m nl (zrl I (nI m) 2 e)) (zTh I h m nl (zrl I (nI m) 2 e))
theorem zOA_fr {I J : Nat → Nat → Int32} {h m nl e : Nat} (f : zFr I J) (hm : m < 30) (he : e ≤ 4) : zOA J h m nl e = zOA I h m nl e := by
  unfold zOA
  rw [f.rw (4 + m) (by omega), zTb_fr (f.rw 57 (by omega)) (f.rw 58 (by omega)), zTl_fr (f.rw 57 (by omega)) (f.rw 58 (by omega)) (f.rw 59 (by omega)), zTh_fr (f.rw 57 (by omega)) (f.rw 58 (by omega)) (f.rw 59 (by omega)), zrl_fr (f.rw 37 (by omega)) (fun k hk => f.rw (39 + k) (by omega)) e he]
section S
variable {d : Nat} {I : Nat → Nat → Int32} {L : Nat → Nat → Int64} {h : az_H}
theorem s_X10_findTrue {h m n s t e : Nat} (hh : h < 8) (hL : zvL I n) (hB : zvB I t e) (hs : s ≤ 99) (hr : zrl I (nI m) 2 e = nI s) : zD (d + 4) 135 [.ref 0, .int (nI h), .int (nI m)] (130, az_Pf, I, L) (some (.int (zb (zTb I h m n = true)))) (130, az_Pf, az_uI (az_uI I 56 4 (if zTb I h m n then zTl I h m n (nI s) else 1000)) 56 5 (if zTb I h m n then zTh I h m n (nI s) else -1), L) := by
  refine zD_of zm_X10_findTrue rfl ?_
  show az_W _ _ _ 0 [.ref 0, .int (nI h), .int (nI m)] [] _
  have hi : zD (d + 3) 60 [.ref 35, .int (nI m), .int 2] (130, az_Pf, I, L) (some (.int (nI s))) (130, az_Pf, I, L) := hr ▸ s_X6_inForce hB (w := 2) (by decide)
  simp only [u_X10_findTrue_0, u_X10_findTrue_1, u_X10_findTrue_4, u_X10_findTrue_5, u_X10_findTrue_6, u_X10_findTrue_7, u_X10_findTrue_10, u_X10_findTrue_11, u_X10_findTrue_12, u_X10_findTrue_15, u_X10_findTrue_18, az_un_i, az_un_r, az_un_n, az_un_l, Option.toList_some, Option.toList_none, List.cons_append, List.nil_append, List.length_cons, List.length_nil, Nat.reduceLeDiff, Nat.reduceAdd, Nat.zero_le, Nat.zero_add, and_true, true_and, zb_1, eq_self, az_call hi, az_call (s_X3_findTrue hh hL hs)]
/-- after a look for it: the class's low and high ends -/
def zOS (I : Nat → Nat → Int32) (h m n : Nat) (s : Int32) : Nat → Nat → Int32 := if I (4 + m) h = -1 then I else az_uI (az_uI I 56 4 (if zTb I h m n then zTl I h m n s else 1000)) 56 5 (if zTb I h m n then zTh I h m n s else -1)
theorem zOS_fr {h m n : Nat} {s : Int32} : zFr I (zOS I h m n s) := by
  unfold zOS; split
  · exact zFr.rf
  · exact zFr.u2 rfl rfl
def zOM (I : Nat → Nat → Int32) (h m n : Nat) (s : Int32) : Nat → Nat → Int32 := if I (4 + m) h = -1 then I else az_uI (az_uI I 97 29 (if zTb I h m n then zTl I h m n s else I 97 29)) 97 30 (if zTb I h m n then zTh I h m n s else I 97 30)
theorem zOM_fr {h m n : Nat} {s : Int32} : zFr I (zOM I h m n s) := by
  unfold zOM; split
  · exact zFr.rf
  · exact zFr.u2 rfl rfl
theorem s_X10_outSign {h m t e nl nr n c w : Nat} (hG : zG I t e nl nr n c w) (hh : h < 8) (hm : m < 30) : zD (d + 5) 136 [.ref 0, .int (nI h), .int (nI m)] (130, az_Pf, I, L) (some (.int (zOA I h m nl e))) (130, az_Pf, zOS I h m nl (zrl I (nI m) 2 e), L) := by
  refine zD_of zm_X10_outSign rfl ?_
  show az_W _ _ _ 0 [.ref 0, .int (nI h), .int (nI m), .null] [] _
  obtain ⟨hP, hC, hS, hB, hL, hR, hD, hW, hX, hF⟩ := hG
  obtain ⟨c', l', s, -, -, -, hs, -, -, hr⟩ := zrl_rg hB (nI m) e (Nat.le_refl _)
  simp only [u_X10_outSign_0, u_X10_outSign_1, u_X10_outSign_4, u_X10_outSign_5, u_X10_outSign_6, u_X10_outSign_9, u_X10_outSign_10, u_X10_outSign_11, u_X10_outSign_12, u_X10_outSign_15, u_X10_outSign_16, u_X10_outSign_17, u_X10_outSign_18, u_X10_outSign_21, u_X10_outSign_24, u_X10_outSign_25, u_X10_outSign_26, u_X10_outSign_27, u_X10_outSign_28, u_X10_outSign_31, u_X10_outSign_34, u_X10_outSign_37, u_X10_outSign_38, u_X10_outSign_39, u_X10_outSign_40, u_X10_outSign_41, u_X10_outSign_44, u_X10_outSign_47, u_X10_outSign_50, u_X10_outSign_51, u_X10_outSign_54, u_X10_outSign_55, az_un_i, az_un_r, az_un_n, az_un_l, Option.toList_some, Option.toList_none, List.cons_append, List.nil_append, List.length_cons, List.length_nil, Nat.reduceLeDiff, Nat.reduceAdd, Nat.zero_le, Nat.zero_add, and_true, true_and, zb_1, eq_self, az_call (s_X4_heard hh hm), az_call (s_X10_findTrue hh hL hB hs hr), zb_0, az_call s_X3_highEnd, az_call s_X3_lowEnd, az_uI_at, az_uL_at, Nat.reduceEqDiff, false_and, and_false, and_self, if_true, if_false, ite_true, ite_false]
  unfold zOA zOS zOut
  rw [hr]
  by_cases g : I (4 + m) h = -1
  · simp only [g, true_or, if_true]; simp
  · cases hz : zTb I h m nl
    · simp [g, hz]
    · simp only [g, hz, if_false, if_true, or_self, not_true, not_true_eq_false, Bool.true_eq_false, false_or]
      by_cases g1 : zTh I h m nl (nI s) < I (4 + m) h
      · simp [g1, Int32.not_le.mpr g1]
      · by_cases g2 : I (4 + m) h < zTl I h m nl (nI s)
        · simp [g1, g2, Int32.not_le.mpr g2, Int32.not_lt.mp g1]
        · simp [g1, g2, Int32.not_lt.mp g2, Int32.not_lt.mp g1]
theorem s_X11_outOf {h m t e nl nr n c w : Nat} (hG : zG I t e nl nr n c w) (hh : h < 8) (hm : m < 30) : zD (d + 5) 180 [.ref 97, .int (nI h), .int (nI m)] (130, az_Pf, I, L) (some (.int (zOA I h m nl e))) (130, az_Pf, zOM I h m nl (zrl I (nI m) 2 e), L) := by
  refine zD_of zm_X11_outOf rfl ?_
  show az_W _ _ _ 0 [.ref 97, .int (nI h), .int (nI m), .null] [] _
  obtain ⟨hP, hC, hS, hB, hL, hR, hD, hW, hX, hF⟩ := hG
  obtain ⟨c', l', s, -, -, -, hs, -, -, hr⟩ := zrl_rg hB (nI m) e (Nat.le_refl _)
  obtain ⟨p1, p2, p3⟩ := hP m hm h hh
  rw [← p1] at p2
  have hv : (I (4 + m) h < 0) ↔ I (4 + m) h = -1 := by
    rw [Int32.lt_iff_toInt_lt, ← Int32.toInt_inj]; simp; omega
  simp only [u_X11_outOf_0, u_X11_outOf_1, u_X11_outOf_4, u_X11_outOf_6, u_X11_outOf_7, u_X11_outOf_8, u_X11_outOf_9, u_X11_outOf_10, u_X11_outOf_11, u_X11_outOf_12, u_X11_outOf_13, u_X11_outOf_16, u_X11_outOf_17, u_X11_outOf_18, u_X11_outOf_19, u_X11_outOf_22, u_X11_outOf_25, u_X11_outOf_26, u_X11_outOf_29, u_X11_outOf_30, u_X11_outOf_31, u_X11_outOf_34, u_X11_outOf_37, u_X11_outOf_38, u_X11_outOf_41, u_X11_outOf_42, u_X11_outOf_43, u_X11_outOf_46, u_X11_outOf_49, u_X11_outOf_50, u_X11_outOf_53, u_X11_outOf_54, az_un_i, az_un_r, az_un_n, az_un_l, Option.toList_some, Option.toList_none, List.cons_append, List.nil_append, List.length_cons, List.length_nil, Nat.reduceLeDiff, Nat.reduceAdd, Nat.zero_le, Nat.zero_add, and_true, true_and, zb_1, eq_self, z8m, kx_98, zinT (show 8 * m + h < 240 by omega) (by decide), zcl (show 8 * m + h < 240 by omega) (by decide), ← p1, az_call (s_X11_findTrue hh hL hB hC hs hr), zb_0, az_uI_at, az_uL_at, Nat.reduceEqDiff, false_and, and_false, and_self, if_true, if_false, ite_true, ite_false]
  unfold zOA zOM zOut
  rw [hr]
  by_cases g : I (4 + m) h = -1
  · simp only [hv.mpr g, g, true_or, if_true]; simp
  · have g' : ¬ I (4 + m) h < 0 := fun q => g (hv.mp q)
    cases hz : zTb I h m nl
    · simp [g, g', hz]
    · simp only [g, g', hz, if_false, if_true, or_self, not_true, not_true_eq_false, Bool.true_eq_false, false_or]
      by_cases g1 : zTh I h m nl (nI s) < I (4 + m) h
      · simp [g1, Int32.not_le.mpr g1]
      · by_cases g2 : I (4 + m) h < zTl I h m nl (nI s)
        · simp [g1, g2, Int32.not_le.mpr g2, Int32.not_lt.mp g1]
        · simp [g1, g2, Int32.not_lt.mp g2, Int32.not_lt.mp g1]
theorem s_X10_out_bad {x y : Int32} (hb : ¬ ((0 ≤ x.toInt ∧ x.toInt ≤ 7) ∧ (0 ≤ y.toInt ∧ y.toInt ≤ 29))) : zD (d + 6) 109 [.ref 0, .int x, .int y] (130, az_Pf, I, L) (some (.int (-11))) (130, az_Pf, I, L) := by
  refine zD_of zm_X10_out rfl ?_
  show az_W _ _ _ 0 [.ref 0, .int x, .int y] [] _
  simp only [u_X10_out_0, u_X10_out_1, u_X10_out_4, u_X10_out_7, u_X10_out_8, u_X10_out_11, u_X10_out_14, u_X10_out_16, u_X10_out_17, u_X10_out_18, u_X10_out_19, u_X10_out_20, u_X10_out_23, az_un_i, az_un_r, az_un_n, az_un_l, Option.toList_some, Option.toList_none, List.cons_append, List.nil_append, List.length_cons, List.length_nil, Nat.reduceLeDiff, Nat.reduceAdd, Nat.zero_le, Nat.zero_add, and_true, true_and, zb_1, eq_self, zb_0, az_call s_X10_isHouse, az_call s_X10_isMorning]
  by_cases h1 : 0 ≤ x.toInt ∧ x.toInt ≤ 7 <;> by_cases h2 : 0 ≤ y.toInt ∧ y.toInt ≤ 29 <;> simp only [h1, h2, and_self, and_true, true_and, if_true, if_false, not_true, not_false_iff, not_true_eq_false, not_false_eq_true, ite_true, ite_false]
  exact absurd ⟨h1, h2⟩ hb
theorem s_X11_out_bad {x y : Int32} (hb : ¬ ((0 ≤ x.toInt ∧ x.toInt ≤ 7) ∧ (0 ≤ y.toInt ∧ y.toInt ≤ 29))) : zD (d + 6) 181 [.ref 97, .int x, .int y] (130, az_Pf, I, L) (some (.int (-11))) (130, az_Pf, I, L) := by
  refine zD_of zm_X11_out rfl ?_
  show az_W _ _ _ 0 [.ref 97, .int x, .int y] [] _
  simp only [u_X11_out_0, u_X11_out_1, u_X11_out_4, u_X11_out_7, u_X11_out_8, u_X11_out_11, u_X11_out_14, u_X11_out_15, u_X11_out_16, u_X11_out_17, u_X11_out_20, u_X11_out_23, u_X11_out_25, az_un_i, az_un_r, az_un_n, az_un_l, Option.toList_some, Option.toList_none, List.cons_append, List.nil_append, List.length_cons, List.length_nil, Nat.reduceLeDiff, Nat.reduceAdd, Nat.zero_le, Nat.zero_add, and_true, true_and, zb_1, eq_self, zb_0, az_call s_X11_isHouse, az_call s_X11_isMorning]
  by_cases h1 : 0 ≤ x.toInt ∧ x.toInt ≤ 7 <;> by_cases h2 : 0 ≤ y.toInt ∧ y.toInt ≤ 29 <;> simp only [h1, h2, and_self, and_true, true_and, if_true, if_false, not_true, not_false_iff, not_true_eq_false, not_false_eq_true, ite_true, ite_false]
  exact absurd ⟨h1, h2⟩ hb
theorem s_X10_out {h m t e nl nr n c w : Nat} (hG : zG I t e nl nr n c w) (hh : h < 8) (hm : m < 30) : zD (d + 6) 109 [.ref 0, .int (nI h), .int (nI m)] (130, az_Pf, I, L) (some (.int (zOA I h m nl e))) (130, az_Pf, zOS I h m nl (zrl I (nI m) 2 e), L) := by
  refine zD_of zm_X10_out rfl ?_
  show az_W _ _ _ 0 [.ref 0, .int (nI h), .int (nI m)] [] _
  simp only [u_X10_out_0, u_X10_out_1, u_X10_out_4, u_X10_out_7, u_X10_out_8, u_X10_out_11, u_X10_out_14, u_X10_out_16, u_X10_out_17, u_X10_out_18, u_X10_out_19, u_X10_out_20, u_X10_out_23, az_un_i, az_un_r, az_un_n, az_un_l, Option.toList_some, Option.toList_none, List.cons_append, List.nil_append, List.length_cons, List.length_nil, Nat.reduceLeDiff, Nat.reduceAdd, Nat.zero_le, Nat.zero_add, and_true, true_and, zb_1, eq_self, az_call s_X10_isHouse, az_call s_X10_isMorning, zb_0, (eq_true (by rw [nI_toInt (by omega)]; omega) : (0 ≤ (nI h).toInt ∧ (nI h).toInt ≤ 7) = True), (eq_true (by rw [nI_toInt (by omega)]; omega) : (0 ≤ (nI m).toInt ∧ (nI m).toInt ≤ 29) = True), and_self, and_true, true_and, if_true, if_false, not_true, not_false_iff, not_true_eq_false, not_false_eq_true, ite_true, ite_false, az_call (s_X10_outSign hG hh hm)]
theorem s_X11_out {h m t e nl nr n c w : Nat} (hG : zG I t e nl nr n c w) (hh : h < 8) (hm : m < 30) : zD (d + 6) 181 [.ref 97, .int (nI h), .int (nI m)] (130, az_Pf, I, L) (some (.int (zOA I h m nl e))) (130, az_Pf, zOM I h m nl (zrl I (nI m) 2 e), L) := by
  refine zD_of zm_X11_out rfl ?_
  show az_W _ _ _ 0 [.ref 97, .int (nI h), .int (nI m)] [] _
  simp only [u_X11_out_0, u_X11_out_1, u_X11_out_4, u_X11_out_7, u_X11_out_8, u_X11_out_11, u_X11_out_14, u_X11_out_15, u_X11_out_16, u_X11_out_17, u_X11_out_20, u_X11_out_23, u_X11_out_25, az_un_i, az_un_r, az_un_n, az_un_l, Option.toList_some, Option.toList_none, List.cons_append, List.nil_append, List.length_cons, List.length_nil, Nat.reduceLeDiff, Nat.reduceAdd, Nat.zero_le, Nat.zero_add, and_true, true_and, zb_1, eq_self, az_call s_X11_isHouse, az_call s_X11_isMorning, zb_0, (eq_true (by rw [nI_toInt (by omega)]; omega) : (0 ≤ (nI h).toInt ∧ (nI h).toInt ≤ 7) = True), (eq_true (by rw [nI_toInt (by omega)]; omega) : (0 ≤ (nI m).toInt ∧ (nI m).toInt ≤ 29) = True), and_self, and_true, true_and, if_true, if_false, not_true, not_false_iff, not_true_eq_false, not_false_eq_true, ite_true, ite_false, az_call (s_X11_outOf hG hh hm)]
theorem s_X10_truth_bad {x y z : Int32} (hb : ¬ ((0 ≤ x.toInt ∧ x.toInt ≤ 7) ∧ (0 ≤ y.toInt ∧ y.toInt ≤ 29) ∧ (0 ≤ z.toInt ∧ z.toInt ≤ 1))) : zD (d + 6) 108 [.ref 0, .int x, .int y, .int z] (130, az_Pf, I, L) (some (.int (-1))) (130, az_Pf, I, L) := by
  refine zD_of zm_X10_truth rfl ?_
  show az_W _ _ _ 0 [.ref 0, .int x, .int y, .int z] [] _
  simp only [u_X10_truth_0, u_X10_truth_1, u_X10_truth_4, u_X10_truth_7, u_X10_truth_8, u_X10_truth_11, u_X10_truth_14, u_X10_truth_15, u_X10_truth_18, u_X10_truth_21, u_X10_truth_22, u_X10_truth_23, u_X10_truth_24, u_X10_truth_25, u_X10_truth_26, u_X10_truth_29, u_X10_truth_32, u_X10_truth_34, u_X10_truth_35, u_X10_truth_36, u_X10_truth_39, u_X10_truth_40, u_X10_truth_43, u_X10_truth_46, u_X10_truth_49, u_X10_truth_50, u_X10_truth_53, u_X10_truth_56, az_un_i, az_un_r, az_un_n, az_un_l, Option.toList_some, Option.toList_none, List.cons_append, List.nil_append, List.length_cons, List.length_nil, Nat.reduceLeDiff, Nat.reduceAdd, Nat.zero_le, Nat.zero_add, and_true, true_and, zb_1, eq_self, zb_0, az_call s_X10_isHouse, az_call s_X10_isMorning, az_call s_X10_isBit]
  by_cases h1 : 0 ≤ x.toInt ∧ x.toInt ≤ 7 <;> by_cases h2 : 0 ≤ y.toInt ∧ y.toInt ≤ 29 <;> by_cases h3 : 0 ≤ z.toInt ∧ z.toInt ≤ 1 <;> simp only [h1, h2, h3, and_self, and_true, true_and, if_true, if_false, not_true, not_false_iff, not_true_eq_false, not_false_eq_true, ite_true, ite_false]
  exact absurd ⟨h1, h2, h3⟩ hb
theorem s_X11_truth_bad {x y z : Int32} (hb : ¬ ((0 ≤ x.toInt ∧ x.toInt ≤ 7) ∧ (0 ≤ y.toInt ∧ y.toInt ≤ 29) ∧ (0 ≤ z.toInt ∧ z.toInt ≤ 1))) : zD (d + 6) 179 [.ref 97, .int x, .int y, .int z] (130, az_Pf, I, L) (some (.int (-1))) (130, az_Pf, I, L) := by
  refine zD_of zm_X11_truth rfl ?_
  show az_W _ _ _ 0 [.ref 97, .int x, .int y, .int z] [] _
  simp only [u_X11_truth_0, u_X11_truth_1, u_X11_truth_4, u_X11_truth_7, u_X11_truth_8, u_X11_truth_11, u_X11_truth_14, u_X11_truth_15, u_X11_truth_16, u_X11_truth_17, u_X11_truth_18, u_X11_truth_21, u_X11_truth_24, u_X11_truth_25, u_X11_truth_26, u_X11_truth_27, u_X11_truth_28, u_X11_truth_29, u_X11_truth_32, u_X11_truth_35, u_X11_truth_37, u_X11_truth_40, u_X11_truth_41, u_X11_truth_44, u_X11_truth_45, u_X11_truth_48, u_X11_truth_51, u_X11_truth_52, u_X11_truth_55, az_un_i, az_un_r, az_un_n, az_un_l, Option.toList_some, Option.toList_none, List.cons_append, List.nil_append, List.length_cons, List.length_nil, Nat.reduceLeDiff, Nat.reduceAdd, Nat.zero_le, Nat.zero_add, and_true, true_and, zb_1, eq_self, zb_0, az_call s_X11_isHouse, az_call s_X11_isMorning, az_call s_X11_in, z64, zl_0, zj_0, zl_1, zj_1, zl_2, zj_2, zl_3, zj_3, zl_4, zj_4, zl_5, zj_5, zl_6, zj_6, zl_7, zj_7, zl_8, zj_8, zl_9, zj_9, zl_10, zj_10, zl_11, zj_11, zl_12, zj_12, zl_15, zj_15, zl_16, zj_16, zl_20, zj_20, zl_24, zj_24, zl_29, zj_29, zl_30, zj_30, zl_31, zj_31, zl_32, zj_32, zl_40, zj_40, zl_48, zj_48, zl_57, zj_57, zl_59, zj_59, zl_60, zj_60, zl_63, zj_63, zl_99, zj_99, zl_100, zj_100, zl_126, zj_126, zl_144, zj_144, zl_200, zj_200, zl_240, zj_240, zl_255, zj_255, zl_256, zj_256, zl_999, zj_999, zl_1000, zj_1000, zlm_1, zjm_1, zlm_2, zjm_2, zlm_3, zjm_3, zlm_4, zjm_4, zlm_11, zjm_11, zlm_12, zjm_12, zlm_13, zjm_13, zlm_14, zjm_14, zlm_20, zjm_20, zlm_10001, zjm_10001, zlm_10002, zjm_10002]
  by_cases h1 : 0 ≤ x.toInt ∧ x.toInt ≤ 7 <;> by_cases h2 : 0 ≤ y.toInt ∧ y.toInt ≤ 29 <;> by_cases h3 : 0 ≤ z.toInt ∧ z.toInt ≤ 1 <;> simp only [h1, h2, h3, and_self, and_true, true_and, if_true, if_false, not_true, not_false_iff, not_true_eq_false, not_false_eq_true, ite_true, ite_false]
  exact absurd ⟨h1, h2, h3⟩ hb
theorem s_X10_truth {h m t e nl nr n c w : Nat} {z : Int32} (hG : zG I t e nl nr n c w) (hh : h < 8) (hm : m < 30) (hz : 0 ≤ z.toInt ∧ z.toInt ≤ 1) : zE (d + 6) 108 [.ref 0, .int (nI h), .int (nI m), .int z] I L (some (.int (if zTb I h m nl then (if z = 0 then zTl I h m nl (zrl I (nI m) 2 e) else zTh I h m nl (zrl I (nI m) 2 e)) else -4))) (fun J _ => zFr I J) := by
  refine zE_of zm_X10_truth rfl ?_
  show az_W _ _ _ 0 [.ref 0, .int (nI h), .int (nI m), .int z] [] _
  obtain ⟨hP, hC, hS, hB, hL, hR, hD, hW, hX, hF⟩ := hG
  obtain ⟨c', l', s, -, -, -, hs, -, -, hr⟩ := zrl_rg hB (nI m) e (Nat.le_refl _)
  have f : ∀ x y, zFr I (az_uI (az_uI I 56 4 x) 56 5 y) := fun x y => zFr.u2 rfl rfl
  simp only [u_X10_truth_0, u_X10_truth_1, u_X10_truth_4, u_X10_truth_7, u_X10_truth_8, u_X10_truth_11, u_X10_truth_14, u_X10_truth_15, u_X10_truth_18, u_X10_truth_21, u_X10_truth_22, u_X10_truth_23, u_X10_truth_24, u_X10_truth_25, u_X10_truth_26, u_X10_truth_29, u_X10_truth_32, u_X10_truth_34, u_X10_truth_35, u_X10_truth_36, u_X10_truth_39, u_X10_truth_40, u_X10_truth_43, u_X10_truth_46, u_X10_truth_49, u_X10_truth_50, u_X10_truth_53, u_X10_truth_56, az_un_i, az_un_r, az_un_n, az_un_l, Option.toList_some, Option.toList_none, List.cons_append, List.nil_append, List.length_cons, List.length_nil, Nat.reduceLeDiff, Nat.reduceAdd, Nat.zero_le, Nat.zero_add, and_true, true_and, zb_1, eq_self, az_call s_X10_isHouse, az_call s_X10_isMorning, az_call s_X10_isBit, zb_0, (eq_true (by rw [nI_toInt (by omega)]; omega) : (0 ≤ (nI h).toInt ∧ (nI h).toInt ≤ 7) = True), (eq_true (by rw [nI_toInt (by omega)]; omega) : (0 ≤ (nI m).toInt ∧ (nI m).toInt ≤ 29) = True), eq_true hz, and_self, and_true, true_and, if_true, if_false, not_true, not_false_iff, not_true_eq_false, not_false_eq_true, ite_true, ite_false, az_call (s_X10_findTrue hh hL hB hs hr), az_call s_X3_highEnd, az_call s_X3_lowEnd, az_uI_at, az_uL_at, Nat.reduceEqDiff, false_and, and_false, and_self, if_true, if_false, ite_true, ite_false, zR_at, f, hr]
  cases hz : zTb I h m nl
  · simp
  · by_cases g : z = 0 <;> simp [g]
theorem s_X11_truth {h m t e nl nr n c w : Nat} {z : Int32} (hG : zG I t e nl nr n c w) (hh : h < 8) (hm : m < 30) (hz : 0 ≤ z.toInt ∧ z.toInt ≤ 1) : zE (d + 6) 179 [.ref 97, .int (nI h), .int (nI m), .int z] I L (some (.int (if zTb I h m nl then (if z = 0 then zTl I h m nl (zrl I (nI m) 2 e) else zTh I h m nl (zrl I (nI m) 2 e)) else -4))) (fun J _ => zFr I J) := by
  refine zE_of zm_X11_truth rfl ?_
  show az_W _ _ _ 0 [.ref 97, .int (nI h), .int (nI m), .int z] [] _
  obtain ⟨hP, hC, hS, hB, hL, hR, hD, hW, hX, hF⟩ := hG
  obtain ⟨c', l', s, -, -, -, hs, -, -, hr⟩ := zrl_rg hB (nI m) e (Nat.le_refl _)
  have f : ∀ x y, zFr I (az_uI (az_uI I 97 29 x) 97 30 y) := fun x y => zFr.u2 rfl rfl
  simp only [u_X11_truth_0, u_X11_truth_1, u_X11_truth_4, u_X11_truth_7, u_X11_truth_8, u_X11_truth_11, u_X11_truth_14, u_X11_truth_15, u_X11_truth_16, u_X11_truth_17, u_X11_truth_18, u_X11_truth_21, u_X11_truth_24, u_X11_truth_25, u_X11_truth_26, u_X11_truth_27, u_X11_truth_28, u_X11_truth_29, u_X11_truth_32, u_X11_truth_35, u_X11_truth_37, u_X11_truth_40, u_X11_truth_41, u_X11_truth_44, u_X11_truth_45, u_X11_truth_48, u_X11_truth_51, u_X11_truth_52, u_X11_truth_55, az_un_i, az_un_r, az_un_n, az_un_l, Option.toList_some, Option.toList_none, List.cons_append, List.nil_append, List.length_cons, List.length_nil, Nat.reduceLeDiff, Nat.reduceAdd, Nat.zero_le, Nat.zero_add, and_true, true_and, zb_1, eq_self, az_call s_X11_isHouse, az_call s_X11_isMorning, az_call s_X11_in, z64, zl_0, zj_0, zl_1, zj_1, zl_2, zj_2, zl_3, zj_3, zl_4, zj_4, zl_5, zj_5, zl_6, zj_6, zl_7, zj_7, zl_8, zj_8, zl_9, zj_9, zl_10, zj_10, zl_11, zj_11, zl_12, zj_12, zl_15, zj_15, zl_16, zj_16, zl_20, zj_20, zl_24, zj_24, zl_29, zj_29, zl_30, zj_30, zl_31, zj_31, zl_32, zj_32, zl_40, zj_40, zl_48, zj_48, zl_57, zj_57, zl_59, zj_59, zl_60, zj_60, zl_63, zj_63, zl_99, zj_99, zl_100, zj_100, zl_126, zj_126, zl_144, zj_144, zl_200, zj_200, zl_240, zj_240, zl_255, zj_255, zl_256, zj_256, zl_999, zj_999, zl_1000, zj_1000, zlm_1, zjm_1, zlm_2, zjm_2, zlm_3, zjm_3, zlm_4, zjm_4, zlm_11, zjm_11, zlm_12, zjm_12, zlm_13, zjm_13, zlm_14, zjm_14, zlm_20, zjm_20, zlm_10001, zjm_10001, zlm_10002, zjm_10002, zb_0, (eq_true (by rw [nI_toInt (by omega)]; omega) : (0 ≤ (nI h).toInt ∧ (nI h).toInt ≤ 7) = True), (eq_true (by rw [nI_toInt (by omega)]; omega) : (0 ≤ (nI m).toInt ∧ (nI m).toInt ≤ 29) = True), eq_true hz, and_self, and_true, true_and, if_true, if_false, not_true, not_false_iff, not_true_eq_false, not_false_eq_true, ite_true, ite_false, az_call (s_X11_findTrue hh hL hB hC hs hr), az_uI_at, az_uL_at, Nat.reduceEqDiff, false_and, and_false, and_self, if_true, if_false, ite_true, ite_false, zR_at, f, hr]
  cases hz : zTb I h m nl
  · simp
  · by_cases g : z = 0 <;> simp [g]
end S
theorem op_out (x y : Int32) : zOp 109 181 [.int x, .int y] := by
  refine zOp_of (fun I L hI => ?_)
  obtain ⟨t, e, nl, nr, n, c, w, hG⟩ := zInv_G hI
  by_cases hb : (0 ≤ x.toInt ∧ x.toInt ≤ 7) ∧ (0 ≤ y.toInt ∧ y.toInt ≤ 29)
  · obtain ⟨h1, h2⟩ := hb
    obtain ⟨h, hh, rfl⟩ := znat h1.1 (n := 7) h1.2 (by decide)
    obtain ⟨m, hm, rfl⟩ := znat h2.1 (n := 29) h2.2 (by decide)
    refine ⟨_, zE_D (s_X10_out (d := 3) hG (by omega) (by omega)) zOS_fr, fun J M f => ?_⟩
    rw [← zOA_fr f (by omega) hG.2.2.2.1.2.2.2.2.2.1]
    exact zE_D (s_X11_out (d := 3) (hG.fr f) (by omega) (by omega)) zOM_fr
  · exact ⟨_, zE_D (s_X10_out_bad (d := 3) hb) zFr.rf, fun J M f => zE_D (s_X11_out_bad (d := 3) hb) zFr.rf⟩
theorem op_truth (x y z : Int32) : zOp 108 179 [.int x, .int y, .int z] := by
  refine zOp_of (fun I L hI => ?_)
  obtain ⟨t, e, nl, nr, n, c, w, hG⟩ := zInv_G hI
  by_cases hb : (0 ≤ x.toInt ∧ x.toInt ≤ 7) ∧ (0 ≤ y.toInt ∧ y.toInt ≤ 29) ∧ (0 ≤ z.toInt ∧ z.toInt ≤ 1)
  · obtain ⟨h1, h2, h3⟩ := hb
    obtain ⟨h, hh, rfl⟩ := znat h1.1 (n := 7) h1.2 (by decide)
    obtain ⟨m, hm, rfl⟩ := znat h2.1 (n := 29) h2.2 (by decide)
    refine ⟨_, s_X10_truth (d := 3) hG (by omega) (by omega) h3, fun J M f => ?_⟩
    have := s_X11_truth (d := 3) (L := M) (hG.fr f) (h := h) (m := m) (by omega) (by omega) h3
    rw [zTb_fr (f.rw 57 (by omega)) (f.rw 58 (by omega)), zTl_fr (f.rw 57 (by omega)) (f.rw 58 (by omega)) (f.rw 59 (by omega)), zTh_fr (f.rw 57 (by omega)) (f.rw 58 (by omega)) (f.rw 59 (by omega)), zrl_fr (f.rw 37 (by omega)) (fun k hk => f.rw (39 + k) (by omega)) e hG.2.2.2.1.2.2.2.2.2.1] at this
    exact this
  · exact ⟨_, zE_D (s_X10_truth_bad (d := 3) hb) zFr.rf, fun J M f => zE_D (s_X11_truth_bad (d := 3) hb) zFr.rf⟩
