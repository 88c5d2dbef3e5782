section S
variable {d : Nat} {I : Nat → Nat → Int32} {L : Nat → Nat → Int64} {h : az_H}
abbrev zPl (x y z : Int32) : Prop := (1 ≤ x.toInt ∧ x.toInt ≤ 4) ∧ (0 ≤ y.toInt ∧ y.toInt ≤ 29) ∧ (0 ≤ z.toInt ∧ z.toInt ≤ 29) ∧ y.toInt ≤ z.toInt
theorem s_X10_best_bad {x y z : Int32} (hb : ¬ ((1 ≤ x.toInt ∧ x.toInt ≤ 4) ∧ (0 ≤ y.toInt ∧ y.toInt ≤ 29) ∧ (0 ≤ z.toInt ∧ z.toInt ≤ 29) ∧ y.toInt ≤ z.toInt)) : zD (d + 7) 124 [.ref 0, .int x, .int y, .int z] h (some (.int (-1))) h := by
  refine zD_of zm_X10_best rfl ?_
  show az_W _ _ _ 0 [.ref 0, .int x, .int y, .int z] [] _
  simp only [u_X10_best_0, u_X10_best_1, u_X10_best_2, u_X10_best_3, u_X10_best_6, u_X10_best_9, u_X10_best_10, u_X10_best_11, u_X10_best_12, u_X10_best_15, u_X10_best_16, u_X10_best_17, u_X10_best_18, u_X10_best_19, u_X10_best_22, u_X10_best_25, az_un_i, az_un_r, az_un_n, az_un_l, Option.toList_some, Option.toList_none, List.cons_append, List.nil_append, List.length_cons, List.length_nil, Nat.reduceLeDiff, Nat.reduceAdd, Nat.zero_le, Nat.zero_add, and_true, true_and, zb_1, eq_self, az_call s_X10_isPlan, zb_0, eq_false hb, and_self, and_true, true_and, if_true, if_false, not_true, not_false_iff, not_true_eq_false, not_false_eq_true, ite_true, ite_false]
theorem s_X11_best_bad {x y z : Int32} (hb : ¬ ((1 ≤ x.toInt ∧ x.toInt ≤ 4) ∧ (0 ≤ y.toInt ∧ y.toInt ≤ 29) ∧ (0 ≤ z.toInt ∧ z.toInt ≤ 29) ∧ y.toInt ≤ z.toInt)) : zD (d + 7) 202 [.ref 97, .int x, .int y, .int z] h (some (.int (-1))) h := by
  refine zD_of zm_X11_best rfl ?_
  show az_W _ _ _ 0 [.ref 97, .int x, .int y, .int z] [] _
  simp only [u_X11_best_0, u_X11_best_1, u_X11_best_2, u_X11_best_3, u_X11_best_6, u_X11_best_9, u_X11_best_10, u_X11_best_11, u_X11_best_12, u_X11_best_13, u_X11_best_16, u_X11_best_19, u_X11_best_20, az_un_i, az_un_r, az_un_n, az_un_l, Option.toList_some, Option.toList_none, List.cons_append, List.nil_append, List.length_cons, List.length_nil, Nat.reduceLeDiff, Nat.reduceAdd, Nat.zero_le, Nat.zero_add, and_true, true_and, zb_1, eq_self, az_call s_X11_isPlan, zb_0, eq_false hb, and_self, and_true, true_and, if_true, if_false, not_true, not_false_iff, not_true_eq_false, not_false_eq_true, ite_true, ite_false]
theorem s_X10_worst_bad {x y z u : Int32} (hb : ¬ ((((1 ≤ x.toInt ∧ x.toInt ≤ 4) ∧ (0 ≤ y.toInt ∧ y.toInt ≤ 29) ∧ (0 ≤ z.toInt ∧ z.toInt ≤ 29) ∧ y.toInt ≤ z.toInt)) ∧ (0 ≤ u.toInt ∧ u.toInt ≤ 1))) : zD (d + 7) 125 [.ref 0, .int x, .int y, .int z, .int u] (130, az_Pf, I, L) (some (.long (-1099511627777))) (130, az_Pf, I, L) := by
  refine zD_of zm_X10_worst rfl ?_
  show az_W _ _ _ 0 [.ref 0, .int x, .int y, .int z, .int u] [] _
  simp only [u_X10_worst_0, u_X10_worst_1, u_X10_worst_2, u_X10_worst_3, u_X10_worst_6, u_X10_worst_9, u_X10_worst_11, u_X10_worst_14, u_X10_worst_17, u_X10_worst_20, u_X10_worst_21, u_X10_worst_22, u_X10_worst_25, u_X10_worst_26, u_X10_worst_27, u_X10_worst_28, u_X10_worst_29, u_X10_worst_32, u_X10_worst_35, u_X10_worst_37, u_X10_worst_40, u_X10_worst_43, u_X10_worst_46, u_X10_worst_47, u_X10_worst_50, u_X10_worst_52, u_X10_worst_55, az_un_i, az_un_r, az_un_n, az_un_l, Option.toList_some, Option.toList_none, List.cons_append, List.nil_append, List.length_cons, List.length_nil, Nat.reduceLeDiff, Nat.reduceAdd, Nat.zero_le, Nat.zero_add, and_true, true_and, zb_1, eq_self, zb_0, az_call s_X10_isPlan, az_call s_X10_isBit]
  by_cases h1 : ((1 ≤ x.toInt ∧ x.toInt ≤ 4) ∧ (0 ≤ y.toInt ∧ y.toInt ≤ 29) ∧ (0 ≤ z.toInt ∧ z.toInt ≤ 29) ∧ y.toInt ≤ z.toInt) <;> by_cases h2 : 0 ≤ u.toInt ∧ u.toInt ≤ 1 <;> simp only [h1, h2, and_self, and_true, true_and, if_true, if_false, not_true, not_false_iff, not_true_eq_false, not_false_eq_true, ite_true, ite_false]
  exact absurd ⟨h1, h2⟩ hb
theorem s_X11_worst_bad {x y z u : Int32} (hb : ¬ ((((1 ≤ x.toInt ∧ x.toInt ≤ 4) ∧ (0 ≤ y.toInt ∧ y.toInt ≤ 29) ∧ (0 ≤ z.toInt ∧ z.toInt ≤ 29) ∧ y.toInt ≤ z.toInt)) ∧ (0 ≤ u.toInt ∧ u.toInt ≤ 1))) : zD (d + 7) 203 [.ref 97, .int x, .int y, .int z, .int u] (130, az_Pf, I, L) (some (.long (-1099511627777))) (130, az_Pf, I, L) := by
  refine zD_of zm_X11_worst rfl ?_
  show az_W _ _ _ 0 [.ref 97, .int x, .int y, .int z, .int u] [] _
  simp only [u_X11_worst_0, u_X11_worst_1, u_X11_worst_2, u_X11_worst_3, u_X11_worst_6, u_X11_worst_9, u_X11_worst_11, u_X11_worst_14, u_X11_worst_17, u_X11_worst_20, u_X11_worst_21, u_X11_worst_22, u_X11_worst_23, u_X11_worst_24, u_X11_worst_25, u_X11_worst_28, u_X11_worst_31, u_X11_worst_34, u_X11_worst_37, u_X11_worst_38, u_X11_worst_41, u_X11_worst_42, u_X11_worst_43, u_X11_worst_46, u_X11_worst_47, u_X11_worst_49, u_X11_worst_52, az_un_i, az_un_r, az_un_n, az_un_l, Option.toList_some, Option.toList_none, List.cons_append, List.nil_append, List.length_cons, List.length_nil, Nat.reduceLeDiff, Nat.reduceAdd, Nat.zero_le, Nat.zero_add, and_true, true_and, zb_1, eq_self, zb_0, az_call s_X11_isPlan, az_call s_X11_isWhat]
  by_cases h1 : ((1 ≤ x.toInt ∧ x.toInt ≤ 4) ∧ (0 ≤ y.toInt ∧ y.toInt ≤ 29) ∧ (0 ≤ z.toInt ∧ z.toInt ≤ 29) ∧ y.toInt ≤ z.toInt) <;> by_cases h2 : 0 ≤ u.toInt ∧ u.toInt ≤ 1 <;> simp only [h1, h2, and_self, and_true, true_and, if_true, if_false, not_true, not_false_iff, not_true_eq_false, not_false_eq_true, ite_true, ite_false]
  exact absurd ⟨h1, h2⟩ hb
theorem zPl_n {g f0 t0 : Nat} (hg1 : 1 ≤ g) (hg : g ≤ 4) (hf : f0 ≤ t0) (ht : t0 < 30) : ((1 ≤ (nI g).toInt ∧ (nI g).toInt ≤ 4) ∧ (0 ≤ (nI f0).toInt ∧ (nI f0).toInt ≤ 29) ∧ (0 ≤ (nI t0).toInt ∧ (nI t0).toInt ≤ 29) ∧ (nI f0).toInt ≤ (nI t0).toInt) = True := eq_true (by
  rw [nI_toInt (show g < 2 ^ 31 by omega), nI_toInt (show f0 < 2 ^ 31 by omega), nI_toInt (show t0 < 2 ^ 31 by omega)]; omega)
/-- the answers of best and worst -/
def zBe (I : Nat → Nat → Int32) (e g f0 t0 : Nat) : Option Nat × Int × Nat := zbc (fun c => zgm I e g c f0 (t0 + 1 - f0)) 4
theorem zBe_fr {J : Nat → Nat → Int32} (f : zFr I J) {e g f0 t0 : Nat} (he : e ≤ 4) (hf : f0 ≤ t0) (ht : t0 < 30) : zBe J e g f0 t0 = zBe I e g f0 t0 := by
  unfold zBe
  rw [show (fun c => zgm J e g c f0 (t0 + 1 - f0)) = fun c => zgm I e g c f0 (t0 + 1 - f0) from funext fun c => zgm_fr f he _ (by omega)]
theorem s_X10_best {g f0 t0 t e nl nr n cc w : Nat} (hG : zG I t e nl nr n cc w) (hg1 : 1 ≤ g) (hg : g ≤ 4) (hf0 : f0 ≤ t0) (ht : t0 < 30) : zE (d + 7) 124 [.ref 0, .int (nI g), .int (nI f0), .int (nI t0)] I L (some (.int (zfd (zBe I e g f0 t0).1))) (fun J _ => zFr I J) := by
  refine zE_of zm_X10_best rfl ?_
  show az_W _ _ _ 0 [.ref 0, .int (nI g), .int (nI f0), .int (nI t0)] [] _
  obtain ⟨J, L', c1, q1, q2⟩ := s_X5_bestCut (d := d) (L := L) (f := 94) hG hg hf0 ht kx_94 (by decide) (by decide) (by decide) (by decide)
  rw [show zbc (fun c => zgm I e g c f0 (t0 + 1 - f0)) 4 = zBe I e g f0 t0 from rfl] at c1 q2
  obtain ⟨X, eX⟩ : ∃ X, X = zBe I e g f0 t0 := ⟨_, rfl⟩
  rw [← eX] at c1 ⊢
  simp only [u_X10_best_0, u_X10_best_1, u_X10_best_2, u_X10_best_3, u_X10_best_6, u_X10_best_9, u_X10_best_10, u_X10_best_11, u_X10_best_12, u_X10_best_15, u_X10_best_16, u_X10_best_17, u_X10_best_18, u_X10_best_19, u_X10_best_22, u_X10_best_25, az_un_i, az_un_r, az_un_n, az_un_l, Option.toList_some, Option.toList_none, List.cons_append, List.nil_append, List.length_cons, List.length_nil, Nat.reduceLeDiff, Nat.reduceAdd, Nat.zero_le, Nat.zero_add, and_true, true_and, zb_1, eq_self, az_call s_X10_isPlan, zb_0, zPl_n hg1 hg hf0 ht, and_self, and_true, true_and, if_true, if_false, not_true, not_false_iff, not_true_eq_false, not_false_eq_true, ite_true, ite_false, kx_94, az_call c1, zR_at]
  exact q1
theorem s_X11_best {g f0 t0 t e nl nr n cc w : Nat} (hG : zG I t e nl nr n cc w) (hg1 : 1 ≤ g) (hg : g ≤ 4) (hf0 : f0 ≤ t0) (ht : t0 < 30) : zE (d + 7) 202 [.ref 97, .int (nI g), .int (nI f0), .int (nI t0)] I L (some (.int (zfd (zBe I e g f0 t0).1))) (fun J _ => zFr I J) := by
  refine zE_of zm_X11_best rfl ?_
  show az_W _ _ _ 0 [.ref 97, .int (nI g), .int (nI f0), .int (nI t0)] [] _
  obtain ⟨J, L', c1, q1, q2⟩ := s_X11_findBest (d := d + 2) (L := L) hG hg1 hg hf0 ht
  rw [show zbc (fun c => zgm I e g c f0 (t0 + 1 - f0)) 4 = zBe I e g f0 t0 from rfl] at c1 q2
  obtain ⟨X, eX⟩ : ∃ X, X = zBe I e g f0 t0 := ⟨_, rfl⟩
  rw [← eX] at c1 ⊢
  simp only [u_X11_best_0, u_X11_best_1, u_X11_best_2, u_X11_best_3, u_X11_best_6, u_X11_best_9, u_X11_best_10, u_X11_best_11, u_X11_best_12, u_X11_best_13, u_X11_best_16, u_X11_best_19, u_X11_best_20, az_un_i, az_un_r, az_un_n, az_un_l, Option.toList_some, Option.toList_none, List.cons_append, List.nil_append, List.length_cons, List.length_nil, Nat.reduceLeDiff, Nat.reduceAdd, Nat.zero_le, Nat.zero_add, and_true, true_and, zb_1, eq_self, az_call s_X11_isPlan, zb_0, zPl_n hg1 hg hf0 ht, and_self, and_true, true_and, if_true, if_false, not_true, not_false_iff, not_true_eq_false, not_false_eq_true, ite_true, ite_false, az_call c1, zR_at]
  exact q1
def zWo (X : Option Nat × Int × Nat) (x : Int32) : Int64 := if X.1 = none then -1099511627780 else zfP X.2.1 X.2.2 x
theorem s_X10_worst {g f0 t0 t e nl nr n cc w : Nat} {x : Int32} (hG : zG I t e nl nr n cc w) (hg1 : 1 ≤ g) (hg : g ≤ 4) (hf0 : f0 ≤ t0) (ht : t0 < 30) (hx : 0 ≤ x.toInt ∧ x.toInt ≤ 1) : zE (d + 7) 125 [.ref 0, .int (nI g), .int (nI f0), .int (nI t0), .int x] I L (some (.long (zWo (zBe I e g f0 t0) x))) (fun J _ => zFr I J) := by
  refine zE_of zm_X10_worst rfl ?_
  show az_W _ _ _ 0 [.ref 0, .int (nI g), .int (nI f0), .int (nI t0), .int x] [] _
  obtain ⟨J, L', c1, q1, q2⟩ := s_X5_bestCut (d := d) (L := L) (f := 94) hG hg hf0 ht kx_94 (by decide) (by decide) (by decide) (by decide)
  have rr := fun j => zbc_r (G := fun c => zgm I e g c f0 (t0 + 1 - f0)) 4 j
  rw [show zbc (fun c => zgm I e g c f0 (t0 + 1 - f0)) 4 = zBe I e g f0 t0 from rfl] at c1 q2 rr
  obtain ⟨X, eX⟩ : ∃ X, X = zBe I e g f0 t0 := ⟨_, rfl⟩
  rw [← eX] at c1 q2 rr ⊢
  simp only [u_X10_worst_0, u_X10_worst_1, u_X10_worst_2, u_X10_worst_3, u_X10_worst_6, u_X10_worst_9, u_X10_worst_11, u_X10_worst_14, u_X10_worst_17, u_X10_worst_20, u_X10_worst_21, u_X10_worst_22, u_X10_worst_25, u_X10_worst_26, u_X10_worst_27, u_X10_worst_28, u_X10_worst_29, u_X10_worst_32, u_X10_worst_35, u_X10_worst_37, u_X10_worst_40, u_X10_worst_43, u_X10_worst_46, u_X10_worst_47, u_X10_worst_50, u_X10_worst_52, u_X10_worst_55, az_un_i, az_un_r, az_un_n, az_un_l, Option.toList_some, Option.toList_none, List.cons_append, List.nil_append, List.length_cons, List.length_nil, Nat.reduceLeDiff, Nat.reduceAdd, Nat.zero_le, Nat.zero_add, and_true, true_and, zb_1, eq_self, az_call s_X10_isPlan, az_call s_X10_isBit, zb_0, zPl_n hg1 hg hf0 ht, eq_true hx, and_self, and_true, true_and, if_true, if_false, not_true, not_false_iff, not_true_eq_false, not_false_eq_true, ite_true, ite_false, kx_94, az_call c1, az_call (s_X2_part kx_94), zR_at]
  unfold zWo
  cases hX : X.1 with
  | none =>
    rw [if_pos (show zfd none = -4 from rfl), if_pos rfl]
    exact ⟨rfl, q1⟩
  | some j =>
    have hj := rr j hX
    have n4' : ¬ zfd (some j) = -4 := fun z => by
      have := congrArg Int32.toInt (show nI j = -4 from z)
      rw [nI_toInt (by omega)] at this
      simp at this
    rw [if_neg n4', zFc_p (q2 (by rw [hX]; simp)), if_neg (show ¬ some j = none from fun q => by cases q)]
    exact ⟨rfl, q1⟩
theorem s_X11_worst {g f0 t0 t e nl nr n cc w : Nat} {x : Int32} (hG : zG I t e nl nr n cc w) (hg1 : 1 ≤ g) (hg : g ≤ 4) (hf0 : f0 ≤ t0) (ht : t0 < 30) (hx : 0 ≤ x.toInt ∧ x.toInt ≤ 1) : zE (d + 7) 203 [.ref 97, .int (nI g), .int (nI f0), .int (nI t0), .int x] I L (some (.long (zWo (zBe I e g f0 t0) x))) (fun J _ => zFr I J) := by
  refine zE_of zm_X11_worst rfl ?_
  show az_W _ _ _ 0 [.ref 97, .int (nI g), .int (nI f0), .int (nI t0), .int x] [] _
  obtain ⟨J, L', c1, q1, q2⟩ := s_X11_findBest (d := d + 2) (L := L) hG hg1 hg hf0 ht
  have rr := fun j => zbc_r (G := fun c => zgm I e g c f0 (t0 + 1 - f0)) 4 j
  have bX := zbc_b (G := fun c => zgm I e g c f0 (t0 + 1 - f0)) (fun c => zgm_b hG _ (by omega)) 4
  rw [show zbc (fun c => zgm I e g c f0 (t0 + 1 - f0)) 4 = zBe I e g f0 t0 from rfl] at c1 q2 rr bX
  obtain ⟨X, eX⟩ : ∃ X, X = zBe I e g f0 t0 := ⟨_, rfl⟩
  rw [← eX] at c1 q2 rr bX ⊢
  simp only [u_X11_worst_0, u_X11_worst_1, u_X11_worst_2, u_X11_worst_3, u_X11_worst_6, u_X11_worst_9, u_X11_worst_11, u_X11_worst_14, u_X11_worst_17, u_X11_worst_20, u_X11_worst_21, u_X11_worst_22, u_X11_worst_23, u_X11_worst_24, u_X11_worst_25, u_X11_worst_28, u_X11_worst_31, u_X11_worst_34, u_X11_worst_37, u_X11_worst_38, u_X11_worst_41, u_X11_worst_42, u_X11_worst_43, u_X11_worst_46, u_X11_worst_47, u_X11_worst_49, u_X11_worst_52, az_un_i, az_un_r, az_un_n, az_un_l, Option.toList_some, Option.toList_none, List.cons_append, List.nil_append, List.length_cons, List.length_nil, Nat.reduceLeDiff, Nat.reduceAdd, Nat.zero_le, Nat.zero_add, and_true, true_and, zb_1, eq_self, az_call s_X11_isPlan, az_call s_X11_isWhat, zb_0, zPl_n hg1 hg hf0 ht, eq_true hx, and_self, and_true, true_and, if_true, if_false, not_true, not_false_iff, not_true_eq_false, not_false_eq_true, ite_true, ite_false, az_call c1]
  unfold zWo
  cases hX : X.1 with
  | none =>
    rw [if_neg (show ¬ (0 : Int32) ≤ zfd none by decide), if_pos rfl, zR_at]
    exact ⟨rfl, q1⟩
  | some j =>
    have hj := rr j hX
    have n4' : (0 : Int32) ≤ zfd (some j) := nI_pos' (n := j) (by omega)
    obtain ⟨ba, bb, v1, v2, v3, v4, v5, v6, v7⟩ := q2 (by rw [hX]; simp)
    have hb := s_X11_told (d := d + 4) (h := (130, az_Pf, J, L')) (B := bb) (a := (J 97 45).toInt64) (b := (nI bb).toInt64) (A := ba) (x := x) (by rw [z64]; exact v1) (zil (by omega)) (by omega) (by omega) v3 (by omega)
    rw [zfP_e v3 bX.1 v7] at hb
    rw [if_pos n4', if_neg (show ¬ some j = none from fun q => by cases q), v2]
    simp only [az_call hb, u_X11_worst_49, u_X11_worst_52, az_un_i, az_un_r, az_un_n, az_un_l, Option.toList_some, Option.toList_none, List.cons_append, List.nil_append, List.length_cons, List.length_nil, Nat.reduceLeDiff, Nat.reduceAdd, Nat.zero_le, Nat.zero_add, and_true, true_and, zb_1, eq_self, zR_at]
    exact q1
end S
theorem op_best (x y z : Int32) : zOp 124 202 [.int x, .int y, .int z] := by
  refine zOp_of (fun I L hI => ?_)
  obtain ⟨t, e, nl, nr, n, cc, w, hG⟩ := zInv_G hI
  by_cases hb : (1 ≤ x.toInt ∧ x.toInt ≤ 4) ∧ (0 ≤ y.toInt ∧ y.toInt ≤ 29) ∧ (0 ≤ z.toInt ∧ z.toInt ≤ 29) ∧ y.toInt ≤ z.toInt
  · obtain ⟨h0, h1, h2, h3⟩ := hb
    obtain ⟨g, hg, rfl⟩ := znat (show 0 ≤ x.toInt by omega) (n := 4) h0.2 (by decide)
    rw [nI_toInt (by omega)] at h0
    obtain ⟨f0, hf, rfl⟩ := znat h1.1 (n := 29) h1.2 (by decide)
    obtain ⟨t0, ht, rfl⟩ := znat h2.1 (n := 29) h2.2 (by decide)
    rw [nI_toInt (by omega), nI_toInt (by omega)] at h3
    refine ⟨_, s_X10_best (d := 2) hG (by omega) hg (by omega) (by omega), fun J M f => ?_⟩
    rw [← zBe_fr f hG.2.2.2.1.2.2.2.2.2.1 (by omega) (by omega)]
    exact s_X11_best (d := 2) (hG.fr f) (by omega) hg (by omega) (by omega)
  · exact ⟨_, zE_D (s_X10_best_bad (d := 2) hb) zFr.rf, fun J M f => zE_D (s_X11_best_bad (d := 2) hb) zFr.rf⟩
theorem op_worst (x y z u : Int32) : zOpL 125 203 [.int x, .int y, .int z, .int u] := by
  refine zOpL_of (fun I L hI => ?_)
  obtain ⟨t, e, nl, nr, n, cc, w, hG⟩ := zInv_G hI
  by_cases hb : ((1 ≤ x.toInt ∧ x.toInt ≤ 4) ∧ (0 ≤ y.toInt ∧ y.toInt ≤ 29) ∧ (0 ≤ z.toInt ∧ z.toInt ≤ 29) ∧ y.toInt ≤ z.toInt) ∧ (0 ≤ u.toInt ∧ u.toInt ≤ 1)
  · obtain ⟨⟨h0, h1, h2, h3⟩, h4⟩ := hb
    obtain ⟨g, hg, rfl⟩ := znat (show 0 ≤ x.toInt by omega) (n := 4) h0.2 (by decide)
    rw [nI_toInt (by omega)] at h0
    obtain ⟨f0, hf, rfl⟩ := znat h1.1 (n := 29) h1.2 (by decide)
    obtain ⟨t0, ht, rfl⟩ := znat h2.1 (n := 29) h2.2 (by decide)
    rw [nI_toInt (by omega), nI_toInt (by omega)] at h3
    refine ⟨_, s_X10_worst (d := 2) hG (by omega) hg (by omega) (by omega) h4, fun J M f => ?_⟩
    rw [← zBe_fr f hG.2.2.2.1.2.2.2.2.2.1 (by omega) (by omega)]
    exact s_X11_worst (d := 2) (hG.fr f) (by omega) hg (by omega) (by omega) h4
  · exact ⟨_, zE_D (s_X10_worst_bad (d := 2) hb) zFr.rf, fun J M f => zE_D (s_X11_worst_bad (d := 2) hb) zFr.rf⟩
