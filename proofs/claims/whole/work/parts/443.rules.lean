/-! ===== rules ===== -/
/-- the ints but for what an edition changes in the class, in the reference -/
def zFe (e : Nat) (I J : Nat → Nat → Int32) : Prop := ∀ b j, ¬ (b = 43 ∨ (b = 35 ∧ (j = 6 ∨ j = 1 ∨ j = 4)) ∨ b = 37 ∨ b = 39 + e) → J b j = I b j
def zFf (I J : Nat → Nat → Int32) : Prop := ∀ b j, ¬ (b = 102 ∨ (b = 97 ∧ (j = 3 ∨ j = 2 ∨ j = 4)) ∨ b = 100 ∨ b = 101) → J b j = I b j
section S
variable {d : Nat} {I : Nat → Nat → Int32} {L : Nat → Nat → Int64} {h : az_H}
theorem s_X6_addEdition {A : Nat → Int32} {t e : Nat} {D : Nat → Nat} {x : Int32} (hDr : zDr D) (hr : ∀ k, k < t → 32 ≤ (A k).toInt ∧ (A k).toInt ≤ 126) (hA : I 36 = A) (ht : t ≤ 40) (e1 : I 35 1 = nI t) (he : e ≤ 4) (e4 : I 35 4 = nI e) (hD0 : e = 0 → ∀ w, w < 3 → az_sc 9000 w = nI (D w)) (hD1 : ∀ k, e = k + 1 → ∀ w, w < 3 → I (39 + k) w = nI (D w)) : zE (d + 5) 59 [.ref 35, .int x] I L (some (.int (if (zqt A t 5 0 D).1 = true then (if e = 4 then -3 else nI e) else -20 - nI (zqt A t 5 0 D).2.1))) (fun J L' => zFe e I J ∧ J 35 1 = 0 ∧ (if (zqt A t 5 0 D).1 = true ∧ e < 4 then J 35 4 = nI (e + 1) ∧ J 37 = zup (I 37) e x ∧ (∀ w, w < 3 → J (39 + e) w = nI ((zqt A t 5 0 D).2.2 w)) else J 35 4 = nI e ∧ J 37 = I 37 ∧ (e < 4 → J (39 + e) = I (39 + e)))) := by
  refine zE_of zm_X6_addEdition rfl ?_
  show az_W _ _ _ 0 [.ref 35, .int x, .null, .null] [] _
  obtain ⟨J, L', c1, q0, f, q2⟩ := s_X6_readTape (d := d) (I := I) (L := L) hr hA ht e1 he e4 hD0 hD1
  subst q0
  have b := (zqt_b (A := A) (t := t) 5 0 D (Nat.zero_le _) hDr)
  obtain ⟨O, eO⟩ : ∃ O, O = zqt A t 5 0 D := ⟨_, rfl⟩
  rw [← eO] at c1 q2 b ⊢
  have j4 : J 35 4 = nI e := by rw [f 35 4 (by decide) (by omega)]; exact e4
  have f0 : ∀ b j, ¬ (b = 43 ∨ (b = 35 ∧ (j = 6 ∨ j = 1))) → az_uI J 35 1 0 b j = I b j := fun b j hz => by
    rw [az_uI_at, if_neg (by omega)]; exact f b j (by omega) (by omega)
  have fe : zFe e I (az_uI J 35 1 0) := fun b j hz => f0 b j (by omega)
  have j37 : az_uI J 35 1 0 37 = I 37 := funext fun j => f0 37 j (by omega)
  have j39 : e < 4 → az_uI J 35 1 0 (39 + e) = I (39 + e) := fun h4 => funext fun j => f0 _ j (by omega)
  have j36 : az_uI J 35 1 0 35 4 = nI e := by simp only [az_uI_at, az_uL_at, Nat.reduceEqDiff, false_and, and_false, and_self, if_true, if_false, ite_true, ite_false]; exact j4
  have j1 : az_uI J 35 1 0 35 1 = 0 := by simp only [az_uI_at, az_uL_at, Nat.reduceEqDiff, false_and, and_false, and_self, if_true, if_false, ite_true, ite_false]
  have j43 : ∀ j, az_uI J 35 1 0 43 j = J 43 j := fun j => by simp only [az_uI_at, az_uL_at, Nat.reduceEqDiff, false_and, and_false, and_self, if_true, if_false, ite_true, ite_false]
  simp only [u_X6_addEdition_0, u_X6_addEdition_1, u_X6_addEdition_4, u_X6_addEdition_5, u_X6_addEdition_6, u_X6_addEdition_7, u_X6_addEdition_10, u_X6_addEdition_11, u_X6_addEdition_14, u_X6_addEdition_15, az_un_i, az_un_r, az_un_n, az_un_l, Option.toList_some, Option.toList_none, List.cons_append, List.nil_append, List.length_cons, List.length_nil, Nat.reduceLeDiff, Nat.reduceAdd, Nat.zero_le, Nat.zero_add, and_true, true_and, zb_1, eq_self, az_call c1]
  generalize az_uI J 35 1 0 = K at *
  cases hz : O.1
  · simp only [zqr, Bool.false_eq_true, if_false, zqr_n (show O.2.1 ≤ 40 by omega), u_X6_addEdition_0, u_X6_addEdition_1, u_X6_addEdition_4, u_X6_addEdition_5, u_X6_addEdition_6, u_X6_addEdition_7, u_X6_addEdition_10, u_X6_addEdition_11, u_X6_addEdition_14, u_X6_addEdition_15, az_un_i, az_un_r, az_un_n, az_un_l, Option.toList_some, Option.toList_none, List.cons_append, List.nil_append, List.length_cons, List.length_nil, Nat.reduceLeDiff, Nat.reduceAdd, Nat.zero_le, Nat.zero_add, and_true, true_and, zb_1, eq_self, zR_at, false_and]
    exact ⟨fe, j1, j36, j37, j39⟩
  · have q2 := q2 hz
    simp only [zqr, if_true, u_X6_addEdition_16, u_X6_addEdition_17, u_X6_addEdition_20, u_X6_addEdition_21, u_X6_addEdition_24, u_X6_addEdition_26, az_un_i, az_un_r, az_un_n, az_un_l, Option.toList_some, Option.toList_none, List.cons_append, List.nil_append, List.length_cons, List.length_nil, Nat.reduceLeDiff, Nat.reduceAdd, Nat.zero_le, Nat.zero_add, and_true, true_and, zb_1, eq_self, j36]
    by_cases g : e = 4
    · have h4 : ¬ nI e < 4 := by rw [g]; decide
      simp only [h4, if_false, zR_at, g, if_true, Nat.lt_irrefl, and_false]
      rw [g] at fe j36
      exact ⟨trivial, fe, j1, j36, j37, fun z => absurd z (by decide)⟩
    · have h4 : nI e < 4 := show nI e < nI 4 from nI_lt (by omega) (by decide)
      simp only [h4, if_true, u_X6_addEdition_27, u_X6_addEdition_28, u_X6_addEdition_31, u_X6_addEdition_32, u_X6_addEdition_35, u_X6_addEdition_36, u_X6_addEdition_37, u_X6_addEdition_38, az_un_i, az_un_r, az_un_n, az_un_l, Option.toList_some, Option.toList_none, List.cons_append, List.nil_append, List.length_cons, List.length_nil, Nat.reduceLeDiff, Nat.reduceAdd, Nat.zero_le, Nat.zero_add, and_true, true_and, zb_1, eq_self, j36, kx_37, zinT (show e < 4 by omega) (by decide), zcl (show e < 4 by omega) (by decide)]
      refine zloop (P := fun k => ∀ K', zFe e I K' → K' 35 1 = 0 → K' 35 4 = nI e → K' 37 = zup (I 37) e x → (∀ j, K' 43 j = J 43 j) → (∀ w, w < k → K' (39 + e) w = nI (O.2.2 w)) → az_W (zD (d + 4)) _ _ 39 [.ref 35, .int x, .int 0, .int (nI k)] [] (130, az_Pf, K', L')) 3 (fun k hk ih K' a1 a2 a3 a4 a5 a6 => ?_) (fun K' a1 a2 a3 a4 a5 a6 => ?_) 0 (Nat.zero_le _) _ (fun b j hz => by rw [zu_ne (by omega)]; exact fe b j hz) (by simp only [az_uI_at, az_uL_at, Nat.reduceEqDiff, false_and, and_false, and_self, if_true, if_false, ite_true, ite_false]; exact j1) (by simp only [az_uI_at, az_uL_at, Nat.reduceEqDiff, false_and, and_false, and_self, if_true, if_false, ite_true, ite_false]; exact j36) (by rw [← j37]; exact zup_row (fun j => by simp only [az_uI_at, true_and])) (fun j => by simp only [az_uI_at, az_uL_at, Nat.reduceEqDiff, false_and, and_false, and_self, if_true, if_false, ite_true, ite_false]; exact j43 j) (fun w hw => absurd hw (Nat.not_lt_zero _))
      · have h1 : ¬ (2 : Int32) < nI k := nI_nlt (a := 2) (show k ≤ 2 by omega) (by omega)
        simp only [u_X6_addEdition_39]
        simp only [u_X6_addEdition_40, u_X6_addEdition_41, u_X6_addEdition_44, u_X6_addEdition_45, u_X6_addEdition_48, u_X6_addEdition_49, u_X6_addEdition_52, u_X6_addEdition_53, u_X6_addEdition_54, u_X6_addEdition_55, u_X6_addEdition_58, u_X6_addEdition_59, u_X6_addEdition_60, u_X6_addEdition_61, u_X6_addEdition_64, az_un_i, az_un_r, az_un_n, az_un_l, Option.toList_some, Option.toList_none, List.cons_append, List.nil_append, List.length_cons, List.length_nil, Nat.reduceLeDiff, Nat.reduceAdd, Nat.zero_le, Nat.zero_add, and_true, true_and, zb_1, eq_self, h1, if_false, a3, kx_38, kx_43, zinT hk (by decide), zcl hk (by decide), zinT (show e < 4 by omega) (by decide), zcl (show e < 4 by omega) (by decide), pr_38 e (by omega), kr_38 e (by omega), Option.some.injEq, exists_eq_left', exists_eq_left, a5, q2 k hk]
        rw [show nI (k + 1) = nI k + 1 from nI_succ k] at ih
        refine ih (az_uI K' (39 + e) k (nI (O.2.2 k))) (fun b j hz => by rw [zu_ne (by omega)]; exact a1 b j hz) (by rw [zu_ne (by omega)]; exact a2) (by rw [zu_ne (by omega)]; exact a3) (by rw [zu_row (by omega)]; exact a4) (fun j => by rw [zu_ne (by omega)]; exact a5 j) (fun w hw => ?_)
        rw [az_uI_at]
        by_cases c : w = k
        · rw [if_pos ⟨rfl, c⟩, c]
        · rw [if_neg (fun z => c z.2)]; exact a6 w (by omega)
      · have h1 : (2 : Int32) < nI 3 := by decide
        simp only [u_X6_addEdition_39]
        simp only [u_X6_addEdition_40, u_X6_addEdition_41, u_X6_addEdition_67, u_X6_addEdition_68, u_X6_addEdition_68r, u_X6_addEdition_69, u_X6_addEdition_72, u_X6_addEdition_73, u_X6_addEdition_74, u_X6_addEdition_77, u_X6_addEdition_78, u_X6_addEdition_81, u_X6_addEdition_82, u_X6_addEdition_83, az_un_i, az_un_r, az_un_n, az_un_l, Option.toList_some, Option.toList_none, List.cons_append, List.nil_append, List.length_cons, List.length_nil, Nat.reduceLeDiff, Nat.reduceAdd, Nat.zero_le, Nat.zero_add, and_true, true_and, zb_1, eq_self, h1, if_true, a3, az_uI_at, az_uL_at, Nat.reduceEqDiff, false_and, and_false, and_self, if_true, if_false, ite_true, ite_false, nI_back, zR_at, g, if_false, show e < 4 by omega]
        refine ⟨fun b j hz => by rw [az_uI_at, if_neg (by omega)]; exact a1 b j hz, a2, by rw [nI_succ], by rw [zu_row (by omega)]; exact a4, fun w hw => by rw [if_neg (by omega)]; exact a6 w hw⟩
theorem s_X10_rules_bad {x : Int32} (hb : ¬ ((0 ≤ x.toInt ∧ x.toInt ≤ 29))) : zD (d + 7) 94 [.ref 0, .int x] (130, az_Pf, I, L) (some (.int (-1))) (130, az_Pf, I, L) := by
  refine zD_of zm_X10_rules rfl ?_
  show az_W _ _ _ 0 [.ref 0, .int x] [] _
  simp only [u_X10_rules_0, u_X10_rules_1, u_X10_rules_4, u_X10_rules_7, u_X10_rules_8, u_X10_rules_11, u_X10_rules_12, u_X10_rules_15, u_X10_rules_18, u_X10_rules_19, u_X10_rules_20, u_X10_rules_21, u_X10_rules_24, u_X10_rules_25, u_X10_rules_28, az_un_i, az_un_r, az_un_n, az_un_l, Option.toList_some, Option.toList_none, List.cons_append, List.nil_append, List.length_cons, List.length_nil, Nat.reduceLeDiff, Nat.reduceAdd, Nat.zero_le, Nat.zero_add, and_true, true_and, zb_1, eq_self, zb_0, az_call s_X10_isMorning]
  simp only [eq_false hb, and_self, and_true, true_and, if_true, if_false, not_true, not_false_iff, not_true_eq_false, not_false_eq_true, ite_true, ite_false]
theorem s_X11_rules_bad {x : Int32} (hb : ¬ ((0 ≤ x.toInt ∧ x.toInt ≤ 29))) : zD (d + 7) 153 [.ref 97, .int x] (130, az_Pf, I, L) (some (.int (-1))) (130, az_Pf, I, L) := by
  refine zD_of zm_X11_rules rfl ?_
  show az_W _ _ _ 0 [.ref 97, .int x, .null, .null] [] _
  simp only [u_X11_rules_0, u_X11_rules_1, u_X11_rules_4, u_X11_rules_7, u_X11_rules_8, u_X11_rules_11, u_X11_rules_14, u_X11_rules_15, u_X11_rules_16, u_X11_rules_19, u_X11_rules_20, u_X11_rules_23, u_X11_rules_24, u_X11_rules_25, u_X11_rules_26, u_X11_rules_29, u_X11_rules_30, u_X11_rules_31, u_X11_rules_32, u_X11_rules_35, u_X11_rules_36, u_X11_rules_37, u_X11_rules_38, u_X11_rules_41, u_X11_rules_42, u_X11_rules_45, u_X11_rules_47, u_X11_rules_48, u_X11_rules_51, u_X11_rules_52, u_X11_rules_53, u_X11_rules_54, u_X11_rules_57, u_X11_rules_58, u_X11_rules_61, u_X11_rules_63, u_X11_rules_64, u_X11_rules_65, u_X11_rules_68, u_X11_rules_69, u_X11_rules_72, u_X11_rules_73, u_X11_rules_74, u_X11_rules_75, u_X11_rules_77, u_X11_rules_78, u_X11_rules_81, u_X11_rules_82, u_X11_rules_85, u_X11_rules_86, u_X11_rules_87, u_X11_rules_90, u_X11_rules_91, u_X11_rules_92, u_X11_rules_93, u_X11_rules_94, u_X11_rules_97, u_X11_rules_98, u_X11_rules_99, u_X11_rules_100, u_X11_rules_103, u_X11_rules_106, u_X11_rules_107, u_X11_rules_107r, u_X11_rules_108, u_X11_rules_111, u_X11_rules_112, u_X11_rules_113, u_X11_rules_116, u_X11_rules_117, u_X11_rules_120, u_X11_rules_121, u_X11_rules_122, az_un_i, az_un_r, az_un_n, az_un_l, Option.toList_some, Option.toList_none, List.cons_append, List.nil_append, List.length_cons, List.length_nil, Nat.reduceLeDiff, Nat.reduceAdd, Nat.zero_le, Nat.zero_add, and_true, true_and, zb_1, eq_self, zb_0, az_call s_X11_isMorning]
  simp only [eq_false hb, and_self, and_true, true_and, if_true, if_false, not_true, not_false_iff, not_true_eq_false, not_false_eq_true, ite_true, ite_false]
/-- may an edition begin there -/
def zms1 (I : Nat → Nat → Int32) (e : Nat) (x : Int32) : Prop := ∀ q, e = q + 1 → I 37 q ≤ x
theorem s_X6_mayStart {e : Nat} {x : Int32} (he : e ≤ 4) (e4 : I 35 4 = nI e) (hs : zms1 I e x) : zD (d + 1) 58 [.ref 35, .int x] (130, az_Pf, I, L) (some (.int 1)) (130, az_Pf, I, L) := by
  refine zD_of zm_X6_mayStart rfl ?_
  show az_W _ _ _ 0 [.ref 35, .int x] [] _
  cases e with
  | zero => simp only [u_X6_mayStart_0, u_X6_mayStart_1, u_X6_mayStart_4, u_X6_mayStart_7, u_X6_mayStart_8, u_X6_mayStart_9, u_X6_mayStart_12, u_X6_mayStart_13, u_X6_mayStart_16, u_X6_mayStart_17, u_X6_mayStart_18, u_X6_mayStart_19, u_X6_mayStart_22, u_X6_mayStart_23, u_X6_mayStart_26, u_X6_mayStart_27, az_un_i, az_un_r, az_un_n, az_un_l, Option.toList_some, Option.toList_none, List.cons_append, List.nil_append, List.length_cons, List.length_nil, Nat.reduceLeDiff, Nat.reduceAdd, Nat.zero_le, Nat.zero_add, and_true, true_and, zb_1, eq_self, e4, show nI 0 = (0 : Int32) from rfl, if_true, or_true]
  | succ q =>
    have z0 : ¬ nI (q + 1) = (0 : Int32) := fun z => by
      have := (nI_eq (b := 0) (show q + 1 < 2 ^ 31 by omega) (by decide)).mp z; omega
    have h1 : ¬ x < I 37 q := Int32.not_lt.mpr (hs q rfl)
    simp only [u_X6_mayStart_0, u_X6_mayStart_1, u_X6_mayStart_4, u_X6_mayStart_7, u_X6_mayStart_8, u_X6_mayStart_9, u_X6_mayStart_12, u_X6_mayStart_13, u_X6_mayStart_16, u_X6_mayStart_17, u_X6_mayStart_18, u_X6_mayStart_19, u_X6_mayStart_22, u_X6_mayStart_23, u_X6_mayStart_26, u_X6_mayStart_27, az_un_i, az_un_r, az_un_n, az_un_l, Option.toList_some, Option.toList_none, List.cons_append, List.nil_append, List.length_cons, List.length_nil, Nat.reduceLeDiff, Nat.reduceAdd, Nat.zero_le, Nat.zero_add, and_true, true_and, zb_1, eq_self, e4, z0, if_false, zm1, kx_37, zinT (show q < 4 by omega) (by decide), zcl (show q < 4 by omega) (by decide), h1, or_true]
theorem s_X6_mayStart_n {e : Nat} {x : Int32} (he : e ≤ 4) (e4 : I 35 4 = nI e) (hs : ¬ zms1 I e x) : zD (d + 1) 58 [.ref 35, .int x] (130, az_Pf, I, L) (some (.int 0)) (130, az_Pf, I, L) := by
  refine zD_of zm_X6_mayStart rfl ?_
  show az_W _ _ _ 0 [.ref 35, .int x] [] _
  cases e with
  | zero => exact absurd (show zms1 I 0 x from fun q e => by omega) hs
  | succ q =>
    have z0 : ¬ nI (q + 1) = (0 : Int32) := fun z => by
      have := (nI_eq (b := 0) (show q + 1 < 2 ^ 31 by omega) (by decide)).mp z; omega
    have h1 : x < I 37 q := Int32.not_le.mp (fun z => hs (fun q' e => (show q' = q by omega) ▸ z))
    simp only [u_X6_mayStart_0, u_X6_mayStart_1, u_X6_mayStart_4, u_X6_mayStart_7, u_X6_mayStart_8, u_X6_mayStart_9, u_X6_mayStart_12, u_X6_mayStart_13, u_X6_mayStart_16, u_X6_mayStart_17, u_X6_mayStart_18, u_X6_mayStart_19, u_X6_mayStart_22, u_X6_mayStart_23, u_X6_mayStart_26, u_X6_mayStart_27, az_un_i, az_un_r, az_un_n, az_un_l, Option.toList_some, Option.toList_none, List.cons_append, List.nil_append, List.length_cons, List.length_nil, Nat.reduceLeDiff, Nat.reduceAdd, Nat.zero_le, Nat.zero_add, and_true, true_and, zb_1, eq_self, e4, z0, if_false, zm1, kx_37, zinT (show q < 4 by omega) (by decide), zcl (show q < 4 by omega) (by decide), h1, if_true, true_or]
theorem s_X10_rules_n {e : Nat} {x : Int32} (hx : 0 ≤ x.toInt ∧ x.toInt ≤ 29) (he : e ≤ 4) (e4 : I 35 4 = nI e) (hs : ¬ zms1 I e x) : zD (d + 7) 94 [.ref 0, .int x] (130, az_Pf, I, L) (some (.int (-1))) (130, az_Pf, I, L) := by
  refine zD_of zm_X10_rules rfl ?_
  show az_W _ _ _ 0 [.ref 0, .int x] [] _
  simp only [u_X10_rules_0, u_X10_rules_1, u_X10_rules_4, u_X10_rules_7, u_X10_rules_8, u_X10_rules_11, u_X10_rules_12, u_X10_rules_15, u_X10_rules_18, u_X10_rules_19, u_X10_rules_20, u_X10_rules_21, u_X10_rules_24, u_X10_rules_25, u_X10_rules_28, az_un_i, az_un_r, az_un_n, az_un_l, Option.toList_some, Option.toList_none, List.cons_append, List.nil_append, List.length_cons, List.length_nil, Nat.reduceLeDiff, Nat.reduceAdd, Nat.zero_le, Nat.zero_add, and_true, true_and, zb_1, eq_self, az_call s_X10_isMorning, zb_0, eq_true hx, and_self, and_true, true_and, if_true, if_false, not_true, not_false_iff, not_true_eq_false, not_false_eq_true, ite_true, ite_false, az_call (s_X6_mayStart_n he e4 hs)]
theorem s_X10_rules {e : Nat} {x r : Int32} {Q : (Nat → Nat → Int32) → (Nat → Nat → Int64) → Prop} (hx : 0 ≤ x.toInt ∧ x.toInt ≤ 29) (he : e ≤ 4) (e4 : I 35 4 = nI e) (hs : zms1 I e x) (hc : zE (d + 6) 59 [.ref 35, .int x] I L (some (.int r)) Q) : zE (d + 7) 94 [.ref 0, .int x] I L (some (.int r)) Q := by
  refine zE_of zm_X10_rules rfl ?_
  show az_W _ _ _ 0 [.ref 0, .int x] [] _
  obtain ⟨J, L', c1, q⟩ := hc
  simp only [u_X10_rules_0, u_X10_rules_1, u_X10_rules_4, u_X10_rules_7, u_X10_rules_8, u_X10_rules_11, u_X10_rules_12, u_X10_rules_15, u_X10_rules_18, u_X10_rules_19, u_X10_rules_20, u_X10_rules_21, u_X10_rules_24, u_X10_rules_25, u_X10_rules_28, az_un_i, az_un_r, az_un_n, az_un_l, Option.toList_some, Option.toList_none, List.cons_append, List.nil_append, List.length_cons, List.length_nil, Nat.reduceLeDiff, Nat.reduceAdd, Nat.zero_le, Nat.zero_add, and_true, true_and, zb_1, eq_self, az_call s_X10_isMorning, zb_0, eq_true hx, and_self, and_true, true_and, if_true, if_false, not_true, not_false_iff, not_true_eq_false, not_false_eq_true, ite_true, ite_false, az_call (s_X6_mayStart he e4 hs), z10, az_call c1, zR_at]
  exact q
theorem s_X11_rules_n {e : Nat} {x : Int32} (hx : 0 ≤ x.toInt ∧ x.toInt ≤ 29) (he : e ≤ 4) (e4 : I 97 4 = nI e) (e5 : I 37 = I 100) (hs : ¬ zms1 I e x) : zD (d + 7) 153 [.ref 97, .int x] (130, az_Pf, I, L) (some (.int (-1))) (130, az_Pf, I, L) := by
  refine zD_of zm_X11_rules rfl ?_
  show az_W _ _ _ 0 [.ref 97, .int x, .null, .null] [] _
  cases e with
  | zero => exact absurd (show zms1 I 0 x from fun q e => by omega) hs
  | succ q =>
    have z0 : ¬ nI (q + 1) ≤ (0 : Int32) := show ¬ nI (q + 1) ≤ nI 0 from nI_ge (Nat.succ_pos q) (by omega)
    have h1 : ¬ I 37 q ≤ x := fun z => hs (fun q' e => (show q' = q by omega) ▸ z)
    simp only [u_X11_rules_0, u_X11_rules_1, u_X11_rules_4, u_X11_rules_7, u_X11_rules_8, u_X11_rules_11, u_X11_rules_14, u_X11_rules_15, u_X11_rules_16, u_X11_rules_19, u_X11_rules_20, u_X11_rules_23, u_X11_rules_24, u_X11_rules_25, u_X11_rules_26, u_X11_rules_29, u_X11_rules_30, az_un_i, az_un_r, az_un_n, az_un_l, Option.toList_some, Option.toList_none, List.cons_append, List.nil_append, List.length_cons, List.length_nil, Nat.reduceLeDiff, Nat.reduceAdd, Nat.zero_le, Nat.zero_add, and_true, true_and, zb_1, eq_self, az_call s_X11_isMorning, zb_0, eq_true hx, and_self, and_true, true_and, if_true, if_false, not_true, not_false_iff, not_true_eq_false, not_false_eq_true, ite_true, ite_false, e4, z0, zm1, kx_100, zinT (show q < 4 by omega) (by decide), zcl (show q < 4 by omega) (by decide), ← e5, h1]
theorem s_X11_rules {A : Nat → Int32} {t e : Nat} {D : Nat → Nat} {x : Int32} (hx : 0 ≤ x.toInt ∧ x.toInt ≤ 29) (hs : ∀ q, e = q + 1 → I 100 q ≤ x) (hDr : zDr D) (hC : zvC I) (hr : ∀ k, k < t → 32 ≤ (A k).toInt ∧ (A k).toInt ≤ 126) (hA : I 99 = A) (ht : t ≤ 40) (e1 : I 97 2 = nI t) (he : e ≤ 4) (e4 : I 97 4 = nI e) (hD0 : e = 0 → ∀ w, w < 3 → I 105 w = nI (D w)) (hD1 : ∀ k, e = k + 1 → ∀ w, w < 3 → I 101 (3 * k + w) = nI (D w)) : zE (d + 7) 153 [.ref 97, .int x] I L (some (.int (if (zqt A t 5 0 D).1 = true then (if e = 4 then -3 else nI e) else -20 - nI (zqt A t 5 0 D).2.1))) (fun J L' => zFf I J ∧ J 97 2 = 0 ∧ (if (zqt A t 5 0 D).1 = true ∧ e < 4 then J 97 4 = nI (e + 1) ∧ J 100 = zup (I 100) e x ∧ (∀ w, w < 3 → J 101 (3 * e + w) = nI ((zqt A t 5 0 D).2.2 w)) ∧ (∀ j, j < 3 * e → J 101 j = I 101 j) else J 97 4 = nI e ∧ J 100 = I 100 ∧ J 101 = I 101)) := by
  refine zE_of zm_X11_rules rfl ?_
  show az_W _ _ _ 0 [.ref 97, .int x, .null, .null] [] _
  obtain ⟨J, L', c1, q0, f, q1, q2⟩ := s_X11_readRules (d := d + 3) (I := I) (L := L) hC hr hA ht e1 he e4 hD0 hD1
  subst q0
  have b := (zqt_b (A := A) (t := t) 5 0 D (Nat.zero_le _) hDr)
  obtain ⟨O, eO⟩ : ∃ O, O = zqt A t 5 0 D := ⟨_, rfl⟩
  rw [← eO] at c1 q1 q2 b ⊢
  have j4 : J 97 4 = nI e := by rw [f 97 4 (by decide) (by omega)]; exact e4
  have f0 : ∀ b j, ¬ (b = 102 ∨ (b = 97 ∧ (j = 3 ∨ j = 2))) → az_uI J 97 2 0 b j = I b j := fun b j hz => by
    rw [az_uI_at, if_neg (by omega)]; exact f b j (by omega) (by omega)
  have fe : zFf I (az_uI J 97 2 0) := fun b j hz => f0 b j (by omega)
  have j100 : az_uI J 97 2 0 100 = I 100 := funext fun j => f0 100 j (by omega)
  have j101 : az_uI J 97 2 0 101 = I 101 := funext fun j => f0 101 j (by omega)
  have j36 : az_uI J 97 2 0 97 4 = nI e := by simp only [az_uI_at, az_uL_at, Nat.reduceEqDiff, false_and, and_false, and_self, if_true, if_false, ite_true, ite_false]; exact j4
  have j1 : az_uI J 97 2 0 97 2 = 0 := by simp only [az_uI_at, az_uL_at, Nat.reduceEqDiff, false_and, and_false, and_self, if_true, if_false, ite_true, ite_false]
  have j3 : az_uI J 97 2 0 97 3 = J 97 3 := by simp only [az_uI_at, az_uL_at, Nat.reduceEqDiff, false_and, and_false, and_self, if_true, if_false, ite_true, ite_false]
  have j102 : ∀ j, az_uI J 97 2 0 102 j = J 102 j := fun j => by simp only [az_uI_at, az_uL_at, Nat.reduceEqDiff, false_and, and_false, and_self, if_true, if_false, ite_true, ite_false]
  have st : az_W (zD (d + 6)) (zR (some (.int (if O.1 = true then (if e = 4 then -3 else nI e) else -20 - nI O.2.1))) (fun J L'' => zFf I J ∧ J 97 2 = 0 ∧ (if O.1 = true ∧ e < 4 then J 97 4 = nI (e + 1) ∧ J 100 = zup (I 100) e x ∧ (∀ w, w < 3 → J 101 (3 * e + w) = nI (O.2.2 w)) ∧ (∀ j, j < 3 * e → J 101 j = I 101 j) else J 97 4 = nI e ∧ J 100 = I 100 ∧ J 101 = I 101))) k_X11_rules 31 [.ref 97, .int x, .null, .null] [] (130, az_Pf, I, L') := by
    simp only [u_X11_rules_31, u_X11_rules_32, u_X11_rules_35, u_X11_rules_36, u_X11_rules_37, u_X11_rules_38, u_X11_rules_41, u_X11_rules_42, az_un_i, az_un_r, az_un_n, az_un_l, Option.toList_some, Option.toList_none, List.cons_append, List.nil_append, List.length_cons, List.length_nil, Nat.reduceLeDiff, Nat.reduceAdd, Nat.zero_le, Nat.zero_add, and_true, true_and, zb_1, eq_self, az_call c1, zb_0]
    generalize az_uI J 97 2 0 = K at *
    cases hz : O.1
    · simp only [Bool.false_eq_true, not_false_eq_true, if_true, if_false, u_X11_rules_45, u_X11_rules_47, u_X11_rules_48, u_X11_rules_51, u_X11_rules_52, az_un_i, az_un_r, az_un_n, az_un_l, Option.toList_some, Option.toList_none, List.cons_append, List.nil_append, List.length_cons, List.length_nil, Nat.reduceLeDiff, Nat.reduceAdd, Nat.zero_le, Nat.zero_add, and_true, true_and, zb_1, eq_self, zR_at, false_and, j3, q1 hz]
      exact ⟨fe, j1, j36, j100, j101⟩
    · have q2 := q2 hz
      simp only [not_true, not_true_eq_false, if_false, if_true, u_X11_rules_53, u_X11_rules_54, u_X11_rules_57, u_X11_rules_58, u_X11_rules_61, u_X11_rules_63, az_un_i, az_un_r, az_un_n, az_un_l, Option.toList_some, Option.toList_none, List.cons_append, List.nil_append, List.length_cons, List.length_nil, Nat.reduceLeDiff, Nat.reduceAdd, Nat.zero_le, Nat.zero_add, and_true, true_and, zb_1, eq_self, j36]
      by_cases g : e = 4
      · have h4 : nI e = 4 := by rw [g]; decide
        simp only [h4, if_true, zR_at, g, Nat.lt_irrefl, and_false, if_false]
        rw [g] at j36
        exact ⟨trivial, fe, j1, j36, j100, j101⟩
      · have h4 : ¬ nI e = 4 := fun z => g ((nI_eq (b := 4) (show e < 2 ^ 31 by omega) (by decide)).mp z)
        simp only [h4, if_false, u_X11_rules_64, u_X11_rules_65, u_X11_rules_68, u_X11_rules_69, u_X11_rules_72, u_X11_rules_73, u_X11_rules_74, u_X11_rules_75, az_un_i, az_un_r, az_un_n, az_un_l, Option.toList_some, Option.toList_none, List.cons_append, List.nil_append, List.length_cons, List.length_nil, Nat.reduceLeDiff, Nat.reduceAdd, Nat.zero_le, Nat.zero_add, and_true, true_and, zb_1, eq_self, j36, kx_100, zinT (show e < 4 by omega) (by decide), zcl (show e < 4 by omega) (by decide)]
        refine zloop (P := fun k => ∀ K', zFf I K' → K' 97 2 = 0 → K' 97 4 = nI e → K' 100 = zup (I 100) e x → (∀ j, K' 102 j = J 102 j) → (∀ w, w < k → K' 101 (3 * e + w) = nI (O.2.2 w)) → (∀ j, j < 3 * e → K' 101 j = I 101 j) → az_W (zD (d + 6)) _ _ 76 [.ref 97, .int x, .int (zb (True)), .int (nI k)] [] (130, az_Pf, K', L')) 3 (fun k hk ih K' a1 a2 a3 a4 a5 a6 a7 => ?_) (fun K' a1 a2 a3 a4 a5 a6 a7 => ?_) 0 (Nat.zero_le _) _ (fun b j hz => by rw [zu_ne (by omega)]; exact fe b j hz) (by simp only [az_uI_at, az_uL_at, Nat.reduceEqDiff, false_and, and_false, and_self, if_true, if_false, ite_true, ite_false]; exact j1) (by simp only [az_uI_at, az_uL_at, Nat.reduceEqDiff, false_and, and_false, and_self, if_true, if_false, ite_true, ite_false]; exact j36) (by rw [← j100]; exact zup_row (fun j => by simp only [az_uI_at, true_and])) (fun j => by simp only [az_uI_at, az_uL_at, Nat.reduceEqDiff, false_and, and_false, and_self, if_true, if_false, ite_true, ite_false]; exact j102 j) (fun w hw => absurd hw (Nat.not_lt_zero _)) (fun j _ => by simp only [az_uI_at, az_uL_at, Nat.reduceEqDiff, false_and, and_false, and_self, if_true, if_false, ite_true, ite_false]; rw [j101])
        · have h1 : ¬ (3 : Int32) ≤ nI k := nI_ge (b := 3) hk (by decide)
          simp only [u_X11_rules_76]
          simp only [u_X11_rules_77, u_X11_rules_78, u_X11_rules_81, u_X11_rules_82, u_X11_rules_85, u_X11_rules_86, u_X11_rules_87, u_X11_rules_90, u_X11_rules_91, u_X11_rules_92, u_X11_rules_93, u_X11_rules_94, u_X11_rules_97, u_X11_rules_98, u_X11_rules_99, u_X11_rules_100, u_X11_rules_103, az_un_i, az_un_r, az_un_n, az_un_l, Option.toList_some, Option.toList_none, List.cons_append, List.nil_append, List.length_cons, List.length_nil, Nat.reduceLeDiff, Nat.reduceAdd, Nat.zero_le, Nat.zero_add, and_true, true_and, zb_1, eq_self, h1, if_false, a3, z3m, kx_101, kx_102, zinT hk (by decide), zcl hk (by decide), zinT (show 3 * e + k < 12 by omega) (by decide), zcl (show 3 * e + k < 12 by omega) (by decide), a5, q2 k hk]
          rw [show nI (k + 1) = nI k + 1 from nI_succ k] at ih
          refine ih (az_uI K' 101 (3 * e + k) (nI (O.2.2 k))) (fun b j hz => by rw [zu_ne (by omega)]; exact a1 b j hz) (by rw [zu_ne (by omega)]; exact a2) (by rw [zu_ne (by omega)]; exact a3) (by rw [zu_row (by omega)]; exact a4) (fun j => by rw [zu_ne (by omega)]; exact a5 j) (fun w hw => ?_) (fun j hj => by rw [az_uI_at, if_neg (by omega)]; exact a7 j hj)
          rw [az_uI_at]
          by_cases c : w = k
          · rw [if_pos ⟨rfl, by rw [c]⟩, c]
          · rw [if_neg (by omega)]; exact a6 w (by omega)
        · have h1 : (3 : Int32) ≤ nI 3 := by decide
          simp only [u_X11_rules_76]
          simp only [u_X11_rules_77, u_X11_rules_78, u_X11_rules_106, u_X11_rules_107, u_X11_rules_107r, u_X11_rules_108, u_X11_rules_111, u_X11_rules_112, u_X11_rules_113, u_X11_rules_116, u_X11_rules_117, u_X11_rules_120, u_X11_rules_121, u_X11_rules_122, az_un_i, az_un_r, az_un_n, az_un_l, Option.toList_some, Option.toList_none, List.cons_append, List.nil_append, List.length_cons, List.length_nil, Nat.reduceLeDiff, Nat.reduceAdd, Nat.zero_le, Nat.zero_add, and_true, true_and, zb_1, eq_self, h1, if_true, a3, az_uI_at, az_uL_at, Nat.reduceEqDiff, false_and, and_false, and_self, if_true, if_false, ite_true, ite_false, nI_back, zR_at, g, if_false, show e < 4 by omega]
          refine ⟨fun b j hz => by rw [az_uI_at, if_neg (by omega)]; exact a1 b j hz, a2, by rw [nI_succ], by rw [zu_row (by omega)]; exact a4, a6, a7⟩
  cases e with
  | zero =>
    have z0 : nI 0 ≤ (0 : Int32) := by decide
    simp only [u_X11_rules_0, u_X11_rules_1, u_X11_rules_4, u_X11_rules_7, u_X11_rules_8, u_X11_rules_11, u_X11_rules_14, u_X11_rules_15, u_X11_rules_16, u_X11_rules_19, u_X11_rules_20, u_X11_rules_23, u_X11_rules_24, u_X11_rules_25, u_X11_rules_26, u_X11_rules_29, u_X11_rules_30, az_un_i, az_un_r, az_un_n, az_un_l, Option.toList_some, Option.toList_none, List.cons_append, List.nil_append, List.length_cons, List.length_nil, Nat.reduceLeDiff, Nat.reduceAdd, Nat.zero_le, Nat.zero_add, and_true, true_and, zb_1, eq_self, az_call s_X11_isMorning, zb_0, eq_true hx, and_self, and_true, true_and, if_true, if_false, not_true, not_false_iff, not_true_eq_false, not_false_eq_true, ite_true, ite_false, e4, z0]
    exact st
  | succ q =>
    have z0 : ¬ nI (q + 1) ≤ (0 : Int32) := show ¬ nI (q + 1) ≤ nI 0 from nI_ge (Nat.succ_pos q) (by omega)
    have h1 : I 100 q ≤ x := hs q rfl
    simp only [u_X11_rules_0, u_X11_rules_1, u_X11_rules_4, u_X11_rules_7, u_X11_rules_8, u_X11_rules_11, u_X11_rules_14, u_X11_rules_15, u_X11_rules_16, u_X11_rules_19, u_X11_rules_20, u_X11_rules_23, u_X11_rules_24, u_X11_rules_25, u_X11_rules_26, u_X11_rules_29, u_X11_rules_30, az_un_i, az_un_r, az_un_n, az_un_l, Option.toList_some, Option.toList_none, List.cons_append, List.nil_append, List.length_cons, List.length_nil, Nat.reduceLeDiff, Nat.reduceAdd, Nat.zero_le, Nat.zero_add, and_true, true_and, zb_1, eq_self, az_call s_X11_isMorning, zb_0, eq_true hx, and_self, and_true, true_and, if_true, if_false, not_true, not_false_iff, not_true_eq_false, not_false_eq_true, ite_true, ite_false, e4, z0, zm1, kx_100, zinT (show q < 4 by omega) (by decide), zcl (show q < 4 by omega) (by decide), h1]
    exact st
end S
theorem op_rules (x : Int32) : zOp 94 153 [.int x] := by
  intro I L hI
  have hI0 := hI
  obtain ⟨hP, hC, hS, ⟨t, e, hB⟩, ⟨nl, hL⟩, ⟨nr, hR⟩, n, c, w, hD, hW, hX, hF⟩ := hI
  by_cases hx : 0 ≤ x.toInt ∧ x.toInt ≤ 29
  · obtain ⟨b1, b2, b3, b4, b5, b6, b7, b8, b9, b10, b11⟩ := hB
    rcases Classical.em (zms1 I e x) with hs | hs
    · obtain ⟨D, hDr, d0, d0', d1, d1'⟩ : ∃ D : Nat → Nat, zDr D ∧ (e = 0 → ∀ w, w < 3 → az_sc 9000 w = nI (D w)) ∧ (e = 0 → ∀ w, w < 3 → I 105 w = nI (D w)) ∧ (∀ k, e = k + 1 → ∀ w, w < 3 → I (39 + k) w = nI (D w)) ∧ (∀ k, e = k + 1 → ∀ w, w < 3 → I 101 (3 * k + w) = nI (D w)) := by
        cases e with
        | zero =>
          refine ⟨fun w => if w = 0 then 1 else if w = 1 then 3 else 20, by unfold zDr; decide, fun _ => by decide, fun _ w hw => ?_, fun k e => by omega, fun k e => by omega⟩
          rcases (show w = 0 ∨ w = 1 ∨ w = 2 by omega) with rfl | rfl | rfl
          · rw [hC.2.2.2.2.2.2.1]; rfl
          · rw [hC.2.2.2.2.2.2.2.1]; rfl
          · rw [hC.2.2.2.2.2.2.2.2]; rfl
        | succ q =>
          obtain ⟨cu, le, sp, k1, k2, k3, k4, k5, k6, k7, k8, k9, k10⟩ := b11 q (by omega)
          refine ⟨fun w => if w = 0 then cu else if w = 1 then le else sp, ?_, fun e => by omega, fun e => by omega, fun k e w hw => ?_, fun k e w hw => ?_⟩
          · unfold zDr; simp; omega
          · have : k = q := by omega
            subst this
            rcases (show w = 0 ∨ w = 1 ∨ w = 2 by omega) with rfl | rfl | rfl
            · rw [k5]; rfl
            · rw [k6]; rfl
            · rw [k7]; rfl
          · have : k = q := by omega
            subst this
            rcases (show w = 0 ∨ w = 1 ∨ w = 2 by omega) with rfl | rfl | rfl
            · rw [Nat.add_zero, k8]; rfl
            · rw [k9]; rfl
            · rw [k10]; rfl
      obtain ⟨J1, L1, h1, f1, p1, p2⟩ := s_X10_rules (d := 2) (L := L) hx b6 b7 hs (s_X6_addEdition (d := 3) (A := I 36) (t := t) (D := D) (x := x) hDr b5 rfl b1 b2 b6 b7 d0 d1)
      have r1 : ∀ b, 44 ≤ b → J1 b = I b := fun b hb => funext fun j => f1 b j (by omega)
      have hC1 : zvC J1 := hC.fr (r1 103 (by omega)) (r1 104 (by omega)) (r1 105 (by omega))
      have b := (zqt_b (A := I 36) (t := t) 5 0 D (Nat.zero_le _) hDr).2
      obtain ⟨J, L2, h2, f2, p3, p4⟩ := s_X11_rules (d := 2) (I := J1) (L := L1) (A := I 36) (t := t) (e := e) (D := D) hx (fun q eq => by rw [r1 100 (by omega), ← b9]; exact hs q eq) hDr hC1 b5 (by rw [r1 99 (by omega)]; exact b4.symm) b1 (by rw [r1 97 (by omega)]; exact b3) b6 (by rw [r1 97 (by omega)]; exact b8) (fun e0 w hw => by rw [r1 105 (by omega)]; exact d0' e0 w hw) (fun k ek w hw => by rw [r1 101 (by omega)]; exact d1' k ek w hw)
      refine ⟨_, J1, L1, J, L2, h1, h2, ?_⟩
      obtain ⟨O, eO⟩ : ∃ O, O = zqt (I 36) t 5 0 D := ⟨_, rfl⟩
      rw [← eO] at p2 p4 b
      clear h1 h2 eO
      have r2 : ∀ b, b < 97 → J b = J1 b := fun b hb => funext fun j => f2 b j (by omega)
      have ff : ∀ b j, ¬ (b = 43 ∨ (b = 35 ∧ (j = 6 ∨ j = 1 ∨ j = 4)) ∨ b = 37 ∨ b = 39 + e ∨ b = 102 ∨ (b = 97 ∧ (j = 3 ∨ j = 2 ∨ j = 4)) ∨ b = 100 ∨ b = 101) → J b j = I b j := fun b j hz => by
        rw [f2 b j (by omega)]; exact f1 b j (by omega)
      have k1 : J 35 1 = nI 0 := by rw [r2 35 (by omega)]; exact p1
      have k36 : J 36 = I 36 := funext fun j => ff 36 j (by omega)
      have k99 : J 99 = I 99 := funext fun j => ff 99 j (by omega)
      by_cases g : O.1 = true ∧ e < 4
      · rw [if_pos g] at p2 p4
        obtain ⟨p5, p6, p7⟩ := p2
        obtain ⟨p8, p9, p10, p11⟩ := p4
        rw [r1 100 (by omega)] at p9
        rw [r1 101 (by omega)] at p11
        obtain ⟨s, hs1, rfl⟩ := znat hx.1 (n := 29) hx.2 (by decide)
        have k37 : J 37 = zup (I 37) e (nI s) := by rw [r2 37 (by omega)]; exact p6
        have hBn : zvB J 0 (e + 1) := by
          refine ⟨by decide, k1, p3, by rw [k36, k99]; exact b4, fun k hk => absurd hk (Nat.not_lt_zero _), by omega, by rw [r2 35 (by omega)]; exact p5, p8, by rw [k37, p9, b9], fun k hk => ?_, fun k hk => ?_⟩
          · rw [k37]
            by_cases c : k = e
            · subst c
              rw [zup_s]
              refine ⟨s, by omega, rfl, fun j hj => ?_⟩
              rw [zup_n (by omega)]
              obtain ⟨q, eq⟩ : ∃ q, k = q + 1 := ⟨k - 1, by omega⟩
              have m1 := Int32.le_iff_toInt_le.mp (hs q eq)
              by_cases c2 : j = q
              · rw [c2]; exact m1
              · obtain ⟨_, _, _, m2⟩ := b10 q (by omega)
                have := m2 j (by omega)
                omega
            · obtain ⟨s', m0, m1, m2⟩ := b10 k (by omega)
              rw [zup_n c]
              refine ⟨s', m0, m1, fun j hj => ?_⟩
              rw [zup_n (by omega)]; exact m2 j hj
          · by_cases c : k = e
            · subst c
              obtain ⟨z1, z2, z3, z4⟩ := b
              rw [r2 (39 + k) (by omega)]
              refine ⟨O.2.2 0, O.2.2 1, O.2.2 2, z1, z2, z3, z4, p7 0 (by decide), p7 1 (by decide), p7 2 (by decide), ?_, p10 1 (by decide), p10 2 (by decide)⟩
              have := p10 0 (by decide)
              exact this
            · obtain ⟨cu, le, sp, m1, m2, m3, m4, m5, m6, m7, m8, m9, m10⟩ := b11 k (by omega)
              rw [show J (39 + k) = I (39 + k) from funext fun j => ff _ j (by omega), p11 _ (by omega), p11 _ (by omega), p11 _ (by omega)]
              exact ⟨cu, le, sp, m1, m2, m3, m4, m5, m6, m7, m8, m9, m10⟩
        exact ⟨(hP.fr (fun m hm => funext fun j => ff _ j (by omega)) (funext fun j => ff _ j (by omega))), (hC.fr (funext fun j => ff _ j (by omega)) (funext fun j => ff _ j (by omega)) (funext fun j => ff _ j (by omega))), (hS.fr (funext fun j => ff _ j (by omega)) (funext fun j => ff _ j (by omega)) (funext fun j => ff _ j (by omega)) (funext fun j => ff _ j (by omega)) (funext fun j => ff _ j (by omega)) (fun s hs => funext fun j => ff _ j (by omega))), ⟨0, e + 1, (hBn)⟩, ⟨nl, (hL.fr (ff _ _ (by omega)) (ff _ _ (by omega)) (fun k h1 h2 => funext fun j => ff _ j (by omega)) (fun k h1 h2 => funext fun j => ff _ j (by omega)))⟩, ⟨nr, (hR.fr (ff _ _ (by omega)) (ff _ _ (by omega)) (funext fun j => ff _ j (by omega)) (funext fun j => ff _ j (by omega)) (funext fun j => ff _ j (by omega)) (funext fun j => ff _ j (by omega)))⟩, n, c, w, (hD.fr (ff _ _ (by omega)) (ff _ _ (by omega)) (ff _ _ (by omega)) (ff _ _ (by omega)) (fun k h1 h2 => funext fun j => ff _ j (by omega)) (fun k h1 h2 => funext fun j => ff _ j (by omega))), (hW.fr (ff _ _ (by omega)) (ff _ _ (by omega)) (fun k h1 h2 => funext fun j => ff _ j (by omega)) (fun k h1 h2 => funext fun j => ff _ j (by omega))), (hX.fr (funext fun j => ff _ j (by omega)) (funext fun j => ff _ j (by omega))), (hF.fr (fun a ha => funext fun j => ff _ j (by omega)) (funext fun j => ff _ j (by omega)))⟩
      · rw [if_neg g] at p2 p4
        obtain ⟨p5, p6, p7⟩ := p2
        obtain ⟨p8, p9, p10⟩ := p4
        rw [r1 100 (by omega)] at p9
        rw [r1 101 (by omega)] at p10
        have k37 : J 37 = I 37 := by rw [r2 37 (by omega)]; exact p6
        have hBn : zvB J 0 e := by
          refine ⟨by decide, k1, p3, by rw [k36, k99]; exact b4, fun k hk => absurd hk (Nat.not_lt_zero _), b6, by rw [r2 35 (by omega)]; exact p5, p8, by rw [k37, p9, b9], by rw [k37]; exact b10, fun k hk => ?_⟩
          rw [p10, show J (39 + k) = I (39 + k) from funext fun j => ff _ j (by omega)]
          exact b11 k hk
        exact ⟨(hP.fr (fun m hm => funext fun j => ff _ j (by omega)) (funext fun j => ff _ j (by omega))), (hC.fr (funext fun j => ff _ j (by omega)) (funext fun j => ff _ j (by omega)) (funext fun j => ff _ j (by omega))), (hS.fr (funext fun j => ff _ j (by omega)) (funext fun j => ff _ j (by omega)) (funext fun j => ff _ j (by omega)) (funext fun j => ff _ j (by omega)) (funext fun j => ff _ j (by omega)) (fun s hs => funext fun j => ff _ j (by omega))), ⟨0, e, (hBn)⟩, ⟨nl, (hL.fr (ff _ _ (by omega)) (ff _ _ (by omega)) (fun k h1 h2 => funext fun j => ff _ j (by omega)) (fun k h1 h2 => funext fun j => ff _ j (by omega)))⟩, ⟨nr, (hR.fr (ff _ _ (by omega)) (ff _ _ (by omega)) (funext fun j => ff _ j (by omega)) (funext fun j => ff _ j (by omega)) (funext fun j => ff _ j (by omega)) (funext fun j => ff _ j (by omega)))⟩, n, c, w, (hD.fr (ff _ _ (by omega)) (ff _ _ (by omega)) (ff _ _ (by omega)) (ff _ _ (by omega)) (fun k h1 h2 => funext fun j => ff _ j (by omega)) (fun k h1 h2 => funext fun j => ff _ j (by omega))), (hW.fr (ff _ _ (by omega)) (ff _ _ (by omega)) (fun k h1 h2 => funext fun j => ff _ j (by omega)) (fun k h1 h2 => funext fun j => ff _ j (by omega))), (hX.fr (funext fun j => ff _ j (by omega)) (funext fun j => ff _ j (by omega))), (hF.fr (fun a ha => funext fun j => ff _ j (by omega)) (funext fun j => ff _ j (by omega)))⟩
    · exact ⟨_, I, L, I, L, s_X10_rules_n (d := 2) hx b6 b7 hs, s_X11_rules_n (d := 2) hx b6 b8 b9 hs, hI0⟩
  · exact ⟨_, I, L, I, L, s_X10_rules_bad (d := 2) hx, s_X11_rules_bad (d := 2) hx, hI0⟩
