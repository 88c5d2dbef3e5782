/-! ===== rule; runs whose heap at the end is not told ===== -/
theorem az_W_ex {C : az_C} {R : az_R} {cd : Nat → az_P} {pc : Nat} {ls st : List Value} {h : az_H} (w : az_W C R cd pc ls st h) : ∃ r h', R r h' ∧ az_W C (fun r' h'' => r' = r ∧ h'' = h') cd pc ls st h := by
  refine w (fun pc ls st h => ∃ r h', R r h' ∧ az_W C (fun r' h'' => r' = r ∧ h'' = h') cd pc ls st h) ?_
  intro pc ls st h hf
  match hq : cd pc ls st h, hf with
  | some (.inl (pc', ls', st', h')), ⟨a, r, h2, b, c⟩ => exact ⟨r, h2, b, az_fold (by rw [hq]; exact ⟨a, c⟩)⟩
  | some (.inr (.inl (r, h'))), ⟨a, b⟩ => exact ⟨r, h', b, az_fold (by rw [hq]; exact ⟨a, rfl, rfl⟩)⟩
  | some (.inr (.inr (m, as, pc', ls', st'))), ⟨r, h', a, b, r2, h2, c, e⟩ => exact ⟨r2, h2, c, az_fold (by rw [hq]; exact ⟨r, h', a, b, e⟩)⟩
theorem zD_ex {no nL d : Nat} {k : Nat → az_P} {as : List Value} {h : az_H} {R : az_R} (hm : az_M no = (nL, k)) (has : az_as nL as = true) (w : az_W (zD d) R k 0 (az_ini nL as) [] h) : ∃ r h', R r h' ∧ zD (d + 1) no as h r h' := by
  obtain ⟨r, h', a, b⟩ := az_W_ex w
  exact ⟨r, h', a, zD_of hm has b⟩
/-- a run with this answer, whose ints at the end are as Q says -/
def zE (d no : Nat) (as : List Value) (I : Nat → Nat → Int32) (L : Nat → Nat → Int64) (r : Option Value) (Q : (Nat → Nat → Int32) → (Nat → Nat → Int64) → Prop) : Prop := ∃ J L', zD d no as (130, az_Pf, I, L) r (130, az_Pf, J, L') ∧ Q J L'
/-- what the code must come to -/
def zR (r : Option Value) (Q : (Nat → Nat → Int32) → (Nat → Nat → Int64) → Prop) : az_R := fun r' h => r' = r ∧ ∃ J L', h = (130, az_Pf, J, L') ∧ Q J L'
theorem zE_of {no nL d : Nat} {k : Nat → az_P} {as : List Value} {I : Nat → Nat → Int32} {L : Nat → Nat → Int64} {r : Option Value} {Q : (Nat → Nat → Int32) → (Nat → Nat → Int64) → Prop} (hm : az_M no = (nL, k)) (has : az_as nL as = true) (w : az_W (zD d) (zR r Q) k 0 (az_ini nL as) [] (130, az_Pf, I, L)) : zE (d + 1) no as I L r Q := by
  obtain ⟨r', h', ⟨rfl, J, L', rfl, q⟩, b⟩ := zD_ex hm has w
  exact ⟨J, L', b, q⟩
theorem zR_at {r : Option Value} {Q : (Nat → Nat → Int32) → (Nat → Nat → Int64) → Prop} {r' : Option Value} {J : Nat → Nat → Int32} {L : Nat → Nat → Int64} : zR r Q r' (130, az_Pf, J, L) ↔ (r' = r ∧ Q J L) := by
  refine ⟨fun ⟨a, J', L', e, q⟩ => ?_, fun ⟨a, q⟩ => ⟨a, J, L, rfl, q⟩⟩
  cases e; exact ⟨a, q⟩
theorem zuss {I : Nat → Nat → Int32} {a j : Nat} {x y : Int32} : az_uI (az_uI I a j x) a j y = az_uI I a j y := by
  funext b k; simp only [az_uI_at]; by_cases h : b = a ∧ k = j
  · rw [if_pos h, if_pos h]
  · rw [if_neg h, if_neg h, if_neg h]
theorem zucc {I : Nat → Nat → Int32} {a j b k : Nat} {x y : Int32} (hn : ¬ (a = b ∧ j = k)) : az_uI (az_uI I b k y) a j x = az_uI (az_uI I a j x) b k y := by
  funext c l; simp only [az_uI_at]; by_cases h : c = a ∧ l = j
  · rw [if_pos h, if_neg (by omega), if_pos h]
  · rw [if_neg h]; by_cases g : c = b ∧ l = k
    · rw [if_pos g, if_pos g]
    · rw [if_neg g, if_neg g, if_neg h]
theorem zc4 {I : Nat → Nat → Int32} {x y : Int32} : az_uI (az_uI I 56 5 y) 56 4 x = az_uI (az_uI I 56 4 x) 56 5 y := zucc (by omega)
theorem zc29 {I : Nat → Nat → Int32} {x y : Int32} : az_uI (az_uI I 97 30 y) 97 29 x = az_uI (az_uI I 97 29 x) 97 30 y := zucc (by omega)
theorem zself {I : Nat → Nat → Int32} {a j : Nat} : az_uI I a j (I a j) = I := by
  funext c l; simp only [az_uI_at]; by_cases h : c = a ∧ l = j
  · rw [if_pos h, h.1, h.2]
  · rw [if_neg h]
def zfst (w : Nat) : Int32 := if w = 0 then 1 else if w = 1 then 3 else 20
/-- the rule in force, of the first e editions -/
def zrl (I : Nat → Nat → Int32) (m : Int32) (w : Nat) : Nat → Int32
  | 0 => zfst w
  | e + 1 => if I 37 e ≤ m then I (39 + e) w else zrl I m w e
theorem zrl_fr {I J : Nat → Nat → Int32} {m : Int32} {w : Nat} (h1 : J 37 = I 37) (h2 : ∀ k, k < 4 → J (39 + k) = I (39 + k)) : ∀ e, e ≤ 4 → zrl J m w e = zrl I m w e
  | 0, _ => rfl
  | e + 1, h => by
    show (if J 37 e ≤ m then J (39 + e) w else zrl J m w e) = (if I 37 e ≤ m then I (39 + e) w else zrl I m w e)
    rw [h1, h2 e (by omega), zrl_fr h1 h2 e (by omega)]
theorem zrl_rg {I : Nat → Nat → Int32} {t e : Nat} (hB : zvB I t e) (m : Int32) : ∀ k, k ≤ e → ∃ c l s, c ≤ 3 ∧ 1 ≤ l ∧ l ≤ 8 ∧ s ≤ 99 ∧ zrl I m 0 k = nI c ∧ zrl I m 1 k = nI l ∧ zrl I m 2 k = nI s
  | 0, _ => ⟨1, 3, 20, by decide, by decide, by decide, by decide, rfl, rfl, rfl⟩
  | k + 1, hk => by
    obtain ⟨c, l, s, h1, h2, h3, h4, h5, h6, h7, -⟩ := hB.2.2.2.2.2.2.2.2.2.2 k (by omega)
    obtain ⟨c', l', s', g1, g2, g3, g4, g5, g6, g7⟩ := zrl_rg hB m k (by omega)
    by_cases h : I 37 k ≤ m
    · exact ⟨c, l, s, h1, h2, h3, h4, by rw [zrl, if_pos h]; exact h5, by rw [zrl, if_pos h]; exact h6, by rw [zrl, if_pos h]; exact h7⟩
    · exact ⟨c', l', s', g1, g2, g3, g4, by rw [zrl, if_neg h]; exact g5, by rw [zrl, if_neg h]; exact g6, by rw [zrl, if_neg h]; exact g7⟩
theorem z3m (a b : Nat) : (3 : Int32) * nI a + nI b = nI (3 * a + b) := by
  rw [show (3 : Int32) = nI 3 from rfl, pk_mul, nI_add]
theorem zm1 (k : Nat) : nI (k + 1) - 1 = nI k := by rw [nI_succ]; exact nI_back k
section S
variable {d : Nat} {I : Nat → Nat → Int32} {L : Nat → Nat → Int64} {h : az_H}
theorem s_X6_inForce {m : Int32} {w t e : Nat} (hB : zvB I t e) (hw : w < 3) : zD (d + 1) 60 [.ref 35, .int m, .int (nI w)] (130, az_Pf, I, L) (some (.int (zrl I m w e))) (130, az_Pf, I, L) := by
  refine zD_of zm_X6_inForce rfl ?_
  show az_W _ _ _ 0 [.ref 35, .int m, .int (nI w), .null] [] _
  have he : e ≤ 4 := hB.2.2.2.2.2.1
  simp only [u_X6_inForce_0, u_X6_inForce_1, u_X6_inForce_4, u_X6_inForce_5, u_X6_inForce_6, az_un_i, az_un_r, az_un_n, az_un_l, Option.toList_some, Option.toList_none, List.cons_append, List.nil_append, List.length_cons, List.length_nil, Nat.reduceLeDiff, Nat.reduceAdd, Nat.zero_le, Nat.zero_add, and_true, true_and, zb_1, eq_self, hB.2.2.2.2.2.2.1]
  have key : ∀ k, k ≤ e → zrl I m w k = zrl I m w e → az_W (zD d) (fun r' h'' => r' = some (.int (zrl I m w e)) ∧ h'' = (130, az_Pf, I, L)) k_X6_inForce 7 [.ref 35, .int m, .int (nI w), .int (nI k - 1)] [] (130, az_Pf, I, L) := by
    intro k
    induction k with
    | zero =>
      intro _ hz
      have h1 : (nI 0 - 1 : Int32) < 0 := by decide
      simp only [u_X6_inForce_7]
      simp only [u_X6_inForce_0, u_X6_inForce_1, u_X6_inForce_4, u_X6_inForce_5, u_X6_inForce_6, u_X6_inForce_8, u_X6_inForce_11, u_X6_inForce_12, u_X6_inForce_15, u_X6_inForce_16, u_X6_inForce_16s, u_X6_inForce_17, u_X6_inForce_18, u_X6_inForce_21, u_X6_inForce_22, u_X6_inForce_25, u_X6_inForce_26, u_X6_inForce_27, u_X6_inForce_28, u_X6_inForce_28s, u_X6_inForce_29, u_X6_inForce_30, u_X6_inForce_33, u_X6_inForce_36, u_X6_inForce_39, u_X6_inForce_40, u_X6_inForce_40s, u_X6_inForce_41, az_un_i, az_un_r, az_un_n, az_un_l, Option.toList_some, Option.toList_none, List.cons_append, List.nil_append, List.length_cons, List.length_nil, Nat.reduceLeDiff, Nat.reduceAdd, Nat.zero_le, Nat.zero_add, and_true, true_and, zb_1, eq_self, Int32.not_le, h1, kx_9000, zinT hw (by decide), zcl hw (by decide), and_self, and_true, true_and, if_true, if_false, not_true, not_false_iff, not_true_eq_false, not_false_eq_true, ite_true, ite_false]
      rw [← hz]
      rcases (show w = 0 ∨ w = 1 ∨ w = 2 by omega) with rfl | rfl | rfl <;> rfl
    | succ k ih =>
      intro hk hz
      have h1 : ¬ nI k < 0 := nI_pos (by omega)
      have h2 : 0 ≤ nI k := nI_pos' (by omega)
      rw [zm1]
      simp only [u_X6_inForce_7]
      simp only [u_X6_inForce_0, u_X6_inForce_1, u_X6_inForce_4, u_X6_inForce_5, u_X6_inForce_6, u_X6_inForce_8, u_X6_inForce_11, u_X6_inForce_12, u_X6_inForce_15, u_X6_inForce_16, u_X6_inForce_16s, u_X6_inForce_17, u_X6_inForce_18, u_X6_inForce_21, u_X6_inForce_22, u_X6_inForce_25, u_X6_inForce_26, u_X6_inForce_27, u_X6_inForce_28, u_X6_inForce_28s, u_X6_inForce_29, u_X6_inForce_30, u_X6_inForce_33, u_X6_inForce_36, u_X6_inForce_39, u_X6_inForce_40, u_X6_inForce_40s, u_X6_inForce_41, az_un_i, az_un_r, az_un_n, az_un_l, Option.toList_some, Option.toList_none, List.cons_append, List.nil_append, List.length_cons, List.length_nil, Nat.reduceLeDiff, Nat.reduceAdd, Nat.zero_le, Nat.zero_add, and_true, true_and, zb_1, eq_self, h1, h2, kx_37, kx_38, zinT hw (by decide), zcl hw (by decide), zinT (show k < 4 by omega) (by decide), zcl (show k < 4 by omega) (by decide), pr_38 k (by omega), kr_38 k (by omega), Option.some.injEq, exists_eq_left', exists_eq_left, and_self, and_true, true_and, if_true, if_false, not_true, not_false_iff, not_true_eq_false, not_false_eq_true, ite_true, ite_false]
      rw [zrl] at hz
      by_cases g : I 37 k ≤ m
      · rw [if_pos g] at hz
        simp only [hz, and_self, and_true, true_and, if_true, if_false, not_true, not_false_iff, not_true_eq_false, not_false_eq_true, ite_true, ite_false]
        rw [if_neg (Int32.not_lt.mpr g)]; trivial
      · rw [if_neg g] at hz
        have := ih (by omega) hz
        rw [if_pos (Int32.not_le.mp g)]
        rw [Int32.sub_eq_add_neg] at this
        exact this
  exact key e (Nat.le_refl _) rfl
theorem s_X11_ruleOn {m : Int32} {w t e : Nat} (hB : zvB I t e) (hC : zvC I) (hw : w < 3) : zD (d + 1) 154 [.ref 97, .int m, .int (nI w)] (130, az_Pf, I, L) (some (.int (zrl I m w e))) (130, az_Pf, I, L) := by
  refine zD_of zm_X11_ruleOn rfl ?_
  show az_W _ _ _ 0 [.ref 97, .int m, .int (nI w), .null, .null] [] _
  have he : e ≤ 4 := hB.2.2.2.2.2.1
  have hf : I 105 w = zfst w := by
    rcases (show w = 0 ∨ w = 1 ∨ w = 2 by omega) with rfl | rfl | rfl
    · exact hC.2.2.2.2.2.2.1
    · exact hC.2.2.2.2.2.2.2.1
    · exact hC.2.2.2.2.2.2.2.2
  simp only [u_X11_ruleOn_0, u_X11_ruleOn_1, u_X11_ruleOn_4, u_X11_ruleOn_5, u_X11_ruleOn_6, u_X11_ruleOn_7, u_X11_ruleOn_8, az_un_i, az_un_r, az_un_n, az_un_l, Option.toList_some, Option.toList_none, List.cons_append, List.nil_append, List.length_cons, List.length_nil, Nat.reduceLeDiff, Nat.reduceAdd, Nat.zero_le, Nat.zero_add, and_true, true_and, zb_1, eq_self, kx_105, zinT hw (by decide), zcl hw (by decide), hf]
  refine zloop (P := fun k => az_W (zD d) _ _ 10 [.ref 97, .int m, .int (nI w), .int (zrl I m w k), .int (nI k)] [] _) e (fun k hk ih => ?_) ?_ 0 (Nat.zero_le _)
  · have h1 : ¬ nI e ≤ nI k := nI_ge hk (by omega)
    have r : I 101 (3 * k + w) = I (39 + k) w := by
      obtain ⟨c, l, s, -, -, -, -, h5, h6, h7, h8, h9, h10⟩ := hB.2.2.2.2.2.2.2.2.2.2 k hk
      rcases (show w = 0 ∨ w = 1 ∨ w = 2 by omega) with rfl | rfl | rfl
      · exact h8.trans h5.symm
      · exact h9.trans h6.symm
      · exact h10.trans h7.symm
    simp only [u_X11_ruleOn_10]
    simp only [u_X11_ruleOn_0, u_X11_ruleOn_1, u_X11_ruleOn_4, u_X11_ruleOn_5, u_X11_ruleOn_6, u_X11_ruleOn_7, u_X11_ruleOn_8, u_X11_ruleOn_12, u_X11_ruleOn_13, u_X11_ruleOn_16, u_X11_ruleOn_19, u_X11_ruleOn_20, u_X11_ruleOn_23, u_X11_ruleOn_25, u_X11_ruleOn_26, u_X11_ruleOn_27, u_X11_ruleOn_30, u_X11_ruleOn_31, u_X11_ruleOn_34, u_X11_ruleOn_35, u_X11_ruleOn_37, u_X11_ruleOn_38, u_X11_ruleOn_39, u_X11_ruleOn_40, u_X11_ruleOn_41, u_X11_ruleOn_44, u_X11_ruleOn_45, u_X11_ruleOn_46, u_X11_ruleOn_49, u_X11_ruleOn_52, u_X11_ruleOn_53, az_un_i, az_un_r, az_un_n, az_un_l, Option.toList_some, Option.toList_none, List.cons_append, List.nil_append, List.length_cons, List.length_nil, Nat.reduceLeDiff, Nat.reduceAdd, Nat.zero_le, Nat.zero_add, and_true, true_and, zb_1, eq_self, hB.2.2.2.2.2.2.2.1, h1, if_false, kx_100, kx_101, z3m, zinT (show k < 4 by omega) (by decide), zcl (show k < 4 by omega) (by decide), zinT (show 3 * k + w < 12 by omega) (by decide), zcl (show 3 * k + w < 12 by omega) (by decide), ← hB.2.2.2.2.2.2.2.2.1, r]
    rw [nI_succ, zrl] at ih
    by_cases g : I 37 k ≤ m
    · rw [if_pos g] at ih; rw [if_neg (Int32.not_lt.mpr g)]; exact ih
    · rw [if_neg g] at ih; rw [if_pos (Int32.not_le.mp g)]; exact ih
  · have h1 : nI e ≤ nI e := nI_le (Nat.le_refl _) (by omega)
    simp only [u_X11_ruleOn_10]
    simp only [u_X11_ruleOn_0, u_X11_ruleOn_1, u_X11_ruleOn_4, u_X11_ruleOn_5, u_X11_ruleOn_6, u_X11_ruleOn_7, u_X11_ruleOn_8, u_X11_ruleOn_12, u_X11_ruleOn_13, u_X11_ruleOn_16, u_X11_ruleOn_19, u_X11_ruleOn_20, u_X11_ruleOn_23, u_X11_ruleOn_25, u_X11_ruleOn_26, u_X11_ruleOn_27, u_X11_ruleOn_30, u_X11_ruleOn_31, u_X11_ruleOn_34, u_X11_ruleOn_35, u_X11_ruleOn_37, u_X11_ruleOn_38, u_X11_ruleOn_39, u_X11_ruleOn_40, u_X11_ruleOn_41, u_X11_ruleOn_44, u_X11_ruleOn_45, u_X11_ruleOn_46, u_X11_ruleOn_49, u_X11_ruleOn_52, u_X11_ruleOn_53, az_un_i, az_un_r, az_un_n, az_un_l, Option.toList_some, Option.toList_none, List.cons_append, List.nil_append, List.length_cons, List.length_nil, Nat.reduceLeDiff, Nat.reduceAdd, Nat.zero_le, Nat.zero_add, and_true, true_and, zb_1, eq_self, hB.2.2.2.2.2.2.2.1, h1, if_true]
theorem s_X10_rule_bad {x y : Int32} (hb : ¬ ((0 ≤ x.toInt ∧ x.toInt ≤ 29) ∧ (0 ≤ y.toInt ∧ y.toInt ≤ 2))) : zD (d + 4) 95 [.ref 0, .int x, .int y] (130, az_Pf, I, L) (some (.int (-1))) (130, az_Pf, I, L) := by
  refine zD_of zm_X10_rule rfl ?_
  show az_W _ _ _ 0 [.ref 0, .int x, .int y] [] _
  simp only [u_X10_rule_0, u_X10_rule_1, u_X10_rule_4, u_X10_rule_7, u_X10_rule_8, u_X10_rule_9, u_X10_rule_10, u_X10_rule_13, u_X10_rule_16, u_X10_rule_17, u_X10_rule_18, u_X10_rule_19, u_X10_rule_22, u_X10_rule_23, u_X10_rule_24, u_X10_rule_27, az_un_i, az_un_r, az_un_n, az_un_l, Option.toList_some, Option.toList_none, List.cons_append, List.nil_append, List.length_cons, List.length_nil, Nat.reduceLeDiff, Nat.reduceAdd, Nat.zero_le, Nat.zero_add, and_true, true_and, zb_1, eq_self, zb_0, az_call s_X10_isMorning, az_call s_X10_isIn, zl_0, zl_2]
  by_cases h1 : 0 ≤ x.toInt ∧ x.toInt ≤ 29 <;> by_cases h2 : 0 ≤ y.toInt ∧ y.toInt ≤ 2 <;> simp only [h1, h2, and_self, and_true, true_and, if_true, if_false, not_true, not_false_iff, not_true_eq_false, not_false_eq_true, ite_true, ite_false]
  exact absurd ⟨h1, h2⟩ hb
theorem s_X11_rule_bad {x y : Int32} (hb : ¬ ((0 ≤ x.toInt ∧ x.toInt ≤ 29) ∧ (0 ≤ y.toInt ∧ y.toInt ≤ 2))) : zD (d + 4) 155 [.ref 97, .int x, .int y] (130, az_Pf, I, L) (some (.int (-1))) (130, az_Pf, I, L) := by
  refine zD_of zm_X11_rule rfl ?_
  show az_W _ _ _ 0 [.ref 97, .int x, .int y] [] _
  simp only [u_X11_rule_0, u_X11_rule_1, u_X11_rule_4, u_X11_rule_7, u_X11_rule_8, u_X11_rule_9, u_X11_rule_10, u_X11_rule_13, u_X11_rule_16, u_X11_rule_19, u_X11_rule_20, u_X11_rule_21, u_X11_rule_22, u_X11_rule_25, u_X11_rule_28, u_X11_rule_29, az_un_i, az_un_r, az_un_n, az_un_l, Option.toList_some, Option.toList_none, List.cons_append, List.nil_append, List.length_cons, List.length_nil, Nat.reduceLeDiff, Nat.reduceAdd, Nat.zero_le, Nat.zero_add, and_true, true_and, zb_1, eq_self, zb_0, az_call s_X11_isMorning, az_call s_X11_in, z64, zj_0, zj_2]
  by_cases h1 : 0 ≤ x.toInt ∧ x.toInt ≤ 29 <;> by_cases h2 : 0 ≤ y.toInt ∧ y.toInt ≤ 2 <;> simp only [h1, h2, and_self, and_true, true_and, if_true, if_false, not_true, not_false_iff, not_true_eq_false, not_false_eq_true, ite_true, ite_false]
  exact absurd ⟨h1, h2⟩ hb
theorem s_X10_rule {m : Int32} {w t e : Nat} (hB : zvB I t e) (hw : w < 3) (hm : 0 ≤ m.toInt ∧ m.toInt ≤ 29) : zD (d + 4) 95 [.ref 0, .int m, .int (nI w)] (130, az_Pf, I, L) (some (.int (zrl I m w e))) (130, az_Pf, I, L) := by
  refine zD_of zm_X10_rule rfl ?_
  show az_W _ _ _ 0 [.ref 0, .int m, .int (nI w)] [] _
  simp only [u_X10_rule_0, u_X10_rule_1, u_X10_rule_4, u_X10_rule_7, u_X10_rule_8, u_X10_rule_9, u_X10_rule_10, u_X10_rule_13, u_X10_rule_16, u_X10_rule_17, u_X10_rule_18, u_X10_rule_19, u_X10_rule_22, u_X10_rule_23, u_X10_rule_24, u_X10_rule_27, az_un_i, az_un_r, az_un_n, az_un_l, Option.toList_some, Option.toList_none, List.cons_append, List.nil_append, List.length_cons, List.length_nil, Nat.reduceLeDiff, Nat.reduceAdd, Nat.zero_le, Nat.zero_add, and_true, true_and, zb_1, eq_self, az_call s_X10_isMorning, az_call s_X10_isIn, zl_0, zl_2, zb_0, eq_true hm, (eq_true (by rw [nI_toInt (by omega)]; omega) : (0 ≤ (nI w).toInt ∧ (nI w).toInt ≤ 2) = True), and_self, and_true, true_and, if_true, if_false, not_true, not_false_iff, not_true_eq_false, not_false_eq_true, ite_true, ite_false, az_call (s_X6_inForce hB hw)]
theorem s_X11_rule {m : Int32} {w t e : Nat} (hB : zvB I t e) (hC : zvC I) (hw : w < 3) (hm : 0 ≤ m.toInt ∧ m.toInt ≤ 29) : zD (d + 4) 155 [.ref 97, .int m, .int (nI w)] (130, az_Pf, I, L) (some (.int (zrl I m w e))) (130, az_Pf, I, L) := by
  refine zD_of zm_X11_rule rfl ?_
  show az_W _ _ _ 0 [.ref 97, .int m, .int (nI w)] [] _
  simp only [u_X11_rule_0, u_X11_rule_1, u_X11_rule_4, u_X11_rule_7, u_X11_rule_8, u_X11_rule_9, u_X11_rule_10, u_X11_rule_13, u_X11_rule_16, u_X11_rule_19, u_X11_rule_20, u_X11_rule_21, u_X11_rule_22, u_X11_rule_25, u_X11_rule_28, u_X11_rule_29, az_un_i, az_un_r, az_un_n, az_un_l, Option.toList_some, Option.toList_none, List.cons_append, List.nil_append, List.length_cons, List.length_nil, Nat.reduceLeDiff, Nat.reduceAdd, Nat.zero_le, Nat.zero_add, and_true, true_and, zb_1, eq_self, az_call s_X11_isMorning, az_call s_X11_in, z64, zj_0, zj_2, zb_0, eq_true hm, (eq_true (by rw [nI_toInt (by omega)]; omega) : (0 ≤ (nI w).toInt ∧ (nI w).toInt ≤ 2) = True), and_self, and_true, true_and, if_true, if_false, not_true, not_false_iff, not_true_eq_false, not_false_eq_true, ite_true, ite_false, az_call (s_X11_ruleOn hB hC hw)]
end S
theorem op_rule (x y : Int32) : zOp 95 155 [.int x, .int y] := by
  intro I L hI
  have hI0 := hI
  obtain ⟨hP, hC, hS, ⟨t, e, hB⟩, ⟨nl, hL⟩, ⟨nr, hR⟩, n, c, w, hD, hW, hX, hF⟩ := hI
  by_cases hb : (0 ≤ x.toInt ∧ x.toInt ≤ 29) ∧ (0 ≤ y.toInt ∧ y.toInt ≤ 2)
  · obtain ⟨h1, h2⟩ := hb
    obtain ⟨w, hw, rfl⟩ := znat h2.1 (n := 2) h2.2 (by decide)
    exact ⟨_, I, L, I, L, s_X10_rule (d := 5) hB (by omega) h1, s_X11_rule (d := 5) hB hC (by omega) h1, hI0⟩
  · exact ⟨_, I, L, I, L, s_X10_rule_bad (d := 5) hb, s_X11_rule_bad (d := 5) hb, hI0⟩
