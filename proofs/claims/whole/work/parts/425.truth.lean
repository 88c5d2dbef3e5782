/-! ===== truth, out ===== -/
theorem zmn1 {a b : Int32} (h : b ≤ a) : (if b < a then b else a) = b := by
  by_cases g : b < a
  · rw [if_pos g]
  · rw [if_neg g]; exact Int32.le_antisymm (Int32.not_lt.mp g) h
theorem zmn2 {a b : Int32} (h : ¬ b ≤ a) : (if b < a then b else a) = a := if_neg (fun q => h (Int32.le_of_lt q))
theorem zmx1 {a b : Int32} (h : a ≤ b) : (if a < b then b else a) = b := by
  by_cases g : a < b
  · rw [if_pos g]
  · rw [if_neg g]; exact Int32.le_antisymm h (Int32.not_lt.mp g)
theorem zmx2 {a b : Int32} (h : ¬ a ≤ b) : (if a < b then b else a) = a := if_neg (fun q => h (Int32.le_of_lt q))
/-- is it out, to which side -/
def zOut (v : Int32) (b : Bool) (lo hi : Int32) : Int32 := if v = -1 ∨ b = false then 0 else if hi < v then 1 else if v < lo then -1 else 0
section S
variable {d : Nat} {I : Nat → Nat → Int32} {L : Nat → Nat → Int64} {h : az_H}
theorem s_X11_findLent {x m : Int32} {n : Nat} {p : Nat → Bool} (hL : zvL I n) (hp : ∀ k, k < n → (p k = true ↔ (I 58 k = m ∧ (x < 0 ∨ I 57 k = x)))) : zD (d + 1) 177 [.ref 97, .int x, .int m] (130, az_Pf, I, L) (some (.int (zb (zany p n = true)))) (130, az_Pf, az_uI (az_uI I 97 29 (if zany p n then zslo (I 59) p n else I 97 29)) 97 30 (if zany p n then zshi (I 59) p n else I 97 30), L) := by
  refine zD_of zm_X11_findLent rfl ?_
  show az_W _ _ _ 0 [.ref 97, .int x, .int m, .null, .null] [] _
  simp only [u_X11_findLent_0, u_X11_findLent_1, u_X11_findLent_2, u_X11_findLent_3, u_X11_findLent_7, u_X11_findLent_8, u_X11_findLent_11, u_X11_findLent_14, u_X11_findLent_15, u_X11_findLent_18, u_X11_findLent_20, u_X11_findLent_21, u_X11_findLent_22, u_X11_findLent_25, u_X11_findLent_26, u_X11_findLent_29, u_X11_findLent_30, u_X11_findLent_33, u_X11_findLent_35, u_X11_findLent_36, u_X11_findLent_37, u_X11_findLent_40, u_X11_findLent_41, u_X11_findLent_42, u_X11_findLent_45, u_X11_findLent_46, u_X11_findLent_49, u_X11_findLent_50, u_X11_findLent_53, u_X11_findLent_55, u_X11_findLent_56, u_X11_findLent_59, u_X11_findLent_60, u_X11_findLent_63, u_X11_findLent_66, u_X11_findLent_67, u_X11_findLent_70, u_X11_findLent_72, u_X11_findLent_73, u_X11_findLent_76, u_X11_findLent_77, u_X11_findLent_78, u_X11_findLent_81, u_X11_findLent_82, u_X11_findLent_85, u_X11_findLent_86, u_X11_findLent_89, u_X11_findLent_91, u_X11_findLent_92, u_X11_findLent_95, u_X11_findLent_96, u_X11_findLent_99, u_X11_findLent_102, u_X11_findLent_103, u_X11_findLent_106, u_X11_findLent_108, u_X11_findLent_109, u_X11_findLent_112, u_X11_findLent_113, u_X11_findLent_114, u_X11_findLent_117, u_X11_findLent_120, u_X11_findLent_121, az_un_i, az_un_r, az_un_n, az_un_l, Option.toList_some, Option.toList_none, List.cons_append, List.nil_append, List.length_cons, List.length_nil, Nat.reduceLeDiff, Nat.reduceAdd, Nat.zero_le, Nat.zero_add, and_true, true_and, zb_1, eq_self]
  have hle := hL.1
  have hn := hL.2.2.1
  have r1 := hL.2.2.2.1
  have r2 := hL.2.2.2.2.1
  have r3 := hL.2.2.2.2.2.1
  refine zloopH (P := fun k h => az_W (zD d) _ _ 5 [.ref 97, .int x, .int m, .int (zb (zany p k = true)), .int (nI k)] [] h) (fun k => (130, az_Pf, az_uI (az_uI I 97 29 (if zany p k then zslo (I 59) p k else I 97 29)) 97 30 (if zany p k then zshi (I 59) p k else I 97 30), L)) n (fun k hk ih => ?_) ?_ (by simp only [zany, Bool.false_eq_true, if_false, zself])
  · have h1 : ¬ nI n ≤ nI k := nI_ge hk (by omega)
    obtain ⟨v, hv1, hv2⟩ := hL.pr k hk
    simp only [u_X11_findLent_5]
    simp only [u_X11_findLent_0, u_X11_findLent_1, u_X11_findLent_2, u_X11_findLent_3, u_X11_findLent_7, u_X11_findLent_8, u_X11_findLent_11, u_X11_findLent_14, u_X11_findLent_15, u_X11_findLent_18, u_X11_findLent_20, u_X11_findLent_21, u_X11_findLent_22, u_X11_findLent_25, u_X11_findLent_26, u_X11_findLent_29, u_X11_findLent_30, u_X11_findLent_33, u_X11_findLent_35, u_X11_findLent_36, u_X11_findLent_37, u_X11_findLent_40, u_X11_findLent_41, u_X11_findLent_42, u_X11_findLent_45, u_X11_findLent_46, u_X11_findLent_49, u_X11_findLent_50, u_X11_findLent_53, u_X11_findLent_55, u_X11_findLent_56, u_X11_findLent_59, u_X11_findLent_60, u_X11_findLent_63, u_X11_findLent_66, u_X11_findLent_67, u_X11_findLent_70, u_X11_findLent_72, u_X11_findLent_73, u_X11_findLent_76, u_X11_findLent_77, u_X11_findLent_78, u_X11_findLent_81, u_X11_findLent_82, u_X11_findLent_85, u_X11_findLent_86, u_X11_findLent_89, u_X11_findLent_91, u_X11_findLent_92, u_X11_findLent_95, u_X11_findLent_96, u_X11_findLent_99, u_X11_findLent_102, u_X11_findLent_103, u_X11_findLent_106, u_X11_findLent_108, u_X11_findLent_109, u_X11_findLent_112, u_X11_findLent_113, u_X11_findLent_114, u_X11_findLent_117, u_X11_findLent_120, u_X11_findLent_121, az_un_i, az_un_r, az_un_n, az_un_l, Option.toList_some, Option.toList_none, List.cons_append, List.nil_append, List.length_cons, List.length_nil, Nat.reduceLeDiff, Nat.reduceAdd, Nat.zero_le, Nat.zero_add, and_true, true_and, zb_1, eq_self, az_uI_at, az_uL_at, Nat.reduceEqDiff, false_and, and_false, and_self, if_true, if_false, ite_true, ite_false, hn, h1, if_false, kx_114, kx_115, kx_116, zinT (show k < 60 by omega) (by decide), zcl (show k < 60 by omega) (by decide), zc29, zuss, ← r1, ← r2, ← r3, zb_0]
    rw [nI_succ] at ih
    have := hp k hk
    cases hz : p k
    · have e : zany p (k + 1) = zany p k := by simp only [zany, hz, Bool.false_or]
      have e1 : zslo (I 59) p (k + 1) = zslo (I 59) p k := by simp only [zslo, hz, Bool.false_eq_true, if_false]
      have e2 : zshi (I 59) p (k + 1) = zshi (I 59) p k := by simp only [zshi, hz, Bool.false_eq_true, if_false]
      rw [e, e1, e2] at ih
      by_cases q1 : I 58 k = m
      · have q2 : ¬ (x < 0 ∨ I 57 k = x) := fun q2 => by rw [this.mpr ⟨q1, q2⟩] at hz; cases hz
        rw [if_pos q1, if_neg (fun q => q2 (Or.inl q)), if_neg (fun q => q2 (Or.inr q))]; exact ih
      · rw [if_neg q1]; exact ih
    · obtain ⟨q1, q2⟩ := this.mp hz
      have e : zany p (k + 1) = true := by simp only [zany, hz, Bool.true_or]
      have e1 : zslo (I 59) p (k + 1) = if I 59 k < zslo (I 59) p k then I 59 k else zslo (I 59) p k := by simp only [zslo, hz, if_true]
      have e2 : zshi (I 59) p (k + 1) = if zshi (I 59) p k < I 59 k then I 59 k else zshi (I 59) p k := by simp only [zshi, hz, if_true]
      rw [e, e1, e2] at ih
      simp only [if_true, zb_t] at ih
      rw [if_pos q1]
      have goal : ∀ A : Prop, (A → (if x < 0 then A else if I 57 k = x then A else az_W (zD d) (fun r' h'' => r' = some (.int (zb (zany p n = true))) ∧ h'' = (130, az_Pf, az_uI (az_uI I 97 29 (if zany p n then zslo (I 59) p n else I 97 29)) 97 30 (if zany p n then zshi (I 59) p n else I 97 30), L)) k_X11_findLent 5 [.ref 97, .int x, .int m, .int (zb (zany p k = true)), .int (nI k + 1)] [] (130, az_Pf, az_uI (az_uI I 97 29 (if zany p k then zslo (I 59) p k else I 97 29)) 97 30 (if zany p k then zshi (I 59) p k else I 97 30), L))) := fun A hA => by
        rcases q2 with q | q
        · rw [if_pos q]; exact hA
        · by_cases q' : x < 0
          · rw [if_pos q']; exact hA
          · rw [if_neg q', if_pos q]; exact hA
      refine goal _ ?_
      rcases zsp (p := p) k (fun j hj => hL.pr j (by omega)) with ⟨y, -⟩ | ⟨y, g3, g4⟩
      · simp only [y, if_true, not_true, not_true_eq_false, if_false]
        by_cases c1 : I 59 k ≤ zslo (I 59) p k <;> by_cases c2 : zshi (I 59) p k ≤ I 59 k
        · rw [zmn1 c1, zmx1 c2] at ih
          simp only [c1, c2, if_true]; exact ih
        · rw [zmn1 c1, zmx2 c2] at ih
          simp only [c1, c2, if_true, if_false]; exact ih
        · rw [zmn2 c1, zmx1 c2] at ih
          simp only [c1, c2, if_true, if_false]; exact ih
        · rw [zmn2 c1, zmx2 c2] at ih
          simp only [c1, c2, if_false]; exact ih
      · have c1 : I 59 k < 1000 := by rw [hv2]; exact nI_lt (b := 1000) (by omega) (by decide)
        have c2 : (-1 : Int32) < I 59 k := by rw [hv2, Int32.lt_iff_toInt_lt, nI_toInt (by omega)]; simp; omega
        rw [g3, g4, if_pos c1, if_pos c2] at ih
        simp only [y, Bool.false_eq_true, not_false_eq_true, if_true, if_false]
        exact ih
  · have h1 : nI n ≤ nI n := nI_le (Nat.le_refl _) (by omega)
    simp only [u_X11_findLent_5]
    simp only [u_X11_findLent_0, u_X11_findLent_1, u_X11_findLent_2, u_X11_findLent_3, u_X11_findLent_7, u_X11_findLent_8, u_X11_findLent_11, u_X11_findLent_14, u_X11_findLent_15, u_X11_findLent_18, u_X11_findLent_20, u_X11_findLent_21, u_X11_findLent_22, u_X11_findLent_25, u_X11_findLent_26, u_X11_findLent_29, u_X11_findLent_30, u_X11_findLent_33, u_X11_findLent_35, u_X11_findLent_36, u_X11_findLent_37, u_X11_findLent_40, u_X11_findLent_41, u_X11_findLent_42, u_X11_findLent_45, u_X11_findLent_46, u_X11_findLent_49, u_X11_findLent_50, u_X11_findLent_53, u_X11_findLent_55, u_X11_findLent_56, u_X11_findLent_59, u_X11_findLent_60, u_X11_findLent_63, u_X11_findLent_66, u_X11_findLent_67, u_X11_findLent_70, u_X11_findLent_72, u_X11_findLent_73, u_X11_findLent_76, u_X11_findLent_77, u_X11_findLent_78, u_X11_findLent_81, u_X11_findLent_82, u_X11_findLent_85, u_X11_findLent_86, u_X11_findLent_89, u_X11_findLent_91, u_X11_findLent_92, u_X11_findLent_95, u_X11_findLent_96, u_X11_findLent_99, u_X11_findLent_102, u_X11_findLent_103, u_X11_findLent_106, u_X11_findLent_108, u_X11_findLent_109, u_X11_findLent_112, u_X11_findLent_113, u_X11_findLent_114, u_X11_findLent_117, u_X11_findLent_120, u_X11_findLent_121, az_un_i, az_un_r, az_un_n, az_un_l, Option.toList_some, Option.toList_none, List.cons_append, List.nil_append, List.length_cons, List.length_nil, Nat.reduceLeDiff, Nat.reduceAdd, Nat.zero_le, Nat.zero_add, and_true, true_and, zb_1, eq_self, az_uI_at, az_uL_at, Nat.reduceEqDiff, false_and, and_false, and_self, if_true, if_false, ite_true, ite_false, hn, h1, if_true]
theorem zp1_ok2 {h m n : Nat} (hh : h < 8) : ∀ k, k < n → (zp1 I h m k = true ↔ (I 58 k = nI m ∧ (nI h < 0 ∨ I 57 k = nI h))) := fun k hk => by
  have := nI_pos (n := h) (by omega)
  simp only [zp1, decide_eq_true_eq, this, false_or]
theorem zp2_ok2 {m n : Nat} : ∀ k, k < n → (zp2 I m k = true ↔ (I 58 k = nI m ∧ ((-1 : Int32) < 0 ∨ I 57 k = -1))) := fun k hk => by
  have : (-1 : Int32) < 0 := by decide
  simp only [zp2, decide_eq_true_eq, this, true_or, and_true]
theorem zsprd {a s : Nat} (ha : a ≤ 999) (hs : s ≤ 99) : (if nI s ≤ nI a then nI a - nI s else 0) = (if nI a - nI s < 0 then 0 else nI a - nI s) := by
  by_cases g : s ≤ a
  · rw [if_pos (nI_le g (by omega)), if_neg]
    rw [pk_sub g]; exact nI_pos (by omega)
  · rw [if_neg (nI_ge (by omega) (by omega)), if_pos (pk_sneg (by omega) (by omega))]
theorem s_X11_findTrue {h m n s t e_ : Nat} (hh : h < 8) (hL : zvL I n) (hB : zvB I t e_) (hC : zvC I) (hs : s ≤ 99) (hr : zrl I (nI m) 2 e_ = nI s) : zD (d + 3) 178 [.ref 97, .int (nI h), .int (nI m)] (130, az_Pf, I, L) (some (.int (zb (zTb I h m n = true)))) (130, az_Pf, az_uI (az_uI I 97 29 (if zTb I h m n then zTl I h m n (nI s) else I 97 29)) 97 30 (if zTb I h m n then zTh I h m n (nI s) else I 97 30), L) := by
  refine zD_of zm_X11_findTrue rfl ?_
  show az_W _ _ _ 0 [.ref 97, .int (nI h), .int (nI m), .null] [] _
  cases hz : zany (zp1 I h m) n
  · have h1 := s_X11_findLent (d := d + 1) (L := L) hL (zp1_ok2 (m := m) hh)
    simp only [hz, Bool.false_eq_true, if_false, zself, zb] at h1
    simp only [u_X11_findTrue_0, u_X11_findTrue_1, u_X11_findTrue_2, u_X11_findTrue_3, u_X11_findTrue_6, u_X11_findTrue_9, u_X11_findTrue_10, u_X11_findTrue_11, u_X11_findTrue_12, u_X11_findTrue_13, u_X11_findTrue_14, u_X11_findTrue_17, u_X11_findTrue_20, u_X11_findTrue_21, u_X11_findTrue_22, u_X11_findTrue_23, u_X11_findTrue_24, u_X11_findTrue_25, u_X11_findTrue_28, u_X11_findTrue_29, u_X11_findTrue_30, u_X11_findTrue_31, u_X11_findTrue_34, u_X11_findTrue_35, u_X11_findTrue_38, u_X11_findTrue_39, u_X11_findTrue_42, u_X11_findTrue_43, u_X11_findTrue_46, u_X11_findTrue_47, u_X11_findTrue_48, u_X11_findTrue_51, u_X11_findTrue_52, u_X11_findTrue_53, u_X11_findTrue_56, u_X11_findTrue_57, u_X11_findTrue_58, u_X11_findTrue_61, u_X11_findTrue_64, u_X11_findTrue_67, u_X11_findTrue_70, u_X11_findTrue_71, u_X11_findTrue_74, u_X11_findTrue_75, u_X11_findTrue_76, u_X11_findTrue_79, u_X11_findTrue_80, az_un_i, az_un_r, az_un_n, az_un_l, Option.toList_some, Option.toList_none, List.cons_append, List.nil_append, List.length_cons, List.length_nil, Nat.reduceLeDiff, Nat.reduceAdd, Nat.zero_le, Nat.zero_add, and_true, true_and, zb_1, eq_self, az_call h1, zb_0, and_self, and_true, true_and, if_true, if_false, not_true, not_false_iff, not_true_eq_false, not_false_eq_true, ite_true, ite_false, az_call (s_X11_findLent hL (zp2_ok2 (m := m))), az_uI_at, az_uL_at, Nat.reduceEqDiff, false_and, and_false, and_self, if_true, if_false, ite_true, ite_false]
    rcases zsp (p := zp2 I m) n hL.pr with ⟨hy, a, b, g1, g2, g3, g4⟩ | ⟨hy, g3, g4⟩
    · have e : zTb I h m n = true := by unfold zTb; rw [hz, hy]; rfl
      have e1 : zTl I h m n (nI s) = if zslo (I 59) (zp2 I m) n - nI s < 0 then 0 else zslo (I 59) (zp2 I m) n - nI s := by unfold zTl; rw [hz]; simp
      have e2 : zTh I h m n (nI s) = if 999 < zshi (I 59) (zp2 I m) n + nI s then 999 else zshi (I 59) (zp2 I m) n + nI s := by unfold zTh; rw [hz]; simp
      have hB2 : zvB (az_uI (az_uI I 97 29 (zslo (I 59) (zp2 I m) n)) 97 30 (zshi (I 59) (zp2 I m) n)) t e_ := hB.fr (by simp only [az_uI_at, az_uL_at, Nat.reduceEqDiff, false_and, and_false, and_self, if_true, if_false, ite_true, ite_false]) (by simp only [az_uI_at, az_uL_at, Nat.reduceEqDiff, false_and, and_false, and_self, if_true, if_false, ite_true, ite_false]) (by simp only [az_uI_at, az_uL_at, Nat.reduceEqDiff, false_and, and_false, and_self, if_true, if_false, ite_true, ite_false]) (by simp only [az_uI_at, az_uL_at, Nat.reduceEqDiff, false_and, and_false, and_self, if_true, if_false, ite_true, ite_false]) (by rw [zu_row (by omega), zu_row (by omega)]) (by rw [zu_row (by omega), zu_row (by omega)]) (by rw [zu_row (by omega), zu_row (by omega)]) (by rw [zu_row (by omega), zu_row (by omega)]) (by rw [zu_row (by omega), zu_row (by omega)]) (fun k hk => by rw [zu_row (by omega), zu_row (by omega)])
      have hC2 : zvC (az_uI (az_uI I 97 29 (zslo (I 59) (zp2 I m) n)) 97 30 (zshi (I 59) (zp2 I m) n)) := hC.fr (by rw [zu_row (by omega), zu_row (by omega)]) (by rw [zu_row (by omega), zu_row (by omega)]) (by rw [zu_row (by omega), zu_row (by omega)])
      have hc := s_X11_ruleOn (d := d + 1) (L := L) (m := nI m) (w := 2) hB2 hC2 (by decide)
      rw [zrl_fr (I := I) (by rw [zu_row (by omega), zu_row (by omega)]) (fun k hk => by rw [zu_row (by omega), zu_row (by omega)]) e_ hB.2.2.2.2.2.1, hr] at hc
      simp only [hy, if_true, not_true, not_true_eq_false, if_false, u_X11_findTrue_0, u_X11_findTrue_1, u_X11_findTrue_2, u_X11_findTrue_3, u_X11_findTrue_6, u_X11_findTrue_9, u_X11_findTrue_10, u_X11_findTrue_11, u_X11_findTrue_12, u_X11_findTrue_13, u_X11_findTrue_14, u_X11_findTrue_17, u_X11_findTrue_20, u_X11_findTrue_21, u_X11_findTrue_22, u_X11_findTrue_23, u_X11_findTrue_24, u_X11_findTrue_25, u_X11_findTrue_28, u_X11_findTrue_29, u_X11_findTrue_30, u_X11_findTrue_31, u_X11_findTrue_34, u_X11_findTrue_35, u_X11_findTrue_38, u_X11_findTrue_39, u_X11_findTrue_42, u_X11_findTrue_43, u_X11_findTrue_46, u_X11_findTrue_47, u_X11_findTrue_48, u_X11_findTrue_51, u_X11_findTrue_52, u_X11_findTrue_53, u_X11_findTrue_56, u_X11_findTrue_57, u_X11_findTrue_58, u_X11_findTrue_61, u_X11_findTrue_64, u_X11_findTrue_67, u_X11_findTrue_70, u_X11_findTrue_71, u_X11_findTrue_74, u_X11_findTrue_75, u_X11_findTrue_76, u_X11_findTrue_79, u_X11_findTrue_80, az_un_i, az_un_r, az_un_n, az_un_l, Option.toList_some, Option.toList_none, List.cons_append, List.nil_append, List.length_cons, List.length_nil, Nat.reduceLeDiff, Nat.reduceAdd, Nat.zero_le, Nat.zero_add, and_true, true_and, zb_1, eq_self, az_uI_at, az_uL_at, Nat.reduceEqDiff, false_and, and_false, and_self, if_true, if_false, ite_true, ite_false, az_call (show zD (d + 2) 154 [.ref 97, .int (nI m), .int 2] _ _ _ from hc), zc29, zuss, e, e1, e2]
      rw [g3, g4, ← zsprd (a := a) (by omega) hs]
      by_cases c2 : nI b + nI s ≤ 999
      · have c3 : ¬ 999 < nI b + nI s := Int32.not_lt.mpr c2
        by_cases c1 : nI s ≤ nI a <;> simp only [c1, c2, c3, if_true, if_false, zb] <;> simp
      · have c3 : 999 < nI b + nI s := Int32.not_le.mp c2
        by_cases c1 : nI s ≤ nI a <;> simp only [c1, c2, c3, if_true, if_false, zb] <;> simp
    · have e : zTb I h m n = false := by unfold zTb; rw [hz, hy]; rfl
      simp [hy, e, zb, zself]
  · have e : zTb I h m n = true := zsp_p hz
    have e1 : zTl I h m n (nI s) = zslo (I 59) (zp1 I h m) n := by unfold zTl; rw [hz]; simp
    have e2 : zTh I h m n (nI s) = zshi (I 59) (zp1 I h m) n := by unfold zTh; rw [hz]; simp
    simp only [u_X11_findTrue_0, u_X11_findTrue_1, u_X11_findTrue_2, u_X11_findTrue_3, u_X11_findTrue_6, u_X11_findTrue_9, u_X11_findTrue_10, u_X11_findTrue_11, u_X11_findTrue_12, u_X11_findTrue_13, u_X11_findTrue_14, u_X11_findTrue_17, u_X11_findTrue_20, u_X11_findTrue_21, u_X11_findTrue_22, u_X11_findTrue_23, u_X11_findTrue_24, u_X11_findTrue_25, u_X11_findTrue_28, u_X11_findTrue_29, u_X11_findTrue_30, u_X11_findTrue_31, u_X11_findTrue_34, u_X11_findTrue_35, u_X11_findTrue_38, u_X11_findTrue_39, u_X11_findTrue_42, u_X11_findTrue_43, u_X11_findTrue_46, u_X11_findTrue_47, u_X11_findTrue_48, u_X11_findTrue_51, u_X11_findTrue_52, u_X11_findTrue_53, u_X11_findTrue_56, u_X11_findTrue_57, u_X11_findTrue_58, u_X11_findTrue_61, u_X11_findTrue_64, u_X11_findTrue_67, u_X11_findTrue_70, u_X11_findTrue_71, u_X11_findTrue_74, u_X11_findTrue_75, u_X11_findTrue_76, u_X11_findTrue_79, u_X11_findTrue_80, az_un_i, az_un_r, az_un_n, az_un_l, Option.toList_some, Option.toList_none, List.cons_append, List.nil_append, List.length_cons, List.length_nil, Nat.reduceLeDiff, Nat.reduceAdd, Nat.zero_le, Nat.zero_add, and_true, true_and, zb_1, eq_self, az_call (s_X11_findLent hL (zp1_ok2 (m := m) hh)), zb_0, hz]
    simp [e, e1, e2, zb]
end S
