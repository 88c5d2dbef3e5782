/-! ===== paid, lost ===== -/
theorem zss_b {I : Nat → Nat → Int32} {n c : Nat} (hD : zvD I n c) (x m : Int32) : ∀ k, k < c → -99 ≤ (zss I x m k).toInt ∧ (zss I x m k).toInt ≤ 99 := by
  intro k hk
  obtain ⟨a, b, mm, z, t, -, -, -, -, g5, g6, -, -, -, -, g11, -⟩ := hD.2.2.2.2.2.2.2.2.2.2.2.2.2 k hk
  unfold zss
  rw [g11]
  have e1 : (nI z).toInt = z := nI_toInt (by omega)
  have e2 : (- nI z : Int32).toInt = -(z : Int) := by rw [Int32.toInt_neg, e1, Int.bmod_def]; omega
  (repeat' split)
  · rw [e1]; omega
  · rw [e2]; omega
  · simp
  · simp
theorem zgn_b {I : Nat → Nat → Int32} {n c : Nat} (hD : zvD I n c) (x m : Int32) : ∀ k, k ≤ c → -(99 * k : Int) ≤ (zsum (zss I x m) k).toInt ∧ (zsum (zss I x m) k).toInt ≤ 99 * k
  | 0, _ => by simp [zsum]
  | k + 1, hk => by
    obtain ⟨h1, h2⟩ := zgn_b hD x m k (by omega)
    have hc := hD.2.2.2.2.2.1
    have hz := zss_b hD x m k (by omega)
    show -(99 * ((k + 1 : Nat) : Int)) ≤ (zsum (zss I x m) k + zss I x m k).toInt ∧ (zsum (zss I x m) k + zss I x m k).toInt ≤ 99 * ((k + 1 : Nat) : Int)
    rw [Int32.toInt_add, Int.bmod_def]
    omega
theorem zst_b {I : Nat → Nat → Int32} {n c : Nat} (hD : zvD I n c) (x m : Int32) : ∀ k, k ≤ c → -(98901 * k : Int) ≤ (zsum (fun c => zss I x m c * I 55 c) k).toInt ∧ (zsum (fun c => zss I x m c * I 55 c) k).toInt ≤ 98901 * k
  | 0, _ => by simp [zsum]
  | k + 1, hk => by
    obtain ⟨h1, h2⟩ := zst_b hD x m k (by omega)
    have hc := hD.2.2.2.2.2.1
    have hz := zss_b hD x m k (by omega)
    obtain ⟨a, b, mm, z, t, -, -, -, -, -, -, g7, -, -, -, -, g12⟩ := hD.2.2.2.2.2.2.2.2.2.2.2.2.2 k (by omega)
    have e1 : (I 55 k).toInt = t := by rw [g12, nI_toInt (by omega)]
    have hp : -98901 ≤ (zss I x m k).toInt * (t : Int) ∧ (zss I x m k).toInt * (t : Int) ≤ 98901 := by
      have q : ((zss I x m k).toInt * (t : Int)).natAbs ≤ 99 * 999 := by
        rw [Int.natAbs_mul]; exact Nat.mul_le_mul (by omega) (by omega)
      generalize (zss I x m k).toInt * (t : Int) = u at *
      omega
    have hm : (zss I x m k * I 55 k).toInt = (zss I x m k).toInt * (t : Int) := by
      rw [Int32.toInt_mul, e1, Int.bmod_def]
      generalize (zss I x m k).toInt * (t : Int) = u at *
      omega
    show -(98901 * ((k + 1 : Nat) : Int)) ≤ (zsum (fun c => zss I x m c * I 55 c) k + zss I x m k * I 55 k).toInt ∧ (zsum (fun c => zss I x m c * I 55 c) k + zss I x m k * I 55 k).toInt ≤ 98901 * ((k + 1 : Nat) : Int)
    rw [Int32.toInt_add, hm, Int.bmod_def]
    generalize (zss I x m k).toInt * (t : Int) = u at *
    omega
/-- the gain of a desk; its strikes -/
def zgn (I : Nat → Nat → Int32) (a m c : Nat) : Int32 := zsum (zss I (nI a) (nI m)) c
def zst (I : Nat → Nat → Int32) (a m c : Nat) : Int32 := zsum (fun c => zss I (nI a) (nI m) c * I 55 c) c
theorem zss_fr {I J : Nat → Nat → Int32} (f : zFr I J) (x m : Int32) : zss J x m = zss I x m := funext fun c => by
  unfold zss; rw [f.rw 53 (by omega), f.rw 51 (by omega), f.rw 52 (by omega), f.rw 54 (by omega)]
theorem zgn_fr {I J : Nat → Nat → Int32} (f : zFr I J) (a m c : Nat) : zgn J a m c = zgn I a m c := by unfold zgn; rw [zss_fr f]
theorem zst_fr {I J : Nat → Nat → Int32} (f : zFr I J) (a m c : Nat) : zst J a m c = zst I a m c := by unfold zst; rw [zss_fr f, f.rw 55 (by omega)]
theorem zgn_r {I : Nat → Nat → Int32} {n c : Nat} (hD : zvD I n c) (a m : Nat) : -2376 ≤ (zgn I a m c).toInt ∧ (zgn I a m c).toInt ≤ 2376 := by
  have := zgn_b hD (nI a) (nI m) c (Nat.le_refl _)
  have := hD.2.2.2.2.2.1
  unfold zgn; omega
theorem zst_r {I : Nat → Nat → Int32} {n c : Nat} (hD : zvD I n c) (a m : Nat) : -2373624 ≤ (zst I a m c).toInt ∧ (zst I a m c).toInt ≤ 2373624 := by
  have := zst_b hD (nI a) (nI m) c (Nat.le_refl _)
  have := hD.2.2.2.2.2.1
  unfold zst; omega
theorem zfP01 {x : Int32} (hx : 0 ≤ x.toInt ∧ x.toInt ≤ 1) : zfP 0 1 x = x.toInt64 := by
  obtain ⟨k, hk, rfl⟩ := znat hx.1 (n := 1) hx.2 (by decide)
  rcases (show k = 0 ∨ k = 1 by omega) with rfl | rfl <;> decide +kernel
section S
variable {d : Nat} {I : Nat → Nat → Int32} {L : Nat → Nat → Int64} {h : az_H}
/-- the answer of paid -/
def zAp (I : Nat → Nat → Int32) (a m c l k : Nat) (x : Int32) : Int64 := if zok (I (4 + m)) c l then zfP ((zgn I a m k).toInt * (zS (I (4 + m)) c : Int) - (zst I a m k).toInt * ((zK (I (4 + m)) - 2 * c : Nat) : Int)) (zK (I (4 + m)) - 2 * c) x else x.toInt64
/-- the answer of lost -/
def zAl (I : Nat → Nat → Int32) (a m nl e c l k : Nat) (x : Int32) : Int64 := if zok (I (4 + m)) c l then zfP ((zgn I a m k).toInt * ((zS (zrt I m nl e) c : Int) - (zS (I (4 + m)) c : Int))) (zK (I (4 + m)) - 2 * c) x else x.toInt64
theorem s_X10_paid_bad {x y z : Int32} {n : Nat} (hn : I 49 1 = nI n) (hle : n ≤ 12) (hb : ¬ ((0 ≤ x.toInt ∧ x.toInt < (n : Int)) ∧ (0 ≤ y.toInt ∧ y.toInt ≤ 29) ∧ (0 ≤ z.toInt ∧ z.toInt ≤ 1))) : zD (d + 8) 104 [.ref 0, .int x, .int y, .int z] (130, az_Pf, I, L) (some (.long (-1099511627777))) (130, az_Pf, I, L) := by
  refine zD_of zm_X10_paid rfl ?_
  show az_W _ _ _ 0 [.ref 0, .int x, .int y, .int z] [] _
  simp only [u_X10_paid_0, u_X10_paid_1, u_X10_paid_4, u_X10_paid_5, u_X10_paid_8, u_X10_paid_11, u_X10_paid_12, u_X10_paid_15, u_X10_paid_18, u_X10_paid_19, u_X10_paid_22, u_X10_paid_25, u_X10_paid_28, u_X10_paid_29, u_X10_paid_30, u_X10_paid_33, u_X10_paid_34, u_X10_paid_35, u_X10_paid_38, u_X10_paid_41, u_X10_paid_44, u_X10_paid_45, u_X10_paid_48, u_X10_paid_49, u_X10_paid_50, u_X10_paid_53, u_X10_paid_56, u_X10_paid_57, u_X10_paid_60, u_X10_paid_61, u_X10_paid_64, u_X10_paid_65, u_X10_paid_66, u_X10_paid_69, u_X10_paid_70, u_X10_paid_73, u_X10_paid_74, u_X10_paid_75, u_X10_paid_78, u_X10_paid_81, u_X10_paid_82, u_X10_paid_85, u_X10_paid_86, u_X10_paid_89, az_un_i, az_un_r, az_un_n, az_un_l, Option.toList_some, Option.toList_none, List.cons_append, List.nil_append, List.length_cons, List.length_nil, Nat.reduceLeDiff, Nat.reduceAdd, Nat.zero_le, Nat.zero_add, and_true, true_and, zb_1, eq_self, zb_0, az_call (s_X0_hasN hn hle), az_call s_X10_isMorning, az_call s_X10_isBit]
  by_cases h1 : 0 ≤ x.toInt ∧ x.toInt < (n : Int) <;> by_cases h2 : 0 ≤ y.toInt ∧ y.toInt ≤ 29 <;> by_cases h3 : 0 ≤ z.toInt ∧ z.toInt ≤ 1 <;> simp only [h1, h2, h3, and_self, and_true, true_and, if_true, if_false, not_true, not_false_iff, not_true_eq_false, not_false_eq_true, ite_true, ite_false]
  exact absurd ⟨h1, h2, h3⟩ hb
theorem s_X11_paid_bad {x y z : Int32} {n : Nat} (hn : I 97 17 = nI n) (hle : n ≤ 12) (hb : ¬ ((0 ≤ x.toInt ∧ x.toInt < (n : Int)) ∧ (0 ≤ y.toInt ∧ y.toInt ≤ 29) ∧ (0 ≤ z.toInt ∧ z.toInt ≤ 1))) : zD (d + 8) 173 [.ref 97, .int x, .int y, .int z] (130, az_Pf, I, L) (some (.long (-1099511627777))) (130, az_Pf, I, L) := by
  refine zD_of zm_X11_paid rfl ?_
  show az_W _ _ _ 0 [.ref 97, .int x, .int y, .int z] [] _
  simp only [u_X11_paid_0, u_X11_paid_1, u_X11_paid_2, u_X11_paid_5, u_X11_paid_8, u_X11_paid_9, u_X11_paid_12, u_X11_paid_15, u_X11_paid_16, u_X11_paid_19, u_X11_paid_22, u_X11_paid_25, u_X11_paid_26, u_X11_paid_27, u_X11_paid_28, u_X11_paid_31, u_X11_paid_32, u_X11_paid_33, u_X11_paid_36, u_X11_paid_39, u_X11_paid_40, u_X11_paid_41, u_X11_paid_42, u_X11_paid_43, u_X11_paid_44, u_X11_paid_45, u_X11_paid_46, u_X11_paid_49, u_X11_paid_50, u_X11_paid_51, u_X11_paid_54, u_X11_paid_55, u_X11_paid_56, u_X11_paid_57, u_X11_paid_58, u_X11_paid_59, u_X11_paid_60, u_X11_paid_63, u_X11_paid_64, u_X11_paid_65, u_X11_paid_68, u_X11_paid_69, u_X11_paid_70, u_X11_paid_71, u_X11_paid_72, u_X11_paid_75, u_X11_paid_76, u_X11_paid_77, u_X11_paid_80, az_un_i, az_un_r, az_un_n, az_un_l, Option.toList_some, Option.toList_none, List.cons_append, List.nil_append, List.length_cons, List.length_nil, Nat.reduceLeDiff, Nat.reduceAdd, Nat.zero_le, Nat.zero_add, and_true, true_and, zb_1, eq_self, zb_0, az_call (s_X11_isDesk hn hle), az_call s_X11_isMorning, az_call s_X11_isWhat]
  by_cases h1 : 0 ≤ x.toInt ∧ x.toInt < (n : Int) <;> by_cases h2 : 0 ≤ y.toInt ∧ y.toInt ≤ 29 <;> by_cases h3 : 0 ≤ z.toInt ∧ z.toInt ≤ 1 <;> simp only [h1, h2, h3, and_self, and_true, true_and, if_true, if_false, not_true, not_false_iff, not_true_eq_false, not_false_eq_true, ite_true, ite_false]
  exact absurd ⟨h1, h2, h3⟩ hb
theorem s_X10_lost_bad {x y z : Int32} {n : Nat} (hn : I 49 1 = nI n) (hle : n ≤ 12) (hb : ¬ ((0 ≤ x.toInt ∧ x.toInt < (n : Int)) ∧ (0 ≤ y.toInt ∧ y.toInt ≤ 29) ∧ (0 ≤ z.toInt ∧ z.toInt ≤ 1))) : zD (d + 8) 111 [.ref 0, .int x, .int y, .int z] (130, az_Pf, I, L) (some (.long (-1099511627777))) (130, az_Pf, I, L) := by
  refine zD_of zm_X10_lost rfl ?_
  show az_W _ _ _ 0 [.ref 0, .int x, .int y, .int z] [] _
  simp only [u_X10_lost_0, u_X10_lost_1, u_X10_lost_4, u_X10_lost_5, u_X10_lost_8, u_X10_lost_11, u_X10_lost_12, u_X10_lost_15, u_X10_lost_18, u_X10_lost_19, u_X10_lost_22, u_X10_lost_25, u_X10_lost_28, u_X10_lost_29, u_X10_lost_30, u_X10_lost_33, u_X10_lost_34, u_X10_lost_35, u_X10_lost_38, u_X10_lost_41, u_X10_lost_44, u_X10_lost_45, u_X10_lost_46, u_X10_lost_47, u_X10_lost_50, u_X10_lost_53, u_X10_lost_56, u_X10_lost_57, u_X10_lost_60, u_X10_lost_61, u_X10_lost_64, u_X10_lost_65, u_X10_lost_68, u_X10_lost_71, u_X10_lost_72, u_X10_lost_75, u_X10_lost_76, u_X10_lost_79, u_X10_lost_80, u_X10_lost_81, u_X10_lost_84, u_X10_lost_85, u_X10_lost_88, u_X10_lost_91, u_X10_lost_92, u_X10_lost_95, u_X10_lost_96, u_X10_lost_97, u_X10_lost_100, u_X10_lost_101, u_X10_lost_104, u_X10_lost_105, u_X10_lost_108, az_un_i, az_un_r, az_un_n, az_un_l, Option.toList_some, Option.toList_none, List.cons_append, List.nil_append, List.length_cons, List.length_nil, Nat.reduceLeDiff, Nat.reduceAdd, Nat.zero_le, Nat.zero_add, and_true, true_and, zb_1, eq_self, zb_0, az_call (s_X0_hasN hn hle), az_call s_X10_isMorning, az_call s_X10_isBit]
  by_cases h1 : 0 ≤ x.toInt ∧ x.toInt < (n : Int) <;> by_cases h2 : 0 ≤ y.toInt ∧ y.toInt ≤ 29 <;> by_cases h3 : 0 ≤ z.toInt ∧ z.toInt ≤ 1 <;> simp only [h1, h2, h3, and_self, and_true, true_and, if_true, if_false, not_true, not_false_iff, not_true_eq_false, not_false_eq_true, ite_true, ite_false]
  exact absurd ⟨h1, h2, h3⟩ hb
theorem s_X11_lost_bad {x y z : Int32} {n : Nat} (hn : I 97 17 = nI n) (hle : n ≤ 12) (hb : ¬ ((0 ≤ x.toInt ∧ x.toInt < (n : Int)) ∧ (0 ≤ y.toInt ∧ y.toInt ≤ 29) ∧ (0 ≤ z.toInt ∧ z.toInt ≤ 1))) : zD (d + 8) 184 [.ref 97, .int x, .int y, .int z] (130, az_Pf, I, L) (some (.long (-1099511627777))) (130, az_Pf, I, L) := by
  refine zD_of zm_X11_lost rfl ?_
  show az_W _ _ _ 0 [.ref 97, .int x, .int y, .int z, .null, .null] [] _
  simp only [u_X11_lost_0, u_X11_lost_1, u_X11_lost_2, u_X11_lost_5, u_X11_lost_8, u_X11_lost_9, u_X11_lost_12, u_X11_lost_15, u_X11_lost_16, u_X11_lost_19, u_X11_lost_22, u_X11_lost_25, u_X11_lost_26, u_X11_lost_27, u_X11_lost_28, u_X11_lost_31, u_X11_lost_34, u_X11_lost_35, u_X11_lost_36, u_X11_lost_37, u_X11_lost_38, u_X11_lost_41, u_X11_lost_43, u_X11_lost_44, u_X11_lost_45, u_X11_lost_48, u_X11_lost_49, u_X11_lost_50, u_X11_lost_53, u_X11_lost_55, u_X11_lost_57, u_X11_lost_60, u_X11_lost_61, u_X11_lost_62, u_X11_lost_63, u_X11_lost_64, u_X11_lost_67, u_X11_lost_68, u_X11_lost_70, u_X11_lost_71, u_X11_lost_74, u_X11_lost_75, u_X11_lost_76, u_X11_lost_77, u_X11_lost_78, u_X11_lost_81, u_X11_lost_82, u_X11_lost_83, u_X11_lost_86, u_X11_lost_89, u_X11_lost_90, u_X11_lost_91, az_un_i, az_un_r, az_un_n, az_un_l, Option.toList_some, Option.toList_none, List.cons_append, List.nil_append, List.length_cons, List.length_nil, Nat.reduceLeDiff, Nat.reduceAdd, Nat.zero_le, Nat.zero_add, and_true, true_and, zb_1, eq_self, zb_0, az_call (s_X11_isDesk hn hle), az_call s_X11_isMorning, az_call s_X11_isWhat]
  by_cases h1 : 0 ≤ x.toInt ∧ x.toInt < (n : Int) <;> by_cases h2 : 0 ≤ y.toInt ∧ y.toInt ≤ 29 <;> by_cases h3 : 0 ≤ z.toInt ∧ z.toInt ≤ 1 <;> simp only [h1, h2, h3, and_self, and_true, true_and, if_true, if_false, not_true, not_false_iff, not_true_eq_false, not_false_eq_true, ite_true, ite_false]
  exact absurd ⟨h1, h2, h3⟩ hb
theorem s_X10_paid {a m c l t e nl nr n k w : Nat} {x : Int32} (hG : zG I t e nl nr n k w) (ha : a < n) (hm : m < 30) (hx : 0 ≤ x.toInt ∧ x.toInt ≤ 1) (hc : c ≤ 3) (hl : l ≤ 8) (ec : zrl I (nI m) 0 e = nI c) (el : zrl I (nI m) 1 e = nI l) : zE (d + 8) 104 [.ref 0, .int (nI a), .int (nI m), .int x] I L (some (.long (zAp I a m c l k x))) (fun J _ => zFr I J) := by
  refine zE_of zm_X10_paid rfl ?_
  show az_W _ _ _ 0 [.ref 0, .int (nI a), .int (nI m), .int x] [] _
  have hD := hG.2.2.2.2.2.2.1
  have hle := hD.1
  obtain ⟨J, L', hk, q1, q2, q3, q4⟩ := s_X5_find (d := d + 2) (L := L) (f := 94) hG hm kx_94 hc hl ec el
  simp only [u_X10_paid_0, u_X10_paid_1, u_X10_paid_4, u_X10_paid_5, u_X10_paid_8, u_X10_paid_11, u_X10_paid_12, u_X10_paid_15, u_X10_paid_18, u_X10_paid_19, u_X10_paid_22, u_X10_paid_25, u_X10_paid_28, u_X10_paid_29, u_X10_paid_30, u_X10_paid_33, u_X10_paid_34, u_X10_paid_35, u_X10_paid_38, u_X10_paid_41, az_un_i, az_un_r, az_un_n, az_un_l, Option.toList_some, Option.toList_none, List.cons_append, List.nil_append, List.length_cons, List.length_nil, Nat.reduceLeDiff, Nat.reduceAdd, Nat.zero_le, Nat.zero_add, and_true, true_and, zb_1, eq_self, az_call (s_X0_hasN hD.2.1 hD.1), az_call s_X10_isMorning, az_call s_X10_isBit, zb_0, (eq_true (by rw [nI_toInt (by omega)]; omega) : (0 ≤ (nI a).toInt ∧ (nI a).toInt < (n : Int)) = True), (eq_true (by rw [nI_toInt (by omega)]; omega) : (0 ≤ (nI m).toInt ∧ (nI m).toInt ≤ 29) = True), eq_true hx, and_self, and_true, true_and, if_true, if_false, not_true, not_false_iff, not_true_eq_false, not_false_eq_true, ite_true, ite_false, az_call hk, kx_94]
  unfold zAp
  cases hz : zok (I (4 + m)) c l
  · have hp := s_X2_put (d := d + 6) (I := J) (L := L') (f := 94) (B := 1) (a := 0) (b := 1) (A := 0) kx_94 rfl rfl (by decide) (by decide) (by decide) (by decide)
    simp only [Bool.false_eq_true, not_false_eq_true, if_true, if_false, u_X10_paid_44, u_X10_paid_45, u_X10_paid_48, u_X10_paid_49, u_X10_paid_50, u_X10_paid_53, u_X10_paid_56, u_X10_paid_57, u_X10_paid_60, u_X10_paid_61, u_X10_paid_64, u_X10_paid_65, u_X10_paid_66, u_X10_paid_69, u_X10_paid_70, u_X10_paid_73, u_X10_paid_74, u_X10_paid_75, u_X10_paid_78, u_X10_paid_81, u_X10_paid_82, u_X10_paid_85, u_X10_paid_86, u_X10_paid_89, az_un_i, az_un_r, az_un_n, az_un_l, Option.toList_some, Option.toList_none, List.cons_append, List.nil_append, List.length_cons, List.length_nil, Nat.reduceLeDiff, Nat.reduceAdd, Nat.zero_le, Nat.zero_add, and_true, true_and, zb_1, eq_self, kx_94, az_call hp, az_call (s_X2_part kx_94), zR_at, zLs_p, zfP01 hx]
    exact q1.fr
  · rw [hz] at q4
    simp only [if_true] at q4
    have hD1 := (hG.fr q1.fr).2.2.2.2.2.2.1
    have hv := hG.vr hm
    have b1 := zgn_r hD a m
    have b2 := zst_r hD a m
    have c1 : zD (d + 7) 8 [.ref 49, .int (nI a), .int (nI m)] (130, az_Pf, J, L') (some (.int (zgn I a m k))) (130, az_Pf, J, L') := by
      rw [← zgn_fr q1.fr]; exact s_X0_deskGain hD1.2.2.2.2.2.2.1 hD1.2.2.2.2.2.1
    have c2 : zD (d + 7) 10 [.ref 49, .int (nI a), .int (nI m)] (130, az_Pf, J, L') (some (.int (zst I a m k))) (130, az_Pf, J, L') := by
      rw [← zst_fr q1.fr]; exact s_X0_strikeSum hD1.2.2.2.2.2.2.1 hD1.2.2.2.2.2.1
    have c3 := s_X2_scale (d := d + 5) (I := J) (L := L') (f := 94) (A := (zS (I (4 + m)) c : Int)) (B := zK (I (4 + m)) - 2 * c) (u := zgn I a m k) (s := zst I a m k) kx_94 (by rw [q4]; exact zFc_s) (zFb_S hv hz) (by omega) (by omega)
    simp only [not_true, not_true_eq_false, if_true, if_false, u_X10_paid_56, u_X10_paid_57, u_X10_paid_60, u_X10_paid_61, u_X10_paid_64, u_X10_paid_65, u_X10_paid_66, u_X10_paid_69, u_X10_paid_70, u_X10_paid_73, u_X10_paid_74, u_X10_paid_75, u_X10_paid_78, u_X10_paid_81, u_X10_paid_82, u_X10_paid_85, u_X10_paid_86, u_X10_paid_89, az_un_i, az_un_r, az_un_n, az_un_l, Option.toList_some, Option.toList_none, List.cons_append, List.nil_append, List.length_cons, List.length_nil, Nat.reduceLeDiff, Nat.reduceAdd, Nat.zero_le, Nat.zero_add, and_true, true_and, zb_1, eq_self, kx_94, az_call c1, az_call c2, az_call c3, az_call (s_X2_part kx_94), zR_at, zLs_p]
    exact q1.fr
theorem s_X11_paid {a m c l t e nl nr n k w : Nat} {x : Int32} (hG : zG I t e nl nr n k w) (ha : a < n) (hm : m < 30) (hx : 0 ≤ x.toInt ∧ x.toInt ≤ 1) (hc : c ≤ 3) (hl : l ≤ 8) (ec : zrl I (nI m) 0 e = nI c) (el : zrl I (nI m) 1 e = nI l) : zE (d + 8) 173 [.ref 97, .int (nI a), .int (nI m), .int x] I L (some (.long (zAp I a m c l k x))) (fun J _ => zFr I J) := by
  refine zE_of zm_X11_paid rfl ?_
  show az_W _ _ _ 0 [.ref 97, .int (nI a), .int (nI m), .int x] [] _
  have hD := hG.2.2.2.2.2.2.1
  have hle := hD.1
  obtain ⟨J1, L1, h1, q0, f1, e1⟩ := s_X11_layMorning (d := d + 6) (I := I) (L := L) hm
  subst q0
  have fr1 := f1.fr zscr106
  have hG1 := hG.fr fr1
  have ev : ∀ h, h < 8 → I (4 + m) h = J1 106 h := fun h hh => by rw [e1 h hh]; exact (hG.1 m hm h hh).1
  have er : ∀ k, zrl J1 (nI m) k e = zrl I (nI m) k e := fun k => zrl_fr (f1 37 (by decide)) (fun k hk => f1 (39 + k) (by omega)) e hG.2.2.2.1.2.2.2.2.2.1
  have hv := hG.vr hm
  obtain ⟨J2, L2, h2, q0, f2, e2, e3, e4, e5⟩ := s_X11_findRateOn (d := d + 5) (I := J1) (L := L1) (m := m) hG1.2.2.2.1 hG1.2.1 (zVr_c ev hv) hc hl ((er 0).trans ec) ((er 1).trans el)
  subst q0
  rw [← zok_c ev] at h2
  rw [← zS_c ev] at e4
  rw [← zK_c ev] at e5
  have fr2 := fr1.tr f2.fr
  have hD2 := (hG.fr fr2).2.2.2.2.2.2.1
  have c1 : zD (d + 7) 170 [.ref 97, .int (nI a), .int (nI m), .int 0] (130, az_Pf, J2, L2) (some (.int (zgn I a m k))) (130, az_Pf, J2, L2) := by
    rw [← zgn_fr fr2]; exact s_X11_gainOf hD2
  have c2 : zD (d + 7) 170 [.ref 97, .int (nI a), .int (nI m), .int 1] (130, az_Pf, J2, L2) (some (.int (zst I a m k))) (130, az_Pf, J2, L2) := by
    rw [← zst_fr fr2]; exact s_X11_gainOf_s hD2
  have b1 := zgn_r hD a m
  have b2 := zst_r hD a m
  simp only [u_X11_paid_0, u_X11_paid_1, u_X11_paid_2, u_X11_paid_5, u_X11_paid_8, u_X11_paid_9, u_X11_paid_12, u_X11_paid_15, u_X11_paid_16, u_X11_paid_19, u_X11_paid_22, u_X11_paid_25, u_X11_paid_26, u_X11_paid_27, u_X11_paid_28, u_X11_paid_31, u_X11_paid_32, u_X11_paid_33, u_X11_paid_36, u_X11_paid_39, u_X11_paid_40, u_X11_paid_41, u_X11_paid_42, u_X11_paid_43, u_X11_paid_44, u_X11_paid_45, u_X11_paid_46, u_X11_paid_49, u_X11_paid_50, u_X11_paid_51, u_X11_paid_54, u_X11_paid_55, u_X11_paid_56, u_X11_paid_57, u_X11_paid_58, u_X11_paid_59, u_X11_paid_60, u_X11_paid_63, u_X11_paid_64, u_X11_paid_65, u_X11_paid_68, u_X11_paid_69, u_X11_paid_70, u_X11_paid_71, u_X11_paid_72, u_X11_paid_75, u_X11_paid_76, u_X11_paid_77, u_X11_paid_80, az_un_i, az_un_r, az_un_n, az_un_l, Option.toList_some, Option.toList_none, List.cons_append, List.nil_append, List.length_cons, List.length_nil, Nat.reduceLeDiff, Nat.reduceAdd, Nat.zero_le, Nat.zero_add, and_true, true_and, zb_1, eq_self, az_call (s_X11_isDesk hD.2.2.1 hD.1), az_call s_X11_isMorning, az_call s_X11_isWhat, zb_0, (eq_true (by rw [nI_toInt (by omega)]; omega) : (0 ≤ (nI a).toInt ∧ (nI a).toInt < (n : Int)) = True), (eq_true (by rw [nI_toInt (by omega)]; omega) : (0 ≤ (nI m).toInt ∧ (nI m).toInt ≤ 29) = True), eq_true hx, and_self, and_true, true_and, if_true, if_false, not_true, not_false_iff, not_true_eq_false, not_false_eq_true, ite_true, ite_false, az_call h1, az_call h2, az_call c1, az_call c2, e4, e5]
  unfold zAp
  cases hz : zok (I (4 + m)) c l
  · simp only [Bool.false_eq_true, not_false_eq_true, if_true, if_false, zR_at]
    exact ⟨trivial, fr2⟩
  · obtain ⟨b3, b4, b5, b6⟩ := zFb_S hv hz
    have hz' := zok_i.mp hz
    have t1 : (nI (zS (I (4 + m)) c)).toInt64.toInt = (zS (I (4 + m)) c : Int) := by rw [z64, nI_toInt (by omega)]
    have t2 : (nI (zK (I (4 + m)) - 2 * c)).toInt64.toInt = ((zK (I (4 + m)) - 2 * c : Nat) : Int) := by rw [z64, nI_toInt (by omega)]
    have m1 := zmb (x := (zgn I a m k).toInt) (by omega) (by omega) b4 b5
    have m2 := zmb (x := (zst I a m k).toInt) (y := ((zK (I (4 + m)) - 2 * c : Nat) : Int)) (by omega) (by omega) (by omega) (by omega)
    have hA := zlsu (zlmu (z64 (zgn I a m k)) t1 (by omega) (by omega)) (zlmu (z64 (zst I a m k)) t2 (by omega) (by omega)) (by omega) (by omega)
    have ht := s_X11_told (d := d + 5) (h := (130, az_Pf, J2, L2)) (x := x) hA (zil (show zK (I (4 + m)) - 2 * c < 2 ^ 31 by omega)) (by omega) (by omega) b3 (by omega)
    simp only [not_true, not_true_eq_false, if_true, if_false, pk_sub (show 2 * c ≤ zK (I (4 + m)) by omega), az_call ht, u_X11_paid_80, az_un_i, az_un_r, az_un_n, az_un_l, Option.toList_some, Option.toList_none, List.cons_append, List.nil_append, List.length_cons, List.length_nil, Nat.reduceLeDiff, Nat.reduceAdd, Nat.zero_le, Nat.zero_add, and_true, true_and, zb_1, eq_self, zR_at]
    exact fr2
theorem s_X10_lost {a m c l t e nl nr n k w : Nat} {x : Int32} (hG : zG I t e nl nr n k w) (ha : a < n) (hm : m < 30) (hx : 0 ≤ x.toInt ∧ x.toInt ≤ 1) (hc : c ≤ 3) (hl : l ≤ 8) (ec : zrl I (nI m) 0 e = nI c) (el : zrl I (nI m) 1 e = nI l) : zE (d + 8) 111 [.ref 0, .int (nI a), .int (nI m), .int x] I L (some (.long (zAl I a m nl e c l k x))) (fun J _ => zFr I J) := by
  refine zE_of zm_X10_lost rfl ?_
  show az_W _ _ _ 0 [.ref 0, .int (nI a), .int (nI m), .int x] [] _
  have hD := hG.2.2.2.2.2.2.1
  have hle := hD.1
  have he := hG.2.2.2.1.2.2.2.2.2.1
  obtain ⟨J1, L1, h1, q1, q2, q3, q4⟩ := s_X5_find (d := d + 2) (L := L) (f := 95) hG hm kx_95 hc hl ec el
  have fr1 := q1.fr
  have er : ∀ k, zrl J1 (nI m) k e = zrl I (nI m) k e := fun k => zrl_fr (fr1.rw 37 (by omega)) (fun k hk => fr1.rw (39 + k) (by omega)) e he
  obtain ⟨J2, L2, h2, p1, p2⟩ := s_X10_findRight (d := d + 1) (I := J1) (L := L1) (f := 94) (hG.fr fr1) hm kx_94 hc hl ((er 0).trans ec) ((er 1).trans el)
  rw [fr1.rw (4 + m) (by omega)] at h2 p2
  rw [show zrt J1 m nl e = zrt I m nl e from funext fun h => zrt_fr fr1 hm he] at p2
  simp only [u_X10_lost_0, u_X10_lost_1, u_X10_lost_4, u_X10_lost_5, u_X10_lost_8, u_X10_lost_11, u_X10_lost_12, u_X10_lost_15, u_X10_lost_18, u_X10_lost_19, u_X10_lost_22, u_X10_lost_25, u_X10_lost_28, u_X10_lost_29, u_X10_lost_30, u_X10_lost_33, u_X10_lost_34, u_X10_lost_35, u_X10_lost_38, u_X10_lost_41, u_X10_lost_44, u_X10_lost_45, u_X10_lost_46, u_X10_lost_47, u_X10_lost_50, u_X10_lost_53, az_un_i, az_un_r, az_un_n, az_un_l, Option.toList_some, Option.toList_none, List.cons_append, List.nil_append, List.length_cons, List.length_nil, Nat.reduceLeDiff, Nat.reduceAdd, Nat.zero_le, Nat.zero_add, and_true, true_and, zb_1, eq_self, az_call (s_X0_hasN hD.2.1 hD.1), az_call s_X10_isMorning, az_call s_X10_isBit, zb_0, (eq_true (by rw [nI_toInt (by omega)]; omega) : (0 ≤ (nI a).toInt ∧ (nI a).toInt < (n : Int)) = True), (eq_true (by rw [nI_toInt (by omega)]; omega) : (0 ≤ (nI m).toInt ∧ (nI m).toInt ≤ 29) = True), eq_true hx, and_self, and_true, true_and, if_true, if_false, not_true, not_false_iff, not_true_eq_false, not_false_eq_true, ite_true, ite_false, az_call h1, az_call h2, kx_94, kx_95]
  unfold zAl
  cases hz : zok (I (4 + m)) c l
  · have hp := s_X2_put (d := d + 6) (I := J1) (L := L1) (f := 94) (B := 1) (a := 0) (b := 1) (A := 0) kx_94 rfl rfl (by decide) (by decide) (by decide) (by decide)
    simp only [Bool.false_eq_true, not_false_eq_true, if_true, if_false, u_X10_lost_91, u_X10_lost_92, u_X10_lost_95, u_X10_lost_96, u_X10_lost_97, u_X10_lost_100, u_X10_lost_101, u_X10_lost_104, u_X10_lost_105, u_X10_lost_108, az_un_i, az_un_r, az_un_n, az_un_l, Option.toList_some, Option.toList_none, List.cons_append, List.nil_append, List.length_cons, List.length_nil, Nat.reduceLeDiff, Nat.reduceAdd, Nat.zero_le, Nat.zero_add, and_true, true_and, zb_1, eq_self, kx_94, az_call hp, az_call (s_X2_part kx_94), zR_at, zLs_p, zfP01 hx]
    exact fr1
  · rw [hz] at q4 p2
    simp only [if_true] at q4 p2
    have fr2 := fr1.tr p1
    have hD2 := (hG.fr fr2).2.2.2.2.2.2.1
    have hv := hG.vr hm
    have b1 := zgn_r hD a m
    have bS := zFb_S hv hz
    have bR := zFb_S (v := zrt I m nl e) (c := c) (l := l) (zVr_rt hG hm) (by rw [zok_rt hG]; exact hz)
    rw [zK_rt hG] at bR
    have s1 := zS_8 hv c
    have s2 := zS_8 (zVr_rt hG hm) c
    have a1 : zFc L2 94 (zS (zrt I m nl e) c) (zK (I (4 + m)) - 2 * c) := by rw [p2]; exact zFc_s
    have a2 : zFc L2 95 (zS (I (4 + m)) c) (zK (I (4 + m)) - 2 * c) := by rw [p2, q4]; exact zFc_n zFc_s (by decide)
    have c0 := s_X2_putDifference (d := d + 5) (I := J2) (L := L2) (f := 94) kx_94 kx_94 kx_95 a1 a2 bR bS
    rw [zLs_e (C := (zS (zrt I m nl e) c : Int) - (zS (I (4 + m)) c : Int)) (D := zK (I (4 + m)) - 2 * c) (Nat.mul_pos bS.1 bS.1) bS.1 (by rw [Int.natCast_mul]; grind)] at c0
    obtain ⟨L3, e3⟩ : ∃ L3, L3 = zLs L2 94 ((zS (zrt I m nl e) c : Int) - (zS (I (4 + m)) c : Int)) (zK (I (4 + m)) - 2 * c) := ⟨_, rfl⟩
    rw [← e3] at c0
    have c1 : zD (d + 7) 8 [.ref 49, .int (nI a), .int (nI m)] (130, az_Pf, J2, L3) (some (.int (zgn I a m k))) (130, az_Pf, J2, L3) := by
      rw [← zgn_fr fr2]; exact s_X0_deskGain hD2.2.2.2.2.2.2.1 hD2.2.2.2.2.2.1
    have c3 := s_X2_scale (d := d + 5) (I := J2) (L := L3) (f := 94) (A := (zS (zrt I m nl e) c : Int) - (zS (I (4 + m)) c : Int)) (B := zK (I (4 + m)) - 2 * c) (u := zgn I a m k) (s := 0) kx_94 (by rw [e3]; exact zFc_s) ⟨bS.1, by omega, by omega, bS.2.2.2⟩ (by omega) (by decide)
    rw [show (0 : Int32).toInt = 0 from rfl, Int.zero_mul, Int.sub_zero] at c3
    simp only [not_true, not_true_eq_false, if_true, if_false, u_X10_lost_56, u_X10_lost_57, u_X10_lost_60, u_X10_lost_61, u_X10_lost_64, u_X10_lost_65, u_X10_lost_68, u_X10_lost_71, u_X10_lost_72, u_X10_lost_75, u_X10_lost_76, u_X10_lost_79, u_X10_lost_80, u_X10_lost_81, u_X10_lost_84, u_X10_lost_85, u_X10_lost_88, u_X10_lost_91, u_X10_lost_92, u_X10_lost_95, u_X10_lost_96, u_X10_lost_97, u_X10_lost_100, u_X10_lost_101, u_X10_lost_104, u_X10_lost_105, u_X10_lost_108, az_un_i, az_un_r, az_un_n, az_un_l, Option.toList_some, Option.toList_none, List.cons_append, List.nil_append, List.length_cons, List.length_nil, Nat.reduceLeDiff, Nat.reduceAdd, Nat.zero_le, Nat.zero_add, and_true, true_and, zb_1, eq_self, kx_94, kx_95, az_call c0, az_call c1, az_call c3, az_call (s_X2_part kx_94), zR_at, zLs_p]
    exact fr2
theorem s_X11_lost {a m c l t e nl nr n k w : Nat} {x : Int32} (hG : zG I t e nl nr n k w) (ha : a < n) (hm : m < 30) (hx : 0 ≤ x.toInt ∧ x.toInt ≤ 1) (hc : c ≤ 3) (hl : l ≤ 8) (ec : zrl I (nI m) 0 e = nI c) (el : zrl I (nI m) 1 e = nI l) : zE (d + 8) 184 [.ref 97, .int (nI a), .int (nI m), .int x] I L (some (.long (zAl I a m nl e c l k x))) (fun J _ => zFr I J) := by
  refine zE_of zm_X11_lost rfl ?_
  show az_W _ _ _ 0 [.ref 97, .int (nI a), .int (nI m), .int x, .null, .null] [] _
  have hD := hG.2.2.2.2.2.2.1
  have hle := hD.1
  obtain ⟨J0, L0, h0, q0, fr0, e0, -⟩ := s_X11_findRight (d := d + 1) (I := I) (L := L) hG hm hc hl ec el
  subst q0
  obtain ⟨J1, L1, h1, q0, f1, e1⟩ := s_X11_layMorning (d := d + 6) (I := J0) (L := L0) hm
  subst q0
  have fr1 := fr0.tr (f1.fr zscr106)
  have hG1 := hG.fr fr1
  have ev : ∀ h, h < 8 → I (4 + m) h = J1 106 h := fun h hh => by rw [e1 h hh, fr0.rw 98 (by omega)]; exact (hG.1 m hm h hh).1
  have er : ∀ k, zrl J1 (nI m) k e = zrl I (nI m) k e := fun k => zrl_fr (fr1.rw 37 (by omega)) (fun k hk => fr1.rw (39 + k) (by omega)) e hG.2.2.2.1.2.2.2.2.2.1
  have hv := hG.vr hm
  obtain ⟨J2, L2, h2, q0, f2, e2, e3, e4, e5⟩ := s_X11_findRateOn (d := d + 5) (I := J1) (L := L1) (m := m) hG1.2.2.2.1 hG1.2.1 (zVr_c ev hv) hc hl ((er 0).trans ec) ((er 1).trans el)
  subst q0
  rw [← zok_c ev] at h2
  rw [← zS_c ev] at e4
  rw [← zK_c ev] at e5
  have fr2 := fr1.tr f2.fr
  have hD2 := (hG.fr fr2).2.2.2.2.2.2.1
  have c1 : zD (d + 7) 170 [.ref 97, .int (nI a), .int (nI m), .int 0] (130, az_Pf, J2, L2) (some (.int (zgn I a m k))) (130, az_Pf, J2, L2) := by
    rw [← zgn_fr fr2]; exact s_X11_gainOf hD2
  have b1 := zgn_r hD a m
  simp only [u_X11_lost_0, u_X11_lost_1, u_X11_lost_2, u_X11_lost_5, u_X11_lost_8, u_X11_lost_9, u_X11_lost_12, u_X11_lost_15, u_X11_lost_16, u_X11_lost_19, u_X11_lost_22, u_X11_lost_25, u_X11_lost_26, u_X11_lost_27, u_X11_lost_28, u_X11_lost_31, u_X11_lost_34, u_X11_lost_35, u_X11_lost_36, u_X11_lost_37, u_X11_lost_38, u_X11_lost_41, u_X11_lost_43, u_X11_lost_44, u_X11_lost_45, u_X11_lost_48, u_X11_lost_49, u_X11_lost_50, u_X11_lost_53, u_X11_lost_55, u_X11_lost_57, u_X11_lost_60, u_X11_lost_61, u_X11_lost_62, u_X11_lost_63, u_X11_lost_64, u_X11_lost_67, u_X11_lost_68, u_X11_lost_70, u_X11_lost_71, u_X11_lost_74, u_X11_lost_75, u_X11_lost_76, u_X11_lost_77, u_X11_lost_78, u_X11_lost_81, u_X11_lost_82, u_X11_lost_83, u_X11_lost_86, u_X11_lost_89, u_X11_lost_90, u_X11_lost_91, az_un_i, az_un_r, az_un_n, az_un_l, Option.toList_some, Option.toList_none, List.cons_append, List.nil_append, List.length_cons, List.length_nil, Nat.reduceLeDiff, Nat.reduceAdd, Nat.zero_le, Nat.zero_add, and_true, true_and, zb_1, eq_self, az_call (s_X11_isDesk hD.2.2.1 hD.1), az_call s_X11_isMorning, az_call s_X11_isWhat, zb_0, (eq_true (by rw [nI_toInt (by omega)]; omega) : (0 ≤ (nI a).toInt ∧ (nI a).toInt < (n : Int)) = True), (eq_true (by rw [nI_toInt (by omega)]; omega) : (0 ≤ (nI m).toInt ∧ (nI m).toInt ≤ 29) = True), eq_true hx, and_self, and_true, true_and, if_true, if_false, not_true, not_false_iff, not_true_eq_false, not_false_eq_true, ite_true, ite_false, az_call h0, az_call h1, az_call h2, az_call c1, e0, e4, e5]
  unfold zAl
  cases hz : zok (I (4 + m)) c l
  · simp only [Bool.false_eq_true, not_false_eq_true, if_true, if_false, zR_at]
    exact ⟨trivial, fr0⟩
  · obtain ⟨b3, b4, b5, b6⟩ := zFb_S hv hz
    have hz' := zok_i.mp hz
    have s1 := zS_8 hv c
    have s2 := zS_8 (zVr_rt hG hm) c
    have t1 : (nI (zS (zrt I m nl e) c) - nI (zS (I (4 + m)) c)).toInt64.toInt = (zS (zrt I m nl e) c : Int) - (zS (I (4 + m)) c : Int) := by rw [z64, pk_sub_toInt (by omega) (by omega)]
    have m1 := zmb (x := (zgn I a m k).toInt) (y := (zS (zrt I m nl e) c : Int) - (zS (I (4 + m)) c : Int)) (by omega) (by omega) (by omega) (by omega)
    have hA := zlmu (z64 (zgn I a m k)) t1 (by omega) (by omega)
    have ht := s_X11_told (d := d + 5) (h := (130, az_Pf, J2, L2)) (x := x) hA (zil (show zK (I (4 + m)) - 2 * c < 2 ^ 31 by omega)) (by omega) (by omega) b3 (by omega)
    simp only [not_true, not_true_eq_false, if_true, if_false, pk_sub (show 2 * c ≤ zK (I (4 + m)) by omega), az_call ht, u_X11_lost_86, u_X11_lost_89, u_X11_lost_90, u_X11_lost_91, az_un_i, az_un_r, az_un_n, az_un_l, Option.toList_some, Option.toList_none, List.cons_append, List.nil_append, List.length_cons, List.length_nil, Nat.reduceLeDiff, Nat.reduceAdd, Nat.zero_le, Nat.zero_add, and_true, true_and, zb_1, eq_self, zR_at]
    exact fr2
end S
theorem op_paid (x y z : Int32) : zOpL 104 173 [.int x, .int y, .int z] := by
  refine zOpL_of (fun I L hI => ?_)
  obtain ⟨t, e, nl, nr, n, k, w, hG⟩ := zInv_G hI
  have hD := hG.2.2.2.2.2.2.1
  by_cases hb : (0 ≤ x.toInt ∧ x.toInt < (n : Int)) ∧ (0 ≤ y.toInt ∧ y.toInt ≤ 29) ∧ (0 ≤ z.toInt ∧ z.toInt ≤ 1)
  · obtain ⟨h0, h1, h2⟩ := hb
    have hle := hD.1
    obtain ⟨a, ha, rfl⟩ := znat h0.1 (n := 12) (by omega) (by decide)
    rw [nI_toInt (by omega)] at h0
    obtain ⟨m, hm, rfl⟩ := znat h1.1 (n := 29) h1.2 (by decide)
    obtain ⟨c, l, s, hc, -, hl, -, ec, el, -⟩ := zrl_rg hG.2.2.2.1 (nI m) e (Nat.le_refl _)
    refine ⟨_, s_X10_paid (d := 1) hG (by omega) (by omega) h2 hc hl ec el, fun J M f => ?_⟩
    have he := hG.2.2.2.1.2.2.2.2.2.1
    have er : ∀ k, zrl J (nI m) k e = zrl I (nI m) k e := fun k => zrl_fr (f.rw 37 (by omega)) (fun k hk => f.rw (39 + k) (by omega)) e he
    have et : zAp J a m c l k z = zAp I a m c l k z := by
      unfold zAp
      rw [f.rw (4 + m) (by omega), zgn_fr f, zst_fr f]
    rw [← et]
    exact s_X11_paid (d := 1) (hG.fr f) (by omega) (by omega) h2 hc hl ((er 0).trans ec) ((er 1).trans el)
  · exact ⟨_, zE_D (s_X10_paid_bad (d := 1) hD.2.1 hD.1 hb) zFr.rf, fun J M f => zE_D (s_X11_paid_bad (d := 1) (hG.fr f).2.2.2.2.2.2.1.2.2.1 hD.1 hb) zFr.rf⟩
theorem op_lost (x y z : Int32) : zOpL 111 184 [.int x, .int y, .int z] := by
  refine zOpL_of (fun I L hI => ?_)
  obtain ⟨t, e, nl, nr, n, k, w, hG⟩ := zInv_G hI
  have hD := hG.2.2.2.2.2.2.1
  by_cases hb : (0 ≤ x.toInt ∧ x.toInt < (n : Int)) ∧ (0 ≤ y.toInt ∧ y.toInt ≤ 29) ∧ (0 ≤ z.toInt ∧ z.toInt ≤ 1)
  · obtain ⟨h0, h1, h2⟩ := hb
    have hle := hD.1
    obtain ⟨a, ha, rfl⟩ := znat h0.1 (n := 12) (by omega) (by decide)
    rw [nI_toInt (by omega)] at h0
    obtain ⟨m, hm, rfl⟩ := znat h1.1 (n := 29) h1.2 (by decide)
    obtain ⟨c, l, s, hc, -, hl, -, ec, el, -⟩ := zrl_rg hG.2.2.2.1 (nI m) e (Nat.le_refl _)
    refine ⟨_, s_X10_lost (d := 1) hG (by omega) (by omega) h2 hc hl ec el, fun J M f => ?_⟩
    have he := hG.2.2.2.1.2.2.2.2.2.1
    have er : ∀ k, zrl J (nI m) k e = zrl I (nI m) k e := fun k => zrl_fr (f.rw 37 (by omega)) (fun k hk => f.rw (39 + k) (by omega)) e he
    have et : zAl J a m nl e c l k z = zAl I a m nl e c l k z := by
      unfold zAl
      rw [f.rw (4 + m) (by omega), zgn_fr f, show zrt J m nl e = zrt I m nl e from funext fun h => zrt_fr f (by omega) he]
    rw [← et]
    exact s_X11_lost (d := 1) (hG.fr f) (by omega) (by omega) h2 hc hl ((er 0).trans ec) ((er 1).trans el)
  · exact ⟨_, zE_D (s_X10_lost_bad (d := 1) hD.2.1 hD.1 hb) zFr.rf, fun J M f => zE_D (s_X11_lost_bad (d := 1) (hG.fr f).2.2.2.2.2.2.1.2.2.1 hD.1 hb) zFr.rf⟩
