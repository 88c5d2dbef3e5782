/-! ===== lean ===== -/
def zcw (a : Nat) : Nat → Int64
  | 0 => 1
  | k + 1 => zcw a k * (nI a - nI k).toInt64 / (nI k + 1).toInt64
def zcs (a b : Nat) : Nat → Int64
  | 0 => 0
  | k + 1 => if k < b then zcs a b k else zcs a b k + zcw a k
def zch (a b : Nat) : Int32 := (((zcs a b (a + 1)) * 1000) >>> ((nI a).toInt64 &&& 63)).toInt32
def zmw (a : Nat) : Nat → Int64
  | 0 => 1
  | j + 1 => zmw a j * (nI a - nI j).toInt64 / (nI a - (nI a - nI j) + 1).toInt64
def zms (a : Nat) : Nat → Int64
  | 0 => 0
  | j + 1 => zms a j + zmw a j
def zcm (a b : Nat) : Int32 := ((1000 : Int64) * zms a (a + 1 - b) / ((1 : Int64) <<< ((nI a).toInt64 &&& 63))).toInt32
theorem zchm : ∀ a, a < 31 → ∀ b, b < 31 → b ≤ a → zch a b = zcm a b := by decide +kernel
theorem zcd1 : ∀ k, k < 32 → ¬ (nI k + 1).toInt64 = 0 := by decide +kernel
theorem zcd2 : ∀ a, a < 31 → ∀ j, j < 32 → ¬ (nI a - (nI a - nI j) + 1).toInt64 = 0 := by decide +kernel
theorem zcd3 : ∀ a, a < 31 → ¬ ((1 : Int64) <<< ((nI a).toInt64 &&& 63)) = 0 := by decide +kernel
/-- how many -/
def zcn (p : Nat → Bool) : Nat → Nat
  | 0 => 0
  | k + 1 => if p k then zcn p k + 1 else zcn p k
theorem zcn_le (p : Nat → Bool) : ∀ k, zcn p k ≤ k
  | 0 => Nat.le_refl _
  | k + 1 => by
    have := zcn_le p k
    rw [zcn]; split <;> omega
theorem zcn_mono {p q : Nat → Bool} (h : ∀ k, p k = true → q k = true) : ∀ k, zcn p k ≤ zcn q k
  | 0 => Nat.le_refl _
  | k + 1 => by
    have := zcn_mono h k
    rw [zcn, zcn]
    by_cases g : p k = true
    · rw [if_pos g, if_pos (h k g)]; omega
    · rw [if_neg g]; split <;> omega
def zl1 (o g : Int32) : Bool := decide (¬ o = 0 ∧ ¬ g = 0)
def zl2 (o g : Int32) : Bool := decide ((0 < o ∧ 0 < g) ∨ (o < 0 ∧ g < 0))
def zl3 (o g : Int32) : Bool := decide (o < 0 ∧ 0 ≤ g)
theorem zl21 (o g : Int32) (h : zl2 o g = true) : zl1 o g = true := by
  simp only [zl1, zl2, decide_eq_true_eq] at h ⊢
  refine ⟨fun e => ?_, fun e => ?_⟩
  · subst e; rcases h with ⟨a, b⟩ | ⟨a, b⟩ <;> exact absurd a (by decide)
  · subst e; rcases h with ⟨a, b⟩ | ⟨a, b⟩ <;> exact absurd b (by decide)
theorem zOut_c (v : Int32) (b : Bool) (lo hi : Int32) : zOut v b lo hi = 0 ∨ zOut v b lo hi = 1 ∨ zOut v b lo hi = -1 := by
  unfold zOut; (repeat' split) <;> simp
theorem zhg_b {I : Nat → Nat → Int32} {n c : Nat} (hD : zvD I n c) (x m : Int32) : ∀ k, k ≤ c → -(99 * k : Int) ≤ (zsum (zhg I x m) k).toInt ∧ (zsum (zhg I x m) k).toInt ≤ 99 * k
  | 0, _ => by simp [zsum]
  | k + 1, hk => by
    obtain ⟨h1, h2⟩ := zhg_b hD x m k (by omega)
    have hc := hD.2.2.2.2.2.1
    obtain ⟨a, b, mm, z, t, -, -, -, -, g5, g6, -, -, -, -, g11, -⟩ := hD.2.2.2.2.2.2.2.2.2.2.2.2.2 k (by omega)
    have hz : -99 ≤ (zhg I x m k).toInt ∧ (zhg I x m k).toInt ≤ 99 := by
      unfold zhg
      rw [g11]
      have e1 : (nI z).toInt = z := nI_toInt (by omega)
      have e2 : (0 - nI z : Int32).toInt = -(z : Int) := by
        have := pk_sub_toInt (a := 0) (b := z) (by omega) (by omega)
        rw [show (0 : Int32) = nI 0 from rfl, this]; omega
      (repeat' split)
      · rw [Int32.sub_self]; simp
      · rw [show nI z - 0 = nI z by simp, e1]; omega
      · rw [e2]; omega
      · simp
      · simp
    show -(99 * ((k + 1 : Nat) : Int)) ≤ (zsum (zhg I x m) k + zhg I x m k).toInt ∧ (zsum (zhg I x m) k + zhg I x m k).toInt ≤ 99 * ((k + 1 : Nat) : Int)
    rw [Int32.toInt_add, Int.bmod_def]
    omega
section S
variable {d : Nat} {I : Nat → Nat → Int32} {L : Nat → Nat → Int64} {h : az_H}
theorem s_X10_chance {a b : Nat} (ha : a < 31) (hb : b < 31) : zD (d + 1) 138 [.int (nI a), .int (nI b)] h (some (.int (zch a b))) h := by
  refine zD_of zm_X10_chance rfl ?_
  show az_W _ _ _ 0 [.int (nI a), .int (nI b), .null, .null, .null, .null, .null] [] _
  simp only [u_X10_chance_0, u_X10_chance_1, u_X10_chance_2, u_X10_chance_3, u_X10_chance_5, u_X10_chance_6, u_X10_chance_10, u_X10_chance_11, u_X10_chance_14, u_X10_chance_16, u_X10_chance_17, u_X10_chance_20, u_X10_chance_22, u_X10_chance_23, u_X10_chance_24, u_X10_chance_26, u_X10_chance_27, u_X10_chance_28, u_X10_chance_30, u_X10_chance_31, u_X10_chance_32, u_X10_chance_33, u_X10_chance_35, u_X10_chance_36, u_X10_chance_37, u_X10_chance_38, u_X10_chance_39, u_X10_chance_40, u_X10_chance_43, u_X10_chance_46, u_X10_chance_48, u_X10_chance_51, u_X10_chance_52, u_X10_chance_53, u_X10_chance_54, u_X10_chance_55, az_un_i, az_un_r, az_un_n, az_un_l, Option.toList_some, Option.toList_none, List.cons_append, List.nil_append, List.length_cons, List.length_nil, Nat.reduceLeDiff, Nat.reduceAdd, Nat.zero_le, Nat.zero_add, and_true, true_and, zb_1, eq_self]
  refine zloop (P := fun k => az_W (zD d) _ _ 8 [.int (nI a), .int (nI b), .long (zcw a k), .null, .long (zcs a b k), .null, .int (nI k)] [] _) (a + 1) (fun k hk ih => ?_) ?_ 0 (Nat.zero_le _)
  · have h1 : ¬ nI a < nI k := nI_nlt (by omega) (by omega)
    simp only [u_X10_chance_8]
    simp only [u_X10_chance_0, u_X10_chance_1, u_X10_chance_2, u_X10_chance_3, u_X10_chance_5, u_X10_chance_6, u_X10_chance_10, u_X10_chance_11, u_X10_chance_14, u_X10_chance_16, u_X10_chance_17, u_X10_chance_20, u_X10_chance_22, u_X10_chance_23, u_X10_chance_24, u_X10_chance_26, u_X10_chance_27, u_X10_chance_28, u_X10_chance_30, u_X10_chance_31, u_X10_chance_32, u_X10_chance_33, u_X10_chance_35, u_X10_chance_36, u_X10_chance_37, u_X10_chance_38, u_X10_chance_39, u_X10_chance_40, u_X10_chance_43, u_X10_chance_46, u_X10_chance_48, u_X10_chance_51, u_X10_chance_52, u_X10_chance_53, u_X10_chance_54, u_X10_chance_55, az_un_i, az_un_r, az_un_n, az_un_l, Option.toList_some, Option.toList_none, List.cons_append, List.nil_append, List.length_cons, List.length_nil, Nat.reduceLeDiff, Nat.reduceAdd, Nat.zero_le, Nat.zero_add, and_true, true_and, zb_1, eq_self, h1, if_false, zcd1 k (by omega), not_false_eq_true]
    rw [nI_succ, zcw, zcs] at ih
    by_cases g : k < b
    · rw [if_pos g] at ih; rw [if_pos (nI_lt g (by omega))]; exact ih
    · rw [if_neg g] at ih; rw [if_neg (nI_nlt (by omega) (by omega))]; exact ih
  · have h1 : nI a < nI (a + 1) := nI_lt (by omega) (by omega)
    simp only [u_X10_chance_8]
    simp only [u_X10_chance_0, u_X10_chance_1, u_X10_chance_2, u_X10_chance_3, u_X10_chance_5, u_X10_chance_6, u_X10_chance_10, u_X10_chance_11, u_X10_chance_14, u_X10_chance_16, u_X10_chance_17, u_X10_chance_20, u_X10_chance_22, u_X10_chance_23, u_X10_chance_24, u_X10_chance_26, u_X10_chance_27, u_X10_chance_28, u_X10_chance_30, u_X10_chance_31, u_X10_chance_32, u_X10_chance_33, u_X10_chance_35, u_X10_chance_36, u_X10_chance_37, u_X10_chance_38, u_X10_chance_39, u_X10_chance_40, u_X10_chance_43, u_X10_chance_46, u_X10_chance_48, u_X10_chance_51, u_X10_chance_52, u_X10_chance_53, u_X10_chance_54, u_X10_chance_55, az_un_i, az_un_r, az_un_n, az_un_l, Option.toList_some, Option.toList_none, List.cons_append, List.nil_append, List.length_cons, List.length_nil, Nat.reduceLeDiff, Nat.reduceAdd, Nat.zero_le, Nat.zero_add, and_true, true_and, zb_1, eq_self, h1, if_true]
    rfl
theorem s_X11_chanceOf {a b : Nat} (ha : a < 31) (hb : b ≤ a) : zD (d + 1) 185 [.int (nI a), .int (nI b)] h (some (.int (zcm a b))) h := by
  refine zD_of zm_X11_chanceOf rfl ?_
  show az_W _ _ _ 0 [.int (nI a), .int (nI b), .null, .null, .null, .null, .null] [] _
  simp only [u_X11_chanceOf_0, u_X11_chanceOf_1, u_X11_chanceOf_2, u_X11_chanceOf_3, u_X11_chanceOf_5, u_X11_chanceOf_6, u_X11_chanceOf_10, u_X11_chanceOf_11, u_X11_chanceOf_14, u_X11_chanceOf_15, u_X11_chanceOf_17, u_X11_chanceOf_18, u_X11_chanceOf_19, u_X11_chanceOf_21, u_X11_chanceOf_23, u_X11_chanceOf_24, u_X11_chanceOf_25, u_X11_chanceOf_26, u_X11_chanceOf_28, u_X11_chanceOf_29, u_X11_chanceOf_30, u_X11_chanceOf_31, u_X11_chanceOf_32, u_X11_chanceOf_33, u_X11_chanceOf_35, u_X11_chanceOf_38, u_X11_chanceOf_41, u_X11_chanceOf_44, u_X11_chanceOf_45, u_X11_chanceOf_46, u_X11_chanceOf_47, u_X11_chanceOf_48, u_X11_chanceOf_49, u_X11_chanceOf_50, u_X11_chanceOf_51, az_un_i, az_un_r, az_un_n, az_un_l, Option.toList_some, Option.toList_none, List.cons_append, List.nil_append, List.length_cons, List.length_nil, Nat.reduceLeDiff, Nat.reduceAdd, Nat.zero_le, Nat.zero_add, and_true, true_and, zb_1, eq_self]
  have e0 : nI a = nI a - nI 0 := by rw [pk_sub (by omega)]; rfl
  have key := zloop (P := fun j => az_W (zD d) (fun r' h'' => r' = some (.int (zcm a b)) ∧ h'' = h) k_X11_chanceOf 8 [.int (nI a), .int (nI b), .long (zms a j), .null, .long (zmw a j), .null, .int (nI a - nI j)] [] h) (a + 1 - b) (fun k hk ih => ?_) ?_ 0 (Nat.zero_le _)
  · rw [← e0] at key; exact key
  · have h1 : ¬ nI a - nI k < nI b := by rw [pk_sub (by omega)]; exact nI_nlt (by omega) (by omega)
    simp only [u_X11_chanceOf_8]
    simp only [u_X11_chanceOf_0, u_X11_chanceOf_1, u_X11_chanceOf_2, u_X11_chanceOf_3, u_X11_chanceOf_5, u_X11_chanceOf_6, u_X11_chanceOf_10, u_X11_chanceOf_11, u_X11_chanceOf_14, u_X11_chanceOf_15, u_X11_chanceOf_17, u_X11_chanceOf_18, u_X11_chanceOf_19, u_X11_chanceOf_21, u_X11_chanceOf_23, u_X11_chanceOf_24, u_X11_chanceOf_25, u_X11_chanceOf_26, u_X11_chanceOf_28, u_X11_chanceOf_29, u_X11_chanceOf_30, u_X11_chanceOf_31, u_X11_chanceOf_32, u_X11_chanceOf_33, u_X11_chanceOf_35, u_X11_chanceOf_38, u_X11_chanceOf_41, u_X11_chanceOf_44, u_X11_chanceOf_45, u_X11_chanceOf_46, u_X11_chanceOf_47, u_X11_chanceOf_48, u_X11_chanceOf_49, u_X11_chanceOf_50, u_X11_chanceOf_51, az_un_i, az_un_r, az_un_n, az_un_l, Option.toList_some, Option.toList_none, List.cons_append, List.nil_append, List.length_cons, List.length_nil, Nat.reduceLeDiff, Nat.reduceAdd, Nat.zero_le, Nat.zero_add, and_true, true_and, zb_1, eq_self, h1, if_false, zcd2 a ha k (by omega), not_false_eq_true]
    rw [zmw, zms] at ih
    rw [show nI a - nI (k + 1) = nI a - nI k + (-1) by rw [nI_succ]; simp only [Int32.sub_eq_add_neg, Int32.neg_add, Int32.add_assoc]] at ih
    exact ih
  · have h1 : nI a - nI (a + 1 - b) < nI b := by
      rw [Int32.lt_iff_toInt_lt, pk_sub_toInt (by omega) (by omega), nI_toInt (by omega)]; omega
    simp only [u_X11_chanceOf_8]
    simp only [u_X11_chanceOf_0, u_X11_chanceOf_1, u_X11_chanceOf_2, u_X11_chanceOf_3, u_X11_chanceOf_5, u_X11_chanceOf_6, u_X11_chanceOf_10, u_X11_chanceOf_11, u_X11_chanceOf_14, u_X11_chanceOf_15, u_X11_chanceOf_17, u_X11_chanceOf_18, u_X11_chanceOf_19, u_X11_chanceOf_21, u_X11_chanceOf_23, u_X11_chanceOf_24, u_X11_chanceOf_25, u_X11_chanceOf_26, u_X11_chanceOf_28, u_X11_chanceOf_29, u_X11_chanceOf_30, u_X11_chanceOf_31, u_X11_chanceOf_32, u_X11_chanceOf_33, u_X11_chanceOf_35, u_X11_chanceOf_38, u_X11_chanceOf_41, u_X11_chanceOf_44, u_X11_chanceOf_45, u_X11_chanceOf_46, u_X11_chanceOf_47, u_X11_chanceOf_48, u_X11_chanceOf_49, u_X11_chanceOf_50, u_X11_chanceOf_51, az_un_i, az_un_r, az_un_n, az_un_l, Option.toList_some, Option.toList_none, List.cons_append, List.nil_append, List.length_cons, List.length_nil, Nat.reduceLeDiff, Nat.reduceAdd, Nat.zero_le, Nat.zero_add, and_true, true_and, zb_1, eq_self, h1, if_true, zcd3 a ha, not_false_eq_true]
    rfl
def zo (I : Nat → Nat → Int32) (h nl e : Nat) (m : Nat) : Int32 := zOA I h m nl e
def zg (I : Nat → Nat → Int32) (h c : Nat) (m : Nat) : Int32 := zsum (zhg I (nI h) (nI m)) c
/-- the answer of lean -/
def zLe (I : Nat → Nat → Int32) (h nl e c : Nat) (x : Int32) : Int32 := if x = 0 then nI (zcn (fun m => zl1 (zo I h nl e m) (zg I h c m)) 30) else if x = 1 then nI (zcn (fun m => zl2 (zo I h nl e m) (zg I h c m)) 30) else if x = 2 then zch (zcn (fun m => zl1 (zo I h nl e m) (zg I h c m)) 30) (zcn (fun m => zl2 (zo I h nl e m) (zg I h c m)) 30) else nI (zcn (fun m => zl3 (zo I h nl e m) (zg I h c m)) 30)
theorem s_X10_lean_bad {x y : Int32} (hb : ¬ ((0 ≤ x.toInt ∧ x.toInt ≤ 7) ∧ (0 ≤ y.toInt ∧ y.toInt ≤ 3))) : zD (d + 7) 112 [.ref 0, .int x, .int y] (130, az_Pf, I, L) (some (.int (-1))) (130, az_Pf, I, L) := by
  refine zD_of zm_X10_lean rfl ?_
  show az_W _ _ _ 0 [.ref 0, .int x, .int y, .null, .null, .null, .null, .null, .null] [] _
  simp only [u_X10_lean_0, u_X10_lean_1, u_X10_lean_4, u_X10_lean_7, u_X10_lean_8, u_X10_lean_9, u_X10_lean_10, u_X10_lean_13, u_X10_lean_16, u_X10_lean_17, u_X10_lean_18, u_X10_lean_19, u_X10_lean_20, u_X10_lean_21, u_X10_lean_23, u_X10_lean_24, u_X10_lean_26, u_X10_lean_27, u_X10_lean_31, u_X10_lean_33, u_X10_lean_36, u_X10_lean_37, u_X10_lean_38, u_X10_lean_40, u_X10_lean_43, u_X10_lean_45, u_X10_lean_46, u_X10_lean_49, u_X10_lean_50, u_X10_lean_52, u_X10_lean_55, u_X10_lean_57, u_X10_lean_58, u_X10_lean_60, u_X10_lean_63, u_X10_lean_65, u_X10_lean_68, u_X10_lean_69, u_X10_lean_72, u_X10_lean_73, u_X10_lean_74, u_X10_lean_75, u_X10_lean_77, u_X10_lean_79, u_X10_lean_81, u_X10_lean_82, u_X10_lean_85, u_X10_lean_86, u_X10_lean_89, u_X10_lean_90, u_X10_lean_91, u_X10_lean_93, u_X10_lean_95, u_X10_lean_97, u_X10_lean_100, u_X10_lean_102, u_X10_lean_105, u_X10_lean_106, u_X10_lean_109, u_X10_lean_110, u_X10_lean_111, u_X10_lean_113, u_X10_lean_116, u_X10_lean_119, u_X10_lean_120, u_X10_lean_148, u_X10_lean_149, u_X10_lean_150, u_X10_lean_152, u_X10_lean_153, u_X10_lean_154, u_X10_lean_156, u_X10_lean_159, u_X10_lean_160, u_X10_lean_162, az_un_i, az_un_r, az_un_n, az_un_l, Option.toList_some, Option.toList_none, List.cons_append, List.nil_append, List.length_cons, List.length_nil, Nat.reduceLeDiff, Nat.reduceAdd, Nat.zero_le, Nat.zero_add, and_true, true_and, zb_1, eq_self, zb_0, az_call s_X10_isHouse, az_call s_X10_isIn, zl_0, zl_3]
  by_cases h1 : 0 ≤ x.toInt ∧ x.toInt ≤ 7 <;> by_cases h2 : 0 ≤ y.toInt ∧ y.toInt ≤ 3 <;> simp only [h1, h2, and_self, and_true, true_and, if_true, if_false, not_true, not_false_iff, not_true_eq_false, not_false_eq_true, ite_true, ite_false]
  exact absurd ⟨h1, h2⟩ hb
theorem s_X11_lean_bad {x y : Int32} (hb : ¬ ((0 ≤ x.toInt ∧ x.toInt ≤ 7) ∧ (0 ≤ y.toInt ∧ y.toInt ≤ 3))) : zD (d + 7) 186 [.ref 97, .int x, .int y] (130, az_Pf, I, L) (some (.int (-1))) (130, az_Pf, I, L) := by
  refine zD_of zm_X11_lean rfl ?_
  show az_W _ _ _ 0 [.ref 97, .int x, .int y, .null, .null, .null, .null, .null, .null] [] _
  simp only [u_X11_lean_0, u_X11_lean_1, u_X11_lean_4, u_X11_lean_7, u_X11_lean_8, u_X11_lean_9, u_X11_lean_10, u_X11_lean_13, u_X11_lean_16, u_X11_lean_19, u_X11_lean_20, u_X11_lean_21, u_X11_lean_22, u_X11_lean_23, u_X11_lean_24, u_X11_lean_26, u_X11_lean_27, u_X11_lean_29, u_X11_lean_30, u_X11_lean_34, u_X11_lean_36, u_X11_lean_39, u_X11_lean_40, u_X11_lean_41, u_X11_lean_43, u_X11_lean_46, u_X11_lean_48, u_X11_lean_49, u_X11_lean_50, u_X11_lean_52, u_X11_lean_55, u_X11_lean_57, u_X11_lean_58, u_X11_lean_60, u_X11_lean_63, u_X11_lean_65, u_X11_lean_68, u_X11_lean_69, u_X11_lean_72, u_X11_lean_73, u_X11_lean_74, u_X11_lean_75, u_X11_lean_77, u_X11_lean_79, u_X11_lean_82, u_X11_lean_84, u_X11_lean_87, u_X11_lean_89, u_X11_lean_92, u_X11_lean_94, u_X11_lean_97, u_X11_lean_98, u_X11_lean_101, u_X11_lean_102, u_X11_lean_103, u_X11_lean_105, u_X11_lean_107, u_X11_lean_109, u_X11_lean_112, u_X11_lean_114, u_X11_lean_117, u_X11_lean_118, u_X11_lean_121, u_X11_lean_122, u_X11_lean_123, u_X11_lean_125, u_X11_lean_128, u_X11_lean_131, u_X11_lean_132, u_X11_lean_135, u_X11_lean_136, u_X11_lean_139, u_X11_lean_140, u_X11_lean_141, u_X11_lean_144, u_X11_lean_146, u_X11_lean_149, u_X11_lean_150, u_X11_lean_151, u_X11_lean_154, u_X11_lean_155, u_X11_lean_157, u_X11_lean_160, u_X11_lean_163, u_X11_lean_165, az_un_i, az_un_r, az_un_n, az_un_l, Option.toList_some, Option.toList_none, List.cons_append, List.nil_append, List.length_cons, List.length_nil, Nat.reduceLeDiff, Nat.reduceAdd, Nat.zero_le, Nat.zero_add, and_true, true_and, zb_1, eq_self, zb_0, az_call s_X11_isHouse, az_call s_X11_in, z64, zj_0, zj_3]
  by_cases h1 : 0 ≤ x.toInt ∧ x.toInt ≤ 7 <;> by_cases h2 : 0 ≤ y.toInt ∧ y.toInt ≤ 3 <;> simp only [h1, h2, and_self, and_true, true_and, if_true, if_false, not_true, not_false_iff, not_true_eq_false, not_false_eq_true, ite_true, ite_false]
  exact absurd ⟨h1, h2⟩ hb
theorem s_X10_lean {h t e nl nr n c w : Nat} {x : Int32} (hG : zG I t e nl nr n c w) (hh : h < 8) (hx : 0 ≤ x.toInt ∧ x.toInt ≤ 3) : zE (d + 7) 112 [.ref 0, .int (nI h), .int x] I L (some (.int (zLe I h nl e c x))) (fun J _ => zFr I J) := by
  refine zE_of zm_X10_lean rfl ?_
  show az_W _ _ _ 0 [.ref 0, .int (nI h), .int x, .null, .null, .null, .null, .null, .null] [] _
  have he := hG.2.2.2.1.2.2.2.2.2.1
  simp only [u_X10_lean_0, u_X10_lean_1, u_X10_lean_4, u_X10_lean_7, u_X10_lean_8, u_X10_lean_9, u_X10_lean_10, u_X10_lean_13, u_X10_lean_16, u_X10_lean_17, u_X10_lean_18, u_X10_lean_19, u_X10_lean_20, u_X10_lean_21, u_X10_lean_23, u_X10_lean_24, u_X10_lean_26, u_X10_lean_27, az_un_i, az_un_r, az_un_n, az_un_l, Option.toList_some, Option.toList_none, List.cons_append, List.nil_append, List.length_cons, List.length_nil, Nat.reduceLeDiff, Nat.reduceAdd, Nat.zero_le, Nat.zero_add, and_true, true_and, zb_1, eq_self, az_call s_X10_isHouse, az_call s_X10_isIn, zl_0, zl_3, zb_0, (eq_true (by rw [nI_toInt (by omega)]; omega) : (0 ≤ (nI h).toInt ∧ (nI h).toInt ≤ 7) = True), eq_true hx, and_self, and_true, true_and, if_true, if_false, not_true, not_false_iff, not_true_eq_false, not_false_eq_true, ite_true, ite_false]
  refine zloop (P := fun k => ∀ J v7 v8, zFr I J → az_W (zD (d + 6)) _ _ 29 [.ref 0, .int (nI h), .int x, .int (nI (zcn (fun m => zl1 (zo I h nl e m) (zg I h c m)) k)), .int (nI (zcn (fun m => zl2 (zo I h nl e m) (zg I h c m)) k)), .int (nI (zcn (fun m => zl3 (zo I h nl e m) (zg I h c m)) k)), .int (nI k), v7, v8] [] (130, az_Pf, J, L)) 30 (fun k hk ih J v7 v8 f => ?_) (fun J v7 v8 f => ?_) 0 (Nat.zero_le _) I .null .null zFr.rf
  · have h1 : ¬ (30 : Int32) ≤ nI k := nI_ge (b := 30) hk (by decide)
    have hG2 := hG.fr f
    have ho := s_X10_outSign (d := d + 1) (L := L) hG2 hh hk
    obtain ⟨o, eo⟩ : ∃ o, o = zo I h nl e k := ⟨_, rfl⟩
    obtain ⟨g, eg⟩ : ∃ g, g = zg I h c k := ⟨_, rfl⟩
    rw [zOA_fr f hk he, show zOA I h k nl e = zo I h nl e k from rfl, ← eo] at ho
    have hD := (hG2.fr (zOS_fr (h := h) (m := k) (n := nl) (s := zrl J (nI k) 2 e))).2.2.2.2.2.2.1
    have f3 := f.tr (zOS_fr (I := J) (h := h) (m := k) (n := nl) (s := zrl J (nI k) 2 e))
    have hg := s_X0_houseGain (d := d + 5) (L := L) (x := nI h) (m := nI k) hD.2.2.2.2.2.2.1 hD.2.2.2.2.2.1 hD.in
    rw [show zhg (zOS J h k nl (zrl J (nI k) 2 e)) (nI h) (nI k) = zhg I (nI h) (nI k) from funext fun c => by unfold zhg; rw [f3.rw 53 (by omega), f3.rw 50 (by omega), f3.rw 51 (by omega), f3.rw 52 (by omega), f3.rw 54 (by omega)], show zsum (zhg I (nI h) (nI k)) c = zg I h c k from rfl, ← eg] at hg
    have hb := zhg_b hG.2.2.2.2.2.2.1 (nI h) (nI k) c (Nat.le_refl _)
    rw [show zsum (zhg I (nI h) (nI k)) c = zg I h c k from rfl, ← eg] at hb
    have hc := hG.2.2.2.2.2.2.1.2.2.2.2.2.1
    simp only [u_X10_lean_29]
    simp only [u_X10_lean_31, u_X10_lean_33, u_X10_lean_36, u_X10_lean_37, u_X10_lean_38, u_X10_lean_40, u_X10_lean_43, u_X10_lean_45, u_X10_lean_46, u_X10_lean_49, u_X10_lean_50, u_X10_lean_52, u_X10_lean_55, u_X10_lean_57, u_X10_lean_58, u_X10_lean_60, u_X10_lean_63, u_X10_lean_65, u_X10_lean_68, u_X10_lean_69, u_X10_lean_72, u_X10_lean_73, u_X10_lean_74, u_X10_lean_75, u_X10_lean_77, u_X10_lean_79, u_X10_lean_81, u_X10_lean_82, u_X10_lean_85, u_X10_lean_86, u_X10_lean_89, u_X10_lean_90, u_X10_lean_91, u_X10_lean_93, u_X10_lean_95, u_X10_lean_97, u_X10_lean_100, u_X10_lean_102, u_X10_lean_105, u_X10_lean_106, u_X10_lean_109, u_X10_lean_110, u_X10_lean_111, u_X10_lean_113, u_X10_lean_116, az_un_i, az_un_r, az_un_n, az_un_l, Option.toList_some, Option.toList_none, List.cons_append, List.nil_append, List.length_cons, List.length_nil, Nat.reduceLeDiff, Nat.reduceAdd, Nat.zero_le, Nat.zero_add, and_true, true_and, zb_1, eq_self, h1, if_false, az_call ho, az_call hg]
    rw [nI_succ] at ih
    simp only [zcn, ← eo, ← eg] at ih
    have ec : o = 0 ∨ o = 1 ∨ o = -1 := by rw [eo]; exact zOut_c _ _ _ _
    clear eo eg
    have ih := fun v7 v8 => ih _ v7 v8 f3
    have n0 : (-g).toInt = -g.toInt := by rw [Int32.toInt_neg, Int.bmod_def]; omega
    have m0 : (0 : Int32) * g = 0 := Int32.zero_mul
    have m1 : (1 : Int32) * g = g := Int32.one_mul g
    have m2 : (-1 : Int32) * g = -g := by rw [Int32.neg_mul, Int32.one_mul]
    rcases (show g.toInt < 0 ∨ g.toInt = 0 ∨ 0 < g.toInt by omega) with q | q | q
    · have q1 : g < 0 := Int32.lt_iff_toInt_lt.mpr (by simpa using q)
      have q2 : ¬ g = 0 := fun z => by rw [z] at q; exact absurd q (by decide)
      have q3 : g ≤ 0 := Int32.le_iff_toInt_le.mpr (by simp; omega)
      have q4 : ¬ 0 ≤ g := fun z => by have := Int32.le_iff_toInt_le.mp z; simp at this; omega
      have q5 : ¬ 0 < g := fun z => by have := Int32.lt_iff_toInt_lt.mp z; simp at this; omega
      have q6 : ¬ -g ≤ 0 := fun z => by have := Int32.le_iff_toInt_le.mp z; simp [n0] at this; omega
      rcases ec with rfl | rfl | rfl
      · have ih := ih (.int 0) (.int g)
        simp [zl1, zl2, zl3, q1, q2, q3, q4, q5, q6, m0] at ih ⊢; exact ih
      · have ih := ih (.int 1) (.int g)
        simp [zl1, zl2, zl3, q1, q2, q3, q4, q5, q6, m1, nI_succ] at ih ⊢; exact ih
      · have ih := ih (.int (-1)) (.int g)
        simp [zl1, zl2, zl3, q1, q2, q3, q4, q5, q6, m2, nI_succ] at ih ⊢; exact ih
    · have q0 : g = 0 := Int32.toInt_inj.mp (by simpa using q)
      subst q0
      rcases ec with rfl | rfl | rfl
      · have ih := ih (.int 0) (.int 0)
        simp [zl1, zl2, zl3] at ih ⊢; exact ih
      · have ih := ih (.int 1) (.int 0)
        simp [zl1, zl2, zl3] at ih ⊢; exact ih
      · have ih := ih (.int (-1)) (.int 0)
        simp [zl1, zl2, zl3, nI_succ] at ih ⊢; exact ih
    · have q1 : ¬ g < 0 := fun z => by have := Int32.lt_iff_toInt_lt.mp z; simp at this; omega
      have q2 : ¬ g = 0 := fun z => by rw [z] at q; exact absurd q (by decide)
      have q3 : ¬ g ≤ 0 := fun z => by have := Int32.le_iff_toInt_le.mp z; simp at this; omega
      have q4 : 0 ≤ g := Int32.le_iff_toInt_le.mpr (by simp; omega)
      have q5 : 0 < g := Int32.lt_iff_toInt_lt.mpr (by simpa using q)
      have q6 : -g ≤ 0 := Int32.le_iff_toInt_le.mpr (by simp [n0]; omega)
      rcases ec with rfl | rfl | rfl
      · have ih := ih (.int 0) (.int g)
        simp [zl1, zl2, zl3, q1, q2, q3, q4, q5, q6, m0] at ih ⊢; exact ih
      · have ih := ih (.int 1) (.int g)
        simp [zl1, zl2, zl3, q1, q2, q3, q4, q5, q6, m1, nI_succ] at ih ⊢; exact ih
      · have ih := ih (.int (-1)) (.int g)
        simp [zl1, zl2, zl3, q1, q2, q3, q4, q5, q6, m2, nI_succ] at ih ⊢; exact ih
  · have h1 : (30 : Int32) ≤ nI 30 := by decide
    have c1 := zcn_le (fun m => zl1 (zo I h nl e m) (zg I h c m)) 30
    have c2 := zcn_mono (p := fun m => zl2 (zo I h nl e m) (zg I h c m)) (q := fun m => zl1 (zo I h nl e m) (zg I h c m)) (fun k hk => zl21 _ _ hk) 30
    simp only [u_X10_lean_29]
    simp only [u_X10_lean_31, u_X10_lean_33, az_un_i, az_un_r, az_un_n, az_un_l, Option.toList_some, Option.toList_none, List.cons_append, List.nil_append, List.length_cons, List.length_nil, Nat.reduceLeDiff, Nat.reduceAdd, Nat.zero_le, Nat.zero_add, and_true, true_and, zb_1, eq_self, h1, if_true, u_X10_lean_119, u_X10_lean_120, az_pick]
    unfold zLe
    by_cases g0 : x = 0
    · subst g0; simp [u_X10_lean_148, u_X10_lean_149, u_X10_lean_150, u_X10_lean_152, u_X10_lean_153, u_X10_lean_154, u_X10_lean_156, u_X10_lean_159, u_X10_lean_160, u_X10_lean_162, zR_at, f]
    by_cases g1 : x = 1
    · subst g1; simp [u_X10_lean_148, u_X10_lean_149, u_X10_lean_150, u_X10_lean_152, u_X10_lean_153, u_X10_lean_154, u_X10_lean_156, u_X10_lean_159, u_X10_lean_160, u_X10_lean_162, zR_at, f]
    by_cases g2 : x = 2
    · subst g2; simp [u_X10_lean_148, u_X10_lean_149, u_X10_lean_150, u_X10_lean_152, u_X10_lean_153, u_X10_lean_154, u_X10_lean_156, u_X10_lean_159, u_X10_lean_160, u_X10_lean_162, zR_at, f, az_call (s_X10_chance (d := d + 5) (a := zcn (fun m => zl1 (zo I h nl e m) (zg I h c m)) 30) (b := zcn (fun m => zl2 (zo I h nl e m) (zg I h c m)) 30) (by omega) (by omega))]
    simp [g0, g1, g2, u_X10_lean_148, u_X10_lean_149, u_X10_lean_150, u_X10_lean_152, u_X10_lean_153, u_X10_lean_154, u_X10_lean_156, u_X10_lean_159, u_X10_lean_160, u_X10_lean_162, zR_at, f]
theorem s_X11_lean {h t e nl nr n c w : Nat} {x : Int32} (hG : zG I t e nl nr n c w) (hh : h < 8) (hx : 0 ≤ x.toInt ∧ x.toInt ≤ 3) : zE (d + 7) 186 [.ref 97, .int (nI h), .int x] I L (some (.int (zLe I h nl e c x))) (fun J _ => zFr I J) := by
  refine zE_of zm_X11_lean rfl ?_
  show az_W _ _ _ 0 [.ref 97, .int (nI h), .int x, .null, .null, .null, .null, .null, .null] [] _
  have he := hG.2.2.2.1.2.2.2.2.2.1
  simp only [u_X11_lean_0, u_X11_lean_1, u_X11_lean_4, u_X11_lean_7, u_X11_lean_8, u_X11_lean_9, u_X11_lean_10, u_X11_lean_13, u_X11_lean_16, u_X11_lean_19, u_X11_lean_20, u_X11_lean_21, u_X11_lean_22, u_X11_lean_23, u_X11_lean_24, u_X11_lean_26, u_X11_lean_27, u_X11_lean_29, u_X11_lean_30, az_un_i, az_un_r, az_un_n, az_un_l, Option.toList_some, Option.toList_none, List.cons_append, List.nil_append, List.length_cons, List.length_nil, Nat.reduceLeDiff, Nat.reduceAdd, Nat.zero_le, Nat.zero_add, and_true, true_and, zb_1, eq_self, az_call s_X11_isHouse, az_call s_X11_in, z64, zj_0, zj_3, zb_0, (eq_true (by rw [nI_toInt (by omega)]; omega) : (0 ≤ (nI h).toInt ∧ (nI h).toInt ≤ 7) = True), eq_true hx, and_self, and_true, true_and, if_true, if_false, not_true, not_false_iff, not_true_eq_false, not_false_eq_true, ite_true, ite_false]
  refine zloop (P := fun k => ∀ J v7 v8, zFr I J → az_W (zD (d + 6)) _ _ 32 [.ref 97, .int (nI h), .int x, .int (nI (zcn (fun m => zl1 (zo I h nl e m) (zg I h c m)) k)), .int (nI (zcn (fun m => zl2 (zo I h nl e m) (zg I h c m)) k)), .int (nI (zcn (fun m => zl3 (zo I h nl e m) (zg I h c m)) k)), .int (nI k), v7, v8] [] (130, az_Pf, J, L)) 30 (fun k hk ih J v7 v8 f => ?_) (fun J v7 v8 f => ?_) 0 (Nat.zero_le _) I .null .null zFr.rf
  · have h1 : ¬ (30 : Int32) ≤ nI k := nI_ge (b := 30) hk (by decide)
    have hG2 := hG.fr f
    have ho := s_X11_outOf (d := d + 1) (L := L) hG2 hh hk
    obtain ⟨o, eo⟩ : ∃ o, o = zo I h nl e k := ⟨_, rfl⟩
    obtain ⟨g, eg⟩ : ∃ g, g = zg I h c k := ⟨_, rfl⟩
    rw [zOA_fr f hk he, show zOA I h k nl e = zo I h nl e k from rfl, ← eo] at ho
    have hD := (hG2.fr (zOM_fr (h := h) (m := k) (n := nl) (s := zrl J (nI k) 2 e))).2.2.2.2.2.2.1
    have f3 := f.tr (zOM_fr (I := J) (h := h) (m := k) (n := nl) (s := zrl J (nI k) 2 e))
    have hg := s_X11_gainsOf (d := d + 4) (L := L) (x := nI h) (m := nI k) hD
    rw [show zhg (zOM J h k nl (zrl J (nI k) 2 e)) (nI h) (nI k) = zhg I (nI h) (nI k) from funext fun c => by unfold zhg; rw [f3.rw 53 (by omega), f3.rw 50 (by omega), f3.rw 51 (by omega), f3.rw 52 (by omega), f3.rw 54 (by omega)], show zsum (zhg I (nI h) (nI k)) c = zg I h c k from rfl, ← eg] at hg
    simp only [u_X11_lean_32]
    simp only [u_X11_lean_34, u_X11_lean_36, u_X11_lean_39, u_X11_lean_40, u_X11_lean_41, u_X11_lean_43, u_X11_lean_46, u_X11_lean_48, u_X11_lean_49, u_X11_lean_50, u_X11_lean_52, u_X11_lean_55, u_X11_lean_57, u_X11_lean_58, u_X11_lean_60, u_X11_lean_63, u_X11_lean_65, u_X11_lean_68, u_X11_lean_69, u_X11_lean_72, u_X11_lean_73, u_X11_lean_74, u_X11_lean_75, u_X11_lean_77, u_X11_lean_79, u_X11_lean_82, u_X11_lean_84, u_X11_lean_87, u_X11_lean_89, u_X11_lean_92, u_X11_lean_94, u_X11_lean_97, u_X11_lean_98, u_X11_lean_101, u_X11_lean_102, u_X11_lean_103, u_X11_lean_105, u_X11_lean_107, u_X11_lean_109, u_X11_lean_112, u_X11_lean_114, u_X11_lean_117, u_X11_lean_118, u_X11_lean_121, u_X11_lean_122, u_X11_lean_123, u_X11_lean_125, u_X11_lean_128, az_un_i, az_un_r, az_un_n, az_un_l, Option.toList_some, Option.toList_none, List.cons_append, List.nil_append, List.length_cons, List.length_nil, Nat.reduceLeDiff, Nat.reduceAdd, Nat.zero_le, Nat.zero_add, and_true, true_and, zb_1, eq_self, h1, if_false, az_call ho, az_call hg]
    rw [nI_succ] at ih
    simp only [zcn, ← eo, ← eg] at ih
    have ec : o = 0 ∨ o = 1 ∨ o = -1 := by rw [eo]; exact zOut_c _ _ _ _
    clear eo eg
    have ih := fun v7 v8 => ih _ v7 v8 f3
    rcases (show g.toInt < 0 ∨ g.toInt = 0 ∨ 0 < g.toInt by omega) with q | q | q
    · have q1 : g < 0 := Int32.lt_iff_toInt_lt.mpr (by simpa using q)
      have q2 : ¬ g = 0 := fun z => by rw [z] at q; exact absurd q (by decide)
      have q3 : g ≤ 0 := Int32.le_iff_toInt_le.mpr (by simp; omega)
      have q4 : ¬ 0 ≤ g := fun z => by have := Int32.le_iff_toInt_le.mp z; simp at this; omega
      have q5 : ¬ 0 < g := fun z => by have := Int32.lt_iff_toInt_lt.mp z; simp at this; omega
      rcases ec with rfl | rfl | rfl
      · have ih := ih (.int 0) (.int g)
        simp [zl1, zl2, zl3, q1, q2, q3, q4, q5] at ih ⊢; exact ih
      · have ih := ih (.int 1) (.int g)
        simp [zl1, zl2, zl3, q1, q2, q3, q4, q5, nI_succ] at ih ⊢; exact ih
      · have ih := ih (.int (-1)) (.int g)
        simp [zl1, zl2, zl3, q1, q2, q3, q4, q5, nI_succ] at ih ⊢; exact ih
    · have q0 : g = 0 := Int32.toInt_inj.mp (by simpa using q)
      subst q0
      rcases ec with rfl | rfl | rfl
      · have ih := ih (.int 0) (.int 0)
        simp [zl1, zl2, zl3] at ih ⊢; exact ih
      · have ih := ih (.int 1) (.int 0)
        simp [zl1, zl2, zl3] at ih ⊢; exact ih
      · have ih := ih (.int (-1)) (.int 0)
        simp [zl1, zl2, zl3, nI_succ] at ih ⊢; exact ih
    · have q1 : ¬ g < 0 := fun z => by have := Int32.lt_iff_toInt_lt.mp z; simp at this; omega
      have q2 : ¬ g = 0 := fun z => by rw [z] at q; exact absurd q (by decide)
      have q3 : ¬ g ≤ 0 := fun z => by have := Int32.le_iff_toInt_le.mp z; simp at this; omega
      have q4 : 0 ≤ g := Int32.le_iff_toInt_le.mpr (by simp; omega)
      have q5 : 0 < g := Int32.lt_iff_toInt_lt.mpr (by simpa using q)
      rcases ec with rfl | rfl | rfl
      · have ih := ih (.int 0) (.int g)
        simp [zl1, zl2, zl3, q1, q2, q3, q4, q5] at ih ⊢; exact ih
      · have ih := ih (.int 1) (.int g)
        simp [zl1, zl2, zl3, q1, q2, q3, q4, q5, nI_succ] at ih ⊢; exact ih
      · have ih := ih (.int (-1)) (.int g)
        simp [zl1, zl2, zl3, q1, q2, q3, q4, q5, nI_succ] at ih ⊢; exact ih
  · have h1 : (30 : Int32) ≤ nI 30 := by decide
    have c1 := zcn_le (fun m => zl1 (zo I h nl e m) (zg I h c m)) 30
    have c2 := zcn_mono (p := fun m => zl2 (zo I h nl e m) (zg I h c m)) (q := fun m => zl1 (zo I h nl e m) (zg I h c m)) (fun k hk => zl21 _ _ hk) 30
    have hc := s_X11_chanceOf (d := d + 5) (h := (130, az_Pf, J, L)) (a := zcn (fun m => zl1 (zo I h nl e m) (zg I h c m)) 30) (b := zcn (fun m => zl2 (zo I h nl e m) (zg I h c m)) 30) (by omega) (by omega)
    rw [← zchm _ (by omega) _ (by omega) (by omega)] at hc
    simp only [u_X11_lean_32]
    simp only [u_X11_lean_34, u_X11_lean_36, u_X11_lean_131, u_X11_lean_132, u_X11_lean_135, u_X11_lean_136, u_X11_lean_139, u_X11_lean_140, u_X11_lean_141, u_X11_lean_144, u_X11_lean_146, u_X11_lean_149, u_X11_lean_150, u_X11_lean_151, u_X11_lean_154, u_X11_lean_155, u_X11_lean_157, u_X11_lean_160, u_X11_lean_163, u_X11_lean_165, az_un_i, az_un_r, az_un_n, az_un_l, Option.toList_some, Option.toList_none, List.cons_append, List.nil_append, List.length_cons, List.length_nil, Nat.reduceLeDiff, Nat.reduceAdd, Nat.zero_le, Nat.zero_add, and_true, true_and, zb_1, eq_self, h1, if_true, zR_at, eq_true f, az_call hc]
    unfold zLe
    by_cases g0 : x = 0
    · simp [g0]
    by_cases g1 : x = 1
    · simp [g1]
    by_cases g2 : x = 2
    · simp [g2]
    simp [g0, g1, g2]
theorem zcn_c {p q : Nat → Bool} : ∀ {n : Nat}, (∀ k, k < n → p k = q k) → zcn p n = zcn q n
  | 0, _ => rfl
  | n + 1, h => by rw [zcn, zcn, zcn_c (fun k hk => h k (by omega)), h n (by omega)]
theorem zLe_fr {J : Nat → Nat → Int32} {h nl e c : Nat} {x : Int32} (f : zFr I J) (he : e ≤ 4) : zLe J h nl e c x = zLe I h nl e c x := by
  have e1 : ∀ k, k < 30 → zo J h nl e k = zo I h nl e k := fun k hk => zOA_fr f hk he
  have e2 : ∀ k, zg J h c k = zg I h c k := fun k => by
    unfold zg
    rw [show zhg J (nI h) (nI k) = zhg I (nI h) (nI k) from funext fun c => by unfold zhg; rw [f.rw 53 (by omega), f.rw 50 (by omega), f.rw 51 (by omega), f.rw 52 (by omega), f.rw 54 (by omega)]]
  have a1 : zcn (fun m => zl1 (zo J h nl e m) (zg J h c m)) 30 = zcn (fun m => zl1 (zo I h nl e m) (zg I h c m)) 30 := zcn_c (fun k hk => by rw [e1 k hk, e2 k])
  have a2 : zcn (fun m => zl2 (zo J h nl e m) (zg J h c m)) 30 = zcn (fun m => zl2 (zo I h nl e m) (zg I h c m)) 30 := zcn_c (fun k hk => by rw [e1 k hk, e2 k])
  have a3 : zcn (fun m => zl3 (zo J h nl e m) (zg J h c m)) 30 = zcn (fun m => zl3 (zo I h nl e m) (zg I h c m)) 30 := zcn_c (fun k hk => by rw [e1 k hk, e2 k])
  unfold zLe
  rw [a1, a2, a3]
end S
theorem op_lean (x y : Int32) : zOp 112 186 [.int x, .int y] := by
  refine zOp_of (fun I L hI => ?_)
  obtain ⟨t, e, nl, nr, n, c, w, hG⟩ := zInv_G hI
  by_cases hb : (0 ≤ x.toInt ∧ x.toInt ≤ 7) ∧ (0 ≤ y.toInt ∧ y.toInt ≤ 3)
  · obtain ⟨h1, h2⟩ := hb
    obtain ⟨h, hh, rfl⟩ := znat h1.1 (n := 7) h1.2 (by decide)
    refine ⟨_, s_X10_lean (d := 2) hG (by omega) h2, fun J M f => ?_⟩
    rw [← zLe_fr f hG.2.2.2.1.2.2.2.2.2.1]
    exact s_X11_lean (d := 2) (hG.fr f) (by omega) h2
  · exact ⟨_, zE_D (s_X10_lean_bad (d := 2) hb) zFr.rf, fun J M f => zE_D (s_X11_lean_bad (d := 2) hb) zFr.rf⟩
