/-! ===== reading the tape ===== -/
def zqs (A : Nat → Int32) (t : Nat) : Nat → Nat → Nat
  | 0, p => p
  | f + 1, p => if p < t ∧ A p = 32 then zqs A t f (p + 1) else p
/-- behind the blanks -/
def zqk (A : Nat → Int32) (t p : Nat) : Nat := zqs A t (t - p) p
theorem zqk_s {A : Nat → Int32} {t p : Nat} (h1 : p < t) (h2 : A p = 32) : zqk A t p = zqk A t (p + 1) := by
  unfold zqk
  rw [show t - p = (t - (p + 1)) + 1 by omega, zqs, if_pos ⟨h1, h2⟩]
theorem zqk_e {A : Nat → Int32} {t p : Nat} (h : ¬ (p < t ∧ A p = 32)) : zqk A t p = p := by
  unfold zqk
  cases t - p with
  | zero => rfl
  | succ n => rw [zqs, if_neg h]
theorem zqk_b {A : Nat → Int32} {t : Nat} : ∀ n p, t - p = n → p ≤ t → p ≤ zqk A t p ∧ zqk A t p ≤ t
  | 0, p, h, hp => by
    rw [zqk_e (by omega)]; omega
  | n + 1, p, h, hp => by
    by_cases c : A p = 32
    · rw [zqk_s (by omega) c]
      have := zqk_b (A := A) (t := t) n (p + 1) (by omega) (by omega)
      omega
    · rw [zqk_e (fun q => c q.2)]; omega
def zqd (A : Nat → Int32) (t : Nat) : Nat → Nat → Nat → Nat × Nat
  | 0, p, m => (p, m)
  | f + 1, p, m => if p < t ∧ 48 ≤ (A p).toInt ∧ (A p).toInt ≤ 57 then zqd A t f (p + 1) (if 999 < m then m else 10 * m + ((A p).toInt.toNat - 48)) else (p, m)
/-- behind the number, and the number -/
def zqn (A : Nat → Int32) (t p m : Nat) : Nat × Nat := zqd A t (t - p) p m
theorem zqn_s {A : Nat → Int32} {t p m : Nat} (h1 : p < t) (h2 : 48 ≤ (A p).toInt ∧ (A p).toInt ≤ 57) : zqn A t p m = zqn A t (p + 1) (if 999 < m then m else 10 * m + ((A p).toInt.toNat - 48)) := by
  unfold zqn
  rw [show t - p = (t - (p + 1)) + 1 by omega, zqd, if_pos ⟨h1, h2⟩]
theorem zqn_e {A : Nat → Int32} {t p m : Nat} (h : ¬ (p < t ∧ 48 ≤ (A p).toInt ∧ (A p).toInt ≤ 57)) : zqn A t p m = (p, m) := by
  unfold zqn
  cases t - p with
  | zero => rfl
  | succ n => rw [zqd, if_neg h]
theorem zqn_b {A : Nat → Int32} {t : Nat} : ∀ n p m, t - p = n → p ≤ t → m ≤ 9999 → p ≤ (zqn A t p m).1 ∧ (zqn A t p m).1 ≤ t ∧ (zqn A t p m).2 ≤ 9999
  | 0, p, m, h, hp, hm => by
    rw [zqn_e (by omega)]; exact ⟨Nat.le_refl _, hp, hm⟩
  | n + 1, p, m, h, hp, hm => by
    by_cases c : 48 ≤ (A p).toInt ∧ (A p).toInt ≤ 57
    · rw [zqn_s (by omega) c]
      have := zqn_b (A := A) (t := t) n (p + 1) (if 999 < m then m else 10 * m + ((A p).toInt.toNat - 48)) (by omega) (by omega) (by split <;> omega)
      omega
    · rw [zqn_e (fun q => c q.2)]; exact ⟨Nat.le_refl _, hp, hm⟩
def zrn (x : Int32) : Nat := if x = 99 then 0 else if x = 108 then 1 else if x = 115 then 2 else 3
def zql (w : Nat) : Nat := if w = 1 then 1 else 0
def zqh (w : Nat) : Nat := if w = 0 then 3 else if w = 1 then 8 else 99
/-- a clause: is it one, where it ends or fails, which rule, its number -/
def zqc (A : Nat → Int32) (t p : Nat) : Bool × Nat × Nat × Nat :=
  if zqk A t p < t ∧ zrn (A (zqk A t p)) < 3 then
    (if (zqn A t (zqk A t (zqk A t p + 1)) 0).1 = zqk A t (zqk A t p + 1) ∨ ¬ (zql (zrn (A (zqk A t p))) ≤ (zqn A t (zqk A t (zqk A t p + 1)) 0).2 ∧ (zqn A t (zqk A t (zqk A t p + 1)) 0).2 ≤ zqh (zrn (A (zqk A t p)))) then (false, zqk A t (zqk A t p + 1), 0, 0)
    else (true, (zqn A t (zqk A t (zqk A t p + 1)) 0).1, zrn (A (zqk A t p)), (zqn A t (zqk A t (zqk A t p + 1)) 0).2))
  else (false, zqk A t p, 0, 0)
theorem zqc_b {A : Nat → Int32} {t p : Nat} (hp : p ≤ t) : (zqc A t p).2.1 ≤ t ∧ ((zqc A t p).1 = true → (zqc A t p).2.2.1 < 3 ∧ zql (zqc A t p).2.2.1 ≤ (zqc A t p).2.2.2 ∧ (zqc A t p).2.2.2 ≤ zqh (zqc A t p).2.2.1) := by
  have h1 := zqk_b (A := A) _ p rfl hp
  unfold zqc
  by_cases c1 : zqk A t p < t ∧ zrn (A (zqk A t p)) < 3
  · have h2 := zqk_b (A := A) _ (zqk A t p + 1) rfl (show zqk A t p + 1 ≤ t by omega)
    have h3 := zqn_b (A := A) _ (zqk A t (zqk A t p + 1)) 0 rfl h2.2 (by decide)
    rw [if_pos c1]
    by_cases c2 : (zqn A t (zqk A t (zqk A t p + 1)) 0).1 = zqk A t (zqk A t p + 1) ∨ ¬ (zql (zrn (A (zqk A t p))) ≤ (zqn A t (zqk A t (zqk A t p + 1)) 0).2 ∧ (zqn A t (zqk A t (zqk A t p + 1)) 0).2 ≤ zqh (zrn (A (zqk A t p))))
    · rw [if_pos c2]; exact ⟨h2.2, fun q => by cases q⟩
    · rw [if_neg c2]; exact ⟨h3.2.1, fun _ => ⟨c1.2, by
        have : zql (zrn (A (zqk A t p))) ≤ (zqn A t (zqk A t (zqk A t p + 1)) 0).2 ∧ (zqn A t (zqk A t (zqk A t p + 1)) 0).2 ≤ zqh (zrn (A (zqk A t p))) := Decidable.byContradiction fun q => c2 (Or.inr q)
        exact this⟩⟩
  · rw [if_neg c1]; exact ⟨h1.2, fun q => by cases q⟩
def zqr (b : Bool) (q : Nat) : Int32 := if b then 0 else -20 - nI q
/-- the ints are as they were but for what the class's, the reference's reader writes -/
def zFk (I J : Nat → Nat → Int32) : Prop := ∀ b j, b ≠ 43 → ¬ (b = 35 ∧ j = 6) → J b j = I b j
def zFl (I J : Nat → Nat → Int32) : Prop := ∀ b j, b ≠ 102 → ¬ (b = 97 ∧ j = 3) → J b j = I b j
theorem zFk.rf {I : Nat → Nat → Int32} : zFk I I := fun _ _ _ _ => rfl
theorem zFl.rf {I : Nat → Nat → Int32} : zFl I I := fun _ _ _ _ => rfl
theorem zFk.tr {I J K : Nat → Nat → Int32} (h1 : zFk I J) (h2 : zFk J K) : zFk I K := fun a j p q => (h2 a j p q).trans (h1 a j p q)
theorem zFl.tr {I J K : Nat → Nat → Int32} (h1 : zFl I J) (h2 : zFl J K) : zFl I K := fun a j p q => (h2 a j p q).trans (h1 a j p q)
theorem zFk.a {I J : Nat → Nat → Int32} {v : Int32} (h : zFk I J) : zFk I (az_uI J 35 6 v) := fun b j h1 h2 => by rw [az_uI_at, if_neg h2]; exact h b j h1 h2
theorem zFk.d {I J : Nat → Nat → Int32} {k : Nat} {v : Int32} (h : zFk I J) : zFk I (az_uI J 43 k v) := fun b j h1 h2 => by rw [az_uI_at, if_neg (fun q => h1 q.1)]; exact h b j h1 h2
theorem zFl.a {I J : Nat → Nat → Int32} {v : Int32} (h : zFl I J) : zFl I (az_uI J 97 3 v) := fun b j h1 h2 => by rw [az_uI_at, if_neg h2]; exact h b j h1 h2
theorem zFl.d {I J : Nat → Nat → Int32} {k : Nat} {v : Int32} (h : zFl I J) : zFl I (az_uI J 102 k v) := fun b j h1 h2 => by rw [az_uI_at, if_neg (fun q => h1 q.1)]; exact h b j h1 h2
theorem zmin1 {m : Nat} : (if (100 : Int32) < nI m then (100 : Int32) else nI m) = nI (min m 100) ∨ ¬ m < 2 ^ 31 := by
  by_cases h : m < 2 ^ 31
  · left
    by_cases c : 100 < m
    · rw [if_pos (show (100 : Int32) < nI m from nI_lt (a := 100) c h), Nat.min_eq_right (by omega)]; rfl
    · rw [if_neg (show ¬ (100 : Int32) < nI m from nI_nlt (a := 100) (by omega) (by omega)), Nat.min_eq_left (by omega)]
  · right; exact h
theorem zmin2 {m g : Nat} (hg : g ≤ 9) (hm : m ≤ 9999) : min (10 * min m 100 + g) 100 = min (if 999 < m then m else 10 * m + g) 100 := by
  split <;> omega
section S
variable {d : Nat} {I : Nat → Nat → Int32} {L : Nat → Nat → Int64} {h : az_H}
theorem s_X6_skipBlanks {A : Nat → Int32} {t p : Nat} (hA : I 36 = A) (ht : t ≤ 40) (e1 : I 35 1 = nI t) (hp : p ≤ t) (e2 : I 35 6 = nI p) : zD (d + 1) 65 [.ref 35] (130, az_Pf, I, L) none (130, az_Pf, az_uI I 35 6 (nI (zqk A t p)), L) := by
  refine zD_of zm_X6_skipBlanks rfl ?_
  show az_W _ _ _ 0 [.ref 35] [] _
  have key : ∀ n q, t - q = n → q ≤ t → zqk A t q = zqk A t p → az_W (zD d) (fun r' h'' => r' = none ∧ h'' = (130, az_Pf, az_uI I 35 6 (nI (zqk A t p)), L)) k_X6_skipBlanks 0 [.ref 35] [] (130, az_Pf, az_uI I 35 6 (nI q), L) := by
    intro n
    induction n with
    | zero =>
      intro q hn hq eq
      have e : q = t := by omega
      subst e
      rw [zqk_e (by omega)] at eq
      have h1 : nI q ≤ nI q := nI_le (Nat.le_refl _) (by omega)
      simp only [u_X6_skipBlanks_0]
      simp only [u_X6_skipBlanks_1, u_X6_skipBlanks_4, u_X6_skipBlanks_5, u_X6_skipBlanks_8, u_X6_skipBlanks_11, u_X6_skipBlanks_12, u_X6_skipBlanks_15, u_X6_skipBlanks_16, u_X6_skipBlanks_19, u_X6_skipBlanks_20, u_X6_skipBlanks_22, u_X6_skipBlanks_25, u_X6_skipBlanks_26, u_X6_skipBlanks_26r, u_X6_skipBlanks_27, u_X6_skipBlanks_30, u_X6_skipBlanks_31, u_X6_skipBlanks_32, u_X6_skipBlanks_35, u_X6_skipBlanks_38, az_un_i, az_un_r, az_un_n, az_un_l, Option.toList_some, Option.toList_none, List.cons_append, List.nil_append, List.length_cons, List.length_nil, Nat.reduceLeDiff, Nat.reduceAdd, Nat.zero_le, Nat.zero_add, and_true, true_and, zb_1, eq_self, az_uI_at, az_uL_at, Nat.reduceEqDiff, false_and, and_false, and_self, if_true, if_false, ite_true, ite_false, e1, h1, if_true, ← eq]
    | succ n ih =>
      intro q hn hq eq
      have h1 : ¬ nI t ≤ nI q := nI_ge (by omega) (by omega)
      simp only [u_X6_skipBlanks_0]
      simp only [u_X6_skipBlanks_1, u_X6_skipBlanks_4, u_X6_skipBlanks_5, u_X6_skipBlanks_8, u_X6_skipBlanks_11, u_X6_skipBlanks_12, u_X6_skipBlanks_15, u_X6_skipBlanks_16, u_X6_skipBlanks_19, u_X6_skipBlanks_20, u_X6_skipBlanks_22, u_X6_skipBlanks_25, u_X6_skipBlanks_26, u_X6_skipBlanks_26r, u_X6_skipBlanks_27, u_X6_skipBlanks_30, u_X6_skipBlanks_31, u_X6_skipBlanks_32, u_X6_skipBlanks_35, u_X6_skipBlanks_38, az_un_i, az_un_r, az_un_n, az_un_l, Option.toList_some, Option.toList_none, List.cons_append, List.nil_append, List.length_cons, List.length_nil, Nat.reduceLeDiff, Nat.reduceAdd, Nat.zero_le, Nat.zero_add, and_true, true_and, zb_1, eq_self, az_uI_at, az_uL_at, Nat.reduceEqDiff, false_and, and_false, and_self, if_true, if_false, ite_true, ite_false, e1, h1, if_false, kx_36, zinT (show q < 40 by omega) (by decide), zcl (show q < 40 by omega) (by decide), hA, zuss]
      by_cases c : A q = 32
      · rw [if_pos c, show nI q + 1 = nI (q + 1) from (nI_succ q).symm]
        exact ih (q + 1) (by omega) (by omega) (by rw [← zqk_s (by omega) c]; exact eq)
      · rw [zqk_e (fun z => c z.2)] at eq
        rw [if_neg c, ← eq]
  have := key (t - p) p rfl hp rfl
  rw [← e2, zself] at this
  exact this
theorem s_X11_next {A : Nat → Int32} {t p : Nat} (hA : I 99 = A) (ht : t ≤ 40) (e1 : I 97 2 = nI t) (hp : p ≤ t) (e2 : I 97 3 = nI p) : zD (d + 1) 150 [.ref 97] (130, az_Pf, I, L) (some (.int (if zqk A t p < t then A (zqk A t p) else -1))) (130, az_Pf, az_uI I 97 3 (nI (zqk A t p)), L) := by
  refine zD_of zm_X11_next rfl ?_
  show az_W _ _ _ 0 [.ref 97] [] _
  have key : ∀ n q, t - q = n → q ≤ t → zqk A t q = zqk A t p → az_W (zD d) (fun r' h'' => r' = some (.int (if zqk A t p < t then A (zqk A t p) else -1)) ∧ h'' = (130, az_Pf, az_uI I 97 3 (nI (zqk A t p)), L)) k_X11_next 0 [.ref 97] [] (130, az_Pf, az_uI I 97 3 (nI q), L) := by
    intro n
    induction n with
    | zero =>
      intro q hn hq eq
      have e : q = t := by omega
      subst e
      rw [zqk_e (by omega)] at eq
      have h1 : nI q ≤ nI q := nI_le (Nat.le_refl _) (by omega)
      simp only [u_X11_next_0]
      simp only [u_X11_next_1, u_X11_next_4, u_X11_next_5, u_X11_next_8, u_X11_next_11, u_X11_next_12, u_X11_next_15, u_X11_next_16, u_X11_next_19, u_X11_next_20, u_X11_next_22, u_X11_next_25, u_X11_next_26, u_X11_next_26r, u_X11_next_27, u_X11_next_30, u_X11_next_31, u_X11_next_32, u_X11_next_35, u_X11_next_38, u_X11_next_39, u_X11_next_42, u_X11_next_43, u_X11_next_46, u_X11_next_49, u_X11_next_50, u_X11_next_53, u_X11_next_54, u_X11_next_57, u_X11_next_58, u_X11_next_61, u_X11_next_62, az_un_i, az_un_r, az_un_n, az_un_l, Option.toList_some, Option.toList_none, List.cons_append, List.nil_append, List.length_cons, List.length_nil, Nat.reduceLeDiff, Nat.reduceAdd, Nat.zero_le, Nat.zero_add, and_true, true_and, zb_1, eq_self, az_uI_at, az_uL_at, Nat.reduceEqDiff, false_and, and_false, and_self, if_true, if_false, ite_true, ite_false, e1, h1, if_true, ← eq, Nat.lt_irrefl, if_false]
    | succ n ih =>
      intro q hn hq eq
      have h1 : ¬ nI t ≤ nI q := nI_ge (by omega) (by omega)
      simp only [u_X11_next_0]
      simp only [u_X11_next_1, u_X11_next_4, u_X11_next_5, u_X11_next_8, u_X11_next_11, u_X11_next_12, u_X11_next_15, u_X11_next_16, u_X11_next_19, u_X11_next_20, u_X11_next_22, u_X11_next_25, u_X11_next_26, u_X11_next_26r, u_X11_next_27, u_X11_next_30, u_X11_next_31, u_X11_next_32, u_X11_next_35, u_X11_next_38, u_X11_next_39, u_X11_next_42, u_X11_next_43, u_X11_next_46, u_X11_next_49, u_X11_next_50, u_X11_next_53, u_X11_next_54, u_X11_next_57, u_X11_next_58, u_X11_next_61, u_X11_next_62, az_un_i, az_un_r, az_un_n, az_un_l, Option.toList_some, Option.toList_none, List.cons_append, List.nil_append, List.length_cons, List.length_nil, Nat.reduceLeDiff, Nat.reduceAdd, Nat.zero_le, Nat.zero_add, and_true, true_and, zb_1, eq_self, az_uI_at, az_uL_at, Nat.reduceEqDiff, false_and, and_false, and_self, if_true, if_false, ite_true, ite_false, e1, h1, if_false, kx_99, zinT (show q < 40 by omega) (by decide), zcl (show q < 40 by omega) (by decide), hA, zuss]
      by_cases c : A q = 32
      · rw [if_pos c, show nI q + 1 = nI (q + 1) from (nI_succ q).symm]
        exact ih (q + 1) (by omega) (by omega) (by rw [← zqk_s (by omega) c]; exact eq)
      · rw [zqk_e (fun z => c z.2)] at eq
        rw [if_neg c, ← eq, if_pos (show q < t by omega)]
        exact ⟨rfl, rfl⟩
  have := key (t - p) p rfl hp rfl
  rw [← e2, zself] at this
  exact this
theorem s_X6_ruleNamed {x : Int32} : zD (d + 1) 63 [.int x] h (some (.int (if zrn x < 3 then nI (zrn x) else -4))) h := by
  refine zD_of zm_X6_ruleNamed rfl ?_
  show az_W _ _ _ 0 [.int x] [] _
  simp only [u_X6_ruleNamed_0, u_X6_ruleNamed_1, az_pick]
  unfold zrn
  by_cases c1 : x = 99
  · simp [c1, u_X6_ruleNamed_36, u_X6_ruleNamed_37, u_X6_ruleNamed_38, u_X6_ruleNamed_39, u_X6_ruleNamed_40, u_X6_ruleNamed_41, u_X6_ruleNamed_42, u_X6_ruleNamed_44]; rfl
  · by_cases c2 : x = 108
    · simp [c2, u_X6_ruleNamed_36, u_X6_ruleNamed_37, u_X6_ruleNamed_38, u_X6_ruleNamed_39, u_X6_ruleNamed_40, u_X6_ruleNamed_41, u_X6_ruleNamed_42, u_X6_ruleNamed_44]; rfl
    · by_cases c3 : x = 115
      · simp [c3, u_X6_ruleNamed_36, u_X6_ruleNamed_37, u_X6_ruleNamed_38, u_X6_ruleNamed_39, u_X6_ruleNamed_40, u_X6_ruleNamed_41, u_X6_ruleNamed_42, u_X6_ruleNamed_44]; rfl
      · simp [c1, c2, c3, u_X6_ruleNamed_36, u_X6_ruleNamed_37, u_X6_ruleNamed_38, u_X6_ruleNamed_39, u_X6_ruleNamed_40, u_X6_ruleNamed_41, u_X6_ruleNamed_42, u_X6_ruleNamed_44]
theorem s_X6_readNumber {A : Nat → Int32} {t p : Nat} (hA : I 36 = A) (ht : t ≤ 40) (e1 : I 35 1 = nI t) (hp : p ≤ t) (e2 : I 35 6 = nI p) : zD (d + 2) 64 [.ref 35] (130, az_Pf, I, L) (some (.int (nI (min (zqn A t p 0).2 100)))) (130, az_Pf, az_uI I 35 6 (nI (zqn A t p 0).1), L) := by
  refine zD_of zm_X6_readNumber rfl ?_
  show az_W _ _ _ 0 [.ref 35, .null] [] _
  simp only [u_X6_readNumber_0, u_X6_readNumber_1, az_un_i, az_un_r, az_un_n, az_un_l, Option.toList_some, Option.toList_none, List.cons_append, List.nil_append, List.length_cons, List.length_nil, Nat.reduceLeDiff, Nat.reduceAdd, Nat.zero_le, Nat.zero_add, and_true, true_and, zb_1, eq_self]
  have key : ∀ n q m, t - q = n → q ≤ t → m ≤ 9999 → zqn A t q m = zqn A t p 0 → az_W (zD (d + 1)) (fun r' h'' => r' = some (.int (nI (min (zqn A t p 0).2 100))) ∧ h'' = (130, az_Pf, az_uI I 35 6 (nI (zqn A t p 0).1), L)) k_X6_readNumber 2 [.ref 35, .int (nI (min m 100))] [] (130, az_Pf, az_uI I 35 6 (nI q), L) := by
    intro n
    induction n with
    | zero =>
      intro q m hn hq hm eq
      have e : q = t := by omega
      subst e
      rw [zqn_e (by omega)] at eq
      have h1 : nI q ≤ nI q := nI_le (Nat.le_refl _) (by omega)
      simp only [u_X6_readNumber_2]
      simp only [u_X6_readNumber_3, u_X6_readNumber_6, u_X6_readNumber_7, u_X6_readNumber_10, u_X6_readNumber_13, u_X6_readNumber_14, u_X6_readNumber_17, u_X6_readNumber_18, u_X6_readNumber_21, u_X6_readNumber_22, u_X6_readNumber_24, u_X6_readNumber_26, u_X6_readNumber_29, u_X6_readNumber_32, u_X6_readNumber_33, u_X6_readNumber_35, u_X6_readNumber_36, u_X6_readNumber_37, u_X6_readNumber_40, u_X6_readNumber_41, u_X6_readNumber_44, u_X6_readNumber_45, u_X6_readNumber_46, u_X6_readNumber_48, u_X6_readNumber_49, u_X6_readNumber_51, u_X6_readNumber_54, u_X6_readNumber_55, u_X6_readNumber_56, u_X6_readNumber_56r, u_X6_readNumber_57, u_X6_readNumber_60, u_X6_readNumber_61, u_X6_readNumber_62, u_X6_readNumber_65, u_X6_readNumber_68, u_X6_readNumber_69, az_un_i, az_un_r, az_un_n, az_un_l, Option.toList_some, Option.toList_none, List.cons_append, List.nil_append, List.length_cons, List.length_nil, Nat.reduceLeDiff, Nat.reduceAdd, Nat.zero_le, Nat.zero_add, and_true, true_and, zb_1, eq_self, az_uI_at, az_uL_at, Nat.reduceEqDiff, false_and, and_false, and_self, if_true, if_false, ite_true, ite_false, e1, h1, if_true, ← eq]
    | succ n ih =>
      intro q m hn hq hm eq
      have h1 : ¬ nI t ≤ nI q := nI_ge (by omega) (by omega)
      simp only [u_X6_readNumber_2]
      simp only [u_X6_readNumber_3, u_X6_readNumber_6, u_X6_readNumber_7, u_X6_readNumber_10, u_X6_readNumber_13, u_X6_readNumber_14, u_X6_readNumber_17, u_X6_readNumber_18, u_X6_readNumber_21, u_X6_readNumber_22, u_X6_readNumber_24, u_X6_readNumber_26, u_X6_readNumber_29, u_X6_readNumber_32, u_X6_readNumber_33, u_X6_readNumber_35, u_X6_readNumber_36, u_X6_readNumber_37, u_X6_readNumber_40, u_X6_readNumber_41, u_X6_readNumber_44, u_X6_readNumber_45, u_X6_readNumber_46, u_X6_readNumber_48, u_X6_readNumber_49, u_X6_readNumber_51, u_X6_readNumber_54, u_X6_readNumber_55, u_X6_readNumber_56, u_X6_readNumber_56r, u_X6_readNumber_57, u_X6_readNumber_60, u_X6_readNumber_61, u_X6_readNumber_62, u_X6_readNumber_65, u_X6_readNumber_68, u_X6_readNumber_69, az_un_i, az_un_r, az_un_n, az_un_l, Option.toList_some, Option.toList_none, List.cons_append, List.nil_append, List.length_cons, List.length_nil, Nat.reduceLeDiff, Nat.reduceAdd, Nat.zero_le, Nat.zero_add, and_true, true_and, zb_1, eq_self, az_uI_at, az_uL_at, Nat.reduceEqDiff, false_and, and_false, and_self, if_true, if_false, ite_true, ite_false, e1, h1, if_false, kx_36, zinT (show q < 40 by omega) (by decide), zcl (show q < 40 by omega) (by decide), hA, zuss, az_call s_X10_isIn, zl_0, zj_0, zl_1, zj_1, zl_2, zj_2, zl_3, zj_3, zl_4, zj_4, zl_5, zj_5, zl_6, zj_6, zl_7, zj_7, zl_8, zj_8, zl_9, zj_9, zl_10, zj_10, zl_11, zj_11, zl_12, zj_12, zl_15, zj_15, zl_16, zj_16, zl_20, zj_20, zl_24, zj_24, zl_29, zj_29, zl_30, zj_30, zl_31, zj_31, zl_32, zj_32, zl_40, zj_40, zl_48, zj_48, zl_57, zj_57, zl_59, zj_59, zl_60, zj_60, zl_63, zj_63, zl_99, zj_99, zl_100, zj_100, zl_126, zj_126, zl_144, zj_144, zl_200, zj_200, zl_240, zj_240, zl_255, zj_255, zl_256, zj_256, zl_999, zj_999, zl_1000, zj_1000, zlm_1, zjm_1, zlm_2, zjm_2, zlm_3, zjm_3, zlm_4, zjm_4, zlm_11, zjm_11, zlm_12, zjm_12, zlm_13, zjm_13, zlm_14, zjm_14, zlm_20, zjm_20, zlm_10001, zjm_10001, zlm_10002, zjm_10002, zb_0]
      by_cases c : 48 ≤ (A q).toInt ∧ (A q).toInt ≤ 57
      · rw [if_neg (fun z => z c), show nI q + 1 = nI (q + 1) from (nI_succ q).symm]
        have ev := zvn (x := A q) (by omega)
        obtain ⟨a, ea⟩ : ∃ a, a = (A q).toInt.toNat := ⟨_, rfl⟩
        rw [← ea] at ev
        have e3 : nI (min m 100) * 10 + A q - 48 = nI (10 * min m 100 + (a - 48)) := by
          rw [ev, show (10 : Int32) = nI 10 from rfl, pk_mul, nI_add, show (48 : Int32) = nI 48 from rfl, pk_sub (by omega)]
          congr 1; omega
        have e4 := (zmin1 (m := 10 * min m 100 + (a - 48))).resolve_right (by omega)
        rw [e3, e4, zmin2 (by omega) hm]
        refine ih (q + 1) _ (by omega) (by omega) (by split <;> omega) ?_
        rw [ea, ← zqn_s (by omega) c]; exact eq
      · rw [zqn_e (fun z => c z.2)] at eq
        rw [if_pos c, ← eq]
        exact ⟨rfl, rfl⟩
  have := key (t - p) p 0 rfl hp (by decide) rfl
  rw [← e2, zself] at this
  exact this
end S
section S
variable {d : Nat} {I : Nat → Nat → Int32} {L : Nat → Nat → Int64} {h : az_H}
theorem zqlh : ∀ w, w < 3 → (az_sc 9001 w).toInt = (zql w : Int) ∧ (az_sc 9002 w).toInt = (zqh w : Int) := by decide
theorem zqh_99 (w : Nat) : zqh w ≤ 99 := by
  unfold zqh; split
  · decide
  · split <;> decide
theorem s_X6_readClause {A : Nat → Int32} {t p : Nat} (hA : I 36 = A) (ht : t ≤ 40) (e1 : I 35 1 = nI t) (hp : p ≤ t) (e2 : I 35 6 = nI p) : zE (d + 3) 62 [.ref 35] I L (some (.int (zqr (zqc A t p).1 (zqc A t p).2.1))) (fun J L' => L' = L ∧ zFk I J ∧ ((zqc A t p).1 = true → J = az_uI (az_uI I 35 6 (nI (zqc A t p).2.1)) 43 (zqc A t p).2.2.1 (nI (zqc A t p).2.2.2))) := by
  refine zE_of zm_X6_readClause rfl ?_
  show az_W _ _ _ 0 [.ref 35, .null, .null, .null] [] _
  have b1 := zqk_b (A := A) _ p rfl hp
  have c1 := s_X6_skipBlanks (d := d + 1) (L := L) hA ht e1 hp e2
  unfold zqc
  generalize zqk A t p = p1 at *
  simp only [u_X6_readClause_0, u_X6_readClause_1, u_X6_readClause_4, u_X6_readClause_5, u_X6_readClause_8, u_X6_readClause_9, u_X6_readClause_12, u_X6_readClause_15, u_X6_readClause_16, u_X6_readClause_19, u_X6_readClause_20, u_X6_readClause_23, u_X6_readClause_23s, u_X6_readClause_24, u_X6_readClause_27, u_X6_readClause_30, u_X6_readClause_32, az_un_i, az_un_r, az_un_n, az_un_l, Option.toList_some, Option.toList_none, List.cons_append, List.nil_append, List.length_cons, List.length_nil, Nat.reduceLeDiff, Nat.reduceAdd, Nat.zero_le, Nat.zero_add, and_true, true_and, zb_1, eq_self, az_call c1, az_uI_at, az_uL_at, Nat.reduceEqDiff, false_and, and_false, and_self, if_true, if_false, ite_true, ite_false, e1, kx_36, hA]
  by_cases g1 : p1 < t
  · rw [if_neg (nI_ge g1 (by omega))]
    simp only [u_X6_readClause_0, u_X6_readClause_1, u_X6_readClause_4, u_X6_readClause_5, u_X6_readClause_8, u_X6_readClause_9, u_X6_readClause_12, u_X6_readClause_15, u_X6_readClause_16, u_X6_readClause_19, u_X6_readClause_20, u_X6_readClause_23, u_X6_readClause_23s, u_X6_readClause_24, u_X6_readClause_27, u_X6_readClause_30, u_X6_readClause_32, u_X6_readClause_33, u_X6_readClause_34, u_X6_readClause_36, u_X6_readClause_39, u_X6_readClause_41, u_X6_readClause_42, u_X6_readClause_45, u_X6_readClause_46, az_un_i, az_un_r, az_un_n, az_un_l, Option.toList_some, Option.toList_none, List.cons_append, List.nil_append, List.length_cons, List.length_nil, Nat.reduceLeDiff, Nat.reduceAdd, Nat.zero_le, Nat.zero_add, and_true, true_and, zb_1, eq_self, az_uI_at, az_uL_at, Nat.reduceEqDiff, false_and, and_false, and_self, if_true, if_false, ite_true, ite_false, zinT (show p1 < 40 by omega) (by decide), zcl (show p1 < 40 by omega) (by decide), az_call s_X6_ruleNamed]
    obtain ⟨w, ew⟩ : ∃ w, w = zrn (A p1) := ⟨_, rfl⟩
    rw [← ew]
    by_cases g2 : w < 3
    · have n4 : ¬ nI w = -4 := fun z => by
        have := congrArg Int32.toInt z
        rw [nI_toInt (by omega)] at this
        simp at this
      rw [if_pos g2, if_neg n4, if_pos ⟨g1, g2⟩]
      have c2 := s_X6_skipBlanks (d := d + 1) (I := az_uI I 35 6 (nI (p1 + 1))) (L := L) (A := A) (t := t) (p := p1 + 1) (by rw [zu_row (by decide)]; exact hA) ht (by simp only [az_uI_at, az_uL_at, Nat.reduceEqDiff, false_and, and_false, and_self, if_true, if_false, ite_true, ite_false]; exact e1) (by omega) (by simp only [az_uI_at, az_uL_at, Nat.reduceEqDiff, false_and, and_false, and_self, if_true, if_false, ite_true, ite_false])
      have b2 := zqk_b (A := A) _ (p1 + 1) rfl (show p1 + 1 ≤ t by omega)
      rw [zuss] at c2
      generalize zqk A t (p1 + 1) = p2 at *
      have c3 := s_X6_readNumber (d := d) (I := az_uI I 35 6 (nI p2)) (L := L) (A := A) (t := t) (p := p2) (by rw [zu_row (by decide)]; exact hA) ht (by simp only [az_uI_at, az_uL_at, Nat.reduceEqDiff, false_and, and_false, and_self, if_true, if_false, ite_true, ite_false]; exact e1) b2.2 (by simp only [az_uI_at, az_uL_at, Nat.reduceEqDiff, false_and, and_false, and_self, if_true, if_false, ite_true, ite_false])
      have b3 := zqn_b (A := A) _ p2 0 rfl b2.2 (by decide)
      rw [zuss] at c3
      generalize zqn A t p2 0 = q at *
      obtain ⟨q1, q2⟩ := q
      have b3 : p2 ≤ q1 ∧ q1 ≤ t ∧ q2 ≤ 9999 := b3
      simp only [u_X6_readClause_47, u_X6_readClause_48, u_X6_readClause_48r, u_X6_readClause_49, u_X6_readClause_52, u_X6_readClause_53, u_X6_readClause_54, u_X6_readClause_57, u_X6_readClause_58, u_X6_readClause_61, u_X6_readClause_62, u_X6_readClause_65, u_X6_readClause_66, u_X6_readClause_67, u_X6_readClause_70, u_X6_readClause_71, u_X6_readClause_72, u_X6_readClause_75, u_X6_readClause_76, u_X6_readClause_79, u_X6_readClause_80, u_X6_readClause_83, u_X6_readClause_84, u_X6_readClause_84s, u_X6_readClause_85, u_X6_readClause_88, u_X6_readClause_89, u_X6_readClause_89s, u_X6_readClause_90, u_X6_readClause_93, u_X6_readClause_96, u_X6_readClause_98, u_X6_readClause_99, u_X6_readClause_100, u_X6_readClause_101, u_X6_readClause_102, u_X6_readClause_105, u_X6_readClause_106, u_X6_readClause_107, u_X6_readClause_108, u_X6_readClause_109, az_un_i, az_un_r, az_un_n, az_un_l, Option.toList_some, Option.toList_none, List.cons_append, List.nil_append, List.length_cons, List.length_nil, Nat.reduceLeDiff, Nat.reduceAdd, Nat.zero_le, Nat.zero_add, and_true, true_and, zb_1, eq_self, az_uI_at, az_uL_at, Nat.reduceEqDiff, false_and, and_false, and_self, if_true, if_false, ite_true, ite_false, zuss, show nI p1 + 1 = nI (p1 + 1) from (nI_succ p1).symm, az_call c2, az_call c3, nI_eq (show q1 < 2 ^ 31 by omega) (show p2 < 2 ^ 31 by omega), kx_9001, kx_9002, kx_43, zinT (show w < 3 from g2) (by decide), zcl (show w < 3 from g2) (by decide), az_call s_X10_isIn, (zqlh w g2).1, (zqlh w g2).2, nI_toInt (show min q2 100 < 2 ^ 31 by omega), zb_0]
      have h99 := zqh_99 w
      by_cases g3 : q1 = p2
      · rw [if_pos g3, if_pos (Or.inl g3)]
        simp only [zR_at, zqr, Bool.false_eq_true, if_false, false_implies, and_true, true_and]
        exact zFk.rf.a
      · rw [if_neg g3]
        by_cases g4 : zql w ≤ q2 ∧ q2 ≤ zqh w
        · have g5 : (zql w : Int) ≤ ((min q2 100 : Nat) : Int) ∧ ((min q2 100 : Nat) : Int) ≤ (zqh w : Int) := by omega
          rw [if_neg (fun z => z g5), if_neg (by omega), show min q2 100 = q2 by omega]
          simp only [zR_at, zqr, if_true, true_implies, and_true, true_and]
          exact zFk.rf.a.d
        · have g5 : ¬ ((zql w : Int) ≤ ((min q2 100 : Nat) : Int) ∧ ((min q2 100 : Nat) : Int) ≤ (zqh w : Int)) := by omega
          rw [if_pos g5, if_pos (Or.inr g4)]
          simp only [zR_at, zqr, Bool.false_eq_true, if_false, false_implies, and_true, true_and]
          exact zFk.rf.a
    · rw [if_neg g2, if_pos rfl, if_neg (fun z => g2 z.2)]
      simp only [zR_at, zqr, Bool.false_eq_true, if_false, false_implies, and_true, true_and]
      exact zFk.rf.a
  · rw [if_pos (nI_le (by omega) (by omega)), if_neg (fun z => g1 z.1)]
    simp only [u_X6_readClause_33, u_X6_readClause_34, u_X6_readClause_36, u_X6_readClause_39, u_X6_readClause_41, u_X6_readClause_42, u_X6_readClause_45, u_X6_readClause_46, az_un_i, az_un_r, az_un_n, az_un_l, Option.toList_some, Option.toList_none, List.cons_append, List.nil_append, List.length_cons, List.length_nil, Nat.reduceLeDiff, Nat.reduceAdd, Nat.zero_le, Nat.zero_add, and_true, true_and, zb_1, eq_self, az_uI_at, az_uL_at, Nat.reduceEqDiff, false_and, and_false, and_self, if_true, if_false, ite_true, ite_false, if_true, zR_at, zqr, Bool.false_eq_true, if_false, false_implies, and_true, true_and]
    exact zFk.rf.a
theorem s_X11_readClause {A : Nat → Int32} {t p : Nat} (hC : zvC I) (hr : ∀ k, k < t → 32 ≤ (A k).toInt ∧ (A k).toInt ≤ 126) (hA : I 99 = A) (ht : t ≤ 40) (e1 : I 97 2 = nI t) (hp : p ≤ t) (e2 : I 97 3 = nI p) : zE (d + 2) 151 [.ref 97] I L (some (.int (zb ((zqc A t p).1 = true)))) (fun J L' => L' = L ∧ zFl I J ∧ J 97 3 = nI (zqc A t p).2.1 ∧ ((zqc A t p).1 = true → J = az_uI (az_uI I 97 3 (nI (zqc A t p).2.1)) 102 (zqc A t p).2.2.1 (nI (zqc A t p).2.2.2))) := by
  refine zE_of zm_X11_readClause rfl ?_
  show az_W _ _ _ 0 [.ref 97, .null, .null, .null, .null, .null] [] _
  obtain ⟨w, ew⟩ : ∃ w, w = zrn (A (zqk A t p)) := ⟨_, rfl⟩
  obtain ⟨O, eO⟩ : ∃ O, O = zqc A t p := ⟨_, rfl⟩
  rw [← eO]
  unfold zqc at eO
  rw [← ew] at eO
  have b1 := zqk_b (A := A) _ p rfl hp
  have c1 := s_X11_next (d := d) (L := L) hA ht e1 hp e2
  generalize zqk A t p = p1 at *
  obtain ⟨p2, ep2⟩ : ∃ p2, p2 = zqk A t (p1 + 1) := ⟨_, rfl⟩
  rw [← ep2] at eO
  obtain ⟨Q, eQ⟩ : ∃ Q, Q = zqn A t p2 0 := ⟨_, rfl⟩
  rw [← eQ] at eO
  obtain ⟨R, eR⟩ : ∃ R, R = zR (some (.int (zb (O.1 = true)))) (fun J L' => L' = L ∧ zFl I J ∧ J 97 3 = nI O.2.1 ∧ (O.1 = true → J = az_uI (az_uI I 97 3 (nI O.2.1)) 102 O.2.2.1 (nI O.2.2.2))) := ⟨_, rfl⟩
  rw [← eR]
  have bad : ∀ q, O = (false, q, 0, 0) → ∀ J, J 97 3 = nI q → zFl I J → R (some (.int 0)) (130, az_Pf, J, L) := by
    intro q eo J e3 f
    rw [eR, eo, zR_at]
    refine ⟨by simp [zb], rfl, f, e3, fun z => by cases z⟩
  simp only [u_X11_readClause_0, u_X11_readClause_1, u_X11_readClause_4, u_X11_readClause_5, u_X11_readClause_6, u_X11_readClause_8, u_X11_readClause_11, u_X11_readClause_12, u_X11_readClause_15, u_X11_readClause_16, u_X11_readClause_18, u_X11_readClause_21, u_X11_readClause_22, u_X11_readClause_25, u_X11_readClause_26, u_X11_readClause_28, u_X11_readClause_31, u_X11_readClause_32, u_X11_readClause_35, az_un_i, az_un_r, az_un_n, az_un_l, Option.toList_some, Option.toList_none, List.cons_append, List.nil_append, List.length_cons, List.length_nil, Nat.reduceLeDiff, Nat.reduceAdd, Nat.zero_le, Nat.zero_add, and_true, true_and, zb_1, eq_self, az_call c1]
  by_cases g1 : p1 < t ∧ w < 3
  · rw [if_pos g1] at eO
    rw [if_pos g1.1]
    have g2 := g1.2
    have main : az_W (zD (d + 1)) R k_X11_readClause 36 [.ref 97, .int (A p1), .null, .null, .null, .null] [.int (nI w)] (130, az_Pf, az_uI I 97 3 (nI p1), L) := by
      have c2 := s_X11_next (d := d) (I := az_uI I 97 3 (nI (p1 + 1))) (L := L) (A := A) (t := t) (p := p1 + 1) (by rw [zu_row (by decide)]; exact hA) ht (by simp only [az_uI_at, az_uL_at, Nat.reduceEqDiff, false_and, and_false, and_self, if_true, if_false, ite_true, ite_false]; exact e1) (by omega) (by simp only [az_uI_at, az_uL_at, Nat.reduceEqDiff, false_and, and_false, and_self, if_true, if_false, ite_true, ite_false])
      have b2 := zqk_b (A := A) _ (p1 + 1) rfl (show p1 + 1 ≤ t by omega)
      rw [zuss, ← ep2] at c2
      rw [← ep2] at b2
      have n0 : (0 : Int32) ≤ nI w := nI_pos' (by omega)
      obtain ⟨fi, efi⟩ : ∃ fi, fi = if p2 < t then A p2 else (-1 : Int32) := ⟨_, rfl⟩
      rw [← efi] at c2
      simp only [u_X11_readClause_36, u_X11_readClause_37, u_X11_readClause_38, u_X11_readClause_41, u_X11_readClause_42, u_X11_readClause_43, u_X11_readClause_44, u_X11_readClause_44r, u_X11_readClause_45, u_X11_readClause_48, u_X11_readClause_49, u_X11_readClause_50, u_X11_readClause_53, u_X11_readClause_54, u_X11_readClause_57, u_X11_readClause_58, u_X11_readClause_59, u_X11_readClause_62, u_X11_readClause_64, u_X11_readClause_65, az_un_i, az_un_r, az_un_n, az_un_l, Option.toList_some, Option.toList_none, List.cons_append, List.nil_append, List.length_cons, List.length_nil, Nat.reduceLeDiff, Nat.reduceAdd, Nat.zero_le, Nat.zero_add, and_true, true_and, zb_1, eq_self, az_uI_at, az_uL_at, Nat.reduceEqDiff, false_and, and_false, and_self, if_true, if_false, ite_true, ite_false, n0, if_true, zuss, show nI p1 + 1 = nI (p1 + 1) from (nI_succ p1).symm, az_call c2]
      have b3 := zqn_b (A := A) _ p2 0 rfl b2.2 (by decide)
      rw [← eQ] at b3
      have fin : az_W (zD (d + 1)) R k_X11_readClause 146 [.ref 97, .int (A p1), .int (nI w), .int fi, .int (nI p2), .int (nI Q.2)] [] (130, az_Pf, az_uI I 97 3 (nI Q.1), L) := by
        have lo : (I 103 w).toInt = (zql w : Int) := by
          rcases (show w = 0 ∨ w = 1 ∨ w = 2 by omega) with rfl | rfl | rfl
          · rw [hC.1]; rfl
          · rw [hC.2.1]; rfl
          · rw [hC.2.2.1]; rfl
        have hi : (I 104 w).toInt = (zqh w : Int) := by
          rcases (show w = 0 ∨ w = 1 ∨ w = 2 by omega) with rfl | rfl | rfl
          · rw [hC.2.2.2.1]; rfl
          · rw [hC.2.2.2.2.1]; rfl
          · rw [hC.2.2.2.2.2.1]; rfl
        simp only [u_X11_readClause_146, u_X11_readClause_147, u_X11_readClause_150, u_X11_readClause_151, u_X11_readClause_154, u_X11_readClause_156, u_X11_readClause_159, u_X11_readClause_161, u_X11_readClause_162, u_X11_readClause_163, u_X11_readClause_166, u_X11_readClause_167, u_X11_readClause_168, u_X11_readClause_169, u_X11_readClause_170, u_X11_readClause_173, u_X11_readClause_174, u_X11_readClause_175, u_X11_readClause_176, u_X11_readClause_179, u_X11_readClause_182, u_X11_readClause_183, u_X11_readClause_185, u_X11_readClause_188, u_X11_readClause_189, u_X11_readClause_190, u_X11_readClause_191, u_X11_readClause_194, u_X11_readClause_195, u_X11_readClause_197, u_X11_readClause_198, u_X11_readClause_199, az_un_i, az_un_r, az_un_n, az_un_l, Option.toList_some, Option.toList_none, List.cons_append, List.nil_append, List.length_cons, List.length_nil, Nat.reduceLeDiff, Nat.reduceAdd, Nat.zero_le, Nat.zero_add, and_true, true_and, zb_1, eq_self, az_uI_at, az_uL_at, Nat.reduceEqDiff, false_and, and_false, and_self, if_true, if_false, ite_true, ite_false, nI_eq (show Q.1 < 2 ^ 31 by omega) (show p2 < 2 ^ 31 by omega), kx_102, kx_103, kx_104, zinT g2 (by decide), zcl g2 (by decide), az_call s_X11_in, z64, lo, hi, nI_toInt (show Q.2 < 2 ^ 31 by omega), zb_0, zuss]
        by_cases g3 : Q.1 = p2
        · rw [if_pos (Or.inl g3)] at eO
          have := bad p2 eO (az_uI I 97 3 (nI p2)) (by simp only [az_uI_at, az_uL_at, Nat.reduceEqDiff, false_and, and_false, and_self, if_true, if_false, ite_true, ite_false]) zFl.rf.a
          by_cases g0 : fi < 0
          · rw [if_pos g0]; simpa using this
          · rw [if_neg g0, if_pos g3]; simpa using this
        · have g0 : ¬ fi < 0 := by
            rw [efi, if_pos (show p2 < t by omega)]
            have := hr p2 (by omega)
            rw [Int32.lt_iff_toInt_lt]; simp; omega
          rw [if_neg g0, if_neg g3]
          by_cases g4 : zql w ≤ Q.2 ∧ Q.2 ≤ zqh w
          · rw [if_neg (by omega)] at eO
            rw [if_neg (by omega), eR, eO]
            simp only [zR_at, zb, if_true, true_implies, and_true, true_and, or_true, az_uI_at, az_uL_at, Nat.reduceEqDiff, false_and, and_false, and_self, if_true, if_false, ite_true, ite_false]
            exact zFl.rf.a.d
          · rw [if_pos (Or.inr g4)] at eO
            rw [if_pos (by omega)]
            have := bad p2 eO (az_uI I 97 3 (nI p2)) (by simp only [az_uI_at, az_uL_at, Nat.reduceEqDiff, false_and, and_false, and_self, if_true, if_false, ite_true, ite_false]) zFl.rf.a
            simpa using this
      have key : ∀ n q m, t - q = n → q ≤ t → m ≤ 9999 → zqn A t q m = Q → az_W (zD (d + 1)) R k_X11_readClause 67 [.ref 97, .int (A p1), .int (nI w), .int fi, .int (nI p2), .int (nI m)] [] (130, az_Pf, az_uI I 97 3 (nI q), L) := by
        intro n
        induction n with
        | zero =>
          intro q m hn hq hm eq
          have e : q = t := by omega
          subst e
          rw [zqn_e (by omega)] at eq
          have h1 : nI q ≤ nI q := nI_le (Nat.le_refl _) (by omega)
          simp only [u_X11_readClause_67]
          simp only [u_X11_readClause_68, u_X11_readClause_71, u_X11_readClause_72, u_X11_readClause_75, u_X11_readClause_78, u_X11_readClause_79, u_X11_readClause_82, u_X11_readClause_83, u_X11_readClause_86, u_X11_readClause_87, u_X11_readClause_88, u_X11_readClause_91, u_X11_readClause_94, u_X11_readClause_97, u_X11_readClause_100, u_X11_readClause_102, u_X11_readClause_105, u_X11_readClause_108, u_X11_readClause_110, u_X11_readClause_113, u_X11_readClause_115, u_X11_readClause_117, u_X11_readClause_118, u_X11_readClause_119, u_X11_readClause_122, u_X11_readClause_123, u_X11_readClause_126, u_X11_readClause_127, u_X11_readClause_128, u_X11_readClause_130, u_X11_readClause_131, u_X11_readClause_133, u_X11_readClause_134, u_X11_readClause_134r, u_X11_readClause_135, u_X11_readClause_138, u_X11_readClause_139, u_X11_readClause_140, u_X11_readClause_143, az_un_i, az_un_r, az_un_n, az_un_l, Option.toList_some, Option.toList_none, List.cons_append, List.nil_append, List.length_cons, List.length_nil, Nat.reduceLeDiff, Nat.reduceAdd, Nat.zero_le, Nat.zero_add, and_true, true_and, zb_1, eq_self, az_uI_at, az_uL_at, Nat.reduceEqDiff, false_and, and_false, and_self, if_true, if_false, ite_true, ite_false, e1, h1, if_true]
          rw [← eq] at fin
          exact fin
        | succ n ih =>
          intro q m hn hq hm eq
          have h1 : ¬ nI t ≤ nI q := nI_ge (by omega) (by omega)
          simp only [u_X11_readClause_67]
          simp only [u_X11_readClause_68, u_X11_readClause_71, u_X11_readClause_72, u_X11_readClause_75, u_X11_readClause_78, u_X11_readClause_79, u_X11_readClause_82, u_X11_readClause_83, u_X11_readClause_86, u_X11_readClause_87, u_X11_readClause_88, u_X11_readClause_91, u_X11_readClause_94, u_X11_readClause_97, u_X11_readClause_100, u_X11_readClause_102, u_X11_readClause_105, u_X11_readClause_108, u_X11_readClause_110, u_X11_readClause_113, u_X11_readClause_115, u_X11_readClause_117, u_X11_readClause_118, u_X11_readClause_119, u_X11_readClause_122, u_X11_readClause_123, u_X11_readClause_126, u_X11_readClause_127, u_X11_readClause_128, u_X11_readClause_130, u_X11_readClause_131, u_X11_readClause_133, u_X11_readClause_134, u_X11_readClause_134r, u_X11_readClause_135, u_X11_readClause_138, u_X11_readClause_139, u_X11_readClause_140, u_X11_readClause_143, az_un_i, az_un_r, az_un_n, az_un_l, Option.toList_some, Option.toList_none, List.cons_append, List.nil_append, List.length_cons, List.length_nil, Nat.reduceLeDiff, Nat.reduceAdd, Nat.zero_le, Nat.zero_add, and_true, true_and, zb_1, eq_self, az_uI_at, az_uL_at, Nat.reduceEqDiff, false_and, and_false, and_self, if_true, if_false, ite_true, ite_false, e1, h1, if_false, kx_99, zinT (show q < 40 by omega) (by decide), zcl (show q < 40 by omega) (by decide), hA, zuss, az_call s_X11_in, z64, zl_0, zj_0, zl_1, zj_1, zl_2, zj_2, zl_3, zj_3, zl_4, zj_4, zl_5, zj_5, zl_6, zj_6, zl_7, zj_7, zl_8, zj_8, zl_9, zj_9, zl_10, zj_10, zl_11, zj_11, zl_12, zj_12, zl_15, zj_15, zl_16, zj_16, zl_20, zj_20, zl_24, zj_24, zl_29, zj_29, zl_30, zj_30, zl_31, zj_31, zl_32, zj_32, zl_40, zj_40, zl_48, zj_48, zl_57, zj_57, zl_59, zj_59, zl_60, zj_60, zl_63, zj_63, zl_99, zj_99, zl_100, zj_100, zl_126, zj_126, zl_144, zj_144, zl_200, zj_200, zl_240, zj_240, zl_255, zj_255, zl_256, zj_256, zl_999, zj_999, zl_1000, zj_1000, zlm_1, zjm_1, zlm_2, zjm_2, zlm_3, zjm_3, zlm_4, zjm_4, zlm_11, zjm_11, zlm_12, zjm_12, zlm_13, zjm_13, zlm_14, zjm_14, zlm_20, zjm_20, zlm_10001, zjm_10001, zlm_10002, zjm_10002, zb_0]
          by_cases c : 48 ≤ (A q).toInt ∧ (A q).toInt ≤ 57
          · rw [if_neg (fun z => z c), show nI q + 1 = nI (q + 1) from (nI_succ q).symm]
            rw [zqn_s (by omega) c] at eq
            have ev := zvn (x := A q) (by omega)
            obtain ⟨a, ea⟩ : ∃ a, a = (A q).toInt.toNat := ⟨_, rfl⟩
            rw [← ea] at ev eq
            by_cases c9 : 999 < m
            · rw [if_pos c9] at eq
              rw [if_neg (show ¬ nI m ≤ (999 : Int32) from show ¬ nI m ≤ nI 999 from nI_ge c9 (by omega))]
              exact ih (q + 1) m (by omega) (by omega) hm eq
            · rw [if_neg c9] at eq
              have e3 : (10 : Int32) * nI m + A q - 48 = nI (10 * m + (a - 48)) := by
                rw [ev, show (10 : Int32) = nI 10 from rfl, pk_mul, nI_add, show (48 : Int32) = nI 48 from rfl, pk_sub (by omega)]
                congr 1; omega
              rw [if_pos (show nI m ≤ (999 : Int32) from show nI m ≤ nI 999 from nI_le (by omega) (by omega)), e3]
              exact ih (q + 1) _ (by omega) (by omega) (by omega) eq
          · rw [zqn_e (fun z => c z.2)] at eq
            rw [← eq] at fin
            rw [if_pos c]
            exact fin
      exact key (t - p2) p2 0 rfl b2.2 (by decide) eQ.symm
    by_cases k1 : A p1 = 99
    · rw [show w = 0 by rw [ew]; unfold zrn; rw [if_pos k1]] at main
      rw [if_pos k1]; exact main
    · rw [if_neg k1]
      by_cases k2 : A p1 = 108
      · rw [show w = 1 by rw [ew]; unfold zrn; rw [if_neg k1, if_pos k2]] at main
        rw [if_pos k2]; exact main
      · rw [if_neg k2]
        by_cases k3 : A p1 = 115
        · rw [show w = 2 by rw [ew]; unfold zrn; rw [if_neg k1, if_neg k2, if_pos k3]] at main
          rw [if_pos k3]; exact main
        · exfalso
          have : w = 3 := by rw [ew]; unfold zrn; rw [if_neg k1, if_neg k2, if_neg k3]
          omega
  · rw [if_neg g1] at eO
    have hb := bad p1 eO (az_uI I 97 3 (nI p1)) (by simp only [az_uI_at, az_uL_at, Nat.reduceEqDiff, false_and, and_false, and_self, if_true, if_false, ite_true, ite_false]) zFl.rf.a
    have tl : ∀ x : Int32, az_W (zD (d + 1)) R k_X11_readClause 36 [.ref 97, .int x, .null, .null, .null, .null] [.int (-1)] (130, az_Pf, az_uI I 97 3 (nI p1), L) := by
      intro x
      have n0 : ¬ (0 : Int32) ≤ -1 := by decide
      simp only [u_X11_readClause_36, u_X11_readClause_37, u_X11_readClause_38, u_X11_readClause_41, u_X11_readClause_42, u_X11_readClause_43, u_X11_readClause_44, u_X11_readClause_44r, u_X11_readClause_45, u_X11_readClause_48, u_X11_readClause_49, u_X11_readClause_50, u_X11_readClause_53, u_X11_readClause_54, u_X11_readClause_57, u_X11_readClause_58, u_X11_readClause_59, u_X11_readClause_62, u_X11_readClause_64, u_X11_readClause_65, az_un_i, az_un_r, az_un_n, az_un_l, Option.toList_some, Option.toList_none, List.cons_append, List.nil_append, List.length_cons, List.length_nil, Nat.reduceLeDiff, Nat.reduceAdd, Nat.zero_le, Nat.zero_add, and_true, true_and, zb_1, eq_self, n0, if_false]
      simpa using hb
    by_cases k0 : p1 < t
    · rw [if_pos k0]
      have k1 : ¬ A p1 = 99 := fun z => g1 ⟨k0, by rw [ew]; unfold zrn; rw [if_pos z]; decide⟩
      have k2 : ¬ A p1 = 108 := fun z => g1 ⟨k0, by rw [ew]; unfold zrn; rw [if_neg k1, if_pos z]; decide⟩
      have k3 : ¬ A p1 = 115 := fun z => g1 ⟨k0, by rw [ew]; unfold zrn; rw [if_neg k1, if_neg k2, if_pos z]; decide⟩
      rw [if_neg k1, if_neg k2, if_neg k3]
      exact tl _
    · rw [if_neg k0, if_neg (by decide), if_neg (by decide), if_neg (by decide)]
      exact tl _
end S
