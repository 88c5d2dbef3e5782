/-! ===== sorting a row ===== -/
def zSt (A : Nat → Int32) (k : Nat) (O : Nat → Nat) : Prop := ∀ i, i < k → A i = nI (O i)
/-- behind the last of the first k that is not above -/
def zpos (v : Nat → Int32) (O : Nat → Nat) (x : Nat) : Nat → Nat
  | 0 => 0
  | a + 1 => if v x < v (O a) then zpos v O x a else a + 1
def zins (O : Nat → Nat) (p x : Nat) : Nat → Nat := fun i => if i < p then O i else if i = p then x else O (i - 1)
def zso (v : Nat → Int32) : Nat → Nat × (Nat → Nat)
  | 0 => (0, fun _ => 0)
  | h + 1 => if v h = -1 then zso v h else ((zso v h).1 + 1, zins (zso v h).2 (zpos v (zso v h).2 h (zso v h).1) h)
theorem zpos_le {v : Nat → Int32} {O : Nat → Nat} {x : Nat} : ∀ k, zpos v O x k ≤ k
  | 0 => Nat.le_refl _
  | k + 1 => by
    have := zpos_le (v := v) (O := O) (x := x) k
    rw [zpos]; split <;> omega
theorem zso_k {v : Nat → Int32} : ∀ h, (zso v h).1 ≤ h
  | 0 => Nat.le_refl _
  | h + 1 => by
    have := zso_k (v := v) h
    rw [zso]; split
    · omega
    · show (zso v h).1 + 1 ≤ h + 1; omega
theorem zso_m {v : Nat → Int32} : ∀ h i, i < (zso v h).1 → (zso v h).2 i < h ∧ v ((zso v h).2 i) ≠ -1
  | 0, i, hi => absurd hi (Nat.not_lt_zero _)
  | h + 1, i, hi => by
    have ih := zso_m (v := v) h
    rw [zso] at hi ⊢
    by_cases g : v h = -1
    · rw [if_pos g] at hi ⊢
      have := ih i hi
      exact ⟨by omega, this.2⟩
    · rw [if_neg g] at hi ⊢
      have hi' : i < (zso v h).1 + 1 := hi
      show zins _ _ _ i < h + 1 ∧ v (zins _ _ _ i) ≠ -1
      have hp := zpos_le (v := v) (O := (zso v h).2) (x := h) (zso v h).1
      unfold zins
      by_cases c1 : i < zpos v (zso v h).2 h (zso v h).1
      · rw [if_pos c1]
        have := ih i (by omega)
        exact ⟨by omega, this.2⟩
      · rw [if_neg c1]
        by_cases c2 : i = zpos v (zso v h).2 h (zso v h).1
        · rw [if_pos c2]; exact ⟨by omega, g⟩
        · rw [if_neg c2]
          have := ih (i - 1) (by omega)
          exact ⟨by omega, this.2⟩
theorem zso_c {v w : Nat → Int32} : ∀ h, (∀ i, i < h → v i = w i) → zso v h = zso w h
  | 0, _ => rfl
  | h + 1, e => by
    have ih := zso_c h (fun i hi => e i (by omega))
    have ep : ∀ k, k ≤ (zso w h).1 → zpos v (zso w h).2 h k = zpos w (zso w h).2 h k := by
      intro k
      induction k with
      | zero => intro _; rfl
      | succ k ik =>
        intro hk
        have := zso_m (v := w) h k (by omega)
        rw [zpos, zpos, ik (by omega), e h (by omega), e ((zso w h).2 k) (by omega)]
    rw [zso, zso, ih, e h (by omega), ep _ (Nat.le_refl _)]
/-- the ints are as they were but for the class's order, but for the reference's order -/
def zFo (I J : Nat → Nat → Int32) : Prop := ∀ b j, b ≠ 34 → (b ≠ 2 ∨ j ≠ 2) → J b j = I b j
def zFm (I J : Nat → Nat → Int32) : Prop := ∀ b j, b ≠ 107 → (b ≠ 97 ∨ (j ≠ 13 ∧ j ≠ 14 ∧ j ≠ 15)) → J b j = I b j
theorem zFo.rf {I : Nat → Nat → Int32} : zFo I I := fun _ _ _ _ => rfl
theorem zFm.rf {I : Nat → Nat → Int32} : zFm I I := fun _ _ _ _ => rfl
theorem zFo.tr {I J K : Nat → Nat → Int32} (h1 : zFo I J) (h2 : zFo J K) : zFo I K := fun a j p q => (h2 a j p q).trans (h1 a j p q)
theorem zFm.tr {I J K : Nat → Nat → Int32} (h1 : zFm I J) (h2 : zFm J K) : zFm I K := fun a j p q => (h2 a j p q).trans (h1 a j p q)
theorem zFo.o {I J : Nat → Nat → Int32} {j : Nat} {v : Int32} (h : zFo I J) : zFo I (az_uI J 34 j v) := fun b k h1 h2 => by rw [zu_ne h1]; exact h b k h1 h2
theorem zFo.n {I J : Nat → Nat → Int32} {v : Int32} (h : zFo I J) : zFo I (az_uI J 2 2 v) := fun b k h1 h2 => by rw [az_uI_at, if_neg (by omega)]; exact h b k h1 h2
theorem zFm.o {I J : Nat → Nat → Int32} {j : Nat} {v : Int32} (h : zFm I J) : zFm I (az_uI J 107 j v) := fun b k h1 h2 => by rw [zu_ne h1]; exact h b k h1 h2
theorem zFm.n {I J : Nat → Nat → Int32} {j : Nat} {v : Int32} (h : zFm I J) (hj : j = 13 ∨ j = 14 ∨ j = 15) : zFm I (az_uI J 97 j v) := fun b k h1 h2 => by rw [az_uI_at, if_neg (by omega)]; exact h b k h1 h2
theorem zFo.row {I J : Nat → Nat → Int32} {r : Nat} (h : zFo I J) (h1 : r ≠ 34) (h2 : r ≠ 2) : J r = I r := funext fun j => h r j h1 (Or.inl h2)
theorem zFm.row {I J : Nat → Nat → Int32} {r : Nat} (h : zFm I J) (h1 : r ≠ 107) (h2 : r ≠ 97) : J r = I r := funext fun j => h r j h1 (Or.inl h2)
theorem zscr_o {a j : Nat} (h : zscr a j = false) : a ≠ 34 ∧ (a ≠ 2 ∨ j ≠ 2) := by
  refine ⟨fun e => by subst e; simp [zscr] at h, ?_⟩
  by_cases e : a = 2
  · right; intro e2; subst e; subst e2; simp [zscr] at h
  · left; exact e
theorem zscr_m {a j : Nat} (h : zscr a j = false) : a ≠ 107 ∧ a ≠ 106 ∧ (a ≠ 97 ∨ (j ≠ 13 ∧ j ≠ 14 ∧ j ≠ 15 ∧ j ≠ 16)) := by
  refine ⟨fun e => by subst e; simp [zscr] at h, fun e => by subst e; simp [zscr] at h, ?_⟩
  by_cases e : a = 97
  · right; subst e; refine ⟨?_, ?_, ?_, ?_⟩ <;> (intro e2; subst e2; simp [zscr] at h)
  · left; exact e
theorem zFo.fr {I J : Nat → Nat → Int32} (h : zFo I J) : zFr I J := fun a j hs => h a j (zscr_o hs).1 (zscr_o hs).2
theorem zFm.fr {I J : Nat → Nat → Int32} (h : zFm I J) : zFr I J := fun a j hs => h a j (zscr_m hs).1 (by have := (zscr_m hs).2.2; omega)
section S
variable {d : Nat} {I : Nat → Nat → Int32} {L : Nat → Nat → Int64} {h : az_H}
theorem s_X4_insert {r x k : Nat} {O : Nat → Nat} (hr : az_kn 130 r = (1, 8)) (r1 : r ≠ 34) (r2 : r ≠ 2) (hx : x < 8) (hk : k < 8) (hO : ∀ i, i < k → O i < 8) (hS : zSt (I 34) k O) (hn : I 2 2 = nI k) : zE (d + 1) 40 [.ref 2, .ref r, .int (nI x)] I L none (fun J L' => L' = L ∧ zFo I J ∧ J 2 2 = nI (k + 1) ∧ zSt (J 34) (k + 1) (zins O (zpos (I r) O x k) x)) := by
  refine zE_of zm_X4_insert rfl ?_
  show az_W _ _ _ 0 [.ref 2, .ref r, .int (nI x), .null] [] _
  simp only [u_X4_insert_0, u_X4_insert_1, u_X4_insert_4, az_un_i, az_un_r, az_un_n, az_un_l, Option.toList_some, Option.toList_none, List.cons_append, List.nil_append, List.length_cons, List.length_nil, Nat.reduceLeDiff, Nat.reduceAdd, Nat.zero_le, Nat.zero_add, and_true, true_and, zb_1, eq_self, hn]
  have fin : ∀ a, a ≤ k → a = zpos (I r) O x k → ∀ J, zFo I J → J 2 2 = nI k → (∀ i, i < a → J 34 i = nI (O i)) → (∀ i, a < i → i ≤ k → J 34 i = nI (O (i - 1))) → az_W (zD d) (zR none (fun J L' => L' = L ∧ zFo I J ∧ J 2 2 = nI (k + 1) ∧ zSt (J 34) (k + 1) (zins O (zpos (I r) O x k) x))) k_X4_insert 45 [.ref 2, .ref r, .int (nI x), .int (nI a)] [] (130, az_Pf, J, L) := by
    intro a ha ep J f h2 b1 b2
    simp only [u_X4_insert_45, u_X4_insert_46, u_X4_insert_49, u_X4_insert_50, u_X4_insert_51, u_X4_insert_52, u_X4_insert_53, u_X4_insert_53r, u_X4_insert_54, u_X4_insert_57, u_X4_insert_58, u_X4_insert_59, u_X4_insert_62, az_un_i, az_un_r, az_un_n, az_un_l, Option.toList_some, Option.toList_none, List.cons_append, List.nil_append, List.length_cons, List.length_nil, Nat.reduceLeDiff, Nat.reduceAdd, Nat.zero_le, Nat.zero_add, and_true, true_and, zb_1, eq_self, kx_34, zinT (show a < 8 by omega) (by decide), zcl (show a < 8 by omega) (by decide), az_uI_at, az_uL_at, Nat.reduceEqDiff, false_and, and_false, and_self, if_true, if_false, ite_true, ite_false, h2, zR_at]
    refine ⟨f.o.n, by rw [nI_succ], fun i hi => ?_⟩
    rw [zu_ne (by decide), az_uI_at, ← ep]
    unfold zins
    by_cases c1 : i < a
    · rw [if_neg (by omega), if_pos c1]; exact b1 i c1
    · by_cases c2 : i = a
      · rw [if_pos ⟨rfl, c2⟩, if_neg c1, if_pos c2]
      · rw [if_neg (by omega), if_neg c1, if_neg c2]; exact b2 i (by omega) (by omega)
  have key : ∀ a, a ≤ k → zpos (I r) O x a = zpos (I r) O x k → ∀ J, zFo I J → J 2 2 = nI k → (∀ i, i < a → J 34 i = nI (O i)) → (∀ i, a < i → i ≤ k → J 34 i = nI (O (i - 1))) → az_W (zD d) (zR none (fun J L' => L' = L ∧ zFo I J ∧ J 2 2 = nI (k + 1) ∧ zSt (J 34) (k + 1) (zins O (zpos (I r) O x k) x))) k_X4_insert 5 [.ref 2, .ref r, .int (nI x), .int (nI a)] [] (130, az_Pf, J, L) := by
    intro a
    induction a with
    | zero =>
      intro ha ep J f h2 b1 b2
      have h1 : nI 0 ≤ 0 := by decide
      simp only [u_X4_insert_5]
      simp only [u_X4_insert_6, az_un_i, az_un_r, az_un_n, az_un_l, Option.toList_some, Option.toList_none, List.cons_append, List.nil_append, List.length_cons, List.length_nil, Nat.reduceLeDiff, Nat.reduceAdd, Nat.zero_le, Nat.zero_add, and_true, true_and, zb_1, eq_self, h1, if_true]
      exact fin 0 ha ep J f h2 b1 b2
    | succ a ih =>
      intro ha ep J f h2 b1 b2
      have h1 : ¬ nI (a + 1) ≤ 0 := show ¬ nI (a + 1) ≤ nI 0 from nI_ge (Nat.succ_pos a) (by omega)
      have o := hO a (by omega)
      have er := f.row r1 r2
      simp only [u_X4_insert_5]
      simp only [u_X4_insert_6, u_X4_insert_9, u_X4_insert_10, u_X4_insert_11, u_X4_insert_14, u_X4_insert_15, u_X4_insert_16, u_X4_insert_17, u_X4_insert_18, u_X4_insert_19, u_X4_insert_20, u_X4_insert_21, u_X4_insert_22, u_X4_insert_25, u_X4_insert_26, u_X4_insert_29, u_X4_insert_30, u_X4_insert_31, u_X4_insert_34, u_X4_insert_35, u_X4_insert_36, u_X4_insert_37, u_X4_insert_38, u_X4_insert_39, u_X4_insert_42, az_un_i, az_un_r, az_un_n, az_un_l, Option.toList_some, Option.toList_none, List.cons_append, List.nil_append, List.length_cons, List.length_nil, Nat.reduceLeDiff, Nat.reduceAdd, Nat.zero_le, Nat.zero_add, and_true, true_and, zb_1, eq_self, h1, if_false, zm1, kx_34, hr, zinT (show a < 8 by omega) (by decide), zcl (show a < 8 by omega) (by decide), zinT (show a + 1 < 8 by omega) (by decide), zcl (show a + 1 < 8 by omega) (by decide), zinT hx (by decide), zcl hx (by decide), b1 a (by omega), zinT o (by decide), zcl o (by decide), er]
      rw [zpos] at ep
      by_cases g : I r x < I r (O a)
      · rw [if_pos g] at ep
        rw [if_neg (Int32.not_le.mpr g)]
        have := ih (by omega) ep (az_uI J 34 (a + 1) (nI (O a))) f.o (by rw [zu_ne (by decide)]; exact h2) (fun i hi => by rw [az_uI_at, if_neg (by omega)]; exact b1 i (by omega)) (fun i h3 h4 => by
          rw [az_uI_at]
          by_cases c : i = a + 1
          · rw [if_pos ⟨rfl, c⟩, c]; rfl
          · rw [if_neg (by omega)]; exact b2 i (by omega) h4)
        rw [show nI (a + 1) + (-1) = nI a by rw [← Int32.sub_eq_add_neg, zm1]]
        exact this
      · rw [if_neg g] at ep
        rw [if_pos (Int32.not_lt.mp g)]
        exact fin (a + 1) ha ep J f h2 b1 b2
  exact key k (Nat.le_refl _) rfl I zFo.rf hn (fun i hi => hS i hi) (fun i h1 h2 => by omega)
theorem s_X4_sort {r : Nat} (hr : az_kn 130 r = (1, 8)) (r1 : r ≠ 34) (r2 : r ≠ 2) : zE (d + 2) 39 [.ref 2, .ref r] I L none (fun J L' => L' = L ∧ zFo I J ∧ J 2 2 = nI (zso (I r) 8).1 ∧ zSt (J 34) (zso (I r) 8).1 (zso (I r) 8).2) := by
  refine zE_of zm_X4_sort rfl ?_
  show az_W _ _ _ 0 [.ref 2, .ref r, .null] [] _
  simp only [u_X4_sort_0, u_X4_sort_1, u_X4_sort_2, u_X4_sort_5, u_X4_sort_6, az_un_i, az_un_r, az_un_n, az_un_l, Option.toList_some, Option.toList_none, List.cons_append, List.nil_append, List.length_cons, List.length_nil, Nat.reduceLeDiff, Nat.reduceAdd, Nat.zero_le, Nat.zero_add, and_true, true_and, zb_1, eq_self]
  refine zloop (P := fun k => ∀ J, zFo I J → J 2 2 = nI (zso (I r) k).1 → zSt (J 34) (zso (I r) k).1 (zso (I r) k).2 → az_W (zD (d + 1)) _ _ 7 [.ref 2, .ref r, .int (nI k)] [] (130, az_Pf, J, L)) 8 (fun k hk ih J f e1 e2 => ?_) (fun J f e1 e2 => ?_) 0 (Nat.zero_le _) _ zFo.rf.n (by simp only [az_uI_at, az_uL_at, Nat.reduceEqDiff, false_and, and_false, and_self, if_true, if_false, ite_true, ite_false]; rfl) (fun i hi => absurd hi (Nat.not_lt_zero _))
  · have h1 : ¬ (8 : Int32) ≤ nI k := nI_ge (b := 8) hk (by decide)
    have er := f.row r1 r2
    have hkk := zso_k (v := I r) k
    obtain ⟨J', L', hc, e3, f2, e4, e5⟩ := s_X4_insert (d := d) (L := L) (I := J) (r := r) (x := k) (k := (zso (I r) k).1) (O := (zso (I r) k).2) hr r1 r2 hk (by omega) (fun i hi => by have := (zso_m (v := I r) k i hi).1; omega) e2 e1
    rw [er] at e5
    subst e3
    simp only [u_X4_sort_7]
    simp only [u_X4_sort_8, u_X4_sort_10, u_X4_sort_13, u_X4_sort_14, u_X4_sort_15, u_X4_sort_16, u_X4_sort_17, u_X4_sort_20, u_X4_sort_21, u_X4_sort_22, u_X4_sort_23, u_X4_sort_26, u_X4_sort_29, u_X4_sort_32, az_un_i, az_un_r, az_un_n, az_un_l, Option.toList_some, Option.toList_none, List.cons_append, List.nil_append, List.length_cons, List.length_nil, Nat.reduceLeDiff, Nat.reduceAdd, Nat.zero_le, Nat.zero_add, and_true, true_and, zb_1, eq_self, h1, if_false, hr, zinT hk (by decide), zcl hk (by decide), er, az_call hc]
    rw [nI_succ] at ih
    rw [zso] at ih
    by_cases g : I r k = -1
    · rw [if_pos g] at ih ⊢
      exact ih J f e1 e2
    · rw [if_neg g] at ih ⊢
      exact ih J' (f.tr f2) e4 e5
  · have h1 : (8 : Int32) ≤ nI 8 := by decide
    simp only [u_X4_sort_7]
    simp only [u_X4_sort_8, u_X4_sort_10, u_X4_sort_13, u_X4_sort_14, u_X4_sort_15, u_X4_sort_16, u_X4_sort_17, u_X4_sort_20, u_X4_sort_21, u_X4_sort_22, u_X4_sort_23, u_X4_sort_26, u_X4_sort_29, u_X4_sort_32, az_un_i, az_un_r, az_un_n, az_un_l, Option.toList_some, Option.toList_none, List.cons_append, List.nil_append, List.length_cons, List.length_nil, Nat.reduceLeDiff, Nat.reduceAdd, Nat.zero_le, Nat.zero_add, and_true, true_and, zb_1, eq_self, h1, if_true, zR_at]
    exact ⟨f, e1, e2⟩
end S
