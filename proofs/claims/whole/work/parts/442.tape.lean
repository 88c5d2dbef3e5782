/-! ===== the tape as rules ===== -/
def zqD (D : Nat → Nat) (w m : Nat) : Nat → Nat := fun j => if j = w then m else D j
/-- all clauses: are they, where not, what they tell; r + 1 of them may follow -/
def zqt (A : Nat → Int32) (t : Nat) : Nat → Nat → (Nat → Nat) → Bool × Nat × (Nat → Nat)
  | 0, p, D => (true, p, D)
  | r + 1, p, D => if (zqc A t p).1 = true then
      (if zqk A t (zqc A t p).2.1 = t then (true, 0, zqD D (zqc A t p).2.2.1 (zqc A t p).2.2.2)
       else if A (zqk A t (zqc A t p).2.1) ≠ 59 ∨ r = 0 then (false, zqk A t (zqc A t p).2.1, D)
       else zqt A t r (zqk A t (zqc A t p).2.1 + 1) (zqD D (zqc A t p).2.2.1 (zqc A t p).2.2.2))
    else (false, (zqc A t p).2.1, D)
def zDr (D : Nat → Nat) : Prop := D 0 ≤ 3 ∧ 1 ≤ D 1 ∧ D 1 ≤ 8 ∧ D 2 ≤ 99
theorem zDr_D {D : Nat → Nat} {w m : Nat} (h : zDr D) (hw : w < 3) (h1 : zql w ≤ m) (h2 : m ≤ zqh w) : zDr (zqD D w m) := by
  unfold zDr zqD at *
  rcases (show w = 0 ∨ w = 1 ∨ w = 2 by omega) with rfl | rfl | rfl
  · simp [zql, zqh] at *; omega
  · simp [zql, zqh] at *; omega
  · simp [zql, zqh] at *; omega
theorem zqt_b {A : Nat → Int32} {t : Nat} : ∀ r p D, p ≤ t → zDr D → (zqt A t r p D).2.1 ≤ t ∧ zDr (zqt A t r p D).2.2
  | 0, p, D, hp, hD => ⟨hp, hD⟩
  | r + 1, p, D, hp, hD => by
    rw [zqt]
    obtain ⟨b1, b2⟩ := zqc_b (A := A) hp
    split
    · rename_i h
      obtain ⟨b3, b4, b5⟩ := b2 h
      have hD2 := zDr_D hD b3 b4 b5
      have b6 := zqk_b (A := A) _ (zqc A t p).2.1 rfl b1
      split
      · exact ⟨Nat.zero_le _, hD2⟩
      · split
        · exact ⟨b6.2, hD⟩
        · exact zqt_b r _ _ (by omega) hD2
    · exact ⟨b1, hD⟩
section S
variable {d : Nat} {I : Nat → Nat → Int32} {L : Nat → Nat → Int64} {h : az_H}
theorem zqr_n {q : Nat} (hq : q ≤ 40) : ¬ (-20 - nI q : Int32) = 0 := fun z => by
  have := congrArg Int32.toInt z
  rw [Int32.toInt_sub, nI_toInt (by omega), Int.bmod_def] at this
  simp at this; omega
theorem s_X6_readTape {A : Nat → Int32} {t e : Nat} {D : Nat → Nat} (hr : ∀ k, k < t → 32 ≤ (A k).toInt ∧ (A k).toInt ≤ 126) (hA : I 36 = A) (ht : t ≤ 40) (e1 : I 35 1 = nI t) (he : e ≤ 4) (e4 : I 35 4 = nI e) (hD0 : e = 0 → ∀ w, w < 3 → az_sc 9000 w = nI (D w)) (hD1 : ∀ k, e = k + 1 → ∀ w, w < 3 → I (39 + k) w = nI (D w)) : zE (d + 4) 61 [.ref 35] I L (some (.int (zqr (zqt A t 5 0 D).1 (zqt A t 5 0 D).2.1))) (fun J L' => L' = L ∧ zFk I J ∧ ((zqt A t 5 0 D).1 = true → ∀ w, w < 3 → J 43 w = nI ((zqt A t 5 0 D).2.2 w))) := by
  refine zE_of zm_X6_readTape rfl ?_
  show az_W _ _ _ 0 [.ref 35, .null, .null] [] _
  obtain ⟨O, eO⟩ : ∃ O, O = zqt A t 5 0 D := ⟨_, rfl⟩
  rw [← eO]
  obtain ⟨R, eR⟩ : ∃ R, R = zR (some (.int (zqr O.1 O.2.1))) (fun J L' => L' = L ∧ zFk I J ∧ (O.1 = true → ∀ w, w < 3 → J 43 w = nI (O.2.2 w))) := ⟨_, rfl⟩
  rw [← eR]
  simp only [u_X6_readTape_0, u_X6_readTape_1, u_X6_readTape_2, u_X6_readTape_5, u_X6_readTape_6, az_un_i, az_un_r, az_un_n, az_un_l, Option.toList_some, Option.toList_none, List.cons_append, List.nil_append, List.length_cons, List.length_nil, Nat.reduceLeDiff, Nat.reduceAdd, Nat.zero_le, Nat.zero_add, and_true, true_and, zb_1, eq_self]
  refine zloop (P := fun k => ∀ J, zFk I J → J 35 6 = 0 → (∀ w, w < k → J 43 w = nI (D w)) → az_W (zD (d + 3)) R k_X6_readTape 7 [.ref 35, .int (nI k), .null] [] (130, az_Pf, J, L)) 3 (fun k hk ih J f e6 a1 => ?_) (fun J f e6 a1 => ?_) 0 (Nat.zero_le _) _ zFk.rf.a (by simp only [az_uI_at, az_uL_at, Nat.reduceEqDiff, false_and, and_false, and_self, if_true, if_false, ite_true, ite_false]) (fun w hw => absurd hw (Nat.not_lt_zero _))
  · have h1 : ¬ (2 : Int32) < nI k := nI_nlt (a := 2) (show k ≤ 2 by omega) (by omega)
    have j4 : J 35 4 = nI e := by rw [f 35 4 (by decide) (by omega)]; exact e4
    rw [nI_succ] at ih
    have ih := ih (az_uI J 43 k (nI (D k))) f.d (by simp only [az_uI_at, az_uL_at, Nat.reduceEqDiff, false_and, and_false, and_self, if_true, if_false, ite_true, ite_false]; exact e6) (fun w hw => by
      rw [az_uI_at]
      by_cases c : w = k
      · rw [if_pos ⟨rfl, c⟩, c]
      · rw [if_neg (by omega)]; exact a1 w (by omega))
    simp only [u_X6_readTape_7]
    cases e with
    | zero =>
      have z0 : nI 0 = (0 : Int32) := rfl
      simp only [u_X6_readTape_8, u_X6_readTape_9, u_X6_readTape_12, u_X6_readTape_13, u_X6_readTape_16, u_X6_readTape_17, u_X6_readTape_18, u_X6_readTape_21, u_X6_readTape_24, u_X6_readTape_27, u_X6_readTape_28, u_X6_readTape_28s, u_X6_readTape_29, u_X6_readTape_32, u_X6_readTape_33, u_X6_readTape_36, u_X6_readTape_37, u_X6_readTape_40, u_X6_readTape_41, u_X6_readTape_42, u_X6_readTape_43, u_X6_readTape_44, u_X6_readTape_44s, u_X6_readTape_45, u_X6_readTape_46, u_X6_readTape_49, az_un_i, az_un_r, az_un_n, az_un_l, Option.toList_some, Option.toList_none, List.cons_append, List.nil_append, List.length_cons, List.length_nil, Nat.reduceLeDiff, Nat.reduceAdd, Nat.zero_le, Nat.zero_add, and_true, true_and, zb_1, eq_self, h1, if_false, j4, z0, if_true, kx_9000, kx_43, zinT hk (by decide), zcl hk (by decide), hD0 rfl k hk]
      exact ih
    | succ q =>
      have z0 : ¬ nI (q + 1) = (0 : Int32) := fun z => by
        have := (nI_eq (b := 0) (show q + 1 < 2 ^ 31 by omega) (by decide)).mp z; omega
      have ek : J (39 + q) k = nI (D k) := by rw [f (39 + q) k (by omega) (by omega)]; exact hD1 q rfl k hk
      simp only [u_X6_readTape_8, u_X6_readTape_9, u_X6_readTape_12, u_X6_readTape_13, u_X6_readTape_16, u_X6_readTape_17, u_X6_readTape_18, u_X6_readTape_21, u_X6_readTape_24, u_X6_readTape_27, u_X6_readTape_28, u_X6_readTape_28s, u_X6_readTape_29, u_X6_readTape_32, u_X6_readTape_33, u_X6_readTape_36, u_X6_readTape_37, u_X6_readTape_40, u_X6_readTape_41, u_X6_readTape_42, u_X6_readTape_43, u_X6_readTape_44, u_X6_readTape_44s, u_X6_readTape_45, u_X6_readTape_46, u_X6_readTape_49, az_un_i, az_un_r, az_un_n, az_un_l, Option.toList_some, Option.toList_none, List.cons_append, List.nil_append, List.length_cons, List.length_nil, Nat.reduceLeDiff, Nat.reduceAdd, Nat.zero_le, Nat.zero_add, and_true, true_and, zb_1, eq_self, h1, if_false, j4, z0, zm1, kx_38, kx_43, zinT hk (by decide), zcl hk (by decide), zinT (show q < 4 by omega) (by decide), zcl (show q < 4 by omega) (by decide), pr_38 q (by omega), kr_38 q (by omega), Option.some.injEq, exists_eq_left', exists_eq_left, ek]
      exact ih
  · have h1 : (2 : Int32) < nI 3 := by decide
    simp only [u_X6_readTape_7]
    simp only [u_X6_readTape_8, u_X6_readTape_9, u_X6_readTape_52, u_X6_readTape_53, az_un_i, az_un_r, az_un_n, az_un_l, Option.toList_some, Option.toList_none, List.cons_append, List.nil_append, List.length_cons, List.length_nil, Nat.reduceLeDiff, Nat.reduceAdd, Nat.zero_le, Nat.zero_add, and_true, true_and, zb_1, eq_self, h1, if_true]
    have step : ∀ r, r ≤ 4 → (∀ r', r = r' + 1 → ∀ p D J v2, p ≤ t → zFk I J → J 35 6 = nI p → (∀ w, w < 3 → J 43 w = nI (D w)) → O = zqt A t r p D → az_W (zD (d + 3)) R k_X6_readTape 54 [.ref 35, .int (nI (5 - r')), v2] [] (130, az_Pf, J, L)) → ∀ p D J v2, p ≤ t → zFk I J → J 35 6 = nI p → (∀ w, w < 3 → J 43 w = nI (D w)) → O = zqt A t (r + 1) p D → az_W (zD (d + 3)) R k_X6_readTape 54 [.ref 35, .int (nI (5 - r)), v2] [] (130, az_Pf, J, L) := by
      intro r hr4 nx p D J v2 hp f e6 a1 eo
      obtain ⟨b1, b2⟩ := zqc_b (A := A) hp
      have h1 : ¬ (5 : Int32) < nI (5 - r) := nI_nlt (a := 5) (by omega) (by omega)
      obtain ⟨J2, L2, c1, q0, f2, q2⟩ := s_X6_readClause (d := d) (I := J) (L := L) (A := A) (t := t) (p := p) (by rw [← hA]; funext j; exact f 36 j (by decide) (by omega)) ht (by rw [f 35 1 (by decide) (by omega)]; exact e1) hp e6
      subst q0
      rw [zqt] at eo
      simp only [u_X6_readTape_54]
      simp only [u_X6_readTape_55, u_X6_readTape_56, u_X6_readTape_59, u_X6_readTape_60, u_X6_readTape_63, u_X6_readTape_64, u_X6_readTape_65, u_X6_readTape_68, u_X6_readTape_69, az_un_i, az_un_r, az_un_n, az_un_l, Option.toList_some, Option.toList_none, List.cons_append, List.nil_append, List.length_cons, List.length_nil, Nat.reduceLeDiff, Nat.reduceAdd, Nat.zero_le, Nat.zero_add, and_true, true_and, zb_1, eq_self, h1, if_false, az_call c1]
      by_cases g : (zqc A t p).1 = true
      · rw [if_pos g] at eo
        have q2 := q2 g
        have b6 := zqk_b (A := A) _ (zqc A t p).2.1 rfl b1
        have j1 : J2 35 1 = nI t := by rw [f2 35 1 (by decide) (by omega), f 35 1 (by decide) (by omega)]; exact e1
        have j36 : J2 36 = A := by rw [← hA]; funext j; rw [f2 36 j (by decide) (by omega)]; exact f 36 j (by decide) (by omega)
        have c2 := s_X6_skipBlanks (d := d + 2) (I := J2) (L := L2) (A := A) (t := t) (p := (zqc A t p).2.1) j36 ht j1 b1 (by rw [q2]; simp only [az_uI_at, az_uL_at, Nat.reduceEqDiff, false_and, and_false, and_self, if_true, if_false, ite_true, ite_false])
        have aa : ∀ w, w < 3 → J2 43 w = nI (zqD D (zqc A t p).2.2.1 (zqc A t p).2.2.2 w) := fun w hw => by
          rw [q2, az_uI_at]; unfold zqD
          by_cases c : w = (zqc A t p).2.2.1
          · rw [if_pos ⟨rfl, c⟩, if_pos c]
          · rw [if_neg (fun z => c z.2), if_neg c, zu_ne (by decide)]; exact a1 w hw
        generalize zqk A t (zqc A t p).2.1 = q at *
        simp only [zqr, g, if_true, u_X6_readTape_65, u_X6_readTape_68, u_X6_readTape_69, u_X6_readTape_70, u_X6_readTape_71, u_X6_readTape_74, u_X6_readTape_75, u_X6_readTape_78, u_X6_readTape_79, u_X6_readTape_82, u_X6_readTape_85, u_X6_readTape_86, az_un_i, az_un_r, az_un_n, az_un_l, Option.toList_some, Option.toList_none, List.cons_append, List.nil_append, List.length_cons, List.length_nil, Nat.reduceLeDiff, Nat.reduceAdd, Nat.zero_le, Nat.zero_add, and_true, true_and, zb_1, eq_self, az_call c2, az_uI_at, az_uL_at, Nat.reduceEqDiff, false_and, and_false, and_self, if_true, if_false, ite_true, ite_false, j1, nI_eq (show q < 2 ^ 31 by omega) (show t < 2 ^ 31 by omega)]
        by_cases g2 : q = t
        · rw [if_pos g2] at eo
          rw [if_pos g2, eR, eo, zR_at]
          exact ⟨by simp [zqr], rfl, (f.tr f2).a, fun _ w hw => by simp only [az_uI_at, az_uL_at, Nat.reduceEqDiff, false_and, and_false, and_self, if_true, if_false, ite_true, ite_false]; exact aa w hw⟩
        · rw [if_neg g2] at eo
          rw [if_neg g2]
          have n5 : (nI (5 - r) = (5 : Int32)) ↔ r = 0 := by
            rw [show (5 : Int32) = nI 5 from rfl, nI_eq (by omega) (by decide)]; omega
          simp only [u_X6_readTape_87, u_X6_readTape_88, u_X6_readTape_91, u_X6_readTape_92, u_X6_readTape_95, u_X6_readTape_95s, u_X6_readTape_96, u_X6_readTape_98, u_X6_readTape_101, u_X6_readTape_102, u_X6_readTape_103, u_X6_readTape_106, u_X6_readTape_108, u_X6_readTape_109, u_X6_readTape_112, u_X6_readTape_113, u_X6_readTape_114, u_X6_readTape_115, u_X6_readTape_115r, u_X6_readTape_116, u_X6_readTape_119, u_X6_readTape_120, u_X6_readTape_121, u_X6_readTape_124, u_X6_readTape_127, u_X6_readTape_130, u_X6_readTape_131, az_un_i, az_un_r, az_un_n, az_un_l, Option.toList_some, Option.toList_none, List.cons_append, List.nil_append, List.length_cons, List.length_nil, Nat.reduceLeDiff, Nat.reduceAdd, Nat.zero_le, Nat.zero_add, and_true, true_and, zb_1, eq_self, kx_36, zinT (show q < 40 by omega) (by decide), zcl (show q < 40 by omega) (by decide), j36, az_uI_at, az_uL_at, Nat.reduceEqDiff, false_and, and_false, and_self, if_true, if_false, ite_true, ite_false, n5, zuss]
          have bad : A q ≠ 59 ∨ r = 0 → R (some (.int (-20 - nI q))) (130, az_Pf, az_uI J2 35 6 (nI q), L2) := fun z => by
            rw [if_pos z] at eo
            rw [eR, eo]
            simp only [zR_at, zqr, Bool.false_eq_true, if_false, false_implies, and_true, true_and]
            exact (f.tr f2).a
          by_cases g3 : A q = 59
          · rw [if_pos g3]
            by_cases g4 : r = 0
            · rw [if_pos g4]; exact bad (Or.inr g4)
            · rw [if_neg (fun z => z.elim (fun y => y g3) g4)] at eo
              rw [if_neg g4]
              obtain ⟨r', er⟩ : ∃ r', r = r' + 1 := ⟨r - 1, by omega⟩
              have := nx r' er (q + 1) (zqD D (zqc A t p).2.2.1 (zqc A t p).2.2.2) (az_uI J2 35 6 (nI (q + 1))) (.int 0) (by omega) (f.tr f2).a (by simp only [az_uI_at, az_uL_at, Nat.reduceEqDiff, false_and, and_false, and_self, if_true, if_false, ite_true, ite_false]) (fun w hw => by simp only [az_uI_at, az_uL_at, Nat.reduceEqDiff, false_and, and_false, and_self, if_true, if_false, ite_true, ite_false]; exact aa w hw) eo
              rw [show nI (5 - r) + 1 = nI (5 - r') from by rw [← nI_succ]; congr 1; omega, show nI q + 1 = nI (q + 1) from (nI_succ q).symm]
              exact this
          · rw [if_neg g3]; exact bad (Or.inl g3)
      · rw [if_neg g] at eo
        have gf : (zqc A t p).1 = false := by
          cases hz : (zqc A t p).1
          · rfl
          · exact absurd hz g
        simp only [zqr, gf, Bool.false_eq_true, if_false, zqr_n (show (zqc A t p).2.1 ≤ 40 by omega), u_X6_readTape_65, u_X6_readTape_68, u_X6_readTape_69, az_un_i, az_un_r, az_un_n, az_un_l, Option.toList_some, Option.toList_none, List.cons_append, List.nil_append, List.length_cons, List.length_nil, Nat.reduceLeDiff, Nat.reduceAdd, Nat.zero_le, Nat.zero_add, and_true, true_and, zb_1, eq_self]
        rw [eR, eo]
        simp only [zR_at, zqr, Bool.false_eq_true, if_false, false_implies, and_true, true_and]
        exact f.tr f2
    have key : ∀ r, r ≤ 4 → ∀ p D J v2, p ≤ t → zFk I J → J 35 6 = nI p → (∀ w, w < 3 → J 43 w = nI (D w)) → O = zqt A t (r + 1) p D → az_W (zD (d + 3)) R k_X6_readTape 54 [.ref 35, .int (nI (5 - r)), v2] [] (130, az_Pf, J, L) := by
      intro r
      induction r with
      | zero => intro h0; exact step 0 h0 (fun r' e => by omega)
      | succ r ih => intro h0; exact step (r + 1) h0 (fun r' e => by
          have e : r = r' := by omega
          subst e; exact ih (by omega))
    exact key 4 (Nat.le_refl _) 0 D J _ (Nat.zero_le _) f e6 a1 eO
theorem s_X11_readRules {A : Nat → Int32} {t e : Nat} {D : Nat → Nat} (hC : zvC I) (hr : ∀ k, k < t → 32 ≤ (A k).toInt ∧ (A k).toInt ≤ 126) (hA : I 99 = A) (ht : t ≤ 40) (e1 : I 97 2 = nI t) (he : e ≤ 4) (e4 : I 97 4 = nI e) (hD0 : e = 0 → ∀ w, w < 3 → I 105 w = nI (D w)) (hD1 : ∀ k, e = k + 1 → ∀ w, w < 3 → I 101 (3 * k + w) = nI (D w)) : zE (d + 3) 152 [.ref 97] I L (some (.int (zb ((zqt A t 5 0 D).1 = true)))) (fun J L' => L' = L ∧ zFl I J ∧ ((zqt A t 5 0 D).1 = false → J 97 3 = nI (zqt A t 5 0 D).2.1) ∧ ((zqt A t 5 0 D).1 = true → ∀ w, w < 3 → J 102 w = nI ((zqt A t 5 0 D).2.2 w))) := by
  refine zE_of zm_X11_readRules rfl ?_
  show az_W _ _ _ 0 [.ref 97, .null, .null, .null] [] _
  obtain ⟨O, eO⟩ : ∃ O, O = zqt A t 5 0 D := ⟨_, rfl⟩
  rw [← eO]
  obtain ⟨R, eR⟩ : ∃ R, R = zR (some (.int (zb (O.1 = true)))) (fun J L' => L' = L ∧ zFl I J ∧ (O.1 = false → J 97 3 = nI O.2.1) ∧ (O.1 = true → ∀ w, w < 3 → J 102 w = nI (O.2.2 w))) := ⟨_, rfl⟩
  rw [← eR]
  simp only [u_X11_readRules_0, u_X11_readRules_1, u_X11_readRules_2, u_X11_readRules_5, u_X11_readRules_6, az_un_i, az_un_r, az_un_n, az_un_l, Option.toList_some, Option.toList_none, List.cons_append, List.nil_append, List.length_cons, List.length_nil, Nat.reduceLeDiff, Nat.reduceAdd, Nat.zero_le, Nat.zero_add, and_true, true_and, zb_1, eq_self]
  refine zloop (P := fun k => ∀ J, zFl I J → J 97 3 = 0 → (∀ w, w < k → J 102 w = nI (D w)) → az_W (zD (d + 2)) R k_X11_readRules 7 [.ref 97, .int (nI k), .null, .null] [] (130, az_Pf, J, L)) 3 (fun k hk ih J f e6 a1 => ?_) (fun J f e6 a1 => ?_) 0 (Nat.zero_le _) _ zFl.rf.a (by simp only [az_uI_at, az_uL_at, Nat.reduceEqDiff, false_and, and_false, and_self, if_true, if_false, ite_true, ite_false]) (fun w hw => absurd hw (Nat.not_lt_zero _))
  · have h1 : ¬ (3 : Int32) ≤ nI k := nI_ge (b := 3) hk (by decide)
    have j4 : J 97 4 = nI e := by rw [f 97 4 (by decide) (by omega)]; exact e4
    rw [nI_succ] at ih
    have ih := ih (az_uI J 102 k (nI (D k))) f.d (by simp only [az_uI_at, az_uL_at, Nat.reduceEqDiff, false_and, and_false, and_self, if_true, if_false, ite_true, ite_false]; exact e6) (fun w hw => by
      rw [az_uI_at]
      by_cases c : w = k
      · rw [if_pos ⟨rfl, c⟩, c]
      · rw [if_neg (by omega)]; exact a1 w (by omega))
    simp only [u_X11_readRules_7]
    cases e with
    | zero =>
      have z0 : nI 0 = (0 : Int32) := rfl
      have ek : J 105 k = nI (D k) := by rw [f 105 k (by omega) (by omega)]; exact hD0 rfl k hk
      simp only [u_X11_readRules_8, u_X11_readRules_9, u_X11_readRules_12, u_X11_readRules_13, u_X11_readRules_16, u_X11_readRules_17, u_X11_readRules_18, u_X11_readRules_21, u_X11_readRules_24, u_X11_readRules_25, u_X11_readRules_28, u_X11_readRules_29, u_X11_readRules_30, u_X11_readRules_33, u_X11_readRules_34, u_X11_readRules_37, u_X11_readRules_38, u_X11_readRules_39, u_X11_readRules_42, u_X11_readRules_43, u_X11_readRules_44, u_X11_readRules_45, u_X11_readRules_46, u_X11_readRules_47, u_X11_readRules_48, u_X11_readRules_49, u_X11_readRules_52, az_un_i, az_un_r, az_un_n, az_un_l, Option.toList_some, Option.toList_none, List.cons_append, List.nil_append, List.length_cons, List.length_nil, Nat.reduceLeDiff, Nat.reduceAdd, Nat.zero_le, Nat.zero_add, and_true, true_and, zb_1, eq_self, h1, if_false, j4, z0, if_true, kx_105, kx_102, zinT hk (by decide), zcl hk (by decide), ek]
      exact ih
    | succ q =>
      have z0 : ¬ nI (q + 1) = (0 : Int32) := fun z => by
        have := (nI_eq (b := 0) (show q + 1 < 2 ^ 31 by omega) (by decide)).mp z; omega
      have ek : J 101 (3 * q + k) = nI (D k) := by rw [f 101 _ (by omega) (by omega)]; exact hD1 q rfl k hk
      simp only [u_X11_readRules_8, u_X11_readRules_9, u_X11_readRules_12, u_X11_readRules_13, u_X11_readRules_16, u_X11_readRules_17, u_X11_readRules_18, u_X11_readRules_21, u_X11_readRules_24, u_X11_readRules_25, u_X11_readRules_28, u_X11_readRules_29, u_X11_readRules_30, u_X11_readRules_33, u_X11_readRules_34, u_X11_readRules_37, u_X11_readRules_38, u_X11_readRules_39, u_X11_readRules_42, u_X11_readRules_43, u_X11_readRules_44, u_X11_readRules_45, u_X11_readRules_46, u_X11_readRules_47, u_X11_readRules_48, u_X11_readRules_49, u_X11_readRules_52, az_un_i, az_un_r, az_un_n, az_un_l, Option.toList_some, Option.toList_none, List.cons_append, List.nil_append, List.length_cons, List.length_nil, Nat.reduceLeDiff, Nat.reduceAdd, Nat.zero_le, Nat.zero_add, and_true, true_and, zb_1, eq_self, h1, if_false, j4, z0, zm1, kx_101, kx_102, zinT hk (by decide), zcl hk (by decide), z3m, zinT (show 3 * q + k < 12 by omega) (by decide), zcl (show 3 * q + k < 12 by omega) (by decide), ek]
      exact ih
  · have h1 : (3 : Int32) ≤ nI 3 := by decide
    simp only [u_X11_readRules_7]
    simp only [u_X11_readRules_8, u_X11_readRules_9, u_X11_readRules_55, u_X11_readRules_56, u_X11_readRules_57, u_X11_readRules_58, az_un_i, az_un_r, az_un_n, az_un_l, Option.toList_some, Option.toList_none, List.cons_append, List.nil_append, List.length_cons, List.length_nil, Nat.reduceLeDiff, Nat.reduceAdd, Nat.zero_le, Nat.zero_add, and_true, true_and, zb_1, eq_self, h1, if_true]
    have step : ∀ r, r ≤ 4 → (∀ r', r = r' + 1 → ∀ p D J v3, p ≤ t → zFl I J → J 97 3 = nI p → (∀ w, w < 3 → J 102 w = nI (D w)) → O = zqt A t r p D → az_W (zD (d + 2)) R k_X11_readRules 59 [.ref 97, .int (nI (4 - r')), .int 1, v3] [] (130, az_Pf, J, L)) → ∀ p D J v3, p ≤ t → zFl I J → J 97 3 = nI p → (∀ w, w < 3 → J 102 w = nI (D w)) → O = zqt A t (r + 1) p D → az_W (zD (d + 2)) R k_X11_readRules 59 [.ref 97, .int (nI (4 - r)), .int 1, v3] [] (130, az_Pf, J, L) := by
      intro r hr4 nx p D J v3 hp f e6 a1 eo
      obtain ⟨b1, b2⟩ := zqc_b (A := A) hp
      have hC1 : zvC J := hC.fr (funext fun j => f 103 j (by decide) (by omega)) (funext fun j => f 104 j (by decide) (by omega)) (funext fun j => f 105 j (by decide) (by omega))
      obtain ⟨J2, L2, c1, q0, f2, q3, q2⟩ := s_X11_readClause (d := d) (I := J) (L := L) (A := A) (t := t) (p := p) hC1 hr (by rw [← hA]; funext j; exact f 99 j (by decide) (by omega)) ht (by rw [f 97 2 (by decide) (by omega)]; exact e1) hp e6
      subst q0
      rw [zqt] at eo
      simp only [u_X11_readRules_59]
      simp only [u_X11_readRules_60, u_X11_readRules_63, u_X11_readRules_64, u_X11_readRules_67, u_X11_readRules_70, u_X11_readRules_71, az_un_i, az_un_r, az_un_n, az_un_l, Option.toList_some, Option.toList_none, List.cons_append, List.nil_append, List.length_cons, List.length_nil, Nat.reduceLeDiff, Nat.reduceAdd, Nat.zero_le, Nat.zero_add, and_true, true_and, zb_1, eq_self, z10, if_false, az_call c1, zb_0]
      by_cases g : (zqc A t p).1 = true
      · rw [if_pos g] at eo
        rw [if_neg (fun z => z g)]
        have q2 := q2 g
        have b6 := zqk_b (A := A) _ (zqc A t p).2.1 rfl b1
        have j1 : J2 97 2 = nI t := by rw [f2 97 2 (by decide) (by omega), f 97 2 (by decide) (by omega)]; exact e1
        have j36 : J2 99 = A := by rw [← hA]; funext j; rw [f2 99 j (by decide) (by omega)]; exact f 99 j (by decide) (by omega)
        have c2 := s_X11_next (d := d + 1) (I := J2) (L := L2) (A := A) (t := t) (p := (zqc A t p).2.1) j36 ht j1 b1 q3
        have aa : ∀ w, w < 3 → J2 102 w = nI (zqD D (zqc A t p).2.2.1 (zqc A t p).2.2.2 w) := fun w hw => by
          rw [q2, az_uI_at]; unfold zqD
          by_cases c : w = (zqc A t p).2.2.1
          · rw [if_pos ⟨rfl, c⟩, if_pos c]
          · rw [if_neg (fun z => c z.2), if_neg c, zu_ne (by decide)]; exact a1 w hw
        have hrq := fun z : zqk A t (zqc A t p).2.1 < t => hr _ z
        generalize zqk A t (zqc A t p).2.1 = q at *
        simp only [u_X11_readRules_72, u_X11_readRules_75, u_X11_readRules_76, u_X11_readRules_79, az_un_i, az_un_r, az_un_n, az_un_l, Option.toList_some, Option.toList_none, List.cons_append, List.nil_append, List.length_cons, List.length_nil, Nat.reduceLeDiff, Nat.reduceAdd, Nat.zero_le, Nat.zero_add, and_true, true_and, zb_1, eq_self, az_call c2]
        by_cases g2 : q = t
        · rw [if_pos g2] at eo
          rw [if_neg (show ¬ q < t by omega)]
          have n1 : (-1 : Int32) < 0 := by decide
          simp only [u_X11_readRules_80, u_X11_readRules_81, u_X11_readRules_84, u_X11_readRules_85, u_X11_readRules_87, u_X11_readRules_90, u_X11_readRules_91, u_X11_readRules_92, u_X11_readRules_95, u_X11_readRules_96, u_X11_readRules_97, u_X11_readRules_98, u_X11_readRules_101, u_X11_readRules_102, u_X11_readRules_105, u_X11_readRules_106, u_X11_readRules_107, u_X11_readRules_108, u_X11_readRules_108r, u_X11_readRules_109, u_X11_readRules_112, u_X11_readRules_113, u_X11_readRules_116, u_X11_readRules_117, u_X11_readRules_120, u_X11_readRules_121, u_X11_readRules_122, u_X11_readRules_125, u_X11_readRules_128, u_X11_readRules_129, u_X11_readRules_59, u_X11_readRules_60, az_un_i, az_un_r, az_un_n, az_un_l, Option.toList_some, Option.toList_none, List.cons_append, List.nil_append, List.length_cons, List.length_nil, Nat.reduceLeDiff, Nat.reduceAdd, Nat.zero_le, Nat.zero_add, and_true, true_and, zb_1, eq_self, n1, if_true, az_uI_at, az_uL_at, Nat.reduceEqDiff, false_and, and_false, and_self, if_true, if_false, ite_true, ite_false, zuss, Int32.add_zero]
          rw [eR, eo, zR_at]
          exact ⟨by simp, by simp [zb], rfl, (f.tr f2).a, fun z => (by cases z), fun _ w hw => by rw [zu_ne (by decide)]; exact aa w hw⟩
        · rw [if_neg g2] at eo
          have qt : q < t := by omega
          rw [if_pos qt]
          have n1 : ¬ A q < 0 := by
            have := hrq qt
            rw [Int32.lt_iff_toInt_lt]; simp; omega
          have n5 : (nI (4 - r) + 1 = (5 : Int32)) ↔ r = 0 := by
            rw [show nI (4 - r) + 1 = nI (4 - r + 1) from (nI_succ _).symm, show (5 : Int32) = nI 5 from rfl, nI_eq (by omega) (by decide)]; omega
          simp only [u_X11_readRules_80, u_X11_readRules_81, u_X11_readRules_84, u_X11_readRules_85, u_X11_readRules_87, u_X11_readRules_90, u_X11_readRules_91, u_X11_readRules_92, u_X11_readRules_95, u_X11_readRules_96, u_X11_readRules_97, u_X11_readRules_98, u_X11_readRules_101, u_X11_readRules_102, u_X11_readRules_105, u_X11_readRules_106, u_X11_readRules_107, u_X11_readRules_108, u_X11_readRules_108r, u_X11_readRules_109, u_X11_readRules_112, u_X11_readRules_113, u_X11_readRules_116, u_X11_readRules_117, u_X11_readRules_120, u_X11_readRules_121, u_X11_readRules_122, u_X11_readRules_125, u_X11_readRules_128, u_X11_readRules_129, az_un_i, az_un_r, az_un_n, az_un_l, Option.toList_some, Option.toList_none, List.cons_append, List.nil_append, List.length_cons, List.length_nil, Nat.reduceLeDiff, Nat.reduceAdd, Nat.zero_le, Nat.zero_add, and_true, true_and, zb_1, eq_self, n1, if_false, n5, az_uI_at, az_uL_at, Nat.reduceEqDiff, false_and, and_false, and_self, if_true, if_false, ite_true, ite_false, zuss, z10]
          have bad : A q ≠ 59 ∨ r = 0 → R (some (.int 0)) (130, az_Pf, az_uI J2 97 3 (nI q), L2) := fun z => by
            rw [if_pos z] at eo
            rw [eR, eo]
            simp only [zR_at, zb, Bool.false_eq_true, if_false, false_implies, and_true, true_and, true_implies, az_uI_at, az_uL_at, Nat.reduceEqDiff, false_and, and_false, and_self, if_true, if_false, ite_true, ite_false]
            exact (f.tr f2).a
          by_cases g3 : A q = 59
          · rw [if_pos g3]
            by_cases g4 : r = 0
            · rw [if_pos g4]; simpa using bad (Or.inr g4)
            · rw [if_neg (fun z => z.elim (fun y => y g3) g4)] at eo
              rw [if_neg g4]
              obtain ⟨r', er⟩ : ∃ r', r = r' + 1 := ⟨r - 1, by omega⟩
              have := nx r' er (q + 1) (zqD D (zqc A t p).2.2.1 (zqc A t p).2.2.2) (az_uI J2 97 3 (nI (q + 1))) (.int (A q)) (by omega) (f.tr f2).a (by simp only [az_uI_at, az_uL_at, Nat.reduceEqDiff, false_and, and_false, and_self, if_true, if_false, ite_true, ite_false]) (fun w hw => by simp only [az_uI_at, az_uL_at, Nat.reduceEqDiff, false_and, and_false, and_self, if_true, if_false, ite_true, ite_false]; exact aa w hw) eo
              rw [show nI (4 - r) + 1 = nI (4 - r') from by rw [← nI_succ]; congr 1; omega, show nI q + 1 = nI (q + 1) from (nI_succ q).symm]
              exact this
          · rw [if_neg g3]; simpa using bad (Or.inl g3)
      · rw [if_neg g] at eo
        rw [if_pos g, eR, eo]
        refine ⟨Or.inl trivial, ?_⟩
        simp only [zR_at, zb, Bool.false_eq_true, if_false, false_implies, and_true, true_and, true_implies]
        exact ⟨f.tr f2, q3⟩
    have key : ∀ r, r ≤ 4 → ∀ p D J v3, p ≤ t → zFl I J → J 97 3 = nI p → (∀ w, w < 3 → J 102 w = nI (D w)) → O = zqt A t (r + 1) p D → az_W (zD (d + 2)) R k_X11_readRules 59 [.ref 97, .int (nI (4 - r)), .int 1, v3] [] (130, az_Pf, J, L) := by
      intro r
      induction r with
      | zero => intro h0; exact step 0 h0 (fun r' e => by omega)
      | succ r ih => intro h0; exact step (r + 1) h0 (fun r' e => by
          have e : r = r' := by omega
          subst e; exact ih (by omega))
    exact key 4 (Nat.le_refl _) 0 D J _ (Nat.zero_le _) f e6 a1 eO
end S
