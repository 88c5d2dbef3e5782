/-! ===== the mean of a sorted row ===== -/
def zK (v : Nat → Int32) : Nat := (zso v 8).1
def zO (v : Nat → Int32) : Nat → Nat := (zso v 8).2
def zts (v : Nat → Int32) (O : Nat → Nat) (c : Nat) : Nat → Nat
  | 0 => 0
  | j + 1 => zts v O c j + (v (O (c + j))).toInt.toNat
/-- enough of them, some left -/
def zok (v : Nat → Int32) (c l : Nat) : Bool := decide (l ≤ zK v ∧ 2 * c < zK v)
theorem zok_i {v : Nat → Int32} {c l : Nat} : zok v c l = true ↔ (l ≤ zK v ∧ 2 * c < zK v) := by unfold zok; rw [decide_eq_true_iff]
theorem zok_n {v : Nat → Int32} {c l : Nat} (h : ¬ (l ≤ zK v ∧ 2 * c < zK v)) : zok v c l = false := by unfold zok; exact decide_eq_false h
/-- their sum -/
def zS (v : Nat → Int32) (c : Nat) : Nat := zts v (zO v) c (zK v - 2 * c)
/-- ints of a row that can be said -/
def zVr (v : Nat → Int32) : Prop := ∀ h, h < 8 → -1 ≤ (v h).toInt ∧ (v h).toInt ≤ 999
theorem zK_le {v : Nat → Int32} : zK v ≤ 8 := zso_k 8
theorem zO_lt {v : Nat → Int32} {i : Nat} (h : i < zK v) : zO v i < 8 := (zso_m 8 i h).1
theorem zO_sp {v : Nat → Int32} {i : Nat} (h : i < zK v) : v (zO v i) ≠ -1 := (zso_m 8 i h).2
theorem zneg {x : Int32} (h : -1 ≤ x.toInt) : (x < 0) ↔ x = -1 := by
  rw [Int32.lt_iff_toInt_lt, ← Int32.toInt_inj]; simp; omega
theorem zvn {x : Int32} (h : 0 ≤ x.toInt) : x = nI x.toInt.toNat := by
  have := Int32.toInt_lt x
  exact Int32.toInt_inj.mp (by rw [nI_toInt (by omega)]; omega)
theorem zpo {x : Int32} (h : -1 ≤ x.toInt) (h2 : x ≠ -1) : 0 ≤ x.toInt := by
  rcases (show x.toInt = -1 ∨ 0 ≤ x.toInt by omega) with g | g
  · exact absurd (Int32.toInt_inj.mp (by rw [g]; rfl)) h2
  · exact g
theorem zVr.at {v : Nat → Int32} (hv : zVr v) {i : Nat} (h : i < zK v) : 0 ≤ (v (zO v i)).toInt ∧ (v (zO v i)).toInt ≤ 999 := ⟨zpo (hv _ (zO_lt h)).1 (zO_sp h), (hv _ (zO_lt h)).2⟩
theorem zts_b {v : Nat → Int32} {O : Nat → Nat} {c : Nat} : ∀ j, (∀ i, i < j → (v (O (c + i))).toInt ≤ 999) → zts v O c j ≤ 999 * j
  | 0, _ => Nat.le_refl _
  | j + 1, h => by
    have := zts_b (v := v) (O := O) (c := c) j (fun i hi => h i (by omega))
    have := h j (by omega)
    rw [zts]; omega
theorem zS_b {v : Nat → Int32} (hv : zVr v) (c : Nat) : zS v c ≤ 999 * (zK v - 2 * c) := zts_b _ (fun i hi => (hv.at (by omega)).2)
theorem zK_c {v w : Nat → Int32} (h : ∀ i, i < 8 → v i = w i) : zK v = zK w := by unfold zK; rw [zso_c 8 h]
theorem zO_c {v w : Nat → Int32} (h : ∀ i, i < 8 → v i = w i) : zO v = zO w := by unfold zO; rw [zso_c 8 h]
theorem zts_c {v w : Nat → Int32} {O : Nat → Nat} {c : Nat} : ∀ j, (∀ i, i < j → v (O (c + i)) = w (O (c + i))) → zts v O c j = zts w O c j
  | 0, _ => rfl
  | j + 1, h => by rw [zts, zts, zts_c j (fun i hi => h i (by omega)), h j (by omega)]
theorem zS_c {v w : Nat → Int32} (h : ∀ i, i < 8 → v i = w i) (c : Nat) : zS v c = zS w c := by
  unfold zS; rw [zK_c h, zO_c h]
  exact zts_c _ (fun i hi => h _ (zO_lt (by omega)))
theorem zok_c {v w : Nat → Int32} (h : ∀ i, i < 8 → v i = w i) (c l : Nat) : zok v c l = zok w c l := by
  unfold zok; rw [zK_c h]
theorem zVr_c {v w : Nat → Int32} (h : ∀ i, i < 8 → v i = w i) (hv : zVr v) : zVr w := fun i hi => by rw [← h i hi]; exact hv i hi
theorem zil {n : Nat} (h : n < 2 ^ 31) : (nI n).toInt64 = lN n := by
  apply Int64.toInt_inj.mp
  rw [z64, nI_toInt h, pk_lT (by omega)]
section S
variable {d : Nat} {I : Nat → Nat → Int32} {L : Nat → Nat → Int64} {h : az_H}
theorem s_X4_findMean {r c l f : Nat} (hr : az_kn 130 r = (1, 8)) (r1 : r ≠ 34) (r2 : r ≠ 2) (hf : az_kn 130 f = (0, 2)) (hv : zVr (I r)) (hc : c ≤ 3) (hl : l ≤ 8) : zE (d + 3) 38 [.ref 2, .ref r, .int (nI c), .int (nI l), .ref f] I L (some (.int (zb (zok (I r) c l = true)))) (fun J L' => zFo I J ∧ J 2 2 = nI (zK (I r)) ∧ zSt (J 34) (zK (I r)) (zO (I r)) ∧ L' = if zok (I r) c l then zLs L f (zS (I r) c) (zK (I r) - 2 * c) else L) := by
  refine zE_of zm_X4_findMean rfl ?_
  show az_W _ _ _ 0 [.ref 2, .ref r, .int (nI c), .int (nI l), .ref f, .null, .null, .null] [] _
  obtain ⟨J, L', hs, e0, f1, e1, e2⟩ := s_X4_sort (d := d) (L := L) (I := I) hr r1 r2
  subst e0
  have e1 : J 2 2 = nI (zK (I r)) := e1
  have e2 : zSt (J 34) (zK (I r)) (zO (I r)) := e2
  have er := f1.row r1 r2
  have hK := zK_le (v := I r)
  simp only [u_X4_findMean_0, u_X4_findMean_1, u_X4_findMean_2, u_X4_findMean_5, u_X4_findMean_6, u_X4_findMean_9, u_X4_findMean_10, u_X4_findMean_11, u_X4_findMean_12, u_X4_findMean_13, u_X4_findMean_15, u_X4_findMean_16, u_X4_findMean_19, u_X4_findMean_20, u_X4_findMean_23, u_X4_findMean_25, u_X4_findMean_26, u_X4_findMean_29, u_X4_findMean_30, u_X4_findMean_31, u_X4_findMean_32, u_X4_findMean_34, u_X4_findMean_35, az_un_i, az_un_r, az_un_n, az_un_l, Option.toList_some, Option.toList_none, List.cons_append, List.nil_append, List.length_cons, List.length_nil, Nat.reduceLeDiff, Nat.reduceAdd, Nat.zero_le, Nat.zero_add, and_true, true_and, zb_1, eq_self, az_call hs, e1, show (2 : Int32) = nI 2 from rfl, pk_mul]
  by_cases c1 : zK (I r) < l
  · have no : zok (I r) c l = false := zok_n (by omega)
    rw [if_pos (nI_lt c1 (by omega))]
    simp only [u_X4_findMean_0, u_X4_findMean_1, u_X4_findMean_2, u_X4_findMean_5, u_X4_findMean_6, u_X4_findMean_9, u_X4_findMean_10, u_X4_findMean_11, u_X4_findMean_12, u_X4_findMean_13, u_X4_findMean_15, u_X4_findMean_16, u_X4_findMean_19, u_X4_findMean_20, u_X4_findMean_23, u_X4_findMean_25, u_X4_findMean_26, u_X4_findMean_29, u_X4_findMean_30, u_X4_findMean_31, u_X4_findMean_32, u_X4_findMean_34, u_X4_findMean_35, az_un_i, az_un_r, az_un_n, az_un_l, Option.toList_some, Option.toList_none, List.cons_append, List.nil_append, List.length_cons, List.length_nil, Nat.reduceLeDiff, Nat.reduceAdd, Nat.zero_le, Nat.zero_add, and_true, true_and, zb_1, eq_self, zR_at, no, Bool.false_eq_true, if_false, zb, and_true, true_or, true_and]
    exact ⟨f1, e1, e2⟩
  rw [if_neg (nI_nlt (by omega) (by omega))]
  by_cases c2 : 2 * c < zK (I r)
  · have yes : zok (I r) c l = true := zok_i.mpr ⟨by omega, c2⟩
    rw [pk_sub (by omega), if_pos (show (1 : Int32) ≤ nI (zK (I r) - 2 * c) from nI_le (a := 1) (by omega) (by omega))]
    refine zloop (P := fun j => az_W (zD (d + 2)) _ _ 37 [.ref 2, .ref r, .int (nI c), .int (nI l), .ref f, .int (nI (zK (I r) - 2 * c)), .int (nI (zts (I r) (zO (I r)) c j)), .int (nI (c + j))] [] (130, az_Pf, J, L')) (zK (I r) - 2 * c) (fun j hj ih => ?_) ?_ 0 (Nat.zero_le _)
    · have hi : c + j < zK (I r) := by omega
      have h1 : ¬ nI c + nI (zK (I r) - 2 * c) ≤ nI (c + j) := by rw [nI_add]; exact nI_ge (by omega) (by omega)
      obtain ⟨v1, v2⟩ := hv.at hi
      have ev : (I r) (zO (I r) (c + j)) = nI (I r (zO (I r) (c + j))).toInt.toNat := zvn v1
      have ho := zO_lt hi
      simp only [u_X4_findMean_37]
      simp only [u_X4_findMean_39, u_X4_findMean_40, u_X4_findMean_42, u_X4_findMean_43, u_X4_findMean_46, u_X4_findMean_48, u_X4_findMean_49, u_X4_findMean_50, u_X4_findMean_53, u_X4_findMean_55, u_X4_findMean_56, u_X4_findMean_57, u_X4_findMean_58, u_X4_findMean_60, u_X4_findMean_63, u_X4_findMean_66, u_X4_findMean_68, u_X4_findMean_70, u_X4_findMean_71, u_X4_findMean_73, u_X4_findMean_74, u_X4_findMean_77, u_X4_findMean_78, az_un_i, az_un_r, az_un_n, az_un_l, Option.toList_some, Option.toList_none, List.cons_append, List.nil_append, List.length_cons, List.length_nil, Nat.reduceLeDiff, Nat.reduceAdd, Nat.zero_le, Nat.zero_add, and_true, true_and, zb_1, eq_self, h1, if_false, kx_34, hr, zinT (show c + j < 8 by omega) (by decide), zcl (show c + j < 8 by omega) (by decide), e2 (c + j) hi, zinT ho (by decide), zcl ho (by decide), er]
      rw [show nI (c + j) + 1 = nI (c + (j + 1)) from (nI_succ (c + j)).symm, ev, nI_add]
      exact ih
    · have h1 : nI c + nI (zK (I r) - 2 * c) ≤ nI (c + (zK (I r) - 2 * c)) := by rw [nI_add]; exact nI_le (Nat.le_refl _) (by omega)
      have b := zS_b hv c
      have hp := s_X2_put (d := d + 1) (I := J) (L := L') (f := f) (B := zK (I r) - 2 * c) (a := (nI (zS (I r) c)).toInt64) (b := (nI (zK (I r) - 2 * c)).toInt64) (A := (zS (I r) c : Int)) hf (by rw [z64, nI_toInt (by omega)]) (zil (by omega)) (by omega) (by omega) (by omega) (by omega)
      simp only [u_X4_findMean_37]
      simp only [u_X4_findMean_39, u_X4_findMean_40, u_X4_findMean_42, u_X4_findMean_43, u_X4_findMean_46, u_X4_findMean_48, u_X4_findMean_49, u_X4_findMean_50, u_X4_findMean_53, u_X4_findMean_55, u_X4_findMean_56, u_X4_findMean_57, u_X4_findMean_58, u_X4_findMean_60, u_X4_findMean_63, u_X4_findMean_66, u_X4_findMean_68, u_X4_findMean_70, u_X4_findMean_71, u_X4_findMean_73, u_X4_findMean_74, u_X4_findMean_77, u_X4_findMean_78, az_un_i, az_un_r, az_un_n, az_un_l, Option.toList_some, Option.toList_none, List.cons_append, List.nil_append, List.length_cons, List.length_nil, Nat.reduceLeDiff, Nat.reduceAdd, Nat.zero_le, Nat.zero_add, and_true, true_and, zb_1, eq_self, h1, if_true, show zts (I r) (zO (I r)) c (zK (I r) - 2 * c) = zS (I r) c from rfl, hf, az_call hp, zR_at, yes, if_true, zb, and_true, or_true, true_and]
      exact ⟨f1, e1, e2⟩
  · have no : zok (I r) c l = false := zok_n (by omega)
    have h1 : ¬ (1 : Int32) ≤ nI (zK (I r)) - nI (2 * c) := fun z => by
      have := Int32.le_iff_toInt_le.mp z
      rw [pk_sub_toInt (by omega) (by omega)] at this
      simp at this; omega
    rw [if_neg h1]
    simp only [u_X4_findMean_0, u_X4_findMean_1, u_X4_findMean_2, u_X4_findMean_5, u_X4_findMean_6, u_X4_findMean_9, u_X4_findMean_10, u_X4_findMean_11, u_X4_findMean_12, u_X4_findMean_13, u_X4_findMean_15, u_X4_findMean_16, u_X4_findMean_19, u_X4_findMean_20, u_X4_findMean_23, u_X4_findMean_25, u_X4_findMean_26, u_X4_findMean_29, u_X4_findMean_30, u_X4_findMean_31, u_X4_findMean_32, u_X4_findMean_34, u_X4_findMean_35, az_un_i, az_un_r, az_un_n, az_un_l, Option.toList_some, Option.toList_none, List.cons_append, List.nil_append, List.length_cons, List.length_nil, Nat.reduceLeDiff, Nat.reduceAdd, Nat.zero_le, Nat.zero_add, and_true, true_and, zb_1, eq_self, zR_at, no, Bool.false_eq_true, if_false, zb, and_true, true_or, true_and]
    exact ⟨f1, e1, e2⟩
theorem s_X11_findRate {c l : Nat} (hv : zVr (I 106)) (hc : c ≤ 3) (hl : l ≤ 8) : zE (d + 1) 157 [.ref 97, .int (nI c), .int (nI l)] I L (some (.int (zb (zok (I 106) c l = true)))) (fun J L' => L' = L ∧ zFm I J ∧ J 97 13 = nI (zK (I 106)) ∧ zSt (J 107) (zK (I 106)) (zO (I 106)) ∧ J 97 14 = nI (zS (I 106) c) ∧ J 97 15 = nI (zK (I 106)) - nI (2 * c)) := by
  refine zE_of zm_X11_findRate rfl ?_
  show az_W _ _ _ 0 [.ref 97, .int (nI c), .int (nI l), .null, .null] [] _
  simp only [u_X11_findRate_0, u_X11_findRate_1, u_X11_findRate_2, u_X11_findRate_5, u_X11_findRate_6, az_un_i, az_un_r, az_un_n, az_un_l, Option.toList_some, Option.toList_none, List.cons_append, List.nil_append, List.length_cons, List.length_nil, Nat.reduceLeDiff, Nat.reduceAdd, Nat.zero_le, Nat.zero_add, and_true, true_and, zb_1, eq_self]
  refine zloop (P := fun k => ∀ J v4, zFm I J → J 97 13 = nI (zso (I 106) k).1 → zSt (J 107) (zso (I 106) k).1 (zso (I 106) k).2 → az_W (zD d) _ _ 7 [.ref 97, .int (nI c), .int (nI l), .int (nI k), v4] [] (130, az_Pf, J, L)) 8 (fun k hk ih J v4 f e1 e2 => ?_) (fun J v4 f e1 e2 => ?_) 0 (Nat.zero_le _) _ _ (zFm.rf.n (Or.inl rfl)) (by simp only [az_uI_at, az_uL_at, Nat.reduceEqDiff, false_and, and_false, and_self, if_true, if_false, ite_true, ite_false]; rfl) (fun i hi => absurd hi (Nat.not_lt_zero _))
  · have h1 : ¬ (8 : Int32) ≤ nI k := nI_ge (b := 8) hk (by decide)
    have er := f.row (r := 106) (by decide) (by decide)
    have hkk := zso_k (v := I 106) k
    obtain ⟨n, en⟩ : ∃ n, n = (zso (I 106) k).1 := ⟨_, rfl⟩
    obtain ⟨O, eO⟩ : ∃ O, O = (zso (I 106) k).2 := ⟨_, rfl⟩
    have hO : ∀ i, i < n → O i < 8 := fun i hi => by rw [eO]; have := (zso_m (v := I 106) k i (by omega)).1; omega
    have ng := zneg (hv k hk).1
    rw [nI_succ, zso, ← en, ← eO] at ih
    rw [← en, ← eO] at e2
    rw [← en] at e1 hkk
    simp only [u_X11_findRate_7]
    simp only [u_X11_findRate_8, u_X11_findRate_10, u_X11_findRate_13, u_X11_findRate_14, u_X11_findRate_17, u_X11_findRate_18, u_X11_findRate_19, u_X11_findRate_22, u_X11_findRate_23, u_X11_findRate_26, u_X11_findRate_96, u_X11_findRate_99, az_un_i, az_un_r, az_un_n, az_un_l, Option.toList_some, Option.toList_none, List.cons_append, List.nil_append, List.length_cons, List.length_nil, Nat.reduceLeDiff, Nat.reduceAdd, Nat.zero_le, Nat.zero_add, and_true, true_and, zb_1, eq_self, h1, if_false, kx_106, zinT hk (by decide), zcl hk (by decide), er, e1]
    by_cases g : I 106 k = -1
    · rw [if_pos (ng.mpr g)]
      rw [if_pos g, ← en, ← eO] at ih
      exact ih J _ f e1 e2
    · rw [if_neg (fun z => g (ng.mp z))]
      rw [if_neg g] at ih
      have fin : ∀ a, a ≤ n → a = zpos (I 106) O k n → ∀ J, zFm I J → J 97 13 = nI n → (∀ i, i < a → J 107 i = nI (O i)) → (∀ i, a < i → i ≤ n → J 107 i = nI (O (i - 1))) → az_W (zD d) (zR (some (.int (zb (zok (I 106) c l = true)))) (fun J L' => L' = L ∧ zFm I J ∧ J 97 13 = nI (zK (I 106)) ∧ zSt (J 107) (zK (I 106)) (zO (I 106)) ∧ J 97 14 = nI (zS (I 106) c) ∧ J 97 15 = nI (zK (I 106)) - nI (2 * c))) k_X11_findRate 78 [.ref 97, .int (nI c), .int (nI l), .int (nI k), .int (nI a)] [] (130, az_Pf, J, L) := by
        intro a ha ep J f h2 b1 b2
        simp only [u_X11_findRate_78, u_X11_findRate_79, u_X11_findRate_82, u_X11_findRate_84, u_X11_findRate_85, u_X11_findRate_86, u_X11_findRate_87, u_X11_findRate_87r, u_X11_findRate_88, u_X11_findRate_91, u_X11_findRate_92, u_X11_findRate_93, u_X11_findRate_96, u_X11_findRate_99, az_un_i, az_un_r, az_un_n, az_un_l, Option.toList_some, Option.toList_none, List.cons_append, List.nil_append, List.length_cons, List.length_nil, Nat.reduceLeDiff, Nat.reduceAdd, Nat.zero_le, Nat.zero_add, and_true, true_and, zb_1, eq_self, kx_107, zinT (show a < 8 by omega) (by decide), zcl (show a < 8 by omega) (by decide), az_uI_at, az_uL_at, Nat.reduceEqDiff, false_and, and_false, and_self, if_true, if_false, ite_true, ite_false, h2]
        refine ih _ _ (f.o.n (Or.inl rfl)) (by simp only [az_uI_at, az_uL_at, Nat.reduceEqDiff, false_and, and_false, and_self, if_true, if_false, ite_true, ite_false]; rw [nI_succ]) (fun i hi => ?_)
        rw [zu_ne (by decide), az_uI_at]
        show _ = nI (zins _ _ _ _)
        rw [← ep]
        unfold zins
        have hi : i < n + 1 := hi
        by_cases c1 : i < a
        · rw [if_neg (by omega), if_pos c1]; exact b1 i c1
        · by_cases c2 : i = a
          · rw [if_pos ⟨rfl, c2⟩, if_neg c1, if_pos c2]
          · rw [if_neg (by omega), if_neg c1, if_neg c2]; exact b2 i (by omega) (by omega)
      have key : ∀ a, a ≤ n → zpos (I 106) O k a = zpos (I 106) O k n → ∀ J, zFm I J → J 97 13 = nI n → (∀ i, i < a → J 107 i = nI (O i)) → (∀ i, a < i → i ≤ n → J 107 i = nI (O (i - 1))) → az_W (zD d) (zR (some (.int (zb (zok (I 106) c l = true)))) (fun J L' => L' = L ∧ zFm I J ∧ J 97 13 = nI (zK (I 106)) ∧ zSt (J 107) (zK (I 106)) (zO (I 106)) ∧ J 97 14 = nI (zS (I 106) c) ∧ J 97 15 = nI (zK (I 106)) - nI (2 * c))) k_X11_findRate 28 [.ref 97, .int (nI c), .int (nI l), .int (nI k), .int (nI a)] [] (130, az_Pf, J, L) := by
        intro a
        induction a with
        | zero =>
          intro ha ep J f h2 b1 b2
          have h1 : nI 0 ≤ 0 := by decide
          simp only [u_X11_findRate_28]
          simp only [u_X11_findRate_30, az_un_i, az_un_r, az_un_n, az_un_l, Option.toList_some, Option.toList_none, List.cons_append, List.nil_append, List.length_cons, List.length_nil, Nat.reduceLeDiff, Nat.reduceAdd, Nat.zero_le, Nat.zero_add, and_true, true_and, zb_1, eq_self, h1, if_true]
          exact fin 0 ha ep J f h2 b1 b2
        | succ a ia =>
          intro ha ep J f h2 b1 b2
          have h1 : ¬ nI (a + 1) ≤ 0 := show ¬ nI (a + 1) ≤ nI 0 from nI_ge (Nat.succ_pos a) (by omega)
          have o := hO a (by omega)
          have er := f.row (r := 106) (by decide) (by decide)
          simp only [u_X11_findRate_28]
          simp only [u_X11_findRate_30, u_X11_findRate_33, u_X11_findRate_34, u_X11_findRate_37, u_X11_findRate_38, u_X11_findRate_41, u_X11_findRate_43, u_X11_findRate_44, u_X11_findRate_45, u_X11_findRate_46, u_X11_findRate_47, u_X11_findRate_48, u_X11_findRate_51, u_X11_findRate_52, u_X11_findRate_53, u_X11_findRate_56, u_X11_findRate_57, u_X11_findRate_60, u_X11_findRate_62, u_X11_findRate_63, u_X11_findRate_66, u_X11_findRate_68, u_X11_findRate_69, u_X11_findRate_70, u_X11_findRate_71, u_X11_findRate_72, u_X11_findRate_75, az_un_i, az_un_r, az_un_n, az_un_l, Option.toList_some, Option.toList_none, List.cons_append, List.nil_append, List.length_cons, List.length_nil, Nat.reduceLeDiff, Nat.reduceAdd, Nat.zero_le, Nat.zero_add, and_true, true_and, zb_1, eq_self, h1, if_false, zm1, kx_106, kx_107, zinT (show a < 8 by omega) (by decide), zcl (show a < 8 by omega) (by decide), zinT (show a + 1 < 8 by omega) (by decide), zcl (show a + 1 < 8 by omega) (by decide), zinT hk (by decide), zcl hk (by decide), b1 a (by omega), zinT o (by decide), zcl o (by decide), er]
          rw [zpos] at ep
          by_cases g : I 106 k < I 106 (O a)
          · rw [if_pos g] at ep
            rw [if_neg (Int32.not_le.mpr g)]
            have := ia (by omega) ep (az_uI J 107 (a + 1) (nI (O a))) f.o (by rw [zu_ne (by decide)]; exact h2) (fun i hi => by rw [az_uI_at, if_neg (by omega)]; exact b1 i (by omega)) (fun i h3 h4 => by
              rw [az_uI_at]
              by_cases c : i = a + 1
              · rw [if_pos ⟨rfl, c⟩, c]; rfl
              · rw [if_neg (by omega)]; exact b2 i (by omega) h4)
            rw [show nI (a + 1) + (-1) = nI a by rw [← Int32.sub_eq_add_neg, zm1]]
            exact this
          · rw [if_neg g] at ep
            rw [if_pos (Int32.not_lt.mp g)]
            exact fin (a + 1) ha ep J f h2 b1 b2
      exact key n (Nat.le_refl _) rfl J f e1 (fun i hi => e2 i hi) (fun i h1 h2 => by omega)
  · have h1 : (8 : Int32) ≤ nI 8 := by decide
    have e1 : J 97 13 = nI (zK (I 106)) := e1
    have e2 : zSt (J 107) (zK (I 106)) (zO (I 106)) := e2
    have hK := zK_le (v := I 106)
    simp only [u_X11_findRate_7]
    simp only [u_X11_findRate_8, u_X11_findRate_10, u_X11_findRate_102, u_X11_findRate_103, u_X11_findRate_104, u_X11_findRate_107, u_X11_findRate_108, u_X11_findRate_109, u_X11_findRate_110, u_X11_findRate_111, u_X11_findRate_114, u_X11_findRate_115, u_X11_findRate_116, u_X11_findRate_119, u_X11_findRate_120, az_un_i, az_un_r, az_un_n, az_un_l, Option.toList_some, Option.toList_none, List.cons_append, List.nil_append, List.length_cons, List.length_nil, Nat.reduceLeDiff, Nat.reduceAdd, Nat.zero_le, Nat.zero_add, and_true, true_and, zb_1, eq_self, h1, if_true, e1, show (2 : Int32) = nI 2 from rfl, pk_mul]
    refine zloop (P := fun j => ∀ J, zFm I J → J 97 13 = nI (zK (I 106)) → zSt (J 107) (zK (I 106)) (zO (I 106)) → J 97 14 = nI (zts (I 106) (zO (I 106)) c j) → J 97 15 = nI (zK (I 106)) - nI (2 * c) → az_W (zD d) _ _ 121 [.ref 97, .int (nI c), .int (nI l), .int (nI (c + j)), v4] [] (130, az_Pf, J, L)) (zK (I 106) - 2 * c) (fun j hj ih J f e1 e2 e3 e4 => ?_) (fun J f e1 e2 e3 e4 => ?_) 0 (Nat.zero_le _) _ ((f.n (Or.inr (Or.inr rfl))).n (Or.inr (Or.inl rfl))) (by simp only [az_uI_at, az_uL_at, Nat.reduceEqDiff, false_and, and_false, and_self, if_true, if_false, ite_true, ite_false]; exact e1) (fun i hi => by simp only [az_uI_at, az_uL_at, Nat.reduceEqDiff, false_and, and_false, and_self, if_true, if_false, ite_true, ite_false]; exact e2 i hi) (by simp only [az_uI_at, az_uL_at, Nat.reduceEqDiff, false_and, and_false, and_self, if_true, if_false, ite_true, ite_false]; rfl) (by simp only [az_uI_at, az_uL_at, Nat.reduceEqDiff, false_and, and_false, and_self, if_true, if_false, ite_true, ite_false])
    · have hi : c + j < zK (I 106) := by omega
      have h1 : ¬ nI (zK (I 106)) - nI c ≤ nI (c + j) := by rw [pk_sub (by omega)]; exact nI_ge (by omega) (by omega)
      obtain ⟨v1, v2⟩ := hv.at hi
      have ev : (I 106) (zO (I 106) (c + j)) = nI (I 106 (zO (I 106) (c + j))).toInt.toNat := zvn v1
      have ho := zO_lt hi
      have er := f.row (r := 106) (by decide) (by decide)
      simp only [u_X11_findRate_121]
      simp only [u_X11_findRate_122, u_X11_findRate_123, u_X11_findRate_126, u_X11_findRate_127, u_X11_findRate_128, u_X11_findRate_131, u_X11_findRate_132, u_X11_findRate_132r, u_X11_findRate_133, u_X11_findRate_136, u_X11_findRate_137, u_X11_findRate_140, u_X11_findRate_141, u_X11_findRate_144, u_X11_findRate_145, u_X11_findRate_146, u_X11_findRate_147, u_X11_findRate_148, u_X11_findRate_151, u_X11_findRate_154, az_un_i, az_un_r, az_un_n, az_un_l, Option.toList_some, Option.toList_none, List.cons_append, List.nil_append, List.length_cons, List.length_nil, Nat.reduceLeDiff, Nat.reduceAdd, Nat.zero_le, Nat.zero_add, and_true, true_and, zb_1, eq_self, h1, if_false, kx_106, kx_107, zinT (show c + j < 8 by omega) (by decide), zcl (show c + j < 8 by omega) (by decide), e2 (c + j) hi, zinT ho (by decide), zcl ho (by decide), er, e1, e3]
      rw [show nI (c + j) + 1 = nI (c + (j + 1)) from (nI_succ (c + j)).symm]
      refine ih _ (f.n (Or.inr (Or.inl rfl))) (by simp only [az_uI_at, az_uL_at, Nat.reduceEqDiff, false_and, and_false, and_self, if_true, if_false, ite_true, ite_false]; exact e1) (fun i hi => by simp only [az_uI_at, az_uL_at, Nat.reduceEqDiff, false_and, and_false, and_self, if_true, if_false, ite_true, ite_false]; exact e2 i hi) ?_ (by simp only [az_uI_at, az_uL_at, Nat.reduceEqDiff, false_and, and_false, and_self, if_true, if_false, ite_true, ite_false]; exact e4)
      simp only [az_uI_at, az_uL_at, Nat.reduceEqDiff, false_and, and_false, and_self, if_true, if_false, ite_true, ite_false]
      rw [ev, nI_add]
      rfl
    · have h1 : nI (zK (I 106)) - nI c ≤ nI (c + (zK (I 106) - 2 * c)) := by
        rw [Int32.le_iff_toInt_le, pk_sub_toInt (by omega) (by omega), nI_toInt (by omega)]; omega
      simp only [u_X11_findRate_121]
      simp only [u_X11_findRate_122, u_X11_findRate_123, u_X11_findRate_126, u_X11_findRate_127, u_X11_findRate_128, u_X11_findRate_131, u_X11_findRate_132, u_X11_findRate_132r, u_X11_findRate_133, u_X11_findRate_136, u_X11_findRate_137, u_X11_findRate_140, u_X11_findRate_141, u_X11_findRate_144, u_X11_findRate_145, u_X11_findRate_146, u_X11_findRate_147, u_X11_findRate_148, u_X11_findRate_151, u_X11_findRate_154, u_X11_findRate_157, u_X11_findRate_158, u_X11_findRate_161, u_X11_findRate_162, u_X11_findRate_165, u_X11_findRate_166, u_X11_findRate_169, u_X11_findRate_172, u_X11_findRate_173, u_X11_findRate_176, u_X11_findRate_177, az_un_i, az_un_r, az_un_n, az_un_l, Option.toList_some, Option.toList_none, List.cons_append, List.nil_append, List.length_cons, List.length_nil, Nat.reduceLeDiff, Nat.reduceAdd, Nat.zero_le, Nat.zero_add, and_true, true_and, zb_1, eq_self, h1, if_true, e1, e4]
      by_cases c1 : zK (I 106) < l
      · rw [if_pos (nI_lt c1 (by omega))]
        simp only [zR_at, zok_n (v := I 106) (c := c) (l := l) (by omega), Bool.false_eq_true, zb, if_false, true_or, true_and]
        exact ⟨f, e1, e2, e3, e4⟩
      rw [if_neg (nI_nlt (by omega) (by omega))]
      by_cases c2 : 2 * c < zK (I 106)
      · have : ¬ nI (zK (I 106)) - nI (2 * c) ≤ 0 := by rw [pk_sub (by omega)]; exact show ¬ nI (zK (I 106) - 2 * c) ≤ nI 0 from nI_ge (by omega) (by omega)
        rw [if_neg this]
        simp only [zR_at, zok_i.mpr (show l ≤ zK (I 106) ∧ 2 * c < zK (I 106) by omega), zb, if_true, or_true, true_and]
        exact ⟨f, e1, e2, e3, e4⟩
      · have : nI (zK (I 106)) - nI (2 * c) ≤ 0 := by
          rw [Int32.le_iff_toInt_le, pk_sub_toInt (by omega) (by omega)]; simp; omega
        rw [if_pos this]
        simp only [zR_at, zok_n (v := I 106) (c := c) (l := l) (by omega), Bool.false_eq_true, zb, if_false, true_or, true_and]
        exact ⟨f, e1, e2, e3, e4⟩
end S
