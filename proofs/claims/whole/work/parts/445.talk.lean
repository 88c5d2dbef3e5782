/-! ===== knew ===== -/
def zns (f : Nat → Nat) : Nat → Nat
  | 0 => 0
  | k + 1 => zns f k + f k
theorem zns_le {f g : Nat → Nat} (h : ∀ d, f d ≤ g d) : ∀ n, zns f n ≤ zns g n
  | 0 => Nat.le_refl _
  | n + 1 => by have := zns_le h n; have := h n; rw [zns, zns]; omega
theorem zns_lt {f g : Nat → Nat} {i : Nat} (h : ∀ d, f d ≤ g d) (hi : f i < g i) : ∀ n, i < n → zns f n < zns g n
  | 0, hn => absurd hn (Nat.not_lt_zero _)
  | n + 1, hn => by
    rw [zns, zns]
    by_cases c : i = n
    · have := zns_le h n; rw [c] at hi; omega
    · have := zns_lt h hi n (by omega); have := h n; omega
/-- one pass over the words, each at once -/
def zwp (fr to : Nat → Nat) (tm : Nat → Int) (va : Nat → Bool) (f : Nat → Int) : Nat → (Nat → Int)
  | 0 => f
  | k + 1 => if va k = true ∧ zwp fr to tm va f k (fr k) < tm k ∧ tm k < zwp fr to tm va f k (to k) then zst1 (zwp fr to tm va f k) (to k) (tm k) else zwp fr to tm va f k
def zwq (fr to : Nat → Nat) (tm : Nat → Int) (va : Nat → Bool) (f : Nat → Int) : Nat → Bool
  | 0 => false
  | k + 1 => if va k = true ∧ zwp fr to tm va f k (fr k) < tm k ∧ tm k < zwp fr to tm va f k (to k) then true else zwq fr to tm va f k
def zwm (f : Nat → Int) : Nat := zns (fun d => (f d + 1).toNat) 12
section W
variable {fr to : Nat → Nat} {tm : Nat → Int} {va : Nat → Bool}
theorem zwq_f {f : Nat → Int} : ∀ k, zwq fr to tm va f k = false → zwp fr to tm va f k = f ∧ ∀ j, j < k → va j = true → f (fr j) < tm j → f (to j) ≤ tm j
  | 0, _ => ⟨rfl, fun j hj => absurd hj (Nat.not_lt_zero _)⟩
  | k + 1, h => by
    rw [zwq] at h
    rw [zwp]
    by_cases c : va k = true ∧ zwp fr to tm va f k (fr k) < tm k ∧ tm k < zwp fr to tm va f k (to k)
    · rw [if_pos c] at h; cases h
    · rw [if_neg c] at h ⊢
      obtain ⟨h1, h2⟩ := zwq_f k h
      refine ⟨h1, fun j hj g1 g2 => ?_⟩
      by_cases e : j = k
      · subst e
        rw [h1] at c
        have : ¬ tm j < f (to j) := fun q => c ⟨g1, g2, q⟩
        omega
      · exact h2 j (by omega) g1 g2
theorem zwp_sup {n a : Nat} {f : Nat → Int} (ht : ∀ j, j < n → 0 ≤ tm j ∧ tm j ≤ 999) (h : zwsup fr to tm va n a f) : ∀ k, k ≤ n → zwsup fr to tm va n a (zwp fr to tm va f k)
  | 0, _ => h
  | k + 1, hk => by
    have ih := zwp_sup ht h k (by omega)
    rw [zwp]
    by_cases c : va k = true ∧ zwp fr to tm va f k (fr k) < tm k ∧ tm k < zwp fr to tm va f k (to k)
    · rw [if_pos c]
      generalize zwp fr to tm va f k = g at *
      obtain ⟨c1, c2, c3⟩ := c
      have t0 := ht k (by omega)
      have na : to k ≠ a := fun e => by rw [e, ih.1] at c3; omega
      have le : ∀ x, zst1 g (to k) (tm k) x ≤ g x := fun x => by
        unfold zst1; split
        · rename_i e; rw [e]; omega
        · exact Int.le_refl _
      refine ⟨by unfold zst1; rw [if_neg (fun e => na e.symm)]; exact ih.1, fun d hd => ?_⟩
      by_cases e : d = to k
      · right
        refine ⟨k, by omega, c1, e.symm, by unfold zst1; rw [if_pos e], ?_⟩
        have := le (fr k); omega
      · rcases ih.2 d hd with h1 | ⟨j, j1, j2, j3, j4, j5⟩
        · left; unfold zst1; rw [if_neg e]; exact h1
        · right
          refine ⟨j, j1, j2, j3, by unfold zst1; rw [if_neg e]; exact j4, ?_⟩
          have := le (fr j); omega
    · rw [if_neg c]; exact ih
theorem zwp_m {n a : Nat} {f : Nat → Int} (hto : ∀ j, j < n → to j < 12) (ht : ∀ j, j < n → 0 ≤ tm j ∧ tm j ≤ 999) : ∀ k, k ≤ n → zwm (zwp fr to tm va f k) ≤ zwm f ∧ (zwq fr to tm va f k = true → zwm (zwp fr to tm va f k) < zwm f)
  | 0, _ => ⟨Nat.le_refl _, fun h => by cases h⟩
  | k + 1, hk => by
    obtain ⟨i1, i2⟩ := zwp_m (n := n) (a := a) (f := f) hto ht k (by omega)
    rw [zwp, zwq]
    by_cases c : va k = true ∧ zwp fr to tm va f k (fr k) < tm k ∧ tm k < zwp fr to tm va f k (to k)
    · rw [if_pos c, if_pos c]
      have t0 := ht k (by omega)
      have : zwm (zst1 (zwp fr to tm va f k) (to k) (tm k)) < zwm (zwp fr to tm va f k) := by
        generalize zwp fr to tm va f k = g at *
        refine zns_lt (i := to k) (fun d => ?_) ?_ 12 (hto k (by omega))
        · unfold zst1; split
          · rename_i e; rw [e]; omega
          · exact Nat.le_refl _
        · unfold zst1; rw [if_pos rfl]; omega
      exact ⟨by omega, fun _ => by omega⟩
    · rw [if_neg c, if_neg c]; exact ⟨i1, i2⟩
end W
/-- the words as they lie in the rows -/
def zWd (I : Nat → Nat → Int32) (n : Nat) (fr to : Nat → Nat) (tm : Nat → Int) (va : Nat → Bool) (m mn : Int32) : Prop := n ≤ 40 ∧ I 63 4 = nI n ∧ I 97 34 = nI n ∧ I 64 = I 119 ∧ I 65 = I 120 ∧ I 66 = I 121 ∧ I 67 = I 122 ∧ ∀ k, k < n → I 64 k = nI (fr k) ∧ fr k < 12 ∧ I 65 k = nI (to k) ∧ to k < 12 ∧ (I 67 k).toInt = tm k ∧ (0 ≤ tm k ∧ tm k ≤ 999) ∧ (va k = true ↔ (I 66 k = m ∧ tm k ≤ mn.toInt))
theorem zWd_of {I : Nat → Nat → Int32} {n w : Nat} (hn : n ≤ 12) (hW : zvW I n w) (m mn : Int32) : zWd I w (fun k => (I 64 k).toNatClampNeg) (fun k => (I 65 k).toNatClampNeg) (fun k => (I 67 k).toInt) (fun k => decide (I 66 k = m ∧ (I 67 k).toInt ≤ mn.toInt)) m mn := by
  obtain ⟨h1, h2, h3, h4, h5, h6, h7, h8⟩ := hW
  refine ⟨h1, h2, h3, h4, h5, h6, h7, fun k hk => ?_⟩
  obtain ⟨a, b, mm, t, g1, g2, g3, g4, g5, g6, g7, g8, g9⟩ := h8 k hk
  show I 64 k = nI (I 64 k).toNatClampNeg ∧ (I 64 k).toNatClampNeg < 12 ∧ I 65 k = nI (I 65 k).toNatClampNeg ∧ (I 65 k).toNatClampNeg < 12 ∧ (I 67 k).toInt = (I 67 k).toInt ∧ (0 ≤ (I 67 k).toInt ∧ (I 67 k).toInt ≤ 999) ∧ (decide (I 66 k = m ∧ (I 67 k).toInt ≤ mn.toInt) = true ↔ (I 66 k = m ∧ (I 67 k).toInt ≤ mn.toInt))
  rw [g6, g7, g9, zcl (show a < 12 by omega) (by decide), zcl (show b < 12 by omega) (by decide), nI_toInt (show t < 2 ^ 31 by omega)]
  exact ⟨rfl, by omega, rfl, by omega, rfl, by omega, decide_eq_true_iff⟩
theorem zWd.fr {I J : Nat → Nat → Int32} {n : Nat} {f t : Nat → Nat} {tm : Nat → Int} {va : Nat → Bool} {m mn : Int32} (h : zWd I n f t tm va m mn) (r : zFr I J) : zWd J n f t tm va m mn := by
  unfold zWd
  rw [r.rw 64 (by omega), r.rw 65 (by omega), r.rw 66 (by omega), r.rw 67 (by omega), r.rw 119 (by omega), r.rw 120 (by omega), r.rw 121 (by omega), r.rw 122 (by omega), r 63 4 rfl, r 97 34 rfl]
  exact h
def zFt (I J : Nat → Nat → Int32) : Prop := ∀ b, b ≠ 69 → b ≠ 70 → J b = I b
theorem zFt.rf {I : Nat → Nat → Int32} : zFt I I := fun _ _ _ => rfl
theorem zFt.tr {I J K : Nat → Nat → Int32} (h1 : zFt I J) (h2 : zFt J K) : zFt I K := fun b p q => (h2 b p q).trans (h1 b p q)
theorem zFt.fr {I J : Nat → Nat → Int32} (h : zFt I J) : zFr I J := fun a j hs => by
  rw [h a (fun e => by subst e; simp [zscr] at hs) (fun e => by subst e; simp [zscr] at hs)]
theorem zFt.u {I J : Nat → Nat → Int32} {b j : Nat} {v : Int32} (h : zFt I J) (hb : b = 69 ∨ b = 70) : zFt I (az_uI J b j v) := fun c p q => by rw [zu_row (by omega)]; exact h c p q
theorem zFt.c {I J : Nat → Nat → Int32} {b : Nat} {f : Nat → Int32} (h : zFt I J) (hb : b = 69 ∨ b = 70) : zFt I (az_uC J b f) := fun c p q => by
  funext k; unfold az_uC; rw [if_neg (by omega), h c p q]
/-- a bit for each that is told -/
def zkb (f : Nat → Int) (d : Nat) : Int32 := if f d < 1000 then 1 <<< (nI d &&& 31) else 0
theorem zupI {A : Nat → Int32} {g : Nat → Int} {x : Nat} {v : Int32} {t : Int} (h : ∀ d, d < 12 → (A d).toInt = g d) (e : v.toInt = t) : ∀ d, d < 12 → (if d = x then v else A d).toInt = zst1 g x t d := fun d hd => by
  unfold zst1; split
  · exact e
  · exact h d hd
section S
variable {d : Nat} {I : Nat → Nat → Int32} {L : Nat → Nat → Int64} {h : az_H}
theorem s_X9_startFrom {a : Nat} (ha : a < 12) : zE (d + 1) 87 [.ref 63, .int (nI a)] I L none (fun J L' => L' = L ∧ zFt I J ∧ ∀ x, x < 12 → (J 69 x).toInt = if x = a then -1 else 1000) := by
  refine zE_of zm_X9_startFrom rfl ?_
  show az_W _ _ _ 0 [.ref 63, .int (nI a), .null] [] _
  simp only [u_X9_startFrom_0, u_X9_startFrom_1, az_un_i, az_un_r, az_un_n, az_un_l, Option.toList_some, Option.toList_none, List.cons_append, List.nil_append, List.length_cons, List.length_nil, Nat.reduceLeDiff, Nat.reduceAdd, Nat.zero_le, Nat.zero_add, and_true, true_and, zb_1, eq_self]
  refine zloop (P := fun k => ∀ J, zFt I J → (∀ x, x < k → J 69 x = 1000) → az_W (zD d) _ _ 2 [.ref 63, .int (nI a), .int (nI k)] [] (130, az_Pf, J, L)) 12 (fun k hk ih J f a1 => ?_) (fun J f a1 => ?_) 0 (Nat.zero_le _) I zFt.rf (fun x hx => absurd hx (Nat.not_lt_zero _))
  · have h1 : ¬ (12 : Int32) ≤ nI k := nI_ge (b := 12) hk (by decide)
    simp only [u_X9_startFrom_2]
    simp only [u_X9_startFrom_3, u_X9_startFrom_5, u_X9_startFrom_8, u_X9_startFrom_9, u_X9_startFrom_12, u_X9_startFrom_13, u_X9_startFrom_16, u_X9_startFrom_17, u_X9_startFrom_20, u_X9_startFrom_23, u_X9_startFrom_24, u_X9_startFrom_27, u_X9_startFrom_28, u_X9_startFrom_29, u_X9_startFrom_30, az_un_i, az_un_r, az_un_n, az_un_l, Option.toList_some, Option.toList_none, List.cons_append, List.nil_append, List.length_cons, List.length_nil, Nat.reduceLeDiff, Nat.reduceAdd, Nat.zero_le, Nat.zero_add, and_true, true_and, zb_1, eq_self, h1, if_false, kx_69, zinT hk (by decide), zcl hk (by decide)]
    rw [nI_succ] at ih
    refine ih _ (f.u (Or.inl rfl)) (fun x hx => ?_)
    rw [az_uI_at]
    by_cases c : x = k
    · rw [if_pos ⟨rfl, c⟩]
    · rw [if_neg (by omega)]; exact a1 x (by omega)
  · have h1 : (12 : Int32) ≤ nI 12 := by decide
    simp only [u_X9_startFrom_2]
    simp only [u_X9_startFrom_3, u_X9_startFrom_5, u_X9_startFrom_8, u_X9_startFrom_9, u_X9_startFrom_12, u_X9_startFrom_13, u_X9_startFrom_16, u_X9_startFrom_17, u_X9_startFrom_20, u_X9_startFrom_23, u_X9_startFrom_24, u_X9_startFrom_27, u_X9_startFrom_28, u_X9_startFrom_29, u_X9_startFrom_30, az_un_i, az_un_r, az_un_n, az_un_l, Option.toList_some, Option.toList_none, List.cons_append, List.nil_append, List.length_cons, List.length_nil, Nat.reduceLeDiff, Nat.reduceAdd, Nat.zero_le, Nat.zero_add, and_true, true_and, zb_1, eq_self, h1, if_true, kx_69, zinT ha (by decide), zcl ha (by decide), zR_at]
    refine ⟨f.u (Or.inl rfl), fun x hx => ?_⟩
    rw [az_uI_at]
    by_cases c : x = a
    · rw [if_pos ⟨rfl, c⟩, if_pos c]; rfl
    · rw [if_neg (by omega), if_neg c, a1 x hx]; rfl
theorem s_X9_followOne {n : Nat} {fr to : Nat → Nat} {tm : Nat → Int} {va : Nat → Bool} {m mn : Int32} {g : Nat → Int} (hw : zWd I n fr to tm va m mn) (hg : ∀ x, x < 12 → (I 69 x).toInt = g x) : zE (d + 1) 88 [.ref 63, .int m, .int mn] I L none (fun J L' => L' = L ∧ zFt I J ∧ ∀ x, x < 12 → (J 69 x).toInt = zwh fr to tm va g n x) := by
  refine zE_of zm_X9_followOne rfl ?_
  show az_W _ _ _ 0 [.ref 63, .int m, .int mn, .null, .null, .null] [] _
  have hcp : (0 ≤ (0 : Int32).toInt ∧ 0 ≤ (0 : Int32).toInt ∧ 0 ≤ (12 : Int32).toInt ∧ (0 : Int32).toInt + (12 : Int32).toInt ≤ (12 : Nat) ∧ (0 : Int32).toInt + (12 : Int32).toInt ≤ (12 : Nat)) = True := by decide
  simp only [u_X9_followOne_0, u_X9_followOne_1, u_X9_followOne_4, u_X9_followOne_5, u_X9_followOne_6, u_X9_followOne_9, u_X9_followOne_10, u_X9_followOne_12, u_X9_followOne_15, u_X9_followOne_16, az_un_i, az_un_r, az_un_n, az_un_l, Option.toList_some, Option.toList_none, List.cons_append, List.nil_append, List.length_cons, List.length_nil, Nat.reduceLeDiff, Nat.reduceAdd, Nat.zero_le, Nat.zero_add, and_true, true_and, zb_1, eq_self, kx_69, kx_70, hcp]
  have cc : ∀ (f q : Nat → Int32) x, x < 12 → va_cpy f q (0 : Int32).toNatClampNeg (0 : Int32).toNatClampNeg (12 : Int32).toNatClampNeg x = f x := fun f q x hx => by
    unfold va_cpy
    rw [show (0 : Int32).toNatClampNeg = 0 from rfl, show (12 : Int32).toNatClampNeg = 12 from rfl, if_pos (by omega)]
    congr 1; omega
  refine zloop (P := fun k => ∀ J v4 v5, zFt I J → (∀ x, x < 12 → (J 69 x).toInt = g x) → (∀ x, x < 12 → (J 70 x).toInt = zwh fr to tm va g k x) → az_W (zD d) _ _ 17 [.ref 63, .int m, .int mn, .int (nI k), v4, v5] [] (130, az_Pf, J, L)) n (fun k hk ih J v4 v5 f a1 a2 => ?_) (fun J v4 v5 f a1 a2 => ?_) 0 (Nat.zero_le _) _ _ _ (zFt.rf.c (Or.inr rfl)) (fun x hx => by unfold az_uC; rw [if_neg (by decide)]; exact hg x hx) (fun x hx => by unfold az_uC; rw [if_pos rfl, cc _ _ x hx]; exact hg x hx)
  · have hwJ := hw.fr f.fr
    obtain ⟨w1, w2, w3, w4, w5, w6, w7, w8⟩ := hwJ
    have h1 : ¬ nI n ≤ nI k := nI_ge hk (by omega)
    obtain ⟨k1, k2, k3, k4, k5, k6, k7⟩ := w8 k hk
    have c1 : (mn < J 67 k) ↔ ¬ tm k ≤ mn.toInt := by rw [Int32.lt_iff_toInt_lt, k5]; omega
    have c2 : (J 67 k ≤ J 69 (fr k)) ↔ ¬ g (fr k) < tm k := by rw [Int32.le_iff_toInt_le, k5, a1 _ k2]; omega
    have c3 : (J 70 (to k) ≤ J 67 k) ↔ ¬ tm k < zwh fr to tm va g k (to k) := by rw [Int32.le_iff_toInt_le, k5, a2 _ k4]; omega
    rw [show nI (k + 1) = nI k + 1 from nI_succ k, zwh] at ih
    simp only [u_X9_followOne_17]
    simp only [u_X9_followOne_18, u_X9_followOne_19, u_X9_followOne_22, u_X9_followOne_25, u_X9_followOne_26, u_X9_followOne_29, u_X9_followOne_30, u_X9_followOne_31, u_X9_followOne_33, u_X9_followOne_34, u_X9_followOne_37, u_X9_followOne_38, u_X9_followOne_39, u_X9_followOne_40, u_X9_followOne_43, u_X9_followOne_45, u_X9_followOne_46, u_X9_followOne_49, u_X9_followOne_51, u_X9_followOne_52, u_X9_followOne_55, u_X9_followOne_56, u_X9_followOne_59, u_X9_followOne_60, u_X9_followOne_61, u_X9_followOne_62, u_X9_followOne_65, u_X9_followOne_66, u_X9_followOne_69, u_X9_followOne_70, u_X9_followOne_72, u_X9_followOne_74, u_X9_followOne_77, u_X9_followOne_79, u_X9_followOne_80, u_X9_followOne_83, u_X9_followOne_84, u_X9_followOne_87, u_X9_followOne_88, u_X9_followOne_89, u_X9_followOne_90, u_X9_followOne_93, u_X9_followOne_94, u_X9_followOne_97, u_X9_followOne_98, u_X9_followOne_101, u_X9_followOne_102, u_X9_followOne_103, u_X9_followOne_105, u_X9_followOne_106, u_X9_followOne_109, az_un_i, az_un_r, az_un_n, az_un_l, Option.toList_some, Option.toList_none, List.cons_append, List.nil_append, List.length_cons, List.length_nil, Nat.reduceLeDiff, Nat.reduceAdd, Nat.zero_le, Nat.zero_add, and_true, true_and, zb_1, eq_self, w2, h1, if_false, kx_64, kx_65, kx_66, kx_67, kx_69, kx_70, zinT (show k < 40 by omega) (by decide), zcl (show k < 40 by omega) (by decide), k1, k3, zinT k2 (by decide), zcl k2 (by decide), zinT k4 (by decide), zcl k4 (by decide), c1, c2, c3, z10, if_true]
    have no : ¬ (va k = true ∧ g (fr k) < tm k ∧ tm k < zwh fr to tm va g k (to k)) → ∀ v4 v5, az_W (zD d) (zR none (fun J L' => L' = L ∧ zFt I J ∧ ∀ x, x < 12 → (J 69 x).toInt = zwh fr to tm va g n x)) k_X9_followOne 17 [.ref 63, .int m, .int mn, .int (nI k + 1), v4, v5] [] (130, az_Pf, J, L) := fun q v4 v5 => by
      rw [if_neg q] at ih; exact ih J v4 v5 f a1 a2
    by_cases g1 : J 66 k = m
    · rw [if_pos g1]
      by_cases g2 : tm k ≤ mn.toInt
      · rw [if_neg (fun z => z g2)]
        have gv := k7.mpr ⟨g1, g2⟩
        by_cases g3 : g (fr k) < tm k
        · rw [if_neg (fun z => z g3)]
          by_cases g4 : tm k < zwh fr to tm va g k (to k)
          · rw [if_pos ⟨gv, g3, g4⟩] at ih
            rw [if_neg (fun z => z g4)]
            refine ih _ _ _ (f.u (Or.inr rfl)) (fun x hx => by simp only [az_uI_at, az_uL_at, Nat.reduceEqDiff, false_and, and_false, and_self, if_true, if_false, ite_true, ite_false]; exact a1 x hx) (fun x hx => ?_)
            rw [az_uI_at]
            have := zupI (x := to k) a2 k5 x hx
            simp only [true_and]; exact this
          · rw [if_pos g4]; exact no (fun q => g4 q.2.2) _ _
        · rw [if_pos g3]; exact no (fun q => g3 q.2.1) _ _
      · rw [if_pos g2]; exact no (fun q => g2 (k7.mp q.1).2) _ _
    · rw [if_neg g1]; exact no (fun q => g1 (k7.mp q.1).1) _ _
  · have hwJ := hw.fr f.fr
    have h1 : nI n ≤ nI n := nI_le (Nat.le_refl _) (by have := hw.1; omega)
    simp only [u_X9_followOne_17]
    simp only [u_X9_followOne_18, u_X9_followOne_19, u_X9_followOne_22, u_X9_followOne_112, u_X9_followOne_113, u_X9_followOne_116, u_X9_followOne_117, u_X9_followOne_118, u_X9_followOne_121, u_X9_followOne_122, u_X9_followOne_124, u_X9_followOne_127, az_un_i, az_un_r, az_un_n, az_un_l, Option.toList_some, Option.toList_none, List.cons_append, List.nil_append, List.length_cons, List.length_nil, Nat.reduceLeDiff, Nat.reduceAdd, Nat.zero_le, Nat.zero_add, and_true, true_and, zb_1, eq_self, hwJ.2.1, h1, if_true, kx_69, kx_70, hcp, zR_at]
    refine ⟨f.c (Or.inl rfl), fun x hx => ?_⟩
    unfold az_uC; rw [if_pos rfl, cc _ _ x hx]; exact a2 x hx
theorem zwg_b {n a : Nat} {fr to : Nat → Nat} {tm : Nat → Int} {va : Nat → Bool} {x : Nat} : ∀ r, zwg fr to tm va n a r x ≤ 1000
  | 0 => by rw [zwg_0]; split <;> omega
  | r + 1 => by
    have := zwg_s (fr := fr) (to := to) (tm := tm) (va := va) (n := n) (a := a) (r := r) (d := x)
    have := zwg_b (fr := fr) (to := to) (tm := tm) (va := va) (n := n) (a := a) (x := x) r
    omega
theorem s_X9_knowers {n a : Nat} {fr to : Nat → Nat} {tm : Nat → Int} {va : Nat → Bool} {m mn : Int32} (ha : a < 12) (hw : zWd I n fr to tm va m mn) : zE (d + 2) 85 [.ref 63, .int (nI a), .int m, .int mn] I L (some (.int (zor (zkb (zwg fr to tm va n a 11)) 12))) (fun J _ => zFr I J) := by
  refine zE_of zm_X9_knowers rfl ?_
  show az_W _ _ _ 0 [.ref 63, .int (nI a), .int m, .int mn, .null, .null] [] _
  obtain ⟨J0, L0, c0, q0, f0, e0⟩ := s_X9_startFrom (d := d) (I := I) (L := L) ha
  subst q0
  obtain ⟨R, eR⟩ : ∃ R, R = zor (zkb (zwg fr to tm va n a 11)) 12 := ⟨_, rfl⟩
  rw [← eR]
  simp only [u_X9_knowers_0, u_X9_knowers_1, u_X9_knowers_2, u_X9_knowers_5, u_X9_knowers_6, az_un_i, az_un_r, az_un_n, az_un_l, Option.toList_some, Option.toList_none, List.cons_append, List.nil_append, List.length_cons, List.length_nil, Nat.reduceLeDiff, Nat.reduceAdd, Nat.zero_le, Nat.zero_add, and_true, true_and, zb_1, eq_self, az_call c0]
  refine zloop (P := fun r => ∀ J, zFt I J → (∀ x, x < 12 → (J 69 x).toInt = zwg fr to tm va n a r x) → az_W (zD (d + 1)) _ _ 8 [.ref 63, .int (nI a), .int m, .int mn, .int (nI (r + 1)), .null] [] (130, az_Pf, J, L0)) 11 (fun r hr ih J f a1 => ?_) (fun J f a1 => ?_) 0 (Nat.zero_le _) J0 f0 (fun x hx => by rw [zwg_0]; exact e0 x hx)
  · have h1 : ¬ (12 : Int32) ≤ nI (r + 1) := nI_ge (b := 12) (show r + 1 < 12 by omega) (by decide)
    obtain ⟨J2, L2, c2, q0, f2, e2⟩ := s_X9_followOne (d := d) (I := J) (L := L0) (hw.fr f.fr) a1
    subst q0
    rw [show nI (r + 1 + 1) = nI (r + 1) + 1 from nI_succ (r + 1)] at ih
    simp only [u_X9_knowers_8]
    simp only [u_X9_knowers_10, u_X9_knowers_12, u_X9_knowers_15, u_X9_knowers_16, u_X9_knowers_17, u_X9_knowers_18, u_X9_knowers_21, u_X9_knowers_24, az_un_i, az_un_r, az_un_n, az_un_l, Option.toList_some, Option.toList_none, List.cons_append, List.nil_append, List.length_cons, List.length_nil, Nat.reduceLeDiff, Nat.reduceAdd, Nat.zero_le, Nat.zero_add, and_true, true_and, zb_1, eq_self, h1, if_false, az_call c2]
    exact ih J2 (f.tr f2) (fun x hx => by rw [zwg]; exact e2 x hx)
  · have h1 : (12 : Int32) ≤ nI (11 + 1) := by decide
    simp only [u_X9_knowers_8]
    simp only [u_X9_knowers_10, u_X9_knowers_12, u_X9_knowers_27, u_X9_knowers_28, u_X9_knowers_30, u_X9_knowers_31, az_un_i, az_un_r, az_un_n, az_un_l, Option.toList_some, Option.toList_none, List.cons_append, List.nil_append, List.length_cons, List.length_nil, Nat.reduceLeDiff, Nat.reduceAdd, Nat.zero_le, Nat.zero_add, and_true, true_and, zb_1, eq_self, h1, if_true]
    have b1 := fun x => zwg_b (fr := fr) (to := to) (tm := tm) (va := va) (n := n) (a := a) (x := x) 11
    generalize zwg fr to tm va n a 11 = g at *
    refine zloop (P := fun k => az_W (zD (d + 1)) _ _ 33 [.ref 63, .int (nI a), .int m, .int mn, .int (zor (zkb g) k), .int (nI k)] [] (130, az_Pf, J, L0)) 12 (fun k hk ih => ?_) ?_ 0 (Nat.zero_le _)
    · have h1 : ¬ (12 : Int32) ≤ nI k := nI_ge (b := 12) hk (by decide)
      have c1 : (J 69 k = 1000) ↔ ¬ g k < 1000 := by
        rw [← Int32.toInt_inj, a1 k hk, show (1000 : Int32).toInt = 1000 from rfl]; have := b1 k; omega
      rw [nI_succ, zor] at ih
      unfold zkb at ih
      simp only [u_X9_knowers_33]
      simp only [u_X9_knowers_35, u_X9_knowers_37, u_X9_knowers_40, u_X9_knowers_41, u_X9_knowers_44, u_X9_knowers_46, u_X9_knowers_47, u_X9_knowers_50, u_X9_knowers_53, u_X9_knowers_55, u_X9_knowers_56, u_X9_knowers_58, u_X9_knowers_59, u_X9_knowers_60, u_X9_knowers_62, u_X9_knowers_65, az_un_i, az_un_r, az_un_n, az_un_l, Option.toList_some, Option.toList_none, List.cons_append, List.nil_append, List.length_cons, List.length_nil, Nat.reduceLeDiff, Nat.reduceAdd, Nat.zero_le, Nat.zero_add, and_true, true_and, zb_1, eq_self, h1, if_false, kx_69, zinT hk (by decide), zcl hk (by decide), c1]
      by_cases g1 : g k < 1000
      · rw [if_pos g1] at ih
        rw [if_neg (fun z => z g1)]; exact ih
      · rw [if_neg g1, Int32.or_zero] at ih
        rw [if_pos g1]; exact ih
    · have h1 : (12 : Int32) ≤ nI 12 := by decide
      simp only [u_X9_knowers_33]
      simp only [u_X9_knowers_35, u_X9_knowers_37, u_X9_knowers_68, u_X9_knowers_70, az_un_i, az_un_r, az_un_n, az_un_l, Option.toList_some, Option.toList_none, List.cons_append, List.nil_append, List.length_cons, List.length_nil, Nat.reduceLeDiff, Nat.reduceAdd, Nat.zero_le, Nat.zero_add, and_true, true_and, zb_1, eq_self, h1, if_true, zR_at, ← eR]
      exact f.fr
theorem s_X10_knew_bad {x y z : Int32} {n : Nat} (hn : I 49 1 = nI n) (hle : n ≤ 12) (hb : ¬ ((0 ≤ x.toInt ∧ x.toInt < (n : Int)) ∧ (0 ≤ y.toInt ∧ y.toInt ≤ 29) ∧ (0 ≤ z.toInt ∧ z.toInt ≤ 999))) : zD (d + 4) 119 [.ref 0, .int x, .int y, .int z] (130, az_Pf, I, L) (some (.int (-1))) (130, az_Pf, I, L) := by
  refine zD_of zm_X10_knew rfl ?_
  show az_W _ _ _ 0 [.ref 0, .int x, .int y, .int z] [] _
  simp only [u_X10_knew_0, u_X10_knew_1, u_X10_knew_4, u_X10_knew_5, u_X10_knew_8, u_X10_knew_11, u_X10_knew_12, u_X10_knew_15, u_X10_knew_18, u_X10_knew_19, u_X10_knew_20, u_X10_knew_23, u_X10_knew_26, u_X10_knew_29, u_X10_knew_30, u_X10_knew_31, u_X10_knew_32, u_X10_knew_35, u_X10_knew_36, u_X10_knew_37, u_X10_knew_38, u_X10_knew_41, az_un_i, az_un_r, az_un_n, az_un_l, Option.toList_some, Option.toList_none, List.cons_append, List.nil_append, List.length_cons, List.length_nil, Nat.reduceLeDiff, Nat.reduceAdd, Nat.zero_le, Nat.zero_add, and_true, true_and, zb_1, eq_self, zb_0, az_call (s_X0_hasN hn hle), az_call s_X10_isMorning, az_call s_X10_isIn, zl_0, zj_0, zl_1, zj_1, zl_2, zj_2, zl_3, zj_3, zl_4, zj_4, zl_5, zj_5, zl_6, zj_6, zl_7, zj_7, zl_8, zj_8, zl_9, zj_9, zl_10, zj_10, zl_11, zj_11, zl_12, zj_12, zl_15, zj_15, zl_16, zj_16, zl_20, zj_20, zl_24, zj_24, zl_29, zj_29, zl_30, zj_30, zl_31, zj_31, zl_32, zj_32, zl_40, zj_40, zl_48, zj_48, zl_57, zj_57, zl_59, zj_59, zl_60, zj_60, zl_63, zj_63, zl_99, zj_99, zl_100, zj_100, zl_126, zj_126, zl_144, zj_144, zl_200, zj_200, zl_240, zj_240, zl_255, zj_255, zl_256, zj_256, zl_999, zj_999, zl_1000, zj_1000, zlm_1, zjm_1, zlm_2, zjm_2, zlm_3, zjm_3, zlm_4, zjm_4, zlm_11, zjm_11, zlm_12, zjm_12, zlm_13, zjm_13, zlm_14, zjm_14, zlm_20, zjm_20, zlm_10001, zjm_10001, zlm_10002, zjm_10002]
  by_cases h1 : 0 ≤ x.toInt ∧ x.toInt < (n : Int) <;> by_cases h2 : 0 ≤ y.toInt ∧ y.toInt ≤ 29 <;> by_cases h3 : 0 ≤ z.toInt ∧ z.toInt ≤ 999 <;> simp only [h1, h2, h3, and_self, and_true, true_and, if_true, if_false, not_true, not_false_iff, not_true_eq_false, not_false_eq_true, ite_true, ite_false]
  exact absurd ⟨h1, h2, h3⟩ hb
theorem s_X11_knew_bad {x y z : Int32} {n : Nat} (hn : I 97 17 = nI n) (hle : n ≤ 12) (hb : ¬ ((0 ≤ x.toInt ∧ x.toInt < (n : Int)) ∧ (0 ≤ y.toInt ∧ y.toInt ≤ 29) ∧ (0 ≤ z.toInt ∧ z.toInt ≤ 999))) : zD (d + 4) 193 [.ref 97, .int x, .int y, .int z] (130, az_Pf, I, L) (some (.int (-1))) (130, az_Pf, I, L) := by
  refine zD_of zm_X11_knew rfl ?_
  show az_W _ _ _ 0 [.ref 97, .int x, .int y, .int z, .null, .null, .null] [] _
  simp only [u_X11_knew_0, u_X11_knew_1, u_X11_knew_2, u_X11_knew_5, u_X11_knew_8, u_X11_knew_9, u_X11_knew_12, u_X11_knew_15, u_X11_knew_16, u_X11_knew_17, u_X11_knew_18, u_X11_knew_21, u_X11_knew_24, u_X11_knew_27, u_X11_knew_28, u_X11_knew_29, u_X11_knew_30, u_X11_knew_34, u_X11_knew_36, u_X11_knew_39, u_X11_knew_40, u_X11_knew_43, u_X11_knew_45, u_X11_knew_47, u_X11_knew_48, u_X11_knew_51, u_X11_knew_52, u_X11_knew_55, u_X11_knew_58, u_X11_knew_59, u_X11_knew_62, u_X11_knew_65, u_X11_knew_66, u_X11_knew_70, u_X11_knew_73, u_X11_knew_74, u_X11_knew_76, u_X11_knew_77, u_X11_knew_81, u_X11_knew_82, u_X11_knew_85, u_X11_knew_88, u_X11_knew_89, u_X11_knew_92, u_X11_knew_94, u_X11_knew_95, u_X11_knew_96, u_X11_knew_99, u_X11_knew_100, u_X11_knew_103, u_X11_knew_105, u_X11_knew_106, u_X11_knew_107, u_X11_knew_110, u_X11_knew_111, u_X11_knew_114, u_X11_knew_115, u_X11_knew_118, u_X11_knew_120, u_X11_knew_121, u_X11_knew_122, u_X11_knew_123, u_X11_knew_126, u_X11_knew_128, u_X11_knew_129, u_X11_knew_132, u_X11_knew_133, u_X11_knew_136, u_X11_knew_137, u_X11_knew_139, u_X11_knew_141, u_X11_knew_144, u_X11_knew_145, u_X11_knew_148, u_X11_knew_150, u_X11_knew_151, u_X11_knew_152, u_X11_knew_155, u_X11_knew_156, u_X11_knew_159, u_X11_knew_161, u_X11_knew_162, u_X11_knew_163, u_X11_knew_166, u_X11_knew_167, u_X11_knew_170, u_X11_knew_171, u_X11_knew_174, u_X11_knew_176, u_X11_knew_177, u_X11_knew_178, u_X11_knew_181, u_X11_knew_183, u_X11_knew_184, u_X11_knew_185, u_X11_knew_186, u_X11_knew_188, u_X11_knew_191, u_X11_knew_194, u_X11_knew_197, u_X11_knew_198, u_X11_knew_200, u_X11_knew_201, u_X11_knew_205, u_X11_knew_207, u_X11_knew_210, u_X11_knew_212, u_X11_knew_213, u_X11_knew_216, u_X11_knew_218, u_X11_knew_219, u_X11_knew_222, u_X11_knew_225, u_X11_knew_226, u_X11_knew_228, u_X11_knew_229, u_X11_knew_232, u_X11_knew_233, u_X11_knew_234, u_X11_knew_236, u_X11_knew_239, u_X11_knew_242, u_X11_knew_244, az_un_i, az_un_r, az_un_n, az_un_l, Option.toList_some, Option.toList_none, List.cons_append, List.nil_append, List.length_cons, List.length_nil, Nat.reduceLeDiff, Nat.reduceAdd, Nat.zero_le, Nat.zero_add, and_true, true_and, zb_1, eq_self, zb_0, az_call (s_X11_isDesk hn hle), az_call s_X11_isMorning, az_call s_X11_in, z64, zl_0, zj_0, zl_1, zj_1, zl_2, zj_2, zl_3, zj_3, zl_4, zj_4, zl_5, zj_5, zl_6, zj_6, zl_7, zj_7, zl_8, zj_8, zl_9, zj_9, zl_10, zj_10, zl_11, zj_11, zl_12, zj_12, zl_15, zj_15, zl_16, zj_16, zl_20, zj_20, zl_24, zj_24, zl_29, zj_29, zl_30, zj_30, zl_31, zj_31, zl_32, zj_32, zl_40, zj_40, zl_48, zj_48, zl_57, zj_57, zl_59, zj_59, zl_60, zj_60, zl_63, zj_63, zl_99, zj_99, zl_100, zj_100, zl_126, zj_126, zl_144, zj_144, zl_200, zj_200, zl_240, zj_240, zl_255, zj_255, zl_256, zj_256, zl_999, zj_999, zl_1000, zj_1000, zlm_1, zjm_1, zlm_2, zjm_2, zlm_3, zjm_3, zlm_4, zjm_4, zlm_11, zjm_11, zlm_12, zjm_12, zlm_13, zjm_13, zlm_14, zjm_14, zlm_20, zjm_20, zlm_10001, zjm_10001, zlm_10002, zjm_10002]
  by_cases h1 : 0 ≤ x.toInt ∧ x.toInt < (n : Int) <;> by_cases h2 : 0 ≤ y.toInt ∧ y.toInt ≤ 29 <;> by_cases h3 : 0 ≤ z.toInt ∧ z.toInt ≤ 999 <;> simp only [h1, h2, h3, and_self, and_true, true_and, if_true, if_false, not_true, not_false_iff, not_true_eq_false, not_false_eq_true, ite_true, ite_false]
  exact absurd ⟨h1, h2, h3⟩ hb
theorem s_X10_knew {a nd c t e nl nr n w : Nat} {fr to : Nat → Nat} {tm : Nat → Int} {va : Nat → Bool} {m mn : Int32} (hG : zG I t e nl nr nd c w) (ha : a < nd) (hm : 0 ≤ m.toInt ∧ m.toInt ≤ 29) (hmn : 0 ≤ mn.toInt ∧ mn.toInt ≤ 999) (hw : zWd I n fr to tm va m mn) : zE (d + 4) 119 [.ref 0, .int (nI a), .int m, .int mn] I L (some (.int (zor (zkb (zwg fr to tm va n a 11)) 12))) (fun J _ => zFr I J) := by
  refine zE_of zm_X10_knew rfl ?_
  show az_W _ _ _ 0 [.ref 0, .int (nI a), .int m, .int mn] [] _
  have hD := hG.2.2.2.2.2.2.1
  have hle := hD.1
  obtain ⟨J, L', c1, q⟩ := s_X9_knowers (d := d + 1) (L := L) (show a < 12 by omega) hw
  obtain ⟨R, eR⟩ : ∃ R, R = zor (zkb (zwg fr to tm va n a 11)) 12 := ⟨_, rfl⟩
  rw [← eR] at c1 ⊢
  simp only [u_X10_knew_0, u_X10_knew_1, u_X10_knew_4, u_X10_knew_5, u_X10_knew_8, u_X10_knew_11, u_X10_knew_12, u_X10_knew_15, u_X10_knew_18, u_X10_knew_19, u_X10_knew_20, u_X10_knew_23, u_X10_knew_26, u_X10_knew_29, u_X10_knew_30, u_X10_knew_31, u_X10_knew_32, u_X10_knew_35, u_X10_knew_36, u_X10_knew_37, u_X10_knew_38, u_X10_knew_41, az_un_i, az_un_r, az_un_n, az_un_l, Option.toList_some, Option.toList_none, List.cons_append, List.nil_append, List.length_cons, List.length_nil, Nat.reduceLeDiff, Nat.reduceAdd, Nat.zero_le, Nat.zero_add, and_true, true_and, zb_1, eq_self, az_call (s_X0_hasN hD.2.1 hD.1), az_call s_X10_isMorning, az_call s_X10_isIn, zl_0, zj_0, zl_1, zj_1, zl_2, zj_2, zl_3, zj_3, zl_4, zj_4, zl_5, zj_5, zl_6, zj_6, zl_7, zj_7, zl_8, zj_8, zl_9, zj_9, zl_10, zj_10, zl_11, zj_11, zl_12, zj_12, zl_15, zj_15, zl_16, zj_16, zl_20, zj_20, zl_24, zj_24, zl_29, zj_29, zl_30, zj_30, zl_31, zj_31, zl_32, zj_32, zl_40, zj_40, zl_48, zj_48, zl_57, zj_57, zl_59, zj_59, zl_60, zj_60, zl_63, zj_63, zl_99, zj_99, zl_100, zj_100, zl_126, zj_126, zl_144, zj_144, zl_200, zj_200, zl_240, zj_240, zl_255, zj_255, zl_256, zj_256, zl_999, zj_999, zl_1000, zj_1000, zlm_1, zjm_1, zlm_2, zjm_2, zlm_3, zjm_3, zlm_4, zjm_4, zlm_11, zjm_11, zlm_12, zjm_12, zlm_13, zjm_13, zlm_14, zjm_14, zlm_20, zjm_20, zlm_10001, zjm_10001, zlm_10002, zjm_10002, zb_0, (eq_true (by rw [nI_toInt (by omega)]; omega) : (0 ≤ (nI a).toInt ∧ (nI a).toInt < (nd : Int)) = True), eq_true hm, eq_true hmn, and_self, and_true, true_and, if_true, if_false, not_true, not_false_iff, not_true_eq_false, not_false_eq_true, ite_true, ite_false, az_call c1, zR_at]
  exact q
theorem s_X11_knew {a nd c t e nl nr n w : Nat} {fr to : Nat → Nat} {tm : Nat → Int} {va : Nat → Bool} {m mn : Int32} (hG : zG I t e nl nr nd c w) (ha : a < nd) (hm : 0 ≤ m.toInt ∧ m.toInt ≤ 29) (hmn : 0 ≤ mn.toInt ∧ mn.toInt ≤ 999) (hw : zWd I n fr to tm va m mn) : zE (d + 4) 193 [.ref 97, .int (nI a), .int m, .int mn] I L (some (.int (zor (zkb (zwg fr to tm va n a 11)) 12))) (fun J _ => zFr I J) := by
  refine zE_of zm_X11_knew rfl ?_
  show az_W _ _ _ 0 [.ref 97, .int (nI a), .int m, .int mn, .null, .null, .null] [] _
  have hD := hG.2.2.2.2.2.2.1
  have hle := hD.1
  have ha12 : a < 12 := by omega
  have ht : ∀ j, j < n → 0 ≤ tm j ∧ tm j ≤ 999 := fun j hj => (hw.2.2.2.2.2.2.2 j hj).2.2.2.2.2.1
  have hfr : ∀ j, j < n → fr j < 12 := fun j hj => (hw.2.2.2.2.2.2.2 j hj).2.1
  have hto : ∀ j, j < n → to j < 12 := fun j hj => (hw.2.2.2.2.2.2.2 j hj).2.2.2.1
  have hn := hw.1
  have hfin : ∀ f : Nat → Int, zwfix fr to tm va n f → zwsup fr to tm va n a f → zor (zkb f) 12 = zor (zkb (zwg fr to tm va n a 11)) 12 := fun f h1 h2 => zor_c (fun k hk => by unfold zkb; rw [zw_eq h1 h2 ht hfr hk])
  obtain ⟨R, eR⟩ : ∃ R, R = zor (zkb (zwg fr to tm va n a 11)) 12 := ⟨_, rfl⟩
  rw [← eR] at hfin ⊢
  simp only [u_X11_knew_0, u_X11_knew_1, u_X11_knew_2, u_X11_knew_5, u_X11_knew_8, u_X11_knew_9, u_X11_knew_12, u_X11_knew_15, u_X11_knew_16, u_X11_knew_17, u_X11_knew_18, u_X11_knew_21, u_X11_knew_24, u_X11_knew_27, u_X11_knew_28, u_X11_knew_29, u_X11_knew_30, az_un_i, az_un_r, az_un_n, az_un_l, Option.toList_some, Option.toList_none, List.cons_append, List.nil_append, List.length_cons, List.length_nil, Nat.reduceLeDiff, Nat.reduceAdd, Nat.zero_le, Nat.zero_add, and_true, true_and, zb_1, eq_self, az_call (s_X11_isDesk hD.2.2.1 hD.1), az_call s_X11_isMorning, az_call s_X11_in, z64, zl_0, zj_0, zl_1, zj_1, zl_2, zj_2, zl_3, zj_3, zl_4, zj_4, zl_5, zj_5, zl_6, zj_6, zl_7, zj_7, zl_8, zj_8, zl_9, zj_9, zl_10, zj_10, zl_11, zj_11, zl_12, zj_12, zl_15, zj_15, zl_16, zj_16, zl_20, zj_20, zl_24, zj_24, zl_29, zj_29, zl_30, zj_30, zl_31, zj_31, zl_32, zj_32, zl_40, zj_40, zl_48, zj_48, zl_57, zj_57, zl_59, zj_59, zl_60, zj_60, zl_63, zj_63, zl_99, zj_99, zl_100, zj_100, zl_126, zj_126, zl_144, zj_144, zl_200, zj_200, zl_240, zj_240, zl_255, zj_255, zl_256, zj_256, zl_999, zj_999, zl_1000, zj_1000, zlm_1, zjm_1, zlm_2, zjm_2, zlm_3, zjm_3, zlm_4, zjm_4, zlm_11, zjm_11, zlm_12, zjm_12, zlm_13, zjm_13, zlm_14, zjm_14, zlm_20, zjm_20, zlm_10001, zjm_10001, zlm_10002, zjm_10002, zb_0, (eq_true (by rw [nI_toInt (by omega)]; omega) : (0 ≤ (nI a).toInt ∧ (nI a).toInt < (nd : Int)) = True), eq_true hm, eq_true hmn, and_self, and_true, true_and, if_true, if_false, not_true, not_false_iff, not_true_eq_false, not_false_eq_true, ite_true, ite_false]
  refine zloop (P := fun k => ∀ J, zF1 125 I J → (∀ x, x < k → (J 125 x).toInt = if x = a then -1 else 1000) → az_W (zD (d + 3)) _ _ 32 [.ref 97, .int (nI a), .int m, .int mn, .int (nI k), .null, .null] [] (130, az_Pf, J, L)) 12 (fun k hk ih J f a1 => ?_) (fun J f a1 => ?_) 0 (Nat.zero_le _) I zF1.rf (fun x hx => absurd hx (Nat.not_lt_zero _))
  · have h1 : ¬ (12 : Int32) ≤ nI k := nI_ge (b := 12) hk (by decide)
    rw [show nI (k + 1) = nI k + 1 from nI_succ k] at ih
    have ih := fun v (hv : v.toInt = if k = a then -1 else (1000 : Int)) => ih (az_uI J 125 k v) f.up (fun x hx => by
      rw [az_uI_at]
      by_cases c : x = k
      · rw [if_pos ⟨rfl, c⟩, c]; exact hv
      · rw [if_neg (by omega)]; exact a1 x (by omega))
    simp only [u_X11_knew_32]
    simp only [u_X11_knew_34, u_X11_knew_36, u_X11_knew_39, u_X11_knew_40, u_X11_knew_43, u_X11_knew_45, u_X11_knew_47, u_X11_knew_48, u_X11_knew_51, u_X11_knew_52, u_X11_knew_55, u_X11_knew_58, u_X11_knew_59, u_X11_knew_62, az_un_i, az_un_r, az_un_n, az_un_l, Option.toList_some, Option.toList_none, List.cons_append, List.nil_append, List.length_cons, List.length_nil, Nat.reduceLeDiff, Nat.reduceAdd, Nat.zero_le, Nat.zero_add, and_true, true_and, zb_1, eq_self, h1, if_false, kx_125, zinT hk (by decide), zcl hk (by decide), nI_eq (show k < 2 ^ 31 by omega) (show a < 2 ^ 31 by omega)]
    by_cases c : k = a
    · rw [if_pos c]; exact ih _ (by rw [if_pos c]; rfl)
    · rw [if_neg c]; exact ih _ (by rw [if_neg c]; rfl)
  · have h1 : (12 : Int32) ≤ nI 12 := by decide
    simp only [u_X11_knew_32]
    simp only [u_X11_knew_34, u_X11_knew_36, u_X11_knew_65, u_X11_knew_66, az_un_i, az_un_r, az_un_n, az_un_l, Option.toList_some, Option.toList_none, List.cons_append, List.nil_append, List.length_cons, List.length_nil, Nat.reduceLeDiff, Nat.reduceAdd, Nat.zero_le, Nat.zero_add, and_true, true_and, zb_1, eq_self, h1, if_true]
    have scr : ∀ j, zscr 125 j = true := fun j => rfl
    have outer : ∀ M, ∀ f : Nat → Int, zwm f = M → zwsup fr to tm va n a f → ∀ J v5 v6, zF1 125 I J → (∀ x, x < 12 → (J 125 x).toInt = f x) → az_W (zD (d + 3)) (zR (some (.int R)) (fun J _ => zFr I J)) k_X11_knew 68 [.ref 97, .int (nI a), .int m, .int mn, .int 1, v5, v6] [] (130, az_Pf, J, L) := by
      intro M
      induction M using Nat.strongRecOn with
      | _ M ihM =>
        intro f hM hs J v5 v6 fr1 e1
        simp only [u_X11_knew_68]
        simp only [u_X11_knew_70, u_X11_knew_73, u_X11_knew_74, u_X11_knew_76, u_X11_knew_77, az_un_i, az_un_r, az_un_n, az_un_l, Option.toList_some, Option.toList_none, List.cons_append, List.nil_append, List.length_cons, List.length_nil, Nat.reduceLeDiff, Nat.reduceAdd, Nat.zero_le, Nat.zero_add, and_true, true_and, zb_1, eq_self, z10, if_false]
        refine zloop (P := fun k => ∀ J v6, zF1 125 I J → (∀ x, x < 12 → (J 125 x).toInt = zwp fr to tm va f k x) → az_W (zD (d + 3)) _ _ 79 [.ref 97, .int (nI a), .int m, .int mn, .int (zb (zwq fr to tm va f k = true)), .int (nI k), v6] [] (130, az_Pf, J, L)) n (fun k hk ih J v6 f0 a1 => ?_) (fun J v6 f1 a1 => ?_) 0 (Nat.zero_le _) J v6 fr1 e1
        · have hwJ := hw.fr (f0.fr scr)
          obtain ⟨w1, w2, w3, w4, w5, w6, w7, w8⟩ := hwJ
          have h1 : ¬ nI n ≤ nI k := nI_ge hk (by omega)
          obtain ⟨k1, k2, k3, k4, k5, k6, k7⟩ := w8 k hk
          rw [w7] at k5
          rw [w4] at k1
          rw [w5] at k3
          rw [w6] at k7
          rw [show nI (k + 1) = nI k + 1 from nI_succ k, zwp, zwq] at ih
          obtain ⟨g, eg⟩ : ∃ g, g = zwp fr to tm va f k := ⟨_, rfl⟩
          rw [← eg] at a1 ih
          have c1 : (mn < J 122 k) ↔ ¬ tm k ≤ mn.toInt := by rw [Int32.lt_iff_toInt_lt, k5]; omega
          have c2 : (J 122 k ≤ J 125 (fr k)) ↔ ¬ g (fr k) < tm k := by rw [Int32.le_iff_toInt_le, k5, a1 _ k2]; omega
          have c3 : (J 125 (to k) ≤ J 122 k) ↔ ¬ tm k < g (to k) := by rw [Int32.le_iff_toInt_le, k5, a1 _ k4]; omega
          simp only [u_X11_knew_79]
          simp only [u_X11_knew_81, u_X11_knew_82, u_X11_knew_85, u_X11_knew_88, u_X11_knew_89, u_X11_knew_92, u_X11_knew_94, u_X11_knew_95, u_X11_knew_96, u_X11_knew_99, u_X11_knew_100, u_X11_knew_103, u_X11_knew_105, u_X11_knew_106, u_X11_knew_107, u_X11_knew_110, u_X11_knew_111, u_X11_knew_114, u_X11_knew_115, u_X11_knew_118, u_X11_knew_120, u_X11_knew_121, u_X11_knew_122, u_X11_knew_123, u_X11_knew_126, u_X11_knew_128, u_X11_knew_129, u_X11_knew_132, u_X11_knew_133, u_X11_knew_136, u_X11_knew_137, u_X11_knew_139, u_X11_knew_141, u_X11_knew_144, u_X11_knew_145, u_X11_knew_148, u_X11_knew_150, u_X11_knew_151, u_X11_knew_152, u_X11_knew_155, u_X11_knew_156, u_X11_knew_159, u_X11_knew_161, u_X11_knew_162, u_X11_knew_163, u_X11_knew_166, u_X11_knew_167, u_X11_knew_170, u_X11_knew_171, u_X11_knew_174, u_X11_knew_176, u_X11_knew_177, u_X11_knew_178, u_X11_knew_181, u_X11_knew_183, u_X11_knew_184, u_X11_knew_185, u_X11_knew_186, u_X11_knew_188, u_X11_knew_191, az_un_i, az_un_r, az_un_n, az_un_l, Option.toList_some, Option.toList_none, List.cons_append, List.nil_append, List.length_cons, List.length_nil, Nat.reduceLeDiff, Nat.reduceAdd, Nat.zero_le, Nat.zero_add, and_true, true_and, zb_1, eq_self, w3, h1, if_false, kx_119, kx_120, kx_121, kx_122, kx_125, zinT (show k < 40 by omega) (by decide), zcl (show k < 40 by omega) (by decide), k1, k3, zinT k2 (by decide), zcl k2 (by decide), zinT k4 (by decide), zcl k4 (by decide), c1, c2, c3, z10, if_true]
          by_cases gg : va k = true ∧ g (fr k) < tm k ∧ tm k < g (to k)
          · rw [if_pos gg, if_pos gg] at ih
            obtain ⟨g0, g3, g4⟩ := gg
            obtain ⟨g1, g2⟩ := k7.mp g0
            rw [if_pos g1, if_neg (fun z => z g2), if_neg (fun z => z g3), if_neg (fun z => z g4)]
            exact ih _ _ f0.up (fun x hx => by
              rw [az_uI_at]
              have := zupI (x := to k) a1 k5 x hx
              simp only [true_and]; exact this)
          · rw [if_neg gg, if_neg gg] at ih
            have ih := fun v6 => ih J v6 f0 a1
            by_cases g1 : J 121 k = m
            · rw [if_pos g1]
              by_cases g2 : tm k ≤ mn.toInt
              · rw [if_neg (fun z => z g2)]
                by_cases g3 : g (fr k) < tm k
                · rw [if_neg (fun z => z g3)]
                  by_cases g4 : tm k < g (to k)
                  · exact absurd ⟨k7.mpr ⟨g1, g2⟩, g3, g4⟩ gg
                  · rw [if_pos g4]; exact ih _
                · rw [if_pos g3]; exact ih _
              · rw [if_pos g2]; exact ih _
            · rw [if_neg g1]; exact ih _
        · have h1 : nI n ≤ nI n := nI_le (Nat.le_refl _) (by omega)
          have w3 := (hw.fr (f1.fr scr)).2.2.1
          simp only [u_X11_knew_79]
          simp only [u_X11_knew_81, u_X11_knew_82, u_X11_knew_85, u_X11_knew_194, az_un_i, az_un_r, az_un_n, az_un_l, Option.toList_some, Option.toList_none, List.cons_append, List.nil_append, List.length_cons, List.length_nil, Nat.reduceLeDiff, Nat.reduceAdd, Nat.zero_le, Nat.zero_add, and_true, true_and, zb_1, eq_self, w3, h1, if_true]
          cases hq : zwq fr to tm va f n
          · obtain ⟨z1, z2⟩ := zwq_f n hq
            rw [z1] at a1
            have hR := hfin f z2 hs
            have fb : ∀ x, f x ≤ 1000 := fun x => by
              by_cases c : x = a
              · rw [c, hs.1]; decide
              · rcases hs.2 x c with h | ⟨j, j1, j2, j3, j4, j5⟩
                · omega
                · have := ht j j1; omega
            simp only [u_X11_knew_68]
            simp only [u_X11_knew_70, u_X11_knew_197, u_X11_knew_198, u_X11_knew_200, u_X11_knew_201, az_un_i, az_un_r, az_un_n, az_un_l, Option.toList_some, Option.toList_none, List.cons_append, List.nil_append, List.length_cons, List.length_nil, Nat.reduceLeDiff, Nat.reduceAdd, Nat.zero_le, Nat.zero_add, and_true, true_and, zb_1, eq_self, zb, Bool.false_eq_true, if_false, if_true]
            refine zloop (P := fun k => ∀ v4, az_W (zD (d + 3)) _ _ 203 [.ref 97, .int (nI a), .int m, .int mn, v4, .int (zor (zkb f) k), .int (nI k)] [] (130, az_Pf, J, L)) 12 (fun k hk ih v4 => ?_) (fun v4 => ?_) 0 (Nat.zero_le _) _
            · have h1 : ¬ (12 : Int32) ≤ nI k := nI_ge (b := 12) hk (by decide)
              have c1 : ((1000 : Int32) ≤ J 125 k) ↔ ¬ f k < 1000 := by
                rw [Int32.le_iff_toInt_le, a1 k hk, show (1000 : Int32).toInt = 1000 from rfl]; omega
              have ih := ih (az_un v4)
              rw [nI_succ, zor] at ih
              unfold zkb at ih
              simp only [u_X11_knew_203]
              simp only [u_X11_knew_205, u_X11_knew_207, u_X11_knew_210, u_X11_knew_212, u_X11_knew_213, u_X11_knew_216, u_X11_knew_218, u_X11_knew_219, u_X11_knew_222, u_X11_knew_225, u_X11_knew_226, u_X11_knew_228, u_X11_knew_229, u_X11_knew_232, u_X11_knew_233, u_X11_knew_234, u_X11_knew_236, u_X11_knew_239, az_un_i, az_un_r, az_un_n, az_un_l, Option.toList_some, Option.toList_none, List.cons_append, List.nil_append, List.length_cons, List.length_nil, Nat.reduceLeDiff, Nat.reduceAdd, Nat.zero_le, Nat.zero_add, and_true, true_and, zb_1, eq_self, h1, if_false, kx_125, zinT hk (by decide), zcl hk (by decide), c1]
              by_cases g1 : f k < 1000
              · rw [if_pos g1] at ih
                rw [if_neg (fun z => z g1)]; exact ih
              · rw [if_neg g1] at ih
                rw [if_pos g1]; exact ih
            · have h1 : (12 : Int32) ≤ nI 12 := by decide
              simp only [u_X11_knew_203]
              simp only [u_X11_knew_205, u_X11_knew_207, u_X11_knew_242, u_X11_knew_244, az_un_i, az_un_r, az_un_n, az_un_l, Option.toList_some, Option.toList_none, List.cons_append, List.nil_append, List.length_cons, List.length_nil, Nat.reduceLeDiff, Nat.reduceAdd, Nat.zero_le, Nat.zero_add, and_true, true_and, zb_1, eq_self, h1, if_true, zR_at, hR]
              exact f1.fr scr
          · have mm := (zwp_m (a := a) (f := f) (va := va) (fr := fr) hto ht n (Nat.le_refl _)).2 hq
            simp only [zb, if_true]
            exact ihM _ (by omega) (zwp fr to tm va f n) rfl (zwp_sup ht hs n (Nat.le_refl _)) J _ _ f1 a1
    refine outer _ (fun x => if x = a then -1 else 1000) rfl ⟨by simp, fun x hx => Or.inl (by simp [hx])⟩ J _ _ f a1
end S
theorem op_knew (x y z : Int32) : zOp 119 193 [.int x, .int y, .int z] := by
  refine zOp_of (fun I L hI => ?_)
  obtain ⟨t, e, nl, nr, n, k, w, hG⟩ := zInv_G hI
  have hD := hG.2.2.2.2.2.2.1
  by_cases hb : (0 ≤ x.toInt ∧ x.toInt < (n : Int)) ∧ (0 ≤ y.toInt ∧ y.toInt ≤ 29) ∧ (0 ≤ z.toInt ∧ z.toInt ≤ 999)
  · obtain ⟨h0, h1, h2⟩ := hb
    have hle := hD.1
    obtain ⟨a, ha, rfl⟩ := znat h0.1 (n := 12) (by omega) (by decide)
    rw [nI_toInt (by omega)] at h0
    have hw := zWd_of hle hG.2.2.2.2.2.2.2.1 y z
    exact ⟨_, s_X10_knew (d := 5) hG (by omega) h1 h2 hw, fun J M f => s_X11_knew (d := 5) (hG.fr f) (by omega) h1 h2 (hw.fr f)⟩
  · exact ⟨_, zE_D (s_X10_knew_bad (d := 5) hD.2.1 hD.1 hb) zFr.rf, fun J M f => zE_D (s_X11_knew_bad (d := 5) (hG.fr f).2.2.2.2.2.2.1.2.2.1 hD.1 hb) zFr.rf⟩
