/-! ===== loans: the span of them ===== -/
def zslo (f : Nat → Int32) (p : Nat → Bool) : Nat → Int32
  | 0 => 1000
  | k + 1 => if p k then (if f k < zslo f p k then f k else zslo f p k) else zslo f p k
def zshi (f : Nat → Int32) (p : Nat → Bool) : Nat → Int32
  | 0 => -1
  | k + 1 => if p k then (if zshi f p k < f k then f k else zshi f p k) else zshi f p k
def zany (p : Nat → Bool) : Nat → Bool
  | 0 => false
  | k + 1 => p k || zany p k
theorem zsp {f : Nat → Int32} {p : Nat → Bool} : ∀ n, (∀ k, k < n → ∃ v, v ≤ 999 ∧ f k = nI v) → (zany p n = true ∧ ∃ a b, a ≤ b ∧ b ≤ 999 ∧ zslo f p n = nI a ∧ zshi f p n = nI b) ∨ (zany p n = false ∧ zslo f p n = 1000 ∧ zshi f p n = -1)
  | 0, _ => Or.inr ⟨rfl, rfl, rfl⟩
  | n + 1, hv => by
    obtain ⟨v, hv1, hv2⟩ := hv n (by omega)
    have ih := zsp (p := p) n (fun k hk => hv k (by omega))
    cases hp : p n
    · simp only [zany, zslo, zshi, hp, Bool.false_or, Bool.false_eq_true, if_false]; exact ih
    · left
      simp only [zany, zslo, zshi, hp, Bool.true_or, if_true, true_and]
      rcases ih with ⟨_, a, b, h1, h2, h3, h4⟩ | ⟨_, h3, h4⟩
      · rw [h3, h4, hv2]
        refine ⟨if v < a then v else a, if b < v then v else b, ?_, ?_, ?_, ?_⟩
        · split <;> split <;> omega
        · split <;> omega
        · by_cases g : v < a
          · rw [if_pos g, if_pos (nI_lt g (by omega))]
          · rw [if_neg g, if_neg (nI_nlt (by omega) (by omega))]
        · by_cases g : b < v
          · rw [if_pos g, if_pos (nI_lt g (by omega))]
          · rw [if_neg g, if_neg (nI_nlt (by omega) (by omega))]
      · rw [h3, h4, hv2]
        refine ⟨v, v, Nat.le_refl _, hv1, ?_, ?_⟩
        · rw [if_pos (show nI v < 1000 from nI_lt (b := 1000) (by omega) (by decide))]
        · rw [if_pos ?_]
          rw [Int32.lt_iff_toInt_lt, nI_toInt (by omega)]; simp; omega
def zp1 (I : Nat → Nat → Int32) (h m : Nat) (k : Nat) : Bool := decide (I 58 k = nI m ∧ I 57 k = nI h)
def zp2 (I : Nat → Nat → Int32) (m : Nat) (k : Nat) : Bool := decide (I 58 k = nI m)
theorem zvL.pr {I : Nat → Nat → Int32} {n : Nat} (hL : zvL I n) : ∀ k, k < n → ∃ v, v ≤ 999 ∧ I 59 k = nI v := fun k hk => by
  obtain ⟨h, m, v, -, -, h3, -, -, h6⟩ := hL.2.2.2.2.2.2 k hk
  exact ⟨v, h3, h6⟩
/-- truth of a house: is there one, its low end, its high end -/
def zTb (I : Nat → Nat → Int32) (h m n : Nat) : Bool := zany (zp1 I h m) n || zany (zp2 I m) n
def zTl (I : Nat → Nat → Int32) (h m n : Nat) (s : Int32) : Int32 := if zany (zp1 I h m) n then zslo (I 59) (zp1 I h m) n else if zslo (I 59) (zp2 I m) n - s < 0 then 0 else zslo (I 59) (zp2 I m) n - s
def zTh (I : Nat → Nat → Int32) (h m n : Nat) (s : Int32) : Int32 := if zany (zp1 I h m) n then zshi (I 59) (zp1 I h m) n else if 999 < zshi (I 59) (zp2 I m) n + s then 999 else zshi (I 59) (zp2 I m) n + s
theorem zTb_fr {I J : Nat → Nat → Int32} {h m n : Nat} (h1 : J 57 = I 57) (h2 : J 58 = I 58) : zTb J h m n = zTb I h m n := by
  unfold zTb
  rw [show zp1 J h m = zp1 I h m from funext fun k => by unfold zp1; rw [h1, h2], show zp2 J m = zp2 I m from funext fun k => by unfold zp2; rw [h2]]
theorem zTl_fr {I J : Nat → Nat → Int32} {h m n : Nat} {s : Int32} (h1 : J 57 = I 57) (h2 : J 58 = I 58) (h3 : J 59 = I 59) : zTl J h m n s = zTl I h m n s := by
  unfold zTl
  rw [show zp1 J h m = zp1 I h m from funext fun k => by unfold zp1; rw [h1, h2], show zp2 J m = zp2 I m from funext fun k => by unfold zp2; rw [h2], h3]
theorem zTh_fr {I J : Nat → Nat → Int32} {h m n : Nat} {s : Int32} (h1 : J 57 = I 57) (h2 : J 58 = I 58) (h3 : J 59 = I 59) : zTh J h m n s = zTh I h m n s := by
  unfold zTh
  rw [show zp1 J h m = zp1 I h m from funext fun k => by unfold zp1; rw [h1, h2], show zp2 J m = zp2 I m from funext fun k => by unfold zp2; rw [h2], h3]
section S
variable {d : Nat} {I : Nat → Nat → Int32} {L : Nat → Nat → Int64} {h : az_H}
theorem s_X3_lowEnd  : zD (d + 1) 28 [.ref 56] (130, az_Pf, I, L) (some (.int (I 56 4))) (130, az_Pf, I, L) := by
  refine zD_of zm_X3_lowEnd rfl ?_
  show az_W _ _ _ 0 [.ref 56] [] _
  simp only [u_X3_lowEnd_0, u_X3_lowEnd_1, u_X3_lowEnd_4, az_un_i, az_un_r, az_un_n, az_un_l, Option.toList_some, Option.toList_none, List.cons_append, List.nil_append, List.length_cons, List.length_nil, Nat.reduceLeDiff, Nat.reduceAdd, Nat.zero_le, Nat.zero_add, and_true, true_and, zb_1, eq_self]
theorem s_X3_highEnd  : zD (d + 1) 29 [.ref 56] (130, az_Pf, I, L) (some (.int (I 56 5))) (130, az_Pf, I, L) := by
  refine zD_of zm_X3_highEnd rfl ?_
  show az_W _ _ _ 0 [.ref 56] [] _
  simp only [u_X3_highEnd_0, u_X3_highEnd_1, u_X3_highEnd_4, az_un_i, az_un_r, az_un_n, az_un_l, Option.toList_some, Option.toList_none, List.cons_append, List.nil_append, List.length_cons, List.length_nil, Nat.reduceLeDiff, Nat.reduceAdd, Nat.zero_le, Nat.zero_add, and_true, true_and, zb_1, eq_self]
theorem s_X3_findSpan {g m : Int32} {n : Nat} {p : Nat → Bool} (hL : zvL I n) (hp : ∀ k, k < n → (p k = true ↔ (I 58 k = m ∧ (g >>> (I 57 k &&& 31)) &&& 1 = 1))) : zD (d + 1) 33 [.ref 56, .int g, .int m] (130, az_Pf, I, L) (some (.int (zb (zany p n = true)))) (130, az_Pf, az_uI (az_uI I 56 4 (zslo (I 59) p n)) 56 5 (zshi (I 59) p n), L) := by
  refine zD_of zm_X3_findSpan rfl ?_
  show az_W _ _ _ 0 [.ref 56, .int g, .int m, .null] [] _
  simp only [u_X3_findSpan_0, u_X3_findSpan_1, u_X3_findSpan_4, u_X3_findSpan_7, u_X3_findSpan_8, u_X3_findSpan_9, u_X3_findSpan_12, u_X3_findSpan_13, u_X3_findSpan_15, u_X3_findSpan_16, u_X3_findSpan_19, u_X3_findSpan_22, u_X3_findSpan_23, u_X3_findSpan_26, u_X3_findSpan_27, u_X3_findSpan_28, u_X3_findSpan_29, u_X3_findSpan_32, u_X3_findSpan_33, u_X3_findSpan_34, u_X3_findSpan_37, u_X3_findSpan_38, u_X3_findSpan_39, u_X3_findSpan_40, u_X3_findSpan_41, u_X3_findSpan_42, u_X3_findSpan_43, u_X3_findSpan_46, u_X3_findSpan_47, u_X3_findSpan_48, u_X3_findSpan_51, u_X3_findSpan_52, u_X3_findSpan_55, u_X3_findSpan_56, u_X3_findSpan_57, u_X3_findSpan_60, u_X3_findSpan_63, u_X3_findSpan_64, u_X3_findSpan_65, u_X3_findSpan_68, u_X3_findSpan_69, u_X3_findSpan_72, u_X3_findSpan_73, u_X3_findSpan_74, u_X3_findSpan_77, u_X3_findSpan_80, u_X3_findSpan_83, u_X3_findSpan_86, u_X3_findSpan_87, u_X3_findSpan_90, u_X3_findSpan_91, u_X3_findSpan_94, u_X3_findSpan_97, u_X3_findSpan_98, u_X3_findSpan_101, u_X3_findSpan_102, az_un_i, az_un_r, az_un_n, az_un_l, Option.toList_some, Option.toList_none, List.cons_append, List.nil_append, List.length_cons, List.length_nil, Nat.reduceLeDiff, Nat.reduceAdd, Nat.zero_le, Nat.zero_add, and_true, true_and, zb_1, eq_self]
  have hle := hL.1
  have hn := hL.2.1
  refine zloopH (P := fun k h => az_W (zD d) _ _ 14 [.ref 56, .int g, .int m, .int (nI k)] [] h) (fun k => (130, az_Pf, az_uI (az_uI I 56 4 (zslo (I 59) p k)) 56 5 (zshi (I 59) p k), L)) n (fun k hk ih => ?_) ?_ rfl
  · have h1 : ¬ nI n ≤ nI k := nI_ge hk (by omega)
    simp only [u_X3_findSpan_14]
    simp only [u_X3_findSpan_0, u_X3_findSpan_1, u_X3_findSpan_4, u_X3_findSpan_7, u_X3_findSpan_8, u_X3_findSpan_9, u_X3_findSpan_12, u_X3_findSpan_13, u_X3_findSpan_15, u_X3_findSpan_16, u_X3_findSpan_19, u_X3_findSpan_22, u_X3_findSpan_23, u_X3_findSpan_26, u_X3_findSpan_27, u_X3_findSpan_28, u_X3_findSpan_29, u_X3_findSpan_32, u_X3_findSpan_33, u_X3_findSpan_34, u_X3_findSpan_37, u_X3_findSpan_38, u_X3_findSpan_39, u_X3_findSpan_40, u_X3_findSpan_41, u_X3_findSpan_42, u_X3_findSpan_43, u_X3_findSpan_46, u_X3_findSpan_47, u_X3_findSpan_48, u_X3_findSpan_51, u_X3_findSpan_52, u_X3_findSpan_55, u_X3_findSpan_56, u_X3_findSpan_57, u_X3_findSpan_60, u_X3_findSpan_63, u_X3_findSpan_64, u_X3_findSpan_65, u_X3_findSpan_68, u_X3_findSpan_69, u_X3_findSpan_72, u_X3_findSpan_73, u_X3_findSpan_74, u_X3_findSpan_77, u_X3_findSpan_80, u_X3_findSpan_83, u_X3_findSpan_86, u_X3_findSpan_87, u_X3_findSpan_90, u_X3_findSpan_91, u_X3_findSpan_94, u_X3_findSpan_97, u_X3_findSpan_98, u_X3_findSpan_101, u_X3_findSpan_102, az_un_i, az_un_r, az_un_n, az_un_l, Option.toList_some, Option.toList_none, List.cons_append, List.nil_append, List.length_cons, List.length_nil, Nat.reduceLeDiff, Nat.reduceAdd, Nat.zero_le, Nat.zero_add, and_true, true_and, zb_1, eq_self, az_uI_at, az_uL_at, Nat.reduceEqDiff, false_and, and_false, and_self, if_true, if_false, ite_true, ite_false, hn, h1, if_false, kx_57, kx_58, kx_59, zinT (show k < 60 by omega) (by decide), zcl (show k < 60 by omega) (by decide), zc4, zuss]
    rw [nI_succ] at ih
    have := hp k hk
    cases hz : p k
    · simp only [zslo, zshi, hz, Bool.false_eq_true, if_false] at ih
      by_cases q1 : I 58 k = m
      · have q2 : ¬ (g >>> (I 57 k &&& 31)) &&& 1 = 1 := fun q2 => by rw [this.mpr ⟨q1, q2⟩] at hz; cases hz
        rw [if_pos q1, if_neg q2]; exact ih
      · rw [if_neg q1]; exact ih
    · obtain ⟨q1, q2⟩ := this.mp hz
      simp only [zslo, zshi, hz, if_true] at ih
      rw [if_pos q1, if_pos q2]; exact ih
  · have h1 : nI n ≤ nI n := nI_le (Nat.le_refl _) (by omega)
    simp only [u_X3_findSpan_14]
    simp only [u_X3_findSpan_0, u_X3_findSpan_1, u_X3_findSpan_4, u_X3_findSpan_7, u_X3_findSpan_8, u_X3_findSpan_9, u_X3_findSpan_12, u_X3_findSpan_13, u_X3_findSpan_15, u_X3_findSpan_16, u_X3_findSpan_19, u_X3_findSpan_22, u_X3_findSpan_23, u_X3_findSpan_26, u_X3_findSpan_27, u_X3_findSpan_28, u_X3_findSpan_29, u_X3_findSpan_32, u_X3_findSpan_33, u_X3_findSpan_34, u_X3_findSpan_37, u_X3_findSpan_38, u_X3_findSpan_39, u_X3_findSpan_40, u_X3_findSpan_41, u_X3_findSpan_42, u_X3_findSpan_43, u_X3_findSpan_46, u_X3_findSpan_47, u_X3_findSpan_48, u_X3_findSpan_51, u_X3_findSpan_52, u_X3_findSpan_55, u_X3_findSpan_56, u_X3_findSpan_57, u_X3_findSpan_60, u_X3_findSpan_63, u_X3_findSpan_64, u_X3_findSpan_65, u_X3_findSpan_68, u_X3_findSpan_69, u_X3_findSpan_72, u_X3_findSpan_73, u_X3_findSpan_74, u_X3_findSpan_77, u_X3_findSpan_80, u_X3_findSpan_83, u_X3_findSpan_86, u_X3_findSpan_87, u_X3_findSpan_90, u_X3_findSpan_91, u_X3_findSpan_94, u_X3_findSpan_97, u_X3_findSpan_98, u_X3_findSpan_101, u_X3_findSpan_102, az_un_i, az_un_r, az_un_n, az_un_l, Option.toList_some, Option.toList_none, List.cons_append, List.nil_append, List.length_cons, List.length_nil, Nat.reduceLeDiff, Nat.reduceAdd, Nat.zero_le, Nat.zero_add, and_true, true_and, zb_1, eq_self, az_uI_at, az_uL_at, Nat.reduceEqDiff, false_and, and_false, and_self, if_true, if_false, ite_true, ite_false, hn, h1, if_true]
    rcases zsp (p := p) n hL.pr with ⟨q, a, b, g1, g2, g3, g4⟩ | ⟨q, g3, g4⟩
    · rw [g3, g4, q, if_neg (nI_nlt (by omega) (by omega))]; simp [zb]
    · rw [g3, g4, q, if_pos (by decide)]; simp [zb]
theorem s_X3_findAll {m n : Nat} (hL : zvL I n) : zD (d + 2) 32 [.ref 56, .int (nI m)] (130, az_Pf, I, L) (some (.int (zb (zany (zp2 I m) n = true)))) (130, az_Pf, az_uI (az_uI I 56 4 (zslo (I 59) (zp2 I m) n)) 56 5 (zshi (I 59) (zp2 I m) n), L) := by
  refine zD_of zm_X3_findAll rfl ?_
  show az_W _ _ _ 0 [.ref 56, .int (nI m)] [] _
  have hc := s_X3_findSpan (d := d) (I := I) (L := L) (g := 255) (m := nI m) (n := n) (p := zp2 I m) hL (fun k hk => by
    obtain ⟨h', m', v, q1, q2, q3, q4, q5, q6⟩ := hL.2.2.2.2.2.2 k hk
    have e : ((255 : Int32) >>> (I 57 k &&& 31)) &&& 1 = 1 := by
      rw [q4, show (255 : Int32) = nI 255 from rfl, zbit (by decide) (by omega)]
      have : ∀ h', h' < 8 → (if Nat.testBit 255 h' then (1 : Int32) else 0) = 1 := by decide
      exact this h' q1
    simp only [zp2, decide_eq_true_eq, e, and_true])
  simp only [u_X3_findAll_0, u_X3_findAll_1, u_X3_findAll_4, u_X3_findAll_5, u_X3_findAll_8, az_un_i, az_un_r, az_un_n, az_un_l, Option.toList_some, Option.toList_none, List.cons_append, List.nil_append, List.length_cons, List.length_nil, Nat.reduceLeDiff, Nat.reduceAdd, Nat.zero_le, Nat.zero_add, and_true, true_and, zb_1, eq_self, az_call hc]
theorem zp1_ok {h m n : Nat} (hh : h < 8) (hL : zvL I n) : ∀ k, k < n → (zp1 I h m k = true ↔ (I 58 k = nI m ∧ ((1 : Int32) <<< (nI h &&& 31) >>> (I 57 k &&& 31)) &&& 1 = 1)) := fun k hk => by
  obtain ⟨h', m', v, q1, q2, q3, q4, q5, q6⟩ := hL.2.2.2.2.2.2 k hk
  rw [q4, z1sh (by omega), zbit (Nat.pow_lt_pow_right (by decide) (by omega)) (by omega), Nat.testBit_two_pow]
  simp only [zp1, decide_eq_true_eq]
  rw [q4, nI_eq (by omega) (by omega)]
  refine and_congr Iff.rfl ⟨fun e => by rw [if_pos e.symm], fun e => ?_⟩
  by_cases z : h = h'
  · exact z.symm
  · rw [if_neg z] at e; exact absurd e (by decide)
theorem zsp_p {h m n : Nat} (hz : zany (zp1 I h m) n = true) : zTb I h m n = true := by unfold zTb; rw [hz]; rfl
theorem s_X3_findTrue {h m n s : Nat} (hh : h < 8) (hL : zvL I n) (hs : s ≤ 99) : zD (d + 3) 31 [.ref 56, .int (nI h), .int (nI m), .int (nI s)] (130, az_Pf, I, L) (some (.int (zb (zTb I h m n = true)))) (130, az_Pf, az_uI (az_uI I 56 4 (if zTb I h m n then zTl I h m n (nI s) else 1000)) 56 5 (if zTb I h m n then zTh I h m n (nI s) else -1), L) := by
  refine zD_of zm_X3_findTrue rfl ?_
  show az_W _ _ _ 0 [.ref 56, .int (nI h), .int (nI m), .int (nI s)] [] _
  simp only [u_X3_findTrue_0, u_X3_findTrue_1, u_X3_findTrue_2, u_X3_findTrue_3, u_X3_findTrue_4, u_X3_findTrue_5, u_X3_findTrue_8, u_X3_findTrue_11, u_X3_findTrue_12, u_X3_findTrue_13, u_X3_findTrue_14, u_X3_findTrue_15, u_X3_findTrue_18, u_X3_findTrue_21, u_X3_findTrue_22, u_X3_findTrue_23, u_X3_findTrue_24, u_X3_findTrue_25, u_X3_findTrue_28, u_X3_findTrue_29, u_X3_findTrue_30, u_X3_findTrue_31, u_X3_findTrue_34, u_X3_findTrue_37, u_X3_findTrue_38, u_X3_findTrue_39, u_X3_findTrue_42, u_X3_findTrue_43, u_X3_findTrue_44, u_X3_findTrue_47, u_X3_findTrue_50, u_X3_findTrue_53, u_X3_findTrue_54, az_un_i, az_un_r, az_un_n, az_un_l, Option.toList_some, Option.toList_none, List.cons_append, List.nil_append, List.length_cons, List.length_nil, Nat.reduceLeDiff, Nat.reduceAdd, Nat.zero_le, Nat.zero_add, and_true, true_and, zb_1, eq_self, az_call (s_X3_findSpan hL (zp1_ok hh hL)), zb_0]
  cases hz : zany (zp1 I h m) n
  · have hL2 : zvL (az_uI (az_uI I 56 4 (zslo (I 59) (zp1 I h m) n)) 56 5 (zshi (I 59) (zp1 I h m) n)) n := hL.fr (by simp only [az_uI_at, az_uL_at, Nat.reduceEqDiff, false_and, and_false, and_self, if_true, if_false, ite_true, ite_false]) (by simp only [az_uI_at, az_uL_at, Nat.reduceEqDiff, false_and, and_false, and_self, if_true, if_false, ite_true, ite_false]) (fun k _ _ => by rw [zu_row (by omega), zu_row (by omega)]) (fun k _ _ => by rw [zu_row (by omega), zu_row (by omega)])
    have hc := s_X3_findAll (d := d) (L := L) (m := m) hL2
    rw [show zp2 (az_uI (az_uI I 56 4 (zslo (I 59) (zp1 I h m) n)) 56 5 (zshi (I 59) (zp1 I h m) n)) m = zp2 I m from funext fun k => by unfold zp2; simp only [az_uI_at, az_uL_at, Nat.reduceEqDiff, false_and, and_false, and_self, if_true, if_false, ite_true, ite_false], show az_uI (az_uI I 56 4 (zslo (I 59) (zp1 I h m) n)) 56 5 (zshi (I 59) (zp1 I h m) n) 59 = I 59 from funext fun k => by simp only [az_uI_at, az_uL_at, Nat.reduceEqDiff, false_and, and_false, and_self, if_true, if_false, ite_true, ite_false]] at hc
    simp only [u_X3_findTrue_0, u_X3_findTrue_1, u_X3_findTrue_2, u_X3_findTrue_3, u_X3_findTrue_4, u_X3_findTrue_5, u_X3_findTrue_8, u_X3_findTrue_11, u_X3_findTrue_12, u_X3_findTrue_13, u_X3_findTrue_14, u_X3_findTrue_15, u_X3_findTrue_18, u_X3_findTrue_21, u_X3_findTrue_22, u_X3_findTrue_23, u_X3_findTrue_24, u_X3_findTrue_25, u_X3_findTrue_28, u_X3_findTrue_29, u_X3_findTrue_30, u_X3_findTrue_31, u_X3_findTrue_34, u_X3_findTrue_37, u_X3_findTrue_38, u_X3_findTrue_39, u_X3_findTrue_42, u_X3_findTrue_43, u_X3_findTrue_44, u_X3_findTrue_47, u_X3_findTrue_50, u_X3_findTrue_53, u_X3_findTrue_54, az_un_i, az_un_r, az_un_n, az_un_l, Option.toList_some, Option.toList_none, List.cons_append, List.nil_append, List.length_cons, List.length_nil, Nat.reduceLeDiff, Nat.reduceAdd, Nat.zero_le, Nat.zero_add, and_true, true_and, zb_1, eq_self, az_call hc, zb_0, az_uI_at, az_uL_at, Nat.reduceEqDiff, false_and, and_false, and_self, if_true, if_false, ite_true, ite_false, and_self, and_true, true_and, if_true, if_false, not_true, not_false_iff, not_true_eq_false, not_false_eq_true, ite_true, ite_false, Bool.false_eq_true, zc4, zuss]
    cases hy : zany (zp2 I m) n
    · rcases zsp (p := zp2 I m) n hL.pr with ⟨q, -⟩ | ⟨-, g3, g4⟩
      · rw [q] at hy; cases hy
      · have e : zTb I h m n = false := by unfold zTb; rw [hz, hy]; rfl
        rw [g3, g4, e]
        simp [zb]
    · have e : zTb I h m n = true := by unfold zTb; rw [hz, hy]; rfl
      have e1 : zTl I h m n (nI s) = if zslo (I 59) (zp2 I m) n - nI s < 0 then 0 else zslo (I 59) (zp2 I m) n - nI s := by unfold zTl; rw [hz]; simp
      have e2 : zTh I h m n (nI s) = if 999 < zshi (I 59) (zp2 I m) n + nI s then 999 else zshi (I 59) (zp2 I m) n + nI s := by unfold zTh; rw [hz]; simp
      simp only [e, e1, e2, az_uI_at, az_uL_at, Nat.reduceEqDiff, false_and, and_false, and_self, if_true, if_false, ite_true, ite_false, zc4, zuss, not_true, not_true_eq_false, if_false, if_true, zb]
      simp
  · have e : zTb I h m n = true := zsp_p hz
    have e1 : zTl I h m n (nI s) = zslo (I 59) (zp1 I h m) n := by unfold zTl; rw [hz]; simp
    have e2 : zTh I h m n (nI s) = zshi (I 59) (zp1 I h m) n := by unfold zTh; rw [hz]; simp
    simp [e, e1, e2, zb]
end S
