/-! ===== say, said ===== -/
theorem znat {x : Int32} {n : Nat} (h0 : 0 ≤ x.toInt) (h1 : x.toInt ≤ n) (hn : n < 2 ^ 31) : ∃ k : Nat, k ≤ n ∧ x = nI k := by
  refine ⟨x.toInt.toNat, by omega, Int32.toInt_inj.mp ?_⟩
  rw [nI_toInt (by omega)]; omega
theorem zcl {k n : Nat} (h : k < n) (hn : n < 2 ^ 31) : (nI k).toNatClampNeg = k := nI_clamp (by omega)
theorem znm (a b : Nat) : (nI a) * (nI b) = nI (a * b) := pk_mul a b
theorem z8m (a b : Nat) : (8 : Int32) * nI a + nI b = nI (8 * a + b) := by
  rw [show (8 : Int32) = nI 8 from rfl, pk_mul, nI_add]
theorem z12m (a b : Nat) : (12 : Int32) * nI a + nI b = nI (12 * a + b) := by
  rw [show (12 : Int32) = nI 12 from rfl, pk_mul, nI_add]
theorem z16m (a b : Nat) : (16 : Int32) * nI a + nI b = nI (16 * a + b) := by
  rw [show (16 : Int32) = nI 16 from rfl, pk_mul, nI_add]
section S
variable {d : Nat} {I : Nat → Nat → Int32} {L : Nat → Nat → Int64} {h : az_H}
theorem s_X4_heard {k m : Nat} (hk : k < 8) (hm : m < 30) : zD (d + 1) 35 [.ref 2, .int (nI k), .int (nI m)] (130, az_Pf, I, L) (some (.int (I (4 + m) k))) (130, az_Pf, I, L) := by
  refine zD_of zm_X4_heard rfl ?_
  show az_W _ _ _ 0 [.ref 2, .int (nI k), .int (nI m)] [] _
  simp only [u_X4_heard_0, u_X4_heard_1, u_X4_heard_4, u_X4_heard_5, u_X4_heard_6, u_X4_heard_7, u_X4_heard_8, az_un_i, az_un_r, az_un_n, az_un_l, Option.toList_some, Option.toList_none, List.cons_append, List.nil_append, List.length_cons, List.length_nil, Nat.reduceLeDiff, Nat.reduceAdd, Nat.zero_le, Nat.zero_add, and_true, true_and, zb_1, eq_self, kx_3, zinT hk (by decide), zinT hm (by decide), zcl hk (by decide), zcl hm (by decide), pr_3 m hm, kr_3 m hm, Option.some.injEq, exists_eq_left', exists_eq_left]
theorem s_X4_hear {k m : Nat} {v : Int32} (hk : k < 8) (hm : m < 30) : zD (d + 1) 36 [.ref 2, .int (nI k), .int (nI m), .int v] (130, az_Pf, I, L) none (130, az_Pf, az_uI I (4 + m) k v, L) := by
  refine zD_of zm_X4_hear rfl ?_
  show az_W _ _ _ 0 [.ref 2, .int (nI k), .int (nI m), .int v] [] _
  simp only [u_X4_hear_0, u_X4_hear_1, u_X4_hear_4, u_X4_hear_5, u_X4_hear_6, u_X4_hear_7, u_X4_hear_8, u_X4_hear_9, az_un_i, az_un_r, az_un_n, az_un_l, Option.toList_some, Option.toList_none, List.cons_append, List.nil_append, List.length_cons, List.length_nil, Nat.reduceLeDiff, Nat.reduceAdd, Nat.zero_le, Nat.zero_add, and_true, true_and, zb_1, eq_self, kx_3, zinT hk (by decide), zinT hm (by decide), zcl hk (by decide), zcl hm (by decide), pr_3 m hm, kr_3 m hm, Option.some.injEq, exists_eq_left', exists_eq_left]
theorem s_X10_say_bad {x y v : Int32} (hb : ¬ ((0 ≤ x.toInt ∧ x.toInt ≤ 7) ∧ (0 ≤ y.toInt ∧ y.toInt ≤ 29) ∧ (-1 ≤ v.toInt ∧ v.toInt ≤ 999))) : zD (d + 3) 90 [.ref 0, .int x, .int y, .int v] (130, az_Pf, I, L) (some (.int (-11))) (130, az_Pf, I, L) := by
  refine zD_of zm_X10_say rfl ?_
  show az_W _ _ _ 0 [.ref 0, .int x, .int y, .int v, .null] [] _
  simp only [u_X10_say_0, u_X10_say_1, u_X10_say_4, u_X10_say_7, u_X10_say_8, u_X10_say_11, u_X10_say_14, u_X10_say_15, u_X10_say_18, u_X10_say_21, u_X10_say_23, u_X10_say_24, u_X10_say_25, u_X10_say_28, u_X10_say_29, u_X10_say_30, u_X10_say_33, u_X10_say_35, u_X10_say_36, u_X10_say_39, u_X10_say_40, u_X10_say_41, u_X10_say_42, u_X10_say_45, u_X10_say_47, az_un_i, az_un_r, az_un_n, az_un_l, Option.toList_some, Option.toList_none, List.cons_append, List.nil_append, List.length_cons, List.length_nil, Nat.reduceLeDiff, Nat.reduceAdd, Nat.zero_le, Nat.zero_add, and_true, true_and, zb_1, eq_self, az_call s_X10_isHouse, az_call s_X10_isMorning, az_call s_X10_isSayable, zb_0]
  by_cases h1 : 0 ≤ x.toInt ∧ x.toInt ≤ 7 <;> by_cases h2 : 0 ≤ y.toInt ∧ y.toInt ≤ 29 <;> by_cases h3 : -1 ≤ v.toInt ∧ v.toInt ≤ 999 <;> simp only [h1, h2, h3, and_self, and_true, true_and, if_true, if_false, not_true, not_false_iff, not_true_eq_false, not_false_eq_true, ite_true, ite_false]
  exact absurd ⟨h1, h2, h3⟩ hb
theorem s_X10_say {k m : Nat} {v : Int32} (hk : k < 8) (hm : m < 30) (hv : -1 ≤ v.toInt ∧ v.toInt ≤ 999) : zD (d + 3) 90 [.ref 0, .int (nI k), .int (nI m), .int v] (130, az_Pf, I, L) (some (.int (I (4 + m) k))) (130, az_Pf, az_uI I (4 + m) k v, L) := by
  refine zD_of zm_X10_say rfl ?_
  show az_W _ _ _ 0 [.ref 0, .int (nI k), .int (nI m), .int v, .null] [] _
  have h1 : (0 ≤ (nI k).toInt ∧ (nI k).toInt ≤ 7) = True := eq_true (by rw [nI_toInt (by omega)]; omega)
  have h2 : (0 ≤ (nI m).toInt ∧ (nI m).toInt ≤ 29) = True := eq_true (by rw [nI_toInt (by omega)]; omega)
  simp only [u_X10_say_0, u_X10_say_1, u_X10_say_4, u_X10_say_7, u_X10_say_8, u_X10_say_11, u_X10_say_14, u_X10_say_15, u_X10_say_18, u_X10_say_21, u_X10_say_23, u_X10_say_24, u_X10_say_25, u_X10_say_28, u_X10_say_29, u_X10_say_30, u_X10_say_33, u_X10_say_35, u_X10_say_36, u_X10_say_39, u_X10_say_40, u_X10_say_41, u_X10_say_42, u_X10_say_45, u_X10_say_47, az_un_i, az_un_r, az_un_n, az_un_l, Option.toList_some, Option.toList_none, List.cons_append, List.nil_append, List.length_cons, List.length_nil, Nat.reduceLeDiff, Nat.reduceAdd, Nat.zero_le, Nat.zero_add, and_true, true_and, zb_1, eq_self, az_call s_X10_isHouse, az_call s_X10_isMorning, az_call s_X10_isSayable, zb_0, h1, h2, eq_true hv, and_self, and_true, true_and, if_true, if_false, not_true, not_false_iff, not_true_eq_false, not_false_eq_true, ite_true, ite_false, az_call (s_X4_heard hk hm), az_call (s_X4_hear hk hm)]
theorem s_X11_say_bad {x y v : Int32} (hb : ¬ ((0 ≤ x.toInt ∧ x.toInt ≤ 7) ∧ (0 ≤ y.toInt ∧ y.toInt ≤ 29) ∧ (-1 ≤ v.toInt ∧ v.toInt ≤ 999))) : zD (d + 3) 147 [.ref 97, .int x, .int y, .int v] (130, az_Pf, I, L) (some (.int (-11))) (130, az_Pf, I, L) := by
  refine zD_of zm_X11_say rfl ?_
  show az_W _ _ _ 0 [.ref 97, .int x, .int y, .int v, .null] [] _
  simp only [u_X11_say_0, u_X11_say_1, u_X11_say_4, u_X11_say_7, u_X11_say_8, u_X11_say_11, u_X11_say_14, u_X11_say_15, u_X11_say_18, u_X11_say_21, u_X11_say_23, u_X11_say_24, u_X11_say_25, u_X11_say_28, u_X11_say_30, u_X11_say_31, u_X11_say_32, u_X11_say_33, u_X11_say_34, u_X11_say_35, u_X11_say_37, u_X11_say_38, u_X11_say_41, u_X11_say_43, u_X11_say_44, u_X11_say_45, u_X11_say_46, u_X11_say_47, u_X11_say_48, u_X11_say_49, u_X11_say_51, az_un_i, az_un_r, az_un_n, az_un_l, Option.toList_some, Option.toList_none, List.cons_append, List.nil_append, List.length_cons, List.length_nil, Nat.reduceLeDiff, Nat.reduceAdd, Nat.zero_le, Nat.zero_add, and_true, true_and, zb_1, eq_self, az_call s_X11_isHouse, az_call s_X11_isMorning, az_call s_X11_isSaid, zb_0]
  by_cases h1 : 0 ≤ x.toInt ∧ x.toInt ≤ 7 <;> by_cases h2 : 0 ≤ y.toInt ∧ y.toInt ≤ 29 <;> by_cases h3 : -1 ≤ v.toInt ∧ v.toInt ≤ 999 <;> simp only [h1, h2, h3, and_self, and_true, true_and, if_true, if_false, not_true, not_false_iff, not_true_eq_false, not_false_eq_true, ite_true, ite_false]
  exact absurd ⟨h1, h2, h3⟩ hb
theorem s_X11_say {k m : Nat} {v : Int32} (hk : k < 8) (hm : m < 30) (hv : -1 ≤ v.toInt ∧ v.toInt ≤ 999) : zD (d + 3) 147 [.ref 97, .int (nI k), .int (nI m), .int v] (130, az_Pf, I, L) (some (.int (I 98 (8 * m + k)))) (130, az_Pf, az_uI I 98 (8 * m + k) v, L) := by
  refine zD_of zm_X11_say rfl ?_
  show az_W _ _ _ 0 [.ref 97, .int (nI k), .int (nI m), .int v, .null] [] _
  have h1 : (0 ≤ (nI k).toInt ∧ (nI k).toInt ≤ 7) = True := eq_true (by rw [nI_toInt (by omega)]; omega)
  have h2 : (0 ≤ (nI m).toInt ∧ (nI m).toInt ≤ 29) = True := eq_true (by rw [nI_toInt (by omega)]; omega)
  simp only [u_X11_say_0, u_X11_say_1, u_X11_say_4, u_X11_say_7, u_X11_say_8, u_X11_say_11, u_X11_say_14, u_X11_say_15, u_X11_say_18, u_X11_say_21, u_X11_say_23, u_X11_say_24, u_X11_say_25, u_X11_say_28, u_X11_say_30, u_X11_say_31, u_X11_say_32, u_X11_say_33, u_X11_say_34, u_X11_say_35, u_X11_say_37, u_X11_say_38, u_X11_say_41, u_X11_say_43, u_X11_say_44, u_X11_say_45, u_X11_say_46, u_X11_say_47, u_X11_say_48, u_X11_say_49, u_X11_say_51, az_un_i, az_un_r, az_un_n, az_un_l, Option.toList_some, Option.toList_none, List.cons_append, List.nil_append, List.length_cons, List.length_nil, Nat.reduceLeDiff, Nat.reduceAdd, Nat.zero_le, Nat.zero_add, and_true, true_and, zb_1, eq_self, az_call s_X11_isHouse, az_call s_X11_isMorning, az_call s_X11_isSaid, zb_0, h1, h2, eq_true hv, and_self, and_true, true_and, if_true, if_false, not_true, not_false_iff, not_true_eq_false, not_false_eq_true, ite_true, ite_false, z8m, kx_98, zinT (show 8 * m + k < 240 by omega) (by decide), zcl (show 8 * m + k < 240 by omega) (by decide)]
end S
theorem zu_ne {I : Nat → Nat → Int32} {a j b k : Nat} {v : Int32} (h : b ≠ a) : az_uI I a j v b k = I b k := if_neg (fun q => h q.1)
theorem zu_row {I : Nat → Nat → Int32} {a j b : Nat} {v : Int32} (h : b ≠ a) : az_uI I a j v b = I b := funext fun _ => zu_ne h
theorem op_say (x y v : Int32) : zOp 90 147 [.int x, .int y, .int v] := by
  intro I L hI
  by_cases hb : (0 ≤ x.toInt ∧ x.toInt ≤ 7) ∧ (0 ≤ y.toInt ∧ y.toInt ≤ 29) ∧ (-1 ≤ v.toInt ∧ v.toInt ≤ 999)
  · obtain ⟨h1, h2, h3⟩ := hb
    obtain ⟨k, hk, rfl⟩ := znat h1.1 (n := 7) h1.2 (by decide)
    obtain ⟨m, hm, rfl⟩ := znat h2.1 (n := 29) h2.2 (by decide)
    have hk : k < 8 := by omega
    have hm : m < 30 := by omega
    have e := (hI.1 m hm k hk).1
    have e2 : az_uI I (4 + m) k v 98 (8 * m + k) = I 98 (8 * m + k) := zu_ne (by omega)
    refine ⟨_, _, L, az_uI (az_uI I (4 + m) k v) 98 (8 * m + k) v, L, s_X10_say (d := 6) hk hm h3, ?_, ?_⟩
    · have := s_X11_say (d := 6) (I := az_uI I (4 + m) k v) (L := L) hk hm h3
      rw [e2, ← e] at this
      exact this
    · have row : ∀ b, b ≠ 4 + m → b ≠ 98 → az_uI (az_uI I (4 + m) k v) 98 (8 * m + k) v b = I b := fun b h1 h2 => by rw [zu_row h2, zu_row h1]
      obtain ⟨hP, hC, hS, ⟨t, e0, hB⟩, ⟨nl, hL⟩, ⟨nr, hR⟩, n, c, w, hD, hW, hX, hF⟩ := hI
      refine ⟨fun m' hm' k' hk' => ?_, hC.fr (by apply row <;> omega) (by apply row <;> omega) (by apply row <;> omega), hS.fr (by apply row <;> omega) (by apply row <;> omega) (by apply row <;> omega) (by apply row <;> omega) (by apply row <;> omega) (fun s hs => by apply row <;> omega), ⟨t, e0, hB.fr (by rw [row] <;> omega) (by rw [row] <;> omega) (by rw [row] <;> omega) (by rw [row] <;> omega) (by apply row <;> omega) (by apply row <;> omega) (by apply row <;> omega) (by apply row <;> omega) (by apply row <;> omega) (fun k hk => by apply row <;> omega)⟩, ⟨nl, hL.fr (by rw [row] <;> omega) (by rw [row] <;> omega) (fun k h1 h2 => by apply row <;> omega) (fun k h1 h2 => by apply row <;> omega)⟩, ⟨nr, hR.fr (by rw [row] <;> omega) (by rw [row] <;> omega) (by apply row <;> omega) (by apply row <;> omega) (by apply row <;> omega) (by apply row <;> omega)⟩, n, c, w, hD.fr (by rw [row] <;> omega) (by rw [row] <;> omega) (by rw [row] <;> omega) (by rw [row] <;> omega) (fun k h1 h2 => by apply row <;> omega) (fun k h1 h2 => by apply row <;> omega), hW.fr (by rw [row] <;> omega) (by rw [row] <;> omega) (fun k h1 h2 => by apply row <;> omega) (fun k h1 h2 => by apply row <;> omega), hX.fr (by apply row <;> omega) (by apply row <;> omega), hF.fr (fun a ha => by apply row <;> omega) (by apply row <;> omega)⟩
      obtain ⟨q1, q2, q3⟩ := hP m' hm' k' hk'
      rw [zu_ne (show 4 + m' ≠ 98 by omega)]
      rw [az_uI_at, az_uI_at, zu_ne (show 98 ≠ 4 + m by omega)]
      by_cases hmk : m' = m ∧ k' = k
      · obtain ⟨rfl, rfl⟩ := hmk
        simp only [and_self, if_true, true_and]
        exact h3
      · rw [if_neg (show ¬ (4 + m' = 4 + m ∧ k' = k) by omega), if_neg (show ¬ (98 = 98 ∧ 8 * m' + k' = 8 * m + k) by omega)]
        exact ⟨q1, q2, q3⟩
  · exact ⟨_, I, L, I, L, s_X10_say_bad (d := 6) hb, s_X11_say_bad (d := 6) hb, hI⟩
