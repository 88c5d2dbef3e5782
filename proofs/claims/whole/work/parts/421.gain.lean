/-! ===== gain, unlike ===== -/
theorem zsum_add (f g : Nat → Int32) : ∀ n, zsum (fun k => f k + g k) n = zsum f n + zsum g n
  | 0 => rfl
  | n + 1 => by
    show zsum (fun k => f k + g k) n + (f n + g n) = (zsum f n + f n) + (zsum g n + g n)
    rw [zsum_add f g n, Int32.add_assoc, Int32.add_assoc, ← Int32.add_assoc (zsum g n), Int32.add_comm (zsum g n) (f n), Int32.add_assoc]
theorem zsum_0 : ∀ n, zsum (fun _ => 0) n = 0
  | 0 => rfl
  | n + 1 => by
    show zsum (fun _ => 0) n + 0 = 0
    rw [zsum_0 n]; rfl
theorem zsum_swap (f : Nat → Nat → Int32) (n : Nat) : ∀ m, zsum (fun a => zsum (fun b => f a b) n) m = zsum (fun b => zsum (fun a => f a b) m) n
  | 0 => (zsum_0 n).symm
  | m + 1 => by
    show zsum (fun a => zsum (fun b => f a b) n) m + zsum (fun b => f m b) n = zsum (fun b => zsum (fun a => f a b) m + f m b) n
    rw [zsum_swap f n m, zsum_add]
theorem zsum_one {a : Nat} {v : Int32} : ∀ {n : Nat}, zsum (fun d => if d = a then v else 0) n = if a < n then v else 0
  | 0 => by rw [if_neg (by omega)]; rfl
  | n + 1 => by
    show zsum (fun d => if d = a then v else 0) n + (if n = a then v else 0) = _
    rw [zsum_one]
    by_cases h : a < n
    · rw [if_pos h, if_neg (by omega), if_pos (by omega), Int32.add_zero]
    · by_cases g : n = a
      · rw [if_neg h, if_pos g, if_pos (by omega), Int32.zero_add]
      · rw [if_neg h, if_neg g, if_neg (by omega), Int32.add_zero]
theorem zsum_if {p : Prop} [Decidable p] (f : Nat → Int32) (n : Nat) : (if p then zsum f n else 0) = zsum (fun k => if p then f k else 0) n := by
  by_cases h : p
  · simp only [if_pos h]
  · simp only [if_neg h]; exact (zsum_0 n).symm
/-- the gains of a house's desks together, contract by contract -/
theorem zhg_sum {I : Nat → Nat → Int32} {n c : Nat} (hD : zvD I n c) (x m : Int32) : zsum (fun d => if I 50 d = x then zsum (zss I (nI d) m) c else 0) n = zsum (zhg I x m) c := by
  have e : (fun d => if I 50 d = x then zsum (zss I (nI d) m) c else 0) = fun d => zsum (fun k => if I 50 d = x then zss I (nI d) m k else 0) c := funext fun d => zsum_if _ _
  rw [e, zsum_swap]
  refine zsum_c (fun k hk => ?_)
  obtain ⟨a, b, mm, z, t, h1, h2, h3, h4, h5, h6, h7, h8, h9, h10, h11, h12⟩ := hD.2.2.2.2.2.2.2.2.2.2.2.2.2 k hk
  have hn := hD.1
  unfold zhg
  by_cases hm : I 53 k = m
  · rw [if_pos hm, h8, h9, zcl (show a < 12 by omega) (by decide), zcl (show b < 12 by omega) (by decide)]
    have e2 : zsum (fun d => if I 50 d = x then zss I (nI d) m k else 0) n = zsum (fun d => (if d = a then (if I 50 a = x then I 54 k else 0) else 0) + (if d = b then (if I 50 b = x then - I 54 k else 0) else 0)) n := by
      refine zsum_c (fun d hd => ?_)
      unfold zss
      rw [if_pos hm, h8, h9]
      have q1 : (nI a = nI d) ↔ d = a := (nI_eq (by omega) (by omega)).trans ⟨Eq.symm, Eq.symm⟩
      have q2 : (nI b = nI d) ↔ d = b := (nI_eq (by omega) (by omega)).trans ⟨Eq.symm, Eq.symm⟩
      simp only [q1, q2]
      by_cases g1 : d = a
      · subst g1
        rw [if_pos rfl, if_pos rfl, if_neg h3, Int32.add_zero]
      · rw [if_neg g1, if_neg g1, Int32.zero_add]
        by_cases g2 : d = b
        · subst g2
          rw [if_pos rfl, if_pos rfl]
        · rw [if_neg g2, if_neg g2]; simp
    rw [e2, zsum_add, zsum_one, zsum_one, if_pos h1, if_pos h2, Int32.sub_eq_add_neg]
    by_cases g : I 50 b = x
    · rw [if_pos g, if_pos g]
    · rw [if_neg g, if_neg g]; simp
  · rw [if_neg hm]
    have e2 : (fun d => if I 50 d = x then zss I (nI d) m k else 0) = fun _ => (0 : Int32) := funext fun d => by
      unfold zss; rw [if_neg hm]; simp
    rw [e2, zsum_0]
theorem zsg (x : Int32) : (x >>> ((31 : Int32) &&& 31)) ||| ((-x).toUInt32 >>> ((31 : Int32).toUInt32 &&& Int32.toUInt32 31)).toInt32 = if 0 < x.toInt then 1 else if x.toInt < 0 then -1 else 0 := by
  have hl := Int32.le_toInt x
  have hu := Int32.toInt_lt x
  have e1 : (x >>> ((31 : Int32) &&& 31)).toInt = x.toInt >>> 31 := pk_shr _ _ 31 (by decide)
  have e2 := pk_ushr (-x) 31 31 (by decide)
  rw [Int.shiftRight_eq_div_pow] at e1
  by_cases h : x.toInt < 0
  · rw [if_neg (by omega), if_pos h]
    have q : x >>> ((31 : Int32) &&& 31) = -1 := Int32.toInt_inj.mp (by rw [e1]; simp; omega)
    rw [q]
    apply Int32.toBitVec_inj.mp
    rw [Int32.toBitVec_or]
    exact BitVec.allOnes_or
  · have q : x >>> ((31 : Int32) &&& 31) = 0 := Int32.toInt_inj.mp (by rw [e1]; simp; omega)
    rw [q]
    by_cases g : 0 < x.toInt
    · rw [if_pos g]
      have k1 : (-x).toInt = -x.toInt := by
        rw [Int32.toInt_neg, Int.bmod_def]; omega
      have k2 : (-x).toInt = if 2 * (-x).toBitVec.toNat < 2 ^ 32 then ((-x).toBitVec.toNat : Int) else ((-x).toBitVec.toNat : Int) - (2 ^ 32 : Nat) := BitVec.toInt_eq_toNat_cond _
      have k3 : (-x).toBitVec.toNat < 2 ^ 32 := (-x).toBitVec.isLt
      have k4 : (-x).toBitVec.toNat / 2 ^ 31 = 1 := by
        split at k2 <;> omega
      rw [k4] at e2
      have k5 : ((-x).toUInt32 >>> ((31 : Int32).toUInt32 &&& Int32.toUInt32 31)).toInt32 = 1 := Int32.toBitVec_inj.mp (BitVec.eq_of_toNat_eq e2)
      rw [k5]; decide
    · have k : x = 0 := Int32.toInt_inj.mp (by simp; omega)
      rw [k]; decide
def zor (f : Nat → Int32) : Nat → Int32
  | 0 => 0
  | n + 1 => zor f n ||| f n
theorem zor_c {f g : Nat → Int32} : ∀ {n : Nat}, (∀ k, k < n → f k = g k) → zor f n = zor g n
  | 0, _ => rfl
  | n + 1, h => by
    show zor f n ||| f n = zor g n ||| g n
    rw [zor_c (fun k hk => h k (by omega)), h n (by omega)]
def zsgn (x : Int32) : Int32 := if 0 < x.toInt then 1 else if x.toInt < 0 then -1 else 0
/-- the houses with a desk whose gain has a sign -/
def zhs (I : Nat → Nat → Int32) (m s : Int32) (c : Nat) (k : Nat) : Int32 := if zsgn (zsum (zss I (nI k) m) c) = s then 1 <<< (I 50 k &&& 31) else 0
section S
variable {d : Nat} {I : Nat → Nat → Int32} {L : Nat → Nat → Int64} {h : az_H}
theorem s_J6_signum_0f7a4 {x : Int32} : zD (d + 1) 211 [.int x] h (some (.int (zsgn x))) h := by
  refine zD_of zm_J6_signum_0f7a4 rfl ?_
  show az_W _ _ _ 0 [.int x] [] _
  simp only [u_J6_signum_0f7a4_0, u_J6_signum_0f7a4_1, u_J6_signum_0f7a4_3, u_J6_signum_0f7a4_4, u_J6_signum_0f7a4_5, u_J6_signum_0f7a4_6, u_J6_signum_0f7a4_8, u_J6_signum_0f7a4_9, u_J6_signum_0f7a4_10, az_un_i, az_un_r, az_un_n, az_un_l, Option.toList_some, Option.toList_none, List.cons_append, List.nil_append, List.length_cons, List.length_nil, Nat.reduceLeDiff, Nat.reduceAdd, Nat.zero_le, Nat.zero_add, and_true, true_and, zb_1, eq_self, zsg, zsgn]
theorem s_X11_gainOf {x m : Int32} {n c : Nat} (hD : zvD I n c) : zD (d + 1) 170 [.ref 97, .int x, .int m, .int 0] (130, az_Pf, I, L) (some (.int (zsum (zss I x m) c))) (130, az_Pf, I, L) := by
  refine zD_of zm_X11_gainOf rfl ?_
  show az_W _ _ _ 0 [.ref 97, .int x, .int m, .int 0, .null, .null, .null] [] _
  simp only [u_X11_gainOf_0, u_X11_gainOf_1, u_X11_gainOf_3, u_X11_gainOf_4, u_X11_gainOf_8, u_X11_gainOf_9, u_X11_gainOf_12, u_X11_gainOf_15, u_X11_gainOf_16, u_X11_gainOf_19, u_X11_gainOf_21, u_X11_gainOf_22, u_X11_gainOf_23, u_X11_gainOf_26, u_X11_gainOf_27, u_X11_gainOf_30, u_X11_gainOf_31, u_X11_gainOf_34, u_X11_gainOf_36, u_X11_gainOf_37, u_X11_gainOf_38, u_X11_gainOf_41, u_X11_gainOf_43, u_X11_gainOf_44, u_X11_gainOf_45, u_X11_gainOf_48, u_X11_gainOf_49, u_X11_gainOf_52, u_X11_gainOf_54, u_X11_gainOf_55, u_X11_gainOf_57, u_X11_gainOf_59, u_X11_gainOf_60, u_X11_gainOf_63, u_X11_gainOf_65, u_X11_gainOf_66, u_X11_gainOf_67, u_X11_gainOf_70, u_X11_gainOf_72, u_X11_gainOf_75, u_X11_gainOf_76, u_X11_gainOf_79, u_X11_gainOf_81, u_X11_gainOf_82, u_X11_gainOf_83, u_X11_gainOf_86, u_X11_gainOf_88, u_X11_gainOf_89, u_X11_gainOf_92, u_X11_gainOf_93, u_X11_gainOf_94, u_X11_gainOf_96, u_X11_gainOf_99, u_X11_gainOf_102, u_X11_gainOf_104, az_un_i, az_un_r, az_un_n, az_un_l, Option.toList_some, Option.toList_none, List.cons_append, List.nil_append, List.length_cons, List.length_nil, Nat.reduceLeDiff, Nat.reduceAdd, Nat.zero_le, Nat.zero_add, and_true, true_and, zb_1, eq_self]
  obtain ⟨-, -, -, -, -, hc, -, hn, r1, r2, r3, r4, r5, -⟩ := hD
  refine zloop (P := fun k => ∀ v : Value, az_W (zD d) _ _ 6 [.ref 97, .int x, .int m, .int 0, .int (zsum (zss I x m) k), .int (nI k), v] [] _) c (fun k hk ih v => ?_) (fun v => ?_) 0 (Nat.zero_le _) .null
  · have h1 : ¬ nI c ≤ nI k := nI_ge hk (by omega)
    have e : zsum (zss I x m) (k + 1) = zsum (zss I x m) k + zss I x m k := rfl
    simp only [u_X11_gainOf_6]
    simp only [u_X11_gainOf_0, u_X11_gainOf_1, u_X11_gainOf_3, u_X11_gainOf_4, u_X11_gainOf_8, u_X11_gainOf_9, u_X11_gainOf_12, u_X11_gainOf_15, u_X11_gainOf_16, u_X11_gainOf_19, u_X11_gainOf_21, u_X11_gainOf_22, u_X11_gainOf_23, u_X11_gainOf_26, u_X11_gainOf_27, u_X11_gainOf_30, u_X11_gainOf_31, u_X11_gainOf_34, u_X11_gainOf_36, u_X11_gainOf_37, u_X11_gainOf_38, u_X11_gainOf_41, u_X11_gainOf_43, u_X11_gainOf_44, u_X11_gainOf_45, u_X11_gainOf_48, u_X11_gainOf_49, u_X11_gainOf_52, u_X11_gainOf_54, u_X11_gainOf_55, u_X11_gainOf_57, u_X11_gainOf_59, u_X11_gainOf_60, u_X11_gainOf_63, u_X11_gainOf_65, u_X11_gainOf_66, u_X11_gainOf_67, u_X11_gainOf_70, u_X11_gainOf_72, u_X11_gainOf_75, u_X11_gainOf_76, u_X11_gainOf_79, u_X11_gainOf_81, u_X11_gainOf_82, u_X11_gainOf_83, u_X11_gainOf_86, u_X11_gainOf_88, u_X11_gainOf_89, u_X11_gainOf_92, u_X11_gainOf_93, u_X11_gainOf_94, u_X11_gainOf_96, u_X11_gainOf_99, u_X11_gainOf_102, u_X11_gainOf_104, az_un_i, az_un_r, az_un_n, az_un_l, Option.toList_some, Option.toList_none, List.cons_append, List.nil_append, List.length_cons, List.length_nil, Nat.reduceLeDiff, Nat.reduceAdd, Nat.zero_le, Nat.zero_add, and_true, true_and, zb_1, eq_self, hn, h1, if_false, kx_109, kx_110, kx_111, kx_112, kx_113, zinT (show k < 24 by omega) (by decide), zcl (show k < 24 by omega) (by decide), ← r1, ← r2, ← r3, ← r4, ← r5]
    rw [nI_succ, e] at ih
    unfold zss at ih ⊢
    by_cases g1 : I 53 k = m
    · by_cases g2 : I 51 k = x
      · simp only [g1, g2, and_self, and_true, true_and, if_true, if_false, not_true, not_false_iff, not_true_eq_false, not_false_eq_true, ite_true, ite_false] at ih ⊢; exact ih _
      · by_cases g3 : I 52 k = x
        · simp only [g1, g2, g3, and_self, and_true, true_and, if_true, if_false, not_true, not_false_iff, not_true_eq_false, not_false_eq_true, ite_true, ite_false] at ih ⊢; exact ih _
        · simp only [g1, g2, g3, and_self, and_true, true_and, if_true, if_false, not_true, not_false_iff, not_true_eq_false, not_false_eq_true, ite_true, ite_false] at ih ⊢; exact ih _
    · simp only [g1, and_self, and_true, true_and, if_true, if_false, not_true, not_false_iff, not_true_eq_false, not_false_eq_true, ite_true, ite_false, Int32.add_zero] at ih ⊢; exact ih _
  · have h1 : nI c ≤ nI c := nI_le (Nat.le_refl _) (by omega)
    simp only [u_X11_gainOf_6]
    simp only [u_X11_gainOf_0, u_X11_gainOf_1, u_X11_gainOf_3, u_X11_gainOf_4, u_X11_gainOf_8, u_X11_gainOf_9, u_X11_gainOf_12, u_X11_gainOf_15, u_X11_gainOf_16, u_X11_gainOf_19, u_X11_gainOf_21, u_X11_gainOf_22, u_X11_gainOf_23, u_X11_gainOf_26, u_X11_gainOf_27, u_X11_gainOf_30, u_X11_gainOf_31, u_X11_gainOf_34, u_X11_gainOf_36, u_X11_gainOf_37, u_X11_gainOf_38, u_X11_gainOf_41, u_X11_gainOf_43, u_X11_gainOf_44, u_X11_gainOf_45, u_X11_gainOf_48, u_X11_gainOf_49, u_X11_gainOf_52, u_X11_gainOf_54, u_X11_gainOf_55, u_X11_gainOf_57, u_X11_gainOf_59, u_X11_gainOf_60, u_X11_gainOf_63, u_X11_gainOf_65, u_X11_gainOf_66, u_X11_gainOf_67, u_X11_gainOf_70, u_X11_gainOf_72, u_X11_gainOf_75, u_X11_gainOf_76, u_X11_gainOf_79, u_X11_gainOf_81, u_X11_gainOf_82, u_X11_gainOf_83, u_X11_gainOf_86, u_X11_gainOf_88, u_X11_gainOf_89, u_X11_gainOf_92, u_X11_gainOf_93, u_X11_gainOf_94, u_X11_gainOf_96, u_X11_gainOf_99, u_X11_gainOf_102, u_X11_gainOf_104, az_un_i, az_un_r, az_un_n, az_un_l, Option.toList_some, Option.toList_none, List.cons_append, List.nil_append, List.length_cons, List.length_nil, Nat.reduceLeDiff, Nat.reduceAdd, Nat.zero_le, Nat.zero_add, and_true, true_and, zb_1, eq_self, hn, h1, if_true]
theorem s_X11_gainOf_s {x m : Int32} {n c : Nat} (hD : zvD I n c) : zD (d + 1) 170 [.ref 97, .int x, .int m, .int 1] (130, az_Pf, I, L) (some (.int (zsum (fun c => zss I x m c * I 55 c) c))) (130, az_Pf, I, L) := by
  refine zD_of zm_X11_gainOf rfl ?_
  show az_W _ _ _ 0 [.ref 97, .int x, .int m, .int 1, .null, .null, .null] [] _
  simp only [u_X11_gainOf_0, u_X11_gainOf_1, u_X11_gainOf_3, u_X11_gainOf_4, u_X11_gainOf_8, u_X11_gainOf_9, u_X11_gainOf_12, u_X11_gainOf_15, u_X11_gainOf_16, u_X11_gainOf_19, u_X11_gainOf_21, u_X11_gainOf_22, u_X11_gainOf_23, u_X11_gainOf_26, u_X11_gainOf_27, u_X11_gainOf_30, u_X11_gainOf_31, u_X11_gainOf_34, u_X11_gainOf_36, u_X11_gainOf_37, u_X11_gainOf_38, u_X11_gainOf_41, u_X11_gainOf_43, u_X11_gainOf_44, u_X11_gainOf_45, u_X11_gainOf_48, u_X11_gainOf_49, u_X11_gainOf_52, u_X11_gainOf_54, u_X11_gainOf_55, u_X11_gainOf_57, u_X11_gainOf_59, u_X11_gainOf_60, u_X11_gainOf_63, u_X11_gainOf_65, u_X11_gainOf_66, u_X11_gainOf_67, u_X11_gainOf_70, u_X11_gainOf_72, u_X11_gainOf_75, u_X11_gainOf_76, u_X11_gainOf_79, u_X11_gainOf_81, u_X11_gainOf_82, u_X11_gainOf_83, u_X11_gainOf_86, u_X11_gainOf_88, u_X11_gainOf_89, u_X11_gainOf_92, u_X11_gainOf_93, u_X11_gainOf_94, u_X11_gainOf_96, u_X11_gainOf_99, u_X11_gainOf_102, u_X11_gainOf_104, az_un_i, az_un_r, az_un_n, az_un_l, Option.toList_some, Option.toList_none, List.cons_append, List.nil_append, List.length_cons, List.length_nil, Nat.reduceLeDiff, Nat.reduceAdd, Nat.zero_le, Nat.zero_add, and_true, true_and, zb_1, eq_self]
  obtain ⟨-, -, -, -, -, hc, -, hn, r1, r2, r3, r4, r5, -⟩ := hD
  refine zloop (P := fun k => ∀ v : Value, az_W (zD d) _ _ 6 [.ref 97, .int x, .int m, .int 1, .int (zsum (fun c => zss I x m c * I 55 c) k), .int (nI k), v] [] _) c (fun k hk ih v => ?_) (fun v => ?_) 0 (Nat.zero_le _) .null
  · have h1 : ¬ nI c ≤ nI k := nI_ge hk (by omega)
    have h2 : ¬ (1 : Int32) = 0 := by decide
    have e : zsum (fun c => zss I x m c * I 55 c) (k + 1) = zsum (fun c => zss I x m c * I 55 c) k + zss I x m k * I 55 k := rfl
    simp only [u_X11_gainOf_6]
    simp only [u_X11_gainOf_0, u_X11_gainOf_1, u_X11_gainOf_3, u_X11_gainOf_4, u_X11_gainOf_8, u_X11_gainOf_9, u_X11_gainOf_12, u_X11_gainOf_15, u_X11_gainOf_16, u_X11_gainOf_19, u_X11_gainOf_21, u_X11_gainOf_22, u_X11_gainOf_23, u_X11_gainOf_26, u_X11_gainOf_27, u_X11_gainOf_30, u_X11_gainOf_31, u_X11_gainOf_34, u_X11_gainOf_36, u_X11_gainOf_37, u_X11_gainOf_38, u_X11_gainOf_41, u_X11_gainOf_43, u_X11_gainOf_44, u_X11_gainOf_45, u_X11_gainOf_48, u_X11_gainOf_49, u_X11_gainOf_52, u_X11_gainOf_54, u_X11_gainOf_55, u_X11_gainOf_57, u_X11_gainOf_59, u_X11_gainOf_60, u_X11_gainOf_63, u_X11_gainOf_65, u_X11_gainOf_66, u_X11_gainOf_67, u_X11_gainOf_70, u_X11_gainOf_72, u_X11_gainOf_75, u_X11_gainOf_76, u_X11_gainOf_79, u_X11_gainOf_81, u_X11_gainOf_82, u_X11_gainOf_83, u_X11_gainOf_86, u_X11_gainOf_88, u_X11_gainOf_89, u_X11_gainOf_92, u_X11_gainOf_93, u_X11_gainOf_94, u_X11_gainOf_96, u_X11_gainOf_99, u_X11_gainOf_102, u_X11_gainOf_104, az_un_i, az_un_r, az_un_n, az_un_l, Option.toList_some, Option.toList_none, List.cons_append, List.nil_append, List.length_cons, List.length_nil, Nat.reduceLeDiff, Nat.reduceAdd, Nat.zero_le, Nat.zero_add, and_true, true_and, zb_1, eq_self, hn, h1, h2, if_false, kx_109, kx_110, kx_111, kx_112, kx_113, zinT (show k < 24 by omega) (by decide), zcl (show k < 24 by omega) (by decide), ← r1, ← r2, ← r3, ← r4, ← r5]
    rw [nI_succ, e] at ih
    rw [show zss I x m k = if I 53 k = m then (if I 51 k = x then I 54 k else if I 52 k = x then - I 54 k else 0) else 0 from rfl] at ih
    by_cases g1 : I 53 k = m
    · by_cases g2 : I 51 k = x
      · simp only [g1, g2, and_self, and_true, true_and, if_true, if_false, not_true, not_false_iff, not_true_eq_false, not_false_eq_true, ite_true, ite_false] at ih ⊢; exact ih _
      · by_cases g3 : I 52 k = x
        · simp only [g1, g2, g3, and_self, and_true, true_and, if_true, if_false, not_true, not_false_iff, not_true_eq_false, not_false_eq_true, ite_true, ite_false, Int32.neg_mul] at ih ⊢; exact ih _
        · simp only [g1, g2, g3, and_self, and_true, true_and, if_true, if_false, not_true, not_false_iff, not_true_eq_false, not_false_eq_true, ite_true, ite_false, Int32.zero_mul] at ih ⊢; exact ih _
    · simp only [g1, and_self, and_true, true_and, if_true, if_false, not_true, not_false_iff, not_true_eq_false, not_false_eq_true, ite_true, ite_false, Int32.zero_mul, Int32.add_zero] at ih ⊢; exact ih _
  · have h1 : nI c ≤ nI c := nI_le (Nat.le_refl _) (by omega)
    simp only [u_X11_gainOf_6]
    simp only [u_X11_gainOf_0, u_X11_gainOf_1, u_X11_gainOf_3, u_X11_gainOf_4, u_X11_gainOf_8, u_X11_gainOf_9, u_X11_gainOf_12, u_X11_gainOf_15, u_X11_gainOf_16, u_X11_gainOf_19, u_X11_gainOf_21, u_X11_gainOf_22, u_X11_gainOf_23, u_X11_gainOf_26, u_X11_gainOf_27, u_X11_gainOf_30, u_X11_gainOf_31, u_X11_gainOf_34, u_X11_gainOf_36, u_X11_gainOf_37, u_X11_gainOf_38, u_X11_gainOf_41, u_X11_gainOf_43, u_X11_gainOf_44, u_X11_gainOf_45, u_X11_gainOf_48, u_X11_gainOf_49, u_X11_gainOf_52, u_X11_gainOf_54, u_X11_gainOf_55, u_X11_gainOf_57, u_X11_gainOf_59, u_X11_gainOf_60, u_X11_gainOf_63, u_X11_gainOf_65, u_X11_gainOf_66, u_X11_gainOf_67, u_X11_gainOf_70, u_X11_gainOf_72, u_X11_gainOf_75, u_X11_gainOf_76, u_X11_gainOf_79, u_X11_gainOf_81, u_X11_gainOf_82, u_X11_gainOf_83, u_X11_gainOf_86, u_X11_gainOf_88, u_X11_gainOf_89, u_X11_gainOf_92, u_X11_gainOf_93, u_X11_gainOf_94, u_X11_gainOf_96, u_X11_gainOf_99, u_X11_gainOf_102, u_X11_gainOf_104, az_un_i, az_un_r, az_un_n, az_un_l, Option.toList_some, Option.toList_none, List.cons_append, List.nil_append, List.length_cons, List.length_nil, Nat.reduceLeDiff, Nat.reduceAdd, Nat.zero_le, Nat.zero_add, and_true, true_and, zb_1, eq_self, hn, h1, if_true]
theorem s_X11_gainsOf {x m : Int32} {n c : Nat} (hD : zvD I n c) : zD (d + 2) 171 [.ref 97, .int x, .int m] (130, az_Pf, I, L) (some (.int (zsum (zhg I x m) c))) (130, az_Pf, I, L) := by
  rw [← zhg_sum hD]
  refine zD_of zm_X11_gainsOf rfl ?_
  show az_W _ _ _ 0 [.ref 97, .int x, .int m, .null, .null] [] _
  simp only [u_X11_gainsOf_0, u_X11_gainsOf_1, u_X11_gainsOf_2, u_X11_gainsOf_3, u_X11_gainsOf_7, u_X11_gainsOf_8, u_X11_gainsOf_11, u_X11_gainsOf_14, u_X11_gainsOf_15, u_X11_gainsOf_16, u_X11_gainsOf_19, u_X11_gainsOf_21, u_X11_gainsOf_22, u_X11_gainsOf_23, u_X11_gainsOf_26, u_X11_gainsOf_27, u_X11_gainsOf_29, u_X11_gainsOf_30, u_X11_gainsOf_31, u_X11_gainsOf_34, u_X11_gainsOf_37, u_X11_gainsOf_38, u_X11_gainsOf_39, u_X11_gainsOf_40, u_X11_gainsOf_43, u_X11_gainsOf_46, u_X11_gainsOf_47, az_un_i, az_un_r, az_un_n, az_un_l, Option.toList_some, Option.toList_none, List.cons_append, List.nil_append, List.length_cons, List.length_nil, Nat.reduceLeDiff, Nat.reduceAdd, Nat.zero_le, Nat.zero_add, and_true, true_and, zb_1, eq_self]
  have hn := hD.2.2.1
  have hle := hD.1
  have r := hD.2.2.2.1
  refine zloop (P := fun k => az_W (zD (d + 1)) _ _ 5 [.ref 97, .int x, .int m, .int (zsum (fun d => if I 50 d = x then zsum (zss I (nI d) m) c else 0) k), .int (nI k)] [] _) n (fun k hk ih => ?_) ?_ 0 (Nat.zero_le _)
  · have h1 : ¬ nI n ≤ nI k := nI_ge hk (by omega)
    have e : zsum (fun d => if I 50 d = x then zsum (zss I (nI d) m) c else 0) (k + 1) = zsum (fun d => if I 50 d = x then zsum (zss I (nI d) m) c else 0) k + (if I 50 k = x then zsum (zss I (nI k) m) c else 0) := rfl
    simp only [u_X11_gainsOf_5]
    simp only [u_X11_gainsOf_0, u_X11_gainsOf_1, u_X11_gainsOf_2, u_X11_gainsOf_3, u_X11_gainsOf_7, u_X11_gainsOf_8, u_X11_gainsOf_11, u_X11_gainsOf_14, u_X11_gainsOf_15, u_X11_gainsOf_16, u_X11_gainsOf_19, u_X11_gainsOf_21, u_X11_gainsOf_22, u_X11_gainsOf_23, u_X11_gainsOf_26, u_X11_gainsOf_27, u_X11_gainsOf_29, u_X11_gainsOf_30, u_X11_gainsOf_31, u_X11_gainsOf_34, u_X11_gainsOf_37, u_X11_gainsOf_38, u_X11_gainsOf_39, u_X11_gainsOf_40, u_X11_gainsOf_43, u_X11_gainsOf_46, u_X11_gainsOf_47, az_un_i, az_un_r, az_un_n, az_un_l, Option.toList_some, Option.toList_none, List.cons_append, List.nil_append, List.length_cons, List.length_nil, Nat.reduceLeDiff, Nat.reduceAdd, Nat.zero_le, Nat.zero_add, and_true, true_and, zb_1, eq_self, hn, h1, if_false, kx_108, zinT (show k < 12 by omega) (by decide), zcl (show k < 12 by omega) (by decide), ← r, az_call (s_X11_gainOf hD)]
    rw [nI_succ, e] at ih
    by_cases g1 : I 50 k = x
    · simp only [g1, and_self, and_true, true_and, if_true, if_false, not_true, not_false_iff, not_true_eq_false, not_false_eq_true, ite_true, ite_false] at ih ⊢; exact ih
    · simp only [g1, and_self, and_true, true_and, if_true, if_false, not_true, not_false_iff, not_true_eq_false, not_false_eq_true, ite_true, ite_false] at ih ⊢; exact ih
  · have h1 : nI n ≤ nI n := nI_le (Nat.le_refl _) (by omega)
    simp only [u_X11_gainsOf_5]
    simp only [u_X11_gainsOf_0, u_X11_gainsOf_1, u_X11_gainsOf_2, u_X11_gainsOf_3, u_X11_gainsOf_7, u_X11_gainsOf_8, u_X11_gainsOf_11, u_X11_gainsOf_14, u_X11_gainsOf_15, u_X11_gainsOf_16, u_X11_gainsOf_19, u_X11_gainsOf_21, u_X11_gainsOf_22, u_X11_gainsOf_23, u_X11_gainsOf_26, u_X11_gainsOf_27, u_X11_gainsOf_29, u_X11_gainsOf_30, u_X11_gainsOf_31, u_X11_gainsOf_34, u_X11_gainsOf_37, u_X11_gainsOf_38, u_X11_gainsOf_39, u_X11_gainsOf_40, u_X11_gainsOf_43, u_X11_gainsOf_46, u_X11_gainsOf_47, az_un_i, az_un_r, az_un_n, az_un_l, Option.toList_some, Option.toList_none, List.cons_append, List.nil_append, List.length_cons, List.length_nil, Nat.reduceLeDiff, Nat.reduceAdd, Nat.zero_le, Nat.zero_add, and_true, true_and, zb_1, eq_self, hn, h1, if_true]
theorem zvD.in {n c : Nat} (hD : zvD I n c) : ∀ k, k < c → az_in (I 51 k) 12 ∧ az_in (I 52 k) 12 := fun k hk => by
  obtain ⟨a, b, mm, z, t, h1, h2, h3, h4, h5, h6, h7, h8, h9, h10, h11, h12⟩ := hD.2.2.2.2.2.2.2.2.2.2.2.2.2 k hk
  have hn := hD.1
  rw [h8, h9]
  exact ⟨zin (by omega) (by decide), zin (by omega) (by decide)⟩
theorem s_X10_gain_bad {x y z : Int32} {n : Nat} (hn : I 49 1 = nI n) (hle : n ≤ 12) (hb : ¬ ((0 ≤ x.toInt ∧ x.toInt < (n : Int)) ∧ (0 ≤ y.toInt ∧ y.toInt ≤ 29) ∧ (0 ≤ z.toInt ∧ z.toInt ≤ 1))) : zD (d + 4) 103 [.ref 0, .int x, .int y, .int z] (130, az_Pf, I, L) (some (.int (-10001))) (130, az_Pf, I, L) := by
  refine zD_of zm_X10_gain rfl ?_
  show az_W _ _ _ 0 [.ref 0, .int x, .int y, .int z] [] _
  simp only [u_X10_gain_0, u_X10_gain_1, u_X10_gain_4, u_X10_gain_5, u_X10_gain_8, u_X10_gain_11, u_X10_gain_12, u_X10_gain_15, u_X10_gain_18, u_X10_gain_19, u_X10_gain_22, u_X10_gain_25, u_X10_gain_28, u_X10_gain_29, u_X10_gain_30, u_X10_gain_33, u_X10_gain_34, u_X10_gain_37, u_X10_gain_38, u_X10_gain_39, u_X10_gain_42, u_X10_gain_45, u_X10_gain_46, u_X10_gain_49, u_X10_gain_50, u_X10_gain_53, u_X10_gain_54, u_X10_gain_57, u_X10_gain_58, u_X10_gain_61, az_un_i, az_un_r, az_un_n, az_un_l, Option.toList_some, Option.toList_none, List.cons_append, List.nil_append, List.length_cons, List.length_nil, Nat.reduceLeDiff, Nat.reduceAdd, Nat.zero_le, Nat.zero_add, and_true, true_and, zb_1, eq_self, zb_0, az_call (s_X0_hasN hn hle), az_call s_X10_isMorning, az_call s_X10_isBit]
  by_cases h1 : 0 ≤ x.toInt ∧ x.toInt < (n : Int) <;> by_cases h2 : 0 ≤ y.toInt ∧ y.toInt ≤ 29 <;> by_cases h3 : 0 ≤ z.toInt ∧ z.toInt ≤ 1 <;> simp only [h1, h2, h3, and_self, and_true, true_and, if_true, if_false, not_true, not_false_iff, not_true_eq_false, not_false_eq_true, ite_true, ite_false]
  exact absurd ⟨h1, h2, h3⟩ hb
theorem s_X11_gain_bad {x y z : Int32} {n : Nat} (hn : I 97 17 = nI n) (hle : n ≤ 12) (hb : ¬ ((0 ≤ x.toInt ∧ x.toInt < (n : Int)) ∧ (0 ≤ y.toInt ∧ y.toInt ≤ 29) ∧ (0 ≤ z.toInt ∧ z.toInt ≤ 1))) : zD (d + 4) 172 [.ref 97, .int x, .int y, .int z] (130, az_Pf, I, L) (some (.int (-10001))) (130, az_Pf, I, L) := by
  refine zD_of zm_X11_gain rfl ?_
  show az_W _ _ _ 0 [.ref 97, .int x, .int y, .int z] [] _
  simp only [u_X11_gain_0, u_X11_gain_1, u_X11_gain_2, u_X11_gain_5, u_X11_gain_8, u_X11_gain_9, u_X11_gain_12, u_X11_gain_15, u_X11_gain_16, u_X11_gain_17, u_X11_gain_18, u_X11_gain_19, u_X11_gain_22, u_X11_gain_25, u_X11_gain_28, u_X11_gain_29, u_X11_gain_30, u_X11_gain_33, u_X11_gain_34, u_X11_gain_35, u_X11_gain_36, u_X11_gain_37, u_X11_gain_40, u_X11_gain_43, u_X11_gain_44, u_X11_gain_45, u_X11_gain_48, u_X11_gain_49, u_X11_gain_50, u_X11_gain_51, u_X11_gain_54, az_un_i, az_un_r, az_un_n, az_un_l, Option.toList_some, Option.toList_none, List.cons_append, List.nil_append, List.length_cons, List.length_nil, Nat.reduceLeDiff, Nat.reduceAdd, Nat.zero_le, Nat.zero_add, and_true, true_and, zb_1, eq_self, zb_0, az_call (s_X11_isDesk hn hle), az_call s_X11_isMorning, az_call s_X11_in, z64, zl_0, zj_0, zl_1, zj_1, zl_2, zj_2, zl_3, zj_3, zl_4, zj_4, zl_5, zj_5, zl_6, zj_6, zl_7, zj_7, zl_8, zj_8, zl_9, zj_9, zl_10, zj_10, zl_11, zj_11, zl_12, zj_12, zl_15, zj_15, zl_16, zj_16, zl_20, zj_20, zl_24, zj_24, zl_29, zj_29, zl_30, zj_30, zl_31, zj_31, zl_32, zj_32, zl_40, zj_40, zl_48, zj_48, zl_57, zj_57, zl_59, zj_59, zl_60, zj_60, zl_63, zj_63, zl_99, zj_99, zl_100, zj_100, zl_126, zj_126, zl_144, zj_144, zl_200, zj_200, zl_240, zj_240, zl_255, zj_255, zl_256, zj_256, zl_999, zj_999, zl_1000, zj_1000, zlm_1, zjm_1, zlm_2, zjm_2, zlm_3, zjm_3, zlm_4, zjm_4, zlm_11, zjm_11, zlm_12, zjm_12, zlm_13, zjm_13, zlm_14, zjm_14, zlm_20, zjm_20, zlm_10001, zjm_10001, zlm_10002, zjm_10002]
  by_cases h1 : 0 ≤ x.toInt ∧ x.toInt < (n : Int) <;> by_cases h2 : 0 ≤ y.toInt ∧ y.toInt ≤ 29 <;> by_cases h3 : 0 ≤ z.toInt ∧ z.toInt ≤ 1 <;> simp only [h1, h2, h3, and_self, and_true, true_and, if_true, if_false, not_true, not_false_iff, not_true_eq_false, not_false_eq_true, ite_true, ite_false]
  exact absurd ⟨h1, h2, h3⟩ hb
theorem s_X10_gain {a n c : Nat} {m z : Int32} (hD : zvD I n c) (ha : a < n) (h1 : 0 ≤ m.toInt ∧ m.toInt ≤ 29) (h2 : 0 ≤ z.toInt ∧ z.toInt ≤ 1) : zD (d + 4) 103 [.ref 0, .int (nI a), .int m, .int z] (130, az_Pf, I, L) (some (.int (if z = 0 then zsum (zss I (nI a) m) c else zsum (zhg I (I 50 a) m) c))) (130, az_Pf, I, L) := by
  refine zD_of zm_X10_gain rfl ?_
  show az_W _ _ _ 0 [.ref 0, .int (nI a), .int m, .int z] [] _
  have hle := hD.1
  have hh := s_X0_houseOf (d := d + 2) (I := I) (L := L) (x := nI a) (zin (show a < 12 by omega) (by decide))
  rw [zcl (show a < 12 by omega) (by decide)] at hh
  simp only [u_X10_gain_0, u_X10_gain_1, u_X10_gain_4, u_X10_gain_5, u_X10_gain_8, u_X10_gain_11, u_X10_gain_12, u_X10_gain_15, u_X10_gain_18, u_X10_gain_19, u_X10_gain_22, u_X10_gain_25, u_X10_gain_28, u_X10_gain_29, u_X10_gain_30, u_X10_gain_33, u_X10_gain_34, u_X10_gain_37, u_X10_gain_38, u_X10_gain_39, u_X10_gain_42, u_X10_gain_45, u_X10_gain_46, u_X10_gain_49, u_X10_gain_50, u_X10_gain_53, u_X10_gain_54, u_X10_gain_57, u_X10_gain_58, u_X10_gain_61, az_un_i, az_un_r, az_un_n, az_un_l, Option.toList_some, Option.toList_none, List.cons_append, List.nil_append, List.length_cons, List.length_nil, Nat.reduceLeDiff, Nat.reduceAdd, Nat.zero_le, Nat.zero_add, and_true, true_and, zb_1, eq_self, az_call (s_X0_hasN hD.2.1 hD.1), az_call s_X10_isMorning, az_call s_X10_isBit, zb_0, (eq_true (by rw [nI_toInt (by omega)]; omega) : (0 ≤ (nI a).toInt ∧ (nI a).toInt < (n : Int)) = True), eq_true h1, eq_true h2, and_self, and_true, true_and, if_true, if_false, not_true, not_false_iff, not_true_eq_false, not_false_eq_true, ite_true, ite_false, az_call (s_X0_deskGain hD.2.2.2.2.2.2.1 hD.2.2.2.2.2.1), az_call hh, az_call (s_X0_houseGain hD.2.2.2.2.2.2.1 hD.2.2.2.2.2.1 hD.in)]
  by_cases g : z = 0 <;> simp only [g, and_self, and_true, true_and, if_true, if_false, not_true, not_false_iff, not_true_eq_false, not_false_eq_true, ite_true, ite_false]
theorem s_X11_gain {a n c : Nat} {m z : Int32} (hD : zvD I n c) (ha : a < n) (h1 : 0 ≤ m.toInt ∧ m.toInt ≤ 29) (h2 : 0 ≤ z.toInt ∧ z.toInt ≤ 1) : zD (d + 4) 172 [.ref 97, .int (nI a), .int m, .int z] (130, az_Pf, I, L) (some (.int (if z = 0 then zsum (zss I (nI a) m) c else zsum (zhg I (I 50 a) m) c))) (130, az_Pf, I, L) := by
  refine zD_of zm_X11_gain rfl ?_
  show az_W _ _ _ 0 [.ref 97, .int (nI a), .int m, .int z] [] _
  have hle := hD.1
  simp only [u_X11_gain_0, u_X11_gain_1, u_X11_gain_2, u_X11_gain_5, u_X11_gain_8, u_X11_gain_9, u_X11_gain_12, u_X11_gain_15, u_X11_gain_16, u_X11_gain_17, u_X11_gain_18, u_X11_gain_19, u_X11_gain_22, u_X11_gain_25, u_X11_gain_28, u_X11_gain_29, u_X11_gain_30, u_X11_gain_33, u_X11_gain_34, u_X11_gain_35, u_X11_gain_36, u_X11_gain_37, u_X11_gain_40, u_X11_gain_43, u_X11_gain_44, u_X11_gain_45, u_X11_gain_48, u_X11_gain_49, u_X11_gain_50, u_X11_gain_51, u_X11_gain_54, az_un_i, az_un_r, az_un_n, az_un_l, Option.toList_some, Option.toList_none, List.cons_append, List.nil_append, List.length_cons, List.length_nil, Nat.reduceLeDiff, Nat.reduceAdd, Nat.zero_le, Nat.zero_add, and_true, true_and, zb_1, eq_self, az_call (s_X11_isDesk hD.2.2.1 hD.1), az_call s_X11_isMorning, az_call s_X11_in, z64, zl_0, zj_0, zl_1, zj_1, zl_2, zj_2, zl_3, zj_3, zl_4, zj_4, zl_5, zj_5, zl_6, zj_6, zl_7, zj_7, zl_8, zj_8, zl_9, zj_9, zl_10, zj_10, zl_11, zj_11, zl_12, zj_12, zl_15, zj_15, zl_16, zj_16, zl_20, zj_20, zl_24, zj_24, zl_29, zj_29, zl_30, zj_30, zl_31, zj_31, zl_32, zj_32, zl_40, zj_40, zl_48, zj_48, zl_57, zj_57, zl_59, zj_59, zl_60, zj_60, zl_63, zj_63, zl_99, zj_99, zl_100, zj_100, zl_126, zj_126, zl_144, zj_144, zl_200, zj_200, zl_240, zj_240, zl_255, zj_255, zl_256, zj_256, zl_999, zj_999, zl_1000, zj_1000, zlm_1, zjm_1, zlm_2, zjm_2, zlm_3, zjm_3, zlm_4, zjm_4, zlm_11, zjm_11, zlm_12, zjm_12, zlm_13, zjm_13, zlm_14, zjm_14, zlm_20, zjm_20, zlm_10001, zjm_10001, zlm_10002, zjm_10002, zb_0, (eq_true (by rw [nI_toInt (by omega)]; omega) : (0 ≤ (nI a).toInt ∧ (nI a).toInt < (n : Int)) = True), eq_true h1, eq_true h2, and_self, and_true, true_and, if_true, if_false, not_true, not_false_iff, not_true_eq_false, not_false_eq_true, ite_true, ite_false, kx_108, zinT (show a < 12 by omega) (by decide), zcl (show a < 12 by omega) (by decide), ← hD.2.2.2.1, az_call (s_X11_gainOf hD), az_call (s_X11_gainsOf hD)]
  by_cases g : z = 0 <;> simp only [g, and_self, and_true, true_and, if_true, if_false, not_true, not_false_iff, not_true_eq_false, not_false_eq_true, ite_true, ite_false]
theorem s_X0_housesGaining {m s : Int32} {n c : Nat} (hD : zvD I n c) : zD (d + 3) 11 [.ref 49, .int m, .int s] (130, az_Pf, I, L) (some (.int (zor (zhs I m s c) n))) (130, az_Pf, I, L) := by
  refine zD_of zm_X0_housesGaining rfl ?_
  show az_W _ _ _ 0 [.ref 49, .int m, .int s, .null, .null] [] _
  simp only [u_X0_housesGaining_0, u_X0_housesGaining_1, u_X0_housesGaining_2, u_X0_housesGaining_3, u_X0_housesGaining_7, u_X0_housesGaining_8, u_X0_housesGaining_11, u_X0_housesGaining_14, u_X0_housesGaining_15, u_X0_housesGaining_17, u_X0_housesGaining_18, u_X0_housesGaining_21, u_X0_housesGaining_24, u_X0_housesGaining_25, u_X0_housesGaining_28, u_X0_housesGaining_29, u_X0_housesGaining_30, u_X0_housesGaining_31, u_X0_housesGaining_34, u_X0_housesGaining_36, u_X0_housesGaining_37, u_X0_housesGaining_38, u_X0_housesGaining_39, u_X0_housesGaining_40, u_X0_housesGaining_43, u_X0_housesGaining_46, u_X0_housesGaining_47, az_un_i, az_un_r, az_un_n, az_un_l, Option.toList_some, Option.toList_none, List.cons_append, List.nil_append, List.length_cons, List.length_nil, Nat.reduceLeDiff, Nat.reduceAdd, Nat.zero_le, Nat.zero_add, and_true, true_and, zb_1, eq_self]
  have hn := hD.2.1
  have hle := hD.1
  refine zloop (P := fun k => az_W (zD (d + 2)) _ _ 5 [.ref 49, .int m, .int s, .int (zor (zhs I m s c) k), .int (nI k)] [] _) n (fun k hk ih => ?_) ?_ 0 (Nat.zero_le _)
  · have h1 : ¬ nI n ≤ nI k := nI_ge hk (by omega)
    have e : zor (zhs I m s c) (k + 1) = zor (zhs I m s c) k ||| zhs I m s c k := rfl
    simp only [u_X0_housesGaining_5]
    simp only [u_X0_housesGaining_0, u_X0_housesGaining_1, u_X0_housesGaining_2, u_X0_housesGaining_3, u_X0_housesGaining_7, u_X0_housesGaining_8, u_X0_housesGaining_11, u_X0_housesGaining_14, u_X0_housesGaining_15, u_X0_housesGaining_17, u_X0_housesGaining_18, u_X0_housesGaining_21, u_X0_housesGaining_24, u_X0_housesGaining_25, u_X0_housesGaining_28, u_X0_housesGaining_29, u_X0_housesGaining_30, u_X0_housesGaining_31, u_X0_housesGaining_34, u_X0_housesGaining_36, u_X0_housesGaining_37, u_X0_housesGaining_38, u_X0_housesGaining_39, u_X0_housesGaining_40, u_X0_housesGaining_43, u_X0_housesGaining_46, u_X0_housesGaining_47, az_un_i, az_un_r, az_un_n, az_un_l, Option.toList_some, Option.toList_none, List.cons_append, List.nil_append, List.length_cons, List.length_nil, Nat.reduceLeDiff, Nat.reduceAdd, Nat.zero_le, Nat.zero_add, and_true, true_and, zb_1, eq_self, hn, h1, if_false, kx_50, zinT (show k < 12 by omega) (by decide), zcl (show k < 12 by omega) (by decide), az_call (s_X0_deskGain hD.2.2.2.2.2.2.1 hD.2.2.2.2.2.1), az_call s_J6_signum_0f7a4]
    rw [nI_succ, e] at ih
    unfold zhs at ih ⊢
    by_cases g : zsgn (zsum (zss I (nI k) m) c) = s
    · rw [if_pos g] at ih ⊢; exact ih
    · rw [if_neg g, Int32.or_zero] at ih; rw [if_neg g]; exact ih
  · have h1 : nI n ≤ nI n := nI_le (Nat.le_refl _) (by omega)
    simp only [u_X0_housesGaining_5]
    simp only [u_X0_housesGaining_0, u_X0_housesGaining_1, u_X0_housesGaining_2, u_X0_housesGaining_3, u_X0_housesGaining_7, u_X0_housesGaining_8, u_X0_housesGaining_11, u_X0_housesGaining_14, u_X0_housesGaining_15, u_X0_housesGaining_17, u_X0_housesGaining_18, u_X0_housesGaining_21, u_X0_housesGaining_24, u_X0_housesGaining_25, u_X0_housesGaining_28, u_X0_housesGaining_29, u_X0_housesGaining_30, u_X0_housesGaining_31, u_X0_housesGaining_34, u_X0_housesGaining_36, u_X0_housesGaining_37, u_X0_housesGaining_38, u_X0_housesGaining_39, u_X0_housesGaining_40, u_X0_housesGaining_43, u_X0_housesGaining_46, u_X0_housesGaining_47, az_un_i, az_un_r, az_un_n, az_un_l, Option.toList_some, Option.toList_none, List.cons_append, List.nil_append, List.length_cons, List.length_nil, Nat.reduceLeDiff, Nat.reduceAdd, Nat.zero_le, Nat.zero_add, and_true, true_and, zb_1, eq_self, hn, h1, if_true]
theorem s_X10_unlike_bad {x : Int32} (hb : ¬ ((0 ≤ x.toInt ∧ x.toInt ≤ 29))) : zD (d + 5) 105 [.ref 0, .int x] (130, az_Pf, I, L) (some (.int (-1))) (130, az_Pf, I, L) := by
  refine zD_of zm_X10_unlike rfl ?_
  show az_W _ _ _ 0 [.ref 0, .int x] [] _
  simp only [u_X10_unlike_0, u_X10_unlike_1, u_X10_unlike_4, u_X10_unlike_7, u_X10_unlike_8, u_X10_unlike_9, u_X10_unlike_10, u_X10_unlike_13, u_X10_unlike_14, u_X10_unlike_15, u_X10_unlike_18, u_X10_unlike_19, u_X10_unlike_22, u_X10_unlike_23, u_X10_unlike_24, u_X10_unlike_27, u_X10_unlike_28, az_un_i, az_un_r, az_un_n, az_un_l, Option.toList_some, Option.toList_none, List.cons_append, List.nil_append, List.length_cons, List.length_nil, Nat.reduceLeDiff, Nat.reduceAdd, Nat.zero_le, Nat.zero_add, and_true, true_and, zb_1, eq_self, zb_0, az_call s_X10_isMorning]
  simp only [eq_false hb, and_self, and_true, true_and, if_true, if_false, not_true, not_false_iff, not_true_eq_false, not_false_eq_true, ite_true, ite_false]
theorem s_X11_unlike_bad {x : Int32} (hb : ¬ ((0 ≤ x.toInt ∧ x.toInt ≤ 29))) : zD (d + 5) 174 [.ref 97, .int x] (130, az_Pf, I, L) (some (.int (-1))) (130, az_Pf, I, L) := by
  refine zD_of zm_X11_unlike rfl ?_
  show az_W _ _ _ 0 [.ref 97, .int x, .null, .null, .null, .null] [] _
  simp only [u_X11_unlike_0, u_X11_unlike_1, u_X11_unlike_4, u_X11_unlike_7, u_X11_unlike_8, u_X11_unlike_9, u_X11_unlike_10, u_X11_unlike_11, u_X11_unlike_12, u_X11_unlike_13, u_X11_unlike_14, u_X11_unlike_18, u_X11_unlike_19, u_X11_unlike_22, u_X11_unlike_25, u_X11_unlike_26, u_X11_unlike_28, u_X11_unlike_29, u_X11_unlike_30, u_X11_unlike_33, u_X11_unlike_35, u_X11_unlike_36, u_X11_unlike_38, u_X11_unlike_41, u_X11_unlike_42, u_X11_unlike_43, u_X11_unlike_46, u_X11_unlike_48, u_X11_unlike_49, u_X11_unlike_50, u_X11_unlike_53, u_X11_unlike_54, u_X11_unlike_55, u_X11_unlike_56, u_X11_unlike_57, u_X11_unlike_59, u_X11_unlike_62, u_X11_unlike_63, u_X11_unlike_64, u_X11_unlike_67, u_X11_unlike_69, u_X11_unlike_70, u_X11_unlike_71, u_X11_unlike_74, u_X11_unlike_75, u_X11_unlike_76, u_X11_unlike_77, u_X11_unlike_80, u_X11_unlike_83, u_X11_unlike_84, u_X11_unlike_85, u_X11_unlike_86, az_un_i, az_un_r, az_un_n, az_un_l, Option.toList_some, Option.toList_none, List.cons_append, List.nil_append, List.length_cons, List.length_nil, Nat.reduceLeDiff, Nat.reduceAdd, Nat.zero_le, Nat.zero_add, and_true, true_and, zb_1, eq_self, zb_0, az_call s_X11_isMorning]
  simp only [eq_false hb, and_self, and_true, true_and, if_true, if_false, not_true, not_false_iff, not_true_eq_false, not_false_eq_true, ite_true, ite_false]
theorem s_X10_unlike {m : Int32} {n c : Nat} (hD : zvD I n c) (h1 : 0 ≤ m.toInt ∧ m.toInt ≤ 29) : zD (d + 5) 105 [.ref 0, .int m] (130, az_Pf, I, L) (some (.int (zor (zhs I m 1 c) n &&& zor (zhs I m (-1) c) n))) (130, az_Pf, I, L) := by
  refine zD_of zm_X10_unlike rfl ?_
  show az_W _ _ _ 0 [.ref 0, .int m] [] _
  simp only [u_X10_unlike_0, u_X10_unlike_1, u_X10_unlike_4, u_X10_unlike_7, u_X10_unlike_8, u_X10_unlike_9, u_X10_unlike_10, u_X10_unlike_13, u_X10_unlike_14, u_X10_unlike_15, u_X10_unlike_18, u_X10_unlike_19, u_X10_unlike_22, u_X10_unlike_23, u_X10_unlike_24, u_X10_unlike_27, u_X10_unlike_28, az_un_i, az_un_r, az_un_n, az_un_l, Option.toList_some, Option.toList_none, List.cons_append, List.nil_append, List.length_cons, List.length_nil, Nat.reduceLeDiff, Nat.reduceAdd, Nat.zero_le, Nat.zero_add, and_true, true_and, zb_1, eq_self, az_call s_X10_isMorning, zb_0, eq_true h1, and_self, and_true, true_and, if_true, if_false, not_true, not_false_iff, not_true_eq_false, not_false_eq_true, ite_true, ite_false, az_call (s_X0_housesGaining hD)]
theorem s_X11_unlike {m : Int32} {n c : Nat} (hD : zvD I n c) (h1 : 0 ≤ m.toInt ∧ m.toInt ≤ 29) : zD (d + 5) 174 [.ref 97, .int m] (130, az_Pf, I, L) (some (.int (zor (zhs I m 1 c) n &&& zor (zhs I m (-1) c) n))) (130, az_Pf, I, L) := by
  refine zD_of zm_X11_unlike rfl ?_
  show az_W _ _ _ 0 [.ref 97, .int m, .null, .null, .null, .null] [] _
  simp only [u_X11_unlike_0, u_X11_unlike_1, u_X11_unlike_4, u_X11_unlike_7, u_X11_unlike_8, u_X11_unlike_9, u_X11_unlike_10, u_X11_unlike_11, u_X11_unlike_12, u_X11_unlike_13, u_X11_unlike_14, u_X11_unlike_18, u_X11_unlike_19, u_X11_unlike_22, u_X11_unlike_25, u_X11_unlike_26, u_X11_unlike_28, u_X11_unlike_29, u_X11_unlike_30, u_X11_unlike_33, u_X11_unlike_35, u_X11_unlike_36, u_X11_unlike_38, u_X11_unlike_41, u_X11_unlike_42, u_X11_unlike_43, u_X11_unlike_46, u_X11_unlike_48, u_X11_unlike_49, u_X11_unlike_50, u_X11_unlike_53, u_X11_unlike_54, u_X11_unlike_55, u_X11_unlike_56, u_X11_unlike_57, u_X11_unlike_59, u_X11_unlike_62, u_X11_unlike_63, u_X11_unlike_64, u_X11_unlike_67, u_X11_unlike_69, u_X11_unlike_70, u_X11_unlike_71, u_X11_unlike_74, u_X11_unlike_75, u_X11_unlike_76, u_X11_unlike_77, u_X11_unlike_80, u_X11_unlike_83, u_X11_unlike_84, u_X11_unlike_85, u_X11_unlike_86, az_un_i, az_un_r, az_un_n, az_un_l, Option.toList_some, Option.toList_none, List.cons_append, List.nil_append, List.length_cons, List.length_nil, Nat.reduceLeDiff, Nat.reduceAdd, Nat.zero_le, Nat.zero_add, and_true, true_and, zb_1, eq_self, az_call s_X11_isMorning, zb_0, eq_true h1, and_self, and_true, true_and, if_true, if_false, not_true, not_false_iff, not_true_eq_false, not_false_eq_true, ite_true, ite_false]
  have hn := hD.2.2.1
  have hle := hD.1
  have r := hD.2.2.2.1
  refine zloop (P := fun k => ∀ v : Value, az_W (zD (d + 4)) _ _ 16 [.ref 97, .int m, .int (zor (zhs I m 1 c) k), .int (zor (zhs I m (-1) c) k), .int (nI k), v] [] _) n (fun k hk ih v => ?_) (fun v => ?_) 0 (Nat.zero_le _) .null
  · have h1 : ¬ nI n ≤ nI k := nI_ge hk (by omega)
    have e1 : zor (zhs I m 1 c) (k + 1) = zor (zhs I m 1 c) k ||| zhs I m 1 c k := rfl
    have e2 : zor (zhs I m (-1) c) (k + 1) = zor (zhs I m (-1) c) k ||| zhs I m (-1) c k := rfl
    simp only [u_X11_unlike_16]
    simp only [u_X11_unlike_0, u_X11_unlike_1, u_X11_unlike_4, u_X11_unlike_7, u_X11_unlike_8, u_X11_unlike_9, u_X11_unlike_10, u_X11_unlike_11, u_X11_unlike_12, u_X11_unlike_13, u_X11_unlike_14, u_X11_unlike_18, u_X11_unlike_19, u_X11_unlike_22, u_X11_unlike_25, u_X11_unlike_26, u_X11_unlike_28, u_X11_unlike_29, u_X11_unlike_30, u_X11_unlike_33, u_X11_unlike_35, u_X11_unlike_36, u_X11_unlike_38, u_X11_unlike_41, u_X11_unlike_42, u_X11_unlike_43, u_X11_unlike_46, u_X11_unlike_48, u_X11_unlike_49, u_X11_unlike_50, u_X11_unlike_53, u_X11_unlike_54, u_X11_unlike_55, u_X11_unlike_56, u_X11_unlike_57, u_X11_unlike_59, u_X11_unlike_62, u_X11_unlike_63, u_X11_unlike_64, u_X11_unlike_67, u_X11_unlike_69, u_X11_unlike_70, u_X11_unlike_71, u_X11_unlike_74, u_X11_unlike_75, u_X11_unlike_76, u_X11_unlike_77, u_X11_unlike_80, u_X11_unlike_83, u_X11_unlike_84, u_X11_unlike_85, u_X11_unlike_86, az_un_i, az_un_r, az_un_n, az_un_l, Option.toList_some, Option.toList_none, List.cons_append, List.nil_append, List.length_cons, List.length_nil, Nat.reduceLeDiff, Nat.reduceAdd, Nat.zero_le, Nat.zero_add, and_true, true_and, zb_1, eq_self, hn, h1, if_false, kx_108, zinT (show k < 12 by omega) (by decide), zcl (show k < 12 by omega) (by decide), az_call (s_X11_gainOf hD), ← r, Int32.le_iff_toInt_le, zl_0]
    rw [nI_succ, e1, e2] at ih
    rw [show zhs I m 1 c k = if zsgn (zsum (zss I (nI k) m) c) = 1 then 1 <<< (I 50 k &&& 31) else 0 from rfl, show zhs I m (-1) c k = if zsgn (zsum (zss I (nI k) m) c) = -1 then 1 <<< (I 50 k &&& 31) else 0 from rfl] at ih
    have t1 : ¬ (1 : Int32) = -1 := by decide
    have t2 : ¬ (-1 : Int32) = 1 := by decide
    have t3 : ¬ (0 : Int32) = 1 := by decide
    have t4 : ¬ (0 : Int32) = -1 := by decide
    generalize zsum (zss I (nI k) m) c = G at ih ⊢
    rw [show zsgn G = if 0 < G.toInt then 1 else if G.toInt < 0 then -1 else 0 from rfl] at ih
    by_cases g1 : 0 < G.toInt
    · have g2 : ¬ G.toInt < 0 := by omega
      have g3 : ¬ G.toInt ≤ 0 := by omega
      have g4 : 0 ≤ G.toInt := by omega
      simp only [g1, g2, g3, g4, t1, and_self, and_true, true_and, if_true, if_false, not_true, not_false_iff, not_true_eq_false, not_false_eq_true, ite_true, ite_false] at ih ⊢; exact ih _
    · by_cases g2 : G.toInt < 0
      · have g3 : G.toInt ≤ 0 := by omega
        have g4 : ¬ 0 ≤ G.toInt := by omega
        simp only [g1, g2, g3, g4, t2, and_self, and_true, true_and, if_true, if_false, not_true, not_false_iff, not_true_eq_false, not_false_eq_true, ite_true, ite_false] at ih ⊢; exact ih _
      · have g3 : G.toInt ≤ 0 := by omega
        have g4 : 0 ≤ G.toInt := by omega
        simp only [g1, g2, g3, g4, t3, t4, and_self, and_true, true_and, if_true, if_false, not_true, not_false_iff, not_true_eq_false, not_false_eq_true, ite_true, ite_false] at ih ⊢; exact ih _
  · have h1 : nI n ≤ nI n := nI_le (Nat.le_refl _) (by omega)
    simp only [u_X11_unlike_16]
    simp only [u_X11_unlike_0, u_X11_unlike_1, u_X11_unlike_4, u_X11_unlike_7, u_X11_unlike_8, u_X11_unlike_9, u_X11_unlike_10, u_X11_unlike_11, u_X11_unlike_12, u_X11_unlike_13, u_X11_unlike_14, u_X11_unlike_18, u_X11_unlike_19, u_X11_unlike_22, u_X11_unlike_25, u_X11_unlike_26, u_X11_unlike_28, u_X11_unlike_29, u_X11_unlike_30, u_X11_unlike_33, u_X11_unlike_35, u_X11_unlike_36, u_X11_unlike_38, u_X11_unlike_41, u_X11_unlike_42, u_X11_unlike_43, u_X11_unlike_46, u_X11_unlike_48, u_X11_unlike_49, u_X11_unlike_50, u_X11_unlike_53, u_X11_unlike_54, u_X11_unlike_55, u_X11_unlike_56, u_X11_unlike_57, u_X11_unlike_59, u_X11_unlike_62, u_X11_unlike_63, u_X11_unlike_64, u_X11_unlike_67, u_X11_unlike_69, u_X11_unlike_70, u_X11_unlike_71, u_X11_unlike_74, u_X11_unlike_75, u_X11_unlike_76, u_X11_unlike_77, u_X11_unlike_80, u_X11_unlike_83, u_X11_unlike_84, u_X11_unlike_85, u_X11_unlike_86, az_un_i, az_un_r, az_un_n, az_un_l, Option.toList_some, Option.toList_none, List.cons_append, List.nil_append, List.length_cons, List.length_nil, Nat.reduceLeDiff, Nat.reduceAdd, Nat.zero_le, Nat.zero_add, and_true, true_and, zb_1, eq_self, hn, h1, if_true]
end S
theorem op_gain (x y z : Int32) : zOp 103 172 [.int x, .int y, .int z] := by
  intro I L hI
  have hI0 := hI
  obtain ⟨hP, hC, hS, ⟨t, e, hB⟩, ⟨nl, hL⟩, ⟨nr, hR⟩, n, c, w, hD, hW, hX, hF⟩ := hI
  by_cases hb : (0 ≤ x.toInt ∧ x.toInt < (n : Int)) ∧ (0 ≤ y.toInt ∧ y.toInt ≤ 29) ∧ (0 ≤ z.toInt ∧ z.toInt ≤ 1)
  · obtain ⟨h1, h2, h3⟩ := hb
    have hn := hD.1
    obtain ⟨a, ha, rfl⟩ := znatlt h1.1 h1.2 (by omega)
    exact ⟨_, I, L, I, L, s_X10_gain (d := 5) hD ha h2 h3, s_X11_gain (d := 5) hD ha h2 h3, hI0⟩
  · exact ⟨_, I, L, I, L, s_X10_gain_bad (d := 5) hD.2.1 hD.1 hb, s_X11_gain_bad (d := 5) hD.2.2.1 hD.1 hb, hI0⟩
theorem op_unlike (x : Int32) : zOp 105 174 [.int x] := by
  intro I L hI
  have hI0 := hI
  obtain ⟨hP, hC, hS, ⟨t, e, hB⟩, ⟨nl, hL⟩, ⟨nr, hR⟩, n, c, w, hD, hW, hX, hF⟩ := hI
  by_cases hb : 0 ≤ x.toInt ∧ x.toInt ≤ 29
  · exact ⟨_, I, L, I, L, s_X10_unlike (d := 4) hD hb, s_X11_unlike (d := 4) hD hb, hI0⟩
  · exact ⟨_, I, L, I, L, s_X10_unlike_bad (d := 4) hb, s_X11_unlike_bad (d := 4) hb, hI0⟩
