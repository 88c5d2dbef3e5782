/-! ===== more on numbers in lowest terms ===== -/
/-- what a number in lowest terms stands for -/
theorem zfx (A : Int) (B : Nat) (hB : 0 < B) (h1 : -2 ^ 30 < A) (h2 : A < 2 ^ 30) (h3 : B < 2 ^ 30) : ∃ (g : Int) (a : Int) (b : Nat), 0 < g ∧ A = g * a ∧ (B : Int) = g * b ∧ 0 < b ∧ (zfA A B).toInt = a ∧ zfB A B = lN b ∧ -2 ^ 30 < a ∧ a < 2 ^ 30 ∧ b < 2 ^ 30 := by
  have hg := zgp (A := A) hB
  obtain ⟨a, ha⟩ := zg1 A B
  obtain ⟨b, hb⟩ := zg2 A B
  have n1 : A.natAbs = Int.gcd A B * a.natAbs := by
    have := congrArg Int.natAbs ha; rw [Int.natAbs_mul, Int.natAbs_natCast] at this; exact this
  have n2 : a.natAbs ≤ A.natAbs := by rw [n1]; exact Nat.le_mul_of_pos_left _ hg
  have n3 : b ≤ B := by rw [hb]; exact Nat.le_mul_of_pos_left _ hg
  have e1 : A / (Int.gcd A B : Int) = a := by
    conv => lhs; rw [show A / (Int.gcd A B : Int) = (Int.gcd A B : Int) * a / (Int.gcd A B : Int) from by rw [← ha]]
    exact Int.mul_ediv_cancel_left _ (by omega)
  have e2 : B / Int.gcd A B = b := by
    conv => lhs; rw [show B / Int.gcd A B = Int.gcd A B * b / Int.gcd A B from by rw [← hb]]
    exact Nat.mul_div_cancel_left _ hg
  have hb0 : 0 < b := by
    rcases Nat.eq_zero_or_pos b with z | z
    · rw [z] at hb; omega
    · exact z
  refine ⟨(Int.gcd A B : Int), a, b, by omega, ha, ?_, hb0, ?_, ?_, by omega, by omega, by omega⟩
  · rw [← Int.natCast_mul]; exact congrArg _ hb
  · rw [zfA_i hB (by omega) (by omega), e1]
  · unfold zfB; rw [e2]
theorem zmb {x y : Int} (h1 : -2 ^ 30 < x) (h2 : x < 2 ^ 30) (h3 : -2 ^ 30 < y) (h4 : y < 2 ^ 30) : -2 ^ 60 ≤ x * y ∧ x * y ≤ 2 ^ 60 := by
  have a : x.natAbs ≤ 2 ^ 30 := by omega
  have b : y.natAbs ≤ 2 ^ 30 := by omega
  have c : (x * y).natAbs ≤ 2 ^ 30 * 2 ^ 30 := by rw [Int.natAbs_mul]; exact Nat.mul_le_mul a b
  generalize x * y = z at *
  omega
theorem zlmu {a b : Int64} {A B : Int} (ha : a.toInt = A) (hb : b.toInt = B) (h1 : -2 ^ 63 ≤ A * B) (h2 : A * B < 2 ^ 63) : (a * b).toInt = A * B := by
  rw [Int64.toInt_mul, ha, hb, Int.bmod_def]
  generalize A * B = x at *
  omega
theorem zlsu {a b : Int64} {A B : Int} (ha : a.toInt = A) (hb : b.toInt = B) (h1 : -2 ^ 63 ≤ A - B) (h2 : A - B < 2 ^ 63) : (a - b).toInt = A - B := by
  rw [Int64.toInt_sub, ha, hb, Int.bmod_def]
  omega
/-- a cell with a number in lowest terms -/
def zFc (L : Nat → Nat → Int64) (f : Nat) (A : Int) (B : Nat) : Prop := L f 0 = zfA A B ∧ L f 1 = zfB A B
theorem zFc_s {L : Nat → Nat → Int64} {f : Nat} {A : Int} {B : Nat} : zFc (zLs L f A B) f A B := ⟨zLs_0, zLs_1⟩
theorem zFc_n {L : Nat → Nat → Int64} {f q : Nat} {A C : Int} {B D : Nat} (h : zFc L q C D) (hq : q ≠ f) : zFc (zLs L f A B) q C D := ⟨by rw [zLs_n hq]; exact h.1, by rw [zLs_n hq]; exact h.2⟩
theorem zLs_e {L : Nat → Nat → Int64} {f : Nat} {A C : Int} {B D : Nat} (hB : 0 < B) (hD : 0 < D) (h : A * D = C * B) : zLs L f A B = zLs L f C D := by
  obtain ⟨e1, e2⟩ := zfr_eq hB hD h
  unfold zLs; rw [e1, e2]
theorem zfP_e {A C : Int} {B D : Nat} {x : Int32} (hB : 0 < B) (hD : 0 < D) (h : A * D = C * B) : zfP A B x = zfP C D x := by
  obtain ⟨e1, e2⟩ := zfr_eq hB hD h
  unfold zfP; rw [e1, e2]
/-- bounds under which nothing wraps -/
def zFb (A : Int) (B : Nat) : Prop := 0 < B ∧ -2 ^ 30 < A ∧ A < 2 ^ 30 ∧ B < 2 ^ 30
theorem zlc {a b : Int64} {A B : Int} (ha : a.toInt = A) (hb : b.toInt = B) : (a ≤ b) ↔ A ≤ B := by rw [Int64.le_iff_toInt_le, ha, hb]
theorem zlc2 {a b : Int64} {A B : Int} (ha : a.toInt = A) (hb : b.toInt = B) : (a < b) ↔ A < B := by rw [Int64.lt_iff_toInt_lt, ha, hb]
theorem zcmp1 {g q a b c e : Int} (hg : 0 < g) (hq : 0 < q) : (a * e ≤ c * b) ↔ ((g * a) * (q * e) ≤ (q * c) * (g * b)) := by
  have h1 : (g * a) * (q * e) = (g * q) * (a * e) := by grind
  have h2 : (q * c) * (g * b) = (g * q) * (c * b) := by grind
  rw [h1, h2]
  have := Int.mul_pos hg hq
  exact ⟨fun h => Int.mul_le_mul_of_nonneg_left h (Int.le_of_lt this), fun h => Int.le_of_mul_le_mul_left h this⟩
theorem zcmp2 {g a b v : Int} (hg : 0 < g) : (a < v * b) ↔ (g * a < v * (g * b)) := by
  have h2 : v * (g * b) = g * (v * b) := by grind
  rw [h2]
  exact ⟨fun h => Int.mul_lt_mul_of_pos_left h hg, fun h => Int.lt_of_mul_lt_mul_left h (Int.le_of_lt hg)⟩
section S
variable {d : Nat} {I : Nat → Nat → Int32} {L : Nat → Nat → Int64} {h : az_H}
theorem s_X2_copy {f q : Nat} {A : Int} {B : Nat} (hf : az_kn 130 f = (0, 2)) (hq : az_kn 130 q = (0, 2)) (hn : f ≠ q) (hc : zFc L q A B) : zD (d + 1) 20 [.ref f, .ref q] (130, az_Pf, I, L) none (130, az_Pf, I, zLs L f A B) := by
  refine zD_of zm_X2_copy rfl ?_
  show az_W _ _ _ 0 [.ref f, .ref q] [] _
  simp only [u_X2_copy_0, u_X2_copy_1, u_X2_copy_2, u_X2_copy_5, u_X2_copy_8, u_X2_copy_9, u_X2_copy_10, u_X2_copy_13, u_X2_copy_16, az_un_i, az_un_r, az_un_n, az_un_l, Option.toList_some, Option.toList_none, List.cons_append, List.nil_append, List.length_cons, List.length_nil, Nat.reduceLeDiff, Nat.reduceAdd, Nat.zero_le, Nat.zero_add, and_true, true_and, zb_1, eq_self, hf, hq]
  unfold zLs
  rw [show az_uL L f 0 (L q 0) q 1 = L q 1 from by rw [az_uL_at, if_neg (by omega)], hc.1, hc.2]
theorem s_X2_putDifference {f p q : Nat} {A C : Int} {B D : Nat} (hf : az_kn 130 f = (0, 2)) (hp : az_kn 130 p = (0, 2)) (hq : az_kn 130 q = (0, 2)) (cp : zFc L p A B) (cq : zFc L q C D) (b1 : zFb A B) (b2 : zFb C D) : zD (d + 2) 21 [.ref f, .ref p, .ref q] (130, az_Pf, I, L) none (130, az_Pf, I, zLs L f (A * D - C * B) (B * D)) := by
  refine zD_of zm_X2_putDifference rfl ?_
  show az_W _ _ _ 0 [.ref f, .ref p, .ref q] [] _
  obtain ⟨b10, b11, b12, b13⟩ := b1
  obtain ⟨b20, b21, b22, b23⟩ := b2
  obtain ⟨g, a, b, g0, g1, g2, g3, g4, g5, g6, g7, g8⟩ := zfx A B b10 b11 b12 b13
  obtain ⟨q', c, e, k0, k1, k2, k3, k4, k5, k6, k7, k8⟩ := zfx C D b20 b21 b22 b23
  have m1 := zmb g6 g7 (show -2 ^ 30 < (e : Int) by omega) (by omega)
  have m2 := zmb k6 k7 (show -2 ^ 30 < (b : Int) by omega) (by omega)
  have m3 := zmb (show -2 ^ 30 < (b : Int) by omega) (by omega) (show -2 ^ 30 < (e : Int) by omega) (by omega)
  have be : 0 < b * e := Nat.mul_pos g3 k3
  have tb : (lN b).toInt = b := pk_lT (by omega)
  have te : (lN e).toInt = e := pk_lT (by omega)
  have hA : (zfA A B * lN e - zfA C D * lN b).toInt = a * e - c * b := zlsu (zlmu g4 te (by omega) (by omega)) (zlmu k4 tb (by omega) (by omega)) (by omega) (by omega)
  have hBm : lN b * lN e = lN (b * e) := by
    apply Int64.toInt_inj.mp
    rw [zlmu tb te (by omega) (by omega), pk_lT (by rw [← Int.natCast_mul] at m3; omega), Int.natCast_mul]
  have hput := s_X2_put (d := d) (I := I) (L := L) (f := f) hf hA hBm (by omega) (by omega) be (by rw [← Int.natCast_mul] at m3; omega)
  rw [zLs_e (C := A * D - C * B) (D := B * D) be (Nat.mul_pos b10 b20) (by
    rw [Int.natCast_mul, Int.natCast_mul, g1, g2, k1, k2]
    clear hput hA hBm m1 m2 m3
    grind)] at hput
  simp only [u_X2_putDifference_0, u_X2_putDifference_1, u_X2_putDifference_2, u_X2_putDifference_5, u_X2_putDifference_6, u_X2_putDifference_9, u_X2_putDifference_10, u_X2_putDifference_11, u_X2_putDifference_14, u_X2_putDifference_15, u_X2_putDifference_18, u_X2_putDifference_19, u_X2_putDifference_20, u_X2_putDifference_21, u_X2_putDifference_24, u_X2_putDifference_25, u_X2_putDifference_28, u_X2_putDifference_29, u_X2_putDifference_32, az_un_i, az_un_r, az_un_n, az_un_l, Option.toList_some, Option.toList_none, List.cons_append, List.nil_append, List.length_cons, List.length_nil, Nat.reduceLeDiff, Nat.reduceAdd, Nat.zero_le, Nat.zero_add, and_true, true_and, zb_1, eq_self, hf, hp, hq, cp.1, cp.2, cq.1, cq.2, g5, k5, az_call hput]
theorem s_X2_scale {f : Nat} {A : Int} {B : Nat} {u s : Int32} (hf : az_kn 130 f = (0, 2)) (cp : zFc L f A B) (b1 : zFb A B) (hu : -2 ^ 30 < u.toInt ∧ u.toInt < 2 ^ 30) (hs : -2 ^ 30 < s.toInt ∧ s.toInt < 2 ^ 30) : zD (d + 2) 22 [.ref f, .int u, .int s] (130, az_Pf, I, L) none (130, az_Pf, I, zLs L f (u.toInt * A - s.toInt * B) B) := by
  refine zD_of zm_X2_scale rfl ?_
  show az_W _ _ _ 0 [.ref f, .int u, .int s] [] _
  obtain ⟨b10, b11, b12, b13⟩ := b1
  obtain ⟨g, a, b, g0, g1, g2, g3, g4, g5, g6, g7, g8⟩ := zfx A B b10 b11 b12 b13
  have m1 := zmb hu.1 hu.2 g6 g7
  have m2 := zmb hs.1 hs.2 (show -2 ^ 30 < (b : Int) by omega) (by omega)
  have tb : (lN b).toInt = b := pk_lT (by omega)
  have hA : (u.toInt64 * zfA A B - s.toInt64 * lN b).toInt = u.toInt * a - s.toInt * b := zlsu (zlmu (z64 _) g4 (by omega) (by omega)) (zlmu (z64 _) tb (by omega) (by omega)) (by omega) (by omega)
  have hput := s_X2_put (d := d) (I := I) (L := L) (f := f) hf hA rfl (by omega) (by omega) g3 (by omega)
  rw [zLs_e (C := u.toInt * A - s.toInt * B) (D := B) g3 b10 (by
    rw [g2, g1]
    clear hput hA m1 m2
    grind)] at hput
  simp only [u_X2_scale_0, u_X2_scale_1, u_X2_scale_2, u_X2_scale_3, u_X2_scale_4, u_X2_scale_7, u_X2_scale_8, u_X2_scale_9, u_X2_scale_10, u_X2_scale_11, u_X2_scale_14, u_X2_scale_15, u_X2_scale_16, u_X2_scale_17, u_X2_scale_20, u_X2_scale_23, az_un_i, az_un_r, az_un_n, az_un_l, Option.toList_some, Option.toList_none, List.cons_append, List.nil_append, List.length_cons, List.length_nil, Nat.reduceLeDiff, Nat.reduceAdd, Nat.zero_le, Nat.zero_add, and_true, true_and, zb_1, eq_self, hf, cp.1, cp.2, g5, az_call hput]
theorem s_X2_isAbove {p q : Nat} {A C : Int} {B D : Nat} (hp : az_kn 130 p = (0, 2)) (hq : az_kn 130 q = (0, 2)) (cp : zFc L p A B) (cq : zFc L q C D) (b1 : zFb A B) (b2 : zFb C D) : zD (d + 1) 23 [.ref p, .ref q] (130, az_Pf, I, L) (some (.int (zb (C * B < A * D)))) (130, az_Pf, I, L) := by
  refine zD_of zm_X2_isAbove rfl ?_
  show az_W _ _ _ 0 [.ref p, .ref q] [] _
  obtain ⟨b10, b11, b12, b13⟩ := b1
  obtain ⟨b20, b21, b22, b23⟩ := b2
  obtain ⟨g, a, b, g0, g1, g2, g3, g4, g5, g6, g7, g8⟩ := zfx A B b10 b11 b12 b13
  obtain ⟨q', c, e, k0, k1, k2, k3, k4, k5, k6, k7, k8⟩ := zfx C D b20 b21 b22 b23
  have m1 := zmb g6 g7 (show -2 ^ 30 < (e : Int) by omega) (by omega)
  have m2 := zmb k6 k7 (show -2 ^ 30 < (b : Int) by omega) (by omega)
  have tb : (lN b).toInt = b := pk_lT (by omega)
  have te : (lN e).toInt = e := pk_lT (by omega)
  have hA := zlmu g4 te (by omega) (by omega)
  have hC := zlmu k4 tb (by omega) (by omega)
  simp only [u_X2_isAbove_0, u_X2_isAbove_1, u_X2_isAbove_4, u_X2_isAbove_5, u_X2_isAbove_8, u_X2_isAbove_9, u_X2_isAbove_10, u_X2_isAbove_13, u_X2_isAbove_14, u_X2_isAbove_17, u_X2_isAbove_18, u_X2_isAbove_19, u_X2_isAbove_22, u_X2_isAbove_23, u_X2_isAbove_26, u_X2_isAbove_27, az_un_i, az_un_r, az_un_n, az_un_l, Option.toList_some, Option.toList_none, List.cons_append, List.nil_append, List.length_cons, List.length_nil, Nat.reduceLeDiff, Nat.reduceAdd, Nat.zero_le, Nat.zero_add, and_true, true_and, zb_1, eq_self, hp, hq, cp.1, cp.2, cq.1, cq.2, g5, k5, lg_cmp_le, zlc hA hC, zcmp1 (a := a) (e := (e : Int)) (c := c) (b := (b : Int)) g0 k0, ← g1, ← g2, ← k1, ← k2]
  unfold zb
  by_cases hh : A * D ≤ C * B
  · simp [hh, Int.not_lt.mpr hh]
  · simp [hh, Int.not_le.mp hh]
theorem s_X2_isAtLeast {p v : Nat} {A : Int} {B : Nat} (hp : az_kn 130 p = (0, 2)) (cp : zFc L p A B) (b1 : zFb A B) (hv : v < 2 ^ 30) : zD (d + 1) 24 [.ref p, .int (nI v)] (130, az_Pf, I, L) (some (.int (zb ((v : Int) * B ≤ A)))) (130, az_Pf, I, L) := by
  refine zD_of zm_X2_isAtLeast rfl ?_
  show az_W _ _ _ 0 [.ref p, .int (nI v)] [] _
  obtain ⟨b10, b11, b12, b13⟩ := b1
  obtain ⟨g, a, b, g0, g1, g2, g3, g4, g5, g6, g7, g8⟩ := zfx A B b10 b11 b12 b13
  have m2 := zmb (show -2 ^ 30 < (v : Int) by omega) (by omega) (show -2 ^ 30 < (b : Int) by omega) (by omega)
  have tb : (lN b).toInt = b := pk_lT (by omega)
  have tv : (nI v).toInt64.toInt = v := by rw [z64, nI_toInt (by omega)]
  have hC := zlmu tv tb (by omega) (by omega)
  simp only [u_X2_isAtLeast_0, u_X2_isAtLeast_1, u_X2_isAtLeast_4, u_X2_isAtLeast_5, u_X2_isAtLeast_6, u_X2_isAtLeast_7, u_X2_isAtLeast_10, u_X2_isAtLeast_11, u_X2_isAtLeast_12, u_X2_isAtLeast_15, u_X2_isAtLeast_16, u_X2_isAtLeast_19, u_X2_isAtLeast_20, az_un_i, az_un_r, az_un_n, az_un_l, Option.toList_some, Option.toList_none, List.cons_append, List.nil_append, List.length_cons, List.length_nil, Nat.reduceLeDiff, Nat.reduceAdd, Nat.zero_le, Nat.zero_add, and_true, true_and, zb_1, eq_self, hp, cp.1, cp.2, g5, lg_cmp_lt, zlc2 g4 hC, zcmp2 (a := a) (b := (b : Int)) (v := (v : Int)) g0, ← g1, ← g2]
  unfold zb
  by_cases hh : A < (v : Int) * B
  · simp [hh, Int.not_le.mpr hh]
  · simp [hh, Int.not_lt.mp hh]
end S
