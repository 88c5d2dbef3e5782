/-! ===== what the methods answer: the smallest ones ===== -/
theorem zD_of {no nL d : Nat} {k : Nat → az_P} {as : List Value} {h h' : az_H} {r : Option Value} (hm : az_M no = (nL, k)) (has : az_as nL as = true) (w : az_W (zD d) (fun r' h'' => r' = r ∧ h'' = h') k 0 (az_ini nL as) [] h) : zD (d + 1) no as h r h' := by
  refine ⟨by rw [hm]; exact has, ?_⟩
  rw [hm]; exact w
/-- a truth as an int -/
def zb (p : Prop) {i : Decidable p} : Int32 := if p then 1 else 0
theorem zb_t {p : Prop} {i : Decidable p} (h : p) : @zb p i = 1 := if_pos h
theorem zb_f {p : Prop} {i : Decidable p} (h : ¬ p) : @zb p i = 0 := if_neg h
theorem zb_0 {p : Prop} {i : Decidable p} : (@zb p i = 0) ↔ ¬ p := by
  unfold zb; by_cases h : p <;> simp [h]
theorem zb_1 {p : Prop} {i : Decidable p} : (@zb p i = 0 ∨ @zb p i = 1) := by
  unfold zb; by_cases h : p <;> simp [h]
theorem zb_c {p q : Prop} {i : Decidable p} {j : Decidable q} (h : p ↔ q) : @zb p i = @zb q j := by
  unfold zb; by_cases hp : p
  · rw [if_pos hp, if_pos (h.mp hp)]
  · rw [if_neg hp, if_neg (fun z => hp (h.mpr z))]
theorem z64 (x : Int32) : x.toInt64.toInt = x.toInt := Int32.toInt_toInt64 x
section S
variable {d : Nat} {I : Nat → Nat → Int32} {L : Nat → Nat → Int64} {h : az_H}
theorem s_X10_isIn {x y z : Int32} : zD (d + 1) 129 [.int x, .int y, .int z] h (some (.int (zb (y.toInt ≤ x.toInt ∧ x.toInt ≤ z.toInt)))) h := by
  refine zD_of zm_X10_isIn rfl ?_
  show az_W _ _ _ 0 [.int x, .int y, .int z] [] _
  simp only [u_X10_isIn_0, u_X10_isIn_1, u_X10_isIn_2, u_X10_isIn_5, u_X10_isIn_6, u_X10_isIn_7, u_X10_isIn_10, u_X10_isIn_11, u_X10_isIn_14, u_X10_isIn_15, az_un_i, az_un_r, az_un_n, az_un_l, Option.toList_some, Option.toList_none, List.cons_append, List.nil_append, List.length_cons, List.length_nil]
  simp only [Int32.lt_iff_toInt_lt, Int32.le_iff_toInt_le, zb]
  (repeat' split) <;> first | (simp; done) | (exfalso; omega)
theorem s_X10_isBit {x : Int32} : zD (d + 1) 130 [.int x] h (some (.int (zb (0 ≤ x.toInt ∧ x.toInt ≤ 1)))) h := by
  refine zD_of zm_X10_isBit rfl ?_
  show az_W _ _ _ 0 [.int x] [] _
  simp only [u_X10_isBit_0, u_X10_isBit_1, u_X10_isBit_4, u_X10_isBit_5, u_X10_isBit_6, u_X10_isBit_9, u_X10_isBit_10, u_X10_isBit_13, u_X10_isBit_14, az_un_i, az_un_r, az_un_n, az_un_l, Option.toList_some, Option.toList_none, List.cons_append, List.nil_append, List.length_cons, List.length_nil]
  simp only [← Int32.toInt_inj, zb]
  (repeat' split) <;> first | (simp; done) | (exfalso; simp at *; omega)
theorem s_X10_isHouse {x : Int32} : zD (d + 1) 131 [.int x] h (some (.int (zb (0 ≤ x.toInt ∧ x.toInt ≤ 7)))) h := by
  refine zD_of zm_X10_isHouse rfl ?_
  show az_W _ _ _ 0 [.int x] [] _
  simp only [u_X10_isHouse_0, u_X10_isHouse_1, u_X10_isHouse_4, u_X10_isHouse_5, u_X10_isHouse_7, u_X10_isHouse_10, u_X10_isHouse_11, u_X10_isHouse_14, u_X10_isHouse_15, az_un_i, az_un_r, az_un_n, az_un_l, Option.toList_some, Option.toList_none, List.cons_append, List.nil_append, List.length_cons, List.length_nil]
  simp only [Int32.lt_iff_toInt_lt, Int32.le_iff_toInt_le, zb]
  (repeat' split) <;> first | (simp; done) | (exfalso; simp at *; omega)
theorem s_X10_isMorning {x : Int32} : zD (d + 1) 132 [.int x] h (some (.int (zb (0 ≤ x.toInt ∧ x.toInt ≤ 29)))) h := by
  refine zD_of zm_X10_isMorning rfl ?_
  show az_W _ _ _ 0 [.int x] [] _
  simp only [u_X10_isMorning_0, u_X10_isMorning_1, u_X10_isMorning_4, u_X10_isMorning_5, u_X10_isMorning_7, u_X10_isMorning_10, u_X10_isMorning_11, u_X10_isMorning_14, u_X10_isMorning_15, az_un_i, az_un_r, az_un_n, az_un_l, Option.toList_some, Option.toList_none, List.cons_append, List.nil_append, List.length_cons, List.length_nil]
  simp only [Int32.lt_iff_toInt_lt, Int32.le_iff_toInt_le, zb]
  (repeat' split) <;> first | (simp; done) | (exfalso; simp at *; omega)
theorem s_X10_isSayable {x : Int32} : zD (d + 2) 133 [.int x] h (some (.int (zb (-1 ≤ x.toInt ∧ x.toInt ≤ 999)))) h := by
  refine zD_of zm_X10_isSayable rfl ?_
  show az_W _ _ _ 0 [.int x] [] _
  simp only [u_X10_isSayable_0, u_X10_isSayable_1, u_X10_isSayable_2, u_X10_isSayable_5, u_X10_isSayable_8, az_un_i, az_un_r, az_un_n, az_un_l, Option.toList_some, Option.toList_none, List.cons_append, List.nil_append, List.length_cons, List.length_nil, az_call s_X10_isIn]
  exact ⟨zb_1, rfl, rfl⟩
theorem s_X11_in {x y z : Int64} : zD (d + 1) 139 [.long x, .long y, .long z] h (some (.int (zb (y.toInt ≤ x.toInt ∧ x.toInt ≤ z.toInt)))) h := by
  refine zD_of zm_X11_in rfl ?_
  show az_W _ _ _ 0 [.long x, .null, .long y, .null, .long z, .null] [] _
  simp only [u_X11_in_0, u_X11_in_1, u_X11_in_2, u_X11_in_3, u_X11_in_6, u_X11_in_7, u_X11_in_9, u_X11_in_10, u_X11_in_13, u_X11_in_14, u_X11_in_17, u_X11_in_18, az_un_i, az_un_r, az_un_n, az_un_l, Option.toList_some, Option.toList_none, List.cons_append, List.nil_append, List.length_cons, List.length_nil]
  simp only [lg_cmp_lt, lg_cmp_gt, Int64.lt_iff_toInt_lt, zb]
  (repeat' split) <;> first | (simp; done) | (exfalso; omega)
theorem s_X11_isHouse {x : Int32} : zD (d + 2) 141 [.int x] h (some (.int (zb (0 ≤ x.toInt ∧ x.toInt ≤ 7)))) h := by
  refine zD_of zm_X11_isHouse rfl ?_
  show az_W _ _ _ 0 [.int x] [] _
  simp only [u_X11_isHouse_0, u_X11_isHouse_1, u_X11_isHouse_2, u_X11_isHouse_3, u_X11_isHouse_6, u_X11_isHouse_9, az_un_i, az_un_r, az_un_n, az_un_l, Option.toList_some, Option.toList_none, List.cons_append, List.nil_append, List.length_cons, List.length_nil, az_call s_X11_in, z64]
  exact ⟨zb_1, rfl, rfl⟩
theorem s_X11_isMorning {x : Int32} : zD (d + 2) 142 [.int x] h (some (.int (zb (0 ≤ x.toInt ∧ x.toInt ≤ 29)))) h := by
  refine zD_of zm_X11_isMorning rfl ?_
  show az_W _ _ _ 0 [.int x] [] _
  simp only [u_X11_isMorning_0, u_X11_isMorning_1, u_X11_isMorning_2, u_X11_isMorning_3, u_X11_isMorning_6, u_X11_isMorning_9, az_un_i, az_un_r, az_un_n, az_un_l, Option.toList_some, Option.toList_none, List.cons_append, List.nil_append, List.length_cons, List.length_nil, az_call s_X11_in, z64]
  exact ⟨zb_1, rfl, rfl⟩
theorem s_X11_isWhat {x : Int32} : zD (d + 2) 145 [.int x] h (some (.int (zb (0 ≤ x.toInt ∧ x.toInt ≤ 1)))) h := by
  refine zD_of zm_X11_isWhat rfl ?_
  show az_W _ _ _ 0 [.int x] [] _
  simp only [u_X11_isWhat_0, u_X11_isWhat_1, u_X11_isWhat_2, u_X11_isWhat_3, u_X11_isWhat_4, u_X11_isWhat_7, az_un_i, az_un_r, az_un_n, az_un_l, Option.toList_some, Option.toList_none, List.cons_append, List.nil_append, List.length_cons, List.length_nil, az_call s_X11_in, z64]
  exact ⟨zb_1, rfl, rfl⟩
theorem s_X11_isSaid {x : Int32} : zD (d + 2) 146 [.int x] h (some (.int (zb (-1 ≤ x.toInt ∧ x.toInt ≤ 999)))) h := by
  refine zD_of zm_X11_isSaid rfl ?_
  show az_W _ _ _ 0 [.int x] [] _
  simp only [u_X11_isSaid_0, u_X11_isSaid_1, u_X11_isSaid_2, u_X11_isSaid_5, u_X11_isSaid_8, u_X11_isSaid_11, az_un_i, az_un_r, az_un_n, az_un_l, Option.toList_some, Option.toList_none, List.cons_append, List.nil_append, List.length_cons, List.length_nil, az_call s_X11_in, z64]
  exact ⟨zb_1, rfl, rfl⟩
theorem s_X0_has {x : Int32} : zD (d + 1) 3 [.ref 49, .int x] (130, az_Pf, I, L) (some (.int (zb (0 ≤ x.toInt ∧ x.toInt < (I 49 1).toInt)))) (130, az_Pf, I, L) := by
  refine zD_of zm_X0_has rfl ?_
  show az_W _ _ _ 0 [.ref 49, .int x] [] _
  simp only [u_X0_has_0, u_X0_has_1, u_X0_has_4, u_X0_has_5, u_X0_has_6, u_X0_has_9, u_X0_has_12, u_X0_has_13, u_X0_has_16, u_X0_has_17, az_un_i, az_un_r, az_un_n, az_un_l, Option.toList_some, Option.toList_none, List.cons_append, List.nil_append, List.length_cons, List.length_nil]
  simp only [Int32.lt_iff_toInt_lt, Int32.le_iff_toInt_le, zb]
  (repeat' split) <;> first | (simp; done) | (exfalso; simp at *; omega)
end S
