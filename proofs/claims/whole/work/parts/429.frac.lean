/-! ===== numbers in lowest terms ===== -/
def zfA (A : Int) (B : Nat) : Int64 := Int64.ofInt (A / (Int.gcd A B : Int))
def zfB (A : Int) (B : Nat) : Int64 := lN (B / Int.gcd A B)
def zLs (L : Nat → Nat → Int64) (f : Nat) (A : Int) (B : Nat) : Nat → Nat → Int64 := az_uL (az_uL L f 0 (zfA A B)) f 1 (zfB A B)
theorem zLs_0 {L : Nat → Nat → Int64} {f : Nat} {A : Int} {B : Nat} : zLs L f A B f 0 = zfA A B := by
  unfold zLs; rw [az_uL_at, if_neg (by omega), az_uL_at, if_pos ⟨rfl, rfl⟩]
theorem zLs_1 {L : Nat → Nat → Int64} {f : Nat} {A : Int} {B : Nat} : zLs L f A B f 1 = zfB A B := by
  unfold zLs; rw [az_uL_at, if_pos ⟨rfl, rfl⟩]
theorem zLs_n {L : Nat → Nat → Int64} {f b j : Nat} {A : Int} {B : Nat} (h : b ≠ f) : zLs L f A B b j = L b j := by
  unfold zLs; rw [az_uL_at, if_neg (by omega), az_uL_at, if_neg (by omega)]
theorem zldiv {a : Int64} {A : Int} {g : Nat} (ha : a.toInt = A) (hg : (g : Int) ∣ A) (hb : g < 2 ^ 63) : a / lN g = Int64.ofInt (A / g) := by
  apply Int64.toInt_inj.mp
  rw [Int64.toInt_div, Int64.toInt_ofInt, ha, pk_lT hb, Int.tdiv_eq_ediv_of_dvd hg]
theorem zgp {A : Int} {B : Nat} (h : 0 < B) : 0 < Int.gcd A B := Int.gcd_pos_of_ne_zero_right A (by omega)
theorem zg1 (A : Int) (B : Nat) : (Int.gcd A B : Int) ∣ A := Int.gcd_dvd_left ..
theorem zg2 (A : Int) (B : Nat) : Int.gcd A B ∣ B := by
  have : (Int.gcd A B : Int) ∣ (B : Int) := Int.gcd_dvd_right ..
  exact Int.natCast_dvd_natCast.mp this
theorem zg3 {A : Int} {B : Nat} (h : 0 < B) : Int.gcd A B ≤ B := Nat.le_of_dvd h (zg2 A B)
theorem zgN (A : Int) (B : Nat) : Int.gcd A B = Nat.gcd A.natAbs B := rfl
/-- one fraction has one lowest form -/
theorem zfr_eq {A C : Int} {B D : Nat} (hB : 0 < B) (hD : 0 < D) (h : A * D = C * B) : zfA A B = zfA C D ∧ zfB A B = zfB C D := by
  have hg := zgp (A := A) hB
  have hh := zgp (A := C) hD
  obtain ⟨a, ha⟩ := zg1 A B
  obtain ⟨c, hc⟩ := zg1 C D
  obtain ⟨b, hb⟩ := zg2 A B
  obtain ⟨e, he⟩ := zg2 C D
  have n1 : A.natAbs = Int.gcd A B * a.natAbs := by
    have := congrArg Int.natAbs ha; rw [Int.natAbs_mul, Int.natAbs_natCast] at this; exact this
  have n2 : C.natAbs = Int.gcd C D * c.natAbs := by
    have := congrArg Int.natAbs hc; rw [Int.natAbs_mul, Int.natAbs_natCast] at this; exact this
  have hAD : A / (Int.gcd A B : Int) = a := by
    conv => lhs; rw [show A / (Int.gcd A B : Int) = (Int.gcd A B : Int) * a / (Int.gcd A B : Int) from by rw [← ha]]
    exact Int.mul_ediv_cancel_left _ (by omega)
  have hCD : C / (Int.gcd C D : Int) = c := by
    conv => lhs; rw [show C / (Int.gcd C D : Int) = (Int.gcd C D : Int) * c / (Int.gcd C D : Int) from by rw [← hc]]
    exact Int.mul_ediv_cancel_left _ (by omega)
  have hBb : B / Int.gcd A B = b := by
    conv => lhs; rw [show B / Int.gcd A B = Int.gcd A B * b / Int.gcd A B from by rw [← hb]]
    exact Nat.mul_div_cancel_left _ hg
  have hDe : D / Int.gcd C D = e := by
    conv => lhs; rw [show D / Int.gcd C D = Int.gcd C D * e / Int.gcd C D from by rw [← he]]
    exact Nat.mul_div_cancel_left _ hh
  have k1 : Nat.Coprime a.natAbs b := by
    have := Nat.coprime_div_gcd_div_gcd (m := A.natAbs) (n := B) hg
    rw [← zgN, hBb] at this
    rw [show A.natAbs / Int.gcd A B = a.natAbs from by
      conv => lhs; rw [show A.natAbs / Int.gcd A B = Int.gcd A B * a.natAbs / Int.gcd A B from by rw [← n1]]
      exact Nat.mul_div_cancel_left _ hg] at this
    exact this
  have k2 : Nat.Coprime c.natAbs e := by
    have := Nat.coprime_div_gcd_div_gcd (m := C.natAbs) (n := D) hh
    rw [← zgN, hDe] at this
    rw [show C.natAbs / Int.gcd C D = c.natAbs from by
      conv => lhs; rw [show C.natAbs / Int.gcd C D = Int.gcd C D * c.natAbs / Int.gcd C D from by rw [← n2]]
      exact Nat.mul_div_cancel_left _ hh] at this
    exact this
  have fA : zfA A B = Int64.ofInt a := by unfold zfA; rw [hAD]
  have fC : zfA C D = Int64.ofInt c := by unfold zfA; rw [hCD]
  have fB : zfB A B = lN b := by unfold zfB; rw [hBb]
  have fD : zfB C D = lN e := by unfold zfB; rw [hDe]
  clear hAD hCD hBb hDe
  generalize Int.gcd A B = g at *
  generalize Int.gcd C D = q at *
  have m0 : a * e = c * b := by
    rw [ha, hc, hb, he] at h
    have h' : ((g * q : Nat) : Int) * (a * e) = ((g * q : Nat) : Int) * (c * b) := by
      have e1 : ((g : Int) * a) * ((q * e : Nat) : Int) = ((g * q : Nat) : Int) * (a * e) := by
        rw [Int.natCast_mul, Int.natCast_mul]; simp only [Int.mul_assoc, Int.mul_comm, Int.mul_left_comm]
      have e2 : ((q : Int) * c) * ((g * b : Nat) : Int) = ((g * q : Nat) : Int) * (c * b) := by
        rw [Int.natCast_mul, Int.natCast_mul]; simp only [Int.mul_assoc, Int.mul_comm, Int.mul_left_comm]
      rw [← e1, ← e2]; exact h
    have hp : 0 < g * q := Nat.mul_pos hg hh
    exact Int.eq_of_mul_eq_mul_left (by omega) h'
  have m1 : a.natAbs * e = c.natAbs * b := by
    have := congrArg Int.natAbs m0
    rw [Int.natAbs_mul, Int.natAbs_mul, Int.natAbs_natCast, Int.natAbs_natCast] at this; exact this
  have d1 : b ∣ e := k1.symm.dvd_of_dvd_mul_left ⟨c.natAbs, by rw [m1, Nat.mul_comm]⟩
  have d2 : e ∣ b := k2.symm.dvd_of_dvd_mul_left ⟨a.natAbs, by rw [← m1, Nat.mul_comm]⟩
  have ebe : b = e := Nat.dvd_antisymm d1 d2
  have hb0 : 0 < b := by
    rcases Nat.eq_zero_or_pos b with z | z
    · rw [z] at hb; omega
    · exact z
  have eac : a = c := by
    rw [ebe] at m0
    exact Int.eq_of_mul_eq_mul_right (by omega) m0
  refine ⟨?_, ?_⟩
  · rw [fA, fC, eac]
  · rw [fB, fD, ebe]
theorem zfA_i {A : Int} {B : Nat} (hB : 0 < B) (h1 : -2 ^ 62 < A) (h2 : A < 2 ^ 62) : (zfA A B).toInt = A / (Int.gcd A B : Int) := by
  unfold zfA
  have hg := zgp (A := A) hB
  obtain ⟨a, ha⟩ := zg1 A B
  have e : A / (Int.gcd A B : Int) = a := by
    conv => lhs; rw [show A / (Int.gcd A B : Int) = (Int.gcd A B : Int) * a / (Int.gcd A B : Int) from by rw [← ha]]
    exact Int.mul_ediv_cancel_left _ (by omega)
  rw [e]
  have n1 : A.natAbs = Int.gcd A B * a.natAbs := by
    have := congrArg Int.natAbs ha; rw [Int.natAbs_mul, Int.natAbs_natCast] at this; exact this
  have n2 : a.natAbs ≤ A.natAbs := by rw [n1]; exact Nat.le_mul_of_pos_left _ hg
  exact Int64.toInt_ofInt_of_le (by omega) (by omega)
theorem zfB_i {A : Int} {B : Nat} (h2 : B < 2 ^ 63) : (zfB A B).toInt = ((B / Int.gcd A B : Nat) : Int) := by
  unfold zfB
  exact pk_lT (Nat.lt_of_le_of_lt (Nat.div_le_self _ _) h2)
theorem zabs {a : Int64} {A : Int} (ha : a.toInt = A) (h1 : -2 ^ 62 < A) (h2 : A < 2 ^ 62) : (if 0 < a then a else -a) = lN A.natAbs := by
  apply Int64.toInt_inj.mp
  rw [pk_lT (by omega)]
  by_cases g : 0 < a
  · rw [if_pos g]
    have := Int64.lt_iff_toInt_lt.mp g
    simp at this; omega
  · rw [if_neg g, Int64.toInt_neg, ha, Int.bmod_def]
    have : ¬ 0 < a.toInt := fun z => g (Int64.lt_iff_toInt_lt.mpr (by simpa using z))
    omega
theorem zabs2 {a : Int64} {A : Int} (ha : a.toInt = A) (h1 : -2 ^ 62 < A) (h2 : A < 2 ^ 62) : (if 0 ≤ a then a else -a) = lN A.natAbs := by
  apply Int64.toInt_inj.mp
  rw [pk_lT (by omega)]
  by_cases g : 0 ≤ a
  · rw [if_pos g]
    have := Int64.le_iff_toInt_le.mp g
    simp at this; omega
  · rw [if_neg g, Int64.toInt_neg, ha, Int.bmod_def]
    have : ¬ 0 ≤ a.toInt := fun z => g (Int64.le_iff_toInt_le.mpr (by simpa using z))
    omega
theorem zln0 {n : Nat} (h : n < 2 ^ 63) : lN n = 0 ↔ n = 0 := pk_lEQ (b := 0) h (by decide)
theorem zhalf {D R n : Nat} (h : R < 2 ^ (n + 1)) (h0 : 0 < D % R) (hR : 0 < R) : R % (D % R) < 2 ^ n := by
  have h1 : D % R < R := Nat.mod_lt _ hR
  have h2 : R % (D % R) < D % R := Nat.mod_lt _ h0
  have h3 : D % R * (R / (D % R)) + R % (D % R) = R := Nat.div_add_mod R (D % R)
  have h4 : 1 ≤ R / (D % R) := Nat.div_pos (by omega) h0
  have h5 : D % R ≤ D % R * (R / (D % R)) := Nat.le_mul_of_pos_right _ h4
  rw [Nat.pow_succ] at h
  omega
section S
variable {d : Nat} {I : Nat → Nat → Int32} {L : Nat → Nat → Int64} {h : az_H}
theorem zput_loop {R' : az_R} {f : Nat} {a b : Int64} : ∀ (n D R s : Nat) (v v' : Value), R < 2 ^ n → D < 2 ^ 63 → R < 2 ^ 63 → s + 2 * n ≤ 200 → (∀ s' v v', az_W (zD d) R' k_X2_put 48 [.ref f, .long a, .null, .long b, .null, .long (lN (Nat.gcd D R)), .null, .long 0, .null, .int (nI s'), v, v'] [] h) → az_W (zD d) R' k_X2_put 12 [.ref f, .long a, .null, .long b, .null, .long (lN D), .null, .long (lN R), .null, .int (nI s), v, v'] [] h := by
  have done : ∀ (D s : Nat) (v v' : Value), s < 200 → (∀ s' v v', az_W (zD d) R' k_X2_put 48 [.ref f, .long a, .null, .long b, .null, .long (lN D), .null, .long 0, .null, .int (nI s'), v, v'] [] h) → az_W (zD d) R' k_X2_put 12 [.ref f, .long a, .null, .long b, .null, .long (lN D), .null, .long (lN 0), .null, .int (nI s), v, v'] [] h := by
    intro D s v v' hs k
    have h1 : ¬ (200 : Int32) ≤ nI s := nI_ge (b := 200) hs (by decide)
    simp only [u_X2_put_12]
    simp only [u_X2_put_14, u_X2_put_17, u_X2_put_20, u_X2_put_22, u_X2_put_23, u_X2_put_24, u_X2_put_27, u_X2_put_29, u_X2_put_31, u_X2_put_32, u_X2_put_34, u_X2_put_36, u_X2_put_38, u_X2_put_40, u_X2_put_42, u_X2_put_45, az_un_i, az_un_r, az_un_n, az_un_l, Option.toList_some, Option.toList_none, List.cons_append, List.nil_append, List.length_cons, List.length_nil, Nat.reduceLeDiff, Nat.reduceAdd, Nat.zero_le, Nat.zero_add, and_true, true_and, zb_1, eq_self, h1, if_false, lg_cmp_eq, show lN 0 = (0 : Int64) from rfl, if_true]
    exact k s v v'
  have step : ∀ (D R s : Nat) (v v' : Value), s < 200 → 0 < R → D < 2 ^ 63 → R < 2 ^ 63 → (∀ v v', az_W (zD d) R' k_X2_put 12 [.ref f, .long a, .null, .long b, .null, .long (lN R), .null, .long (lN (D % R)), .null, .int (nI (s + 1)), v, v'] [] h) → az_W (zD d) R' k_X2_put 12 [.ref f, .long a, .null, .long b, .null, .long (lN D), .null, .long (lN R), .null, .int (nI s), v, v'] [] h := by
    intro D R s v v' hs h0 hD hR k
    have h1 : ¬ (200 : Int32) ≤ nI s := nI_ge (b := 200) hs (by decide)
    have h2 : ¬ lN R = 0 := fun z => by have := (zln0 hR).mp z; omega
    simp only [u_X2_put_12]
    simp only [u_X2_put_14, u_X2_put_17, u_X2_put_20, u_X2_put_22, u_X2_put_23, u_X2_put_24, u_X2_put_27, u_X2_put_29, u_X2_put_31, u_X2_put_32, u_X2_put_34, u_X2_put_36, u_X2_put_38, u_X2_put_40, u_X2_put_42, u_X2_put_45, az_un_i, az_un_r, az_un_n, az_un_l, Option.toList_some, Option.toList_none, List.cons_append, List.nil_append, List.length_cons, List.length_nil, Nat.reduceLeDiff, Nat.reduceAdd, Nat.zero_le, Nat.zero_add, and_true, true_and, zb_1, eq_self, h1, if_false, lg_cmp_eq, h2, not_false_eq_true, pk_lRem hD h0 hR]
    have := k (.long (lN (D % R))) .null
    rw [nI_succ] at this
    exact this
  intro n
  induction n with
  | zero =>
    intro D R s v v' hR hD _ hs k
    have e : R = 0 := by omega
    subst e
    by_cases hs2 : s < 200
    · rw [Nat.gcd_zero_right] at k
      exact done D s v v' hs2 k
    · have e : s = 200 := by omega
      subst e
      rw [Nat.gcd_zero_right] at k
      have h1 : (200 : Int32) ≤ nI 200 := by decide
      simp only [u_X2_put_12]
      simp only [u_X2_put_14, u_X2_put_17, u_X2_put_20, u_X2_put_22, u_X2_put_23, u_X2_put_24, u_X2_put_27, u_X2_put_29, u_X2_put_31, u_X2_put_32, u_X2_put_34, u_X2_put_36, u_X2_put_38, u_X2_put_40, u_X2_put_42, u_X2_put_45, az_un_i, az_un_r, az_un_n, az_un_l, Option.toList_some, Option.toList_none, List.cons_append, List.nil_append, List.length_cons, List.length_nil, Nat.reduceLeDiff, Nat.reduceAdd, Nat.zero_le, Nat.zero_add, and_true, true_and, zb_1, eq_self, h1, if_true]
      exact k 200 v v'
  | succ n ih =>
    intro D R s v v' hR hD hR2 hs k
    by_cases h0 : R = 0
    · subst h0
      rw [Nat.gcd_zero_right] at k
      exact done D s v v' (by omega) k
    · have hRp : 0 < R := by omega
      have g1 : Nat.gcd D R = Nat.gcd R (D % R) := by rw [Nat.gcd_comm D R, Nat.gcd_rec, Nat.gcd_comm]
      have l1 : D % R < R := Nat.mod_lt _ hRp
      refine step D R s v v' (by omega) hRp hD hR2 (fun v v' => ?_)
      by_cases h1 : D % R = 0
      · rw [h1]
        rw [g1, h1, Nat.gcd_zero_right] at k
        exact done R (s + 1) v v' (by omega) k
      · have g2 : Nat.gcd R (D % R) = Nat.gcd (D % R) (R % (D % R)) := by rw [Nat.gcd_comm R (D % R), Nat.gcd_rec, Nat.gcd_comm]
        rw [g1, g2] at k
        refine step R (D % R) (s + 1) v v' (by omega) (by omega) hR2 (by omega) (fun v v' => ?_)
        exact ih (D % R) (R % (D % R)) (s + 1 + 1) v v' (zhalf hR (by omega) hRp) (by omega) (by have := Nat.mod_lt R (show D % R > 0 by omega); omega) (by omega) k
theorem s_X2_put {f B : Nat} {a b : Int64} {A : Int} (hf : az_kn 130 f = (0, 2)) (ha : a.toInt = A) (hb : b = lN B) (h1 : -2 ^ 62 < A) (h2 : A < 2 ^ 62) (h3 : 0 < B) (h4 : B < 2 ^ 62) : zD (d + 1) 19 [.ref f, .long a, .long b] (130, az_Pf, I, L) none (130, az_Pf, I, zLs L f A B) := by
  refine zD_of zm_X2_put rfl ?_
  show az_W _ _ _ 0 [.ref f, .long a, .null, .long b, .null, .null, .null, .null, .null, .null, .null, .null] [] _
  simp only [u_X2_put_0, u_X2_put_1, u_X2_put_3, u_X2_put_4, u_X2_put_7, u_X2_put_9, u_X2_put_10, az_un_i, az_un_r, az_un_n, az_un_l, Option.toList_some, Option.toList_none, List.cons_append, List.nil_append, List.length_cons, List.length_nil, Nat.reduceLeDiff, Nat.reduceAdd, Nat.zero_le, Nat.zero_add, and_true, true_and, zb_1, eq_self, zabs ha h1 h2]
  rw [hb]
  refine zput_loop 62 B A.natAbs 0 .null .null (by omega) (by omega) (by omega) (by decide) (fun s' v v' => ?_)
  have eg : Nat.gcd B A.natAbs = Int.gcd A B := by rw [Nat.gcd_comm]; rfl
  rw [eg]
  have hg := zgp (A := A) h3
  have hg2 := zg3 (A := A) h3
  have c1 : ¬ lN (Int.gcd A B) ≤ 0 := fun z => by
    have := (pk_lLE (b := 0) (show Int.gcd A B < 2 ^ 63 by omega) (by decide)).mp z; omega
  have c2 : ¬ lN (Int.gcd A B) = 0 := fun z => by have := (zln0 (show Int.gcd A B < 2 ^ 63 by omega)).mp z; omega
  simp only [u_X2_put_48, u_X2_put_50, u_X2_put_51, u_X2_put_52, u_X2_put_55, u_X2_put_56, u_X2_put_57, u_X2_put_59, u_X2_put_60, u_X2_put_63, u_X2_put_64, u_X2_put_65, u_X2_put_67, u_X2_put_68, u_X2_put_71, az_un_i, az_un_r, az_un_n, az_un_l, Option.toList_some, Option.toList_none, List.cons_append, List.nil_append, List.length_cons, List.length_nil, Nat.reduceLeDiff, Nat.reduceAdd, Nat.zero_le, Nat.zero_add, and_true, true_and, zb_1, eq_self, lg_cmp_le, c1, if_false, c2, not_false_eq_true, hf, zldiv ha (zg1 A B) (show Int.gcd A B < 2 ^ 63 by omega), pk_lDiv (show B < 2 ^ 63 by omega) hg (show Int.gcd A B < 2 ^ 63 by omega)]
  rfl
theorem s_X11_common {B : Nat} {a b : Int64} {A : Int} (ha : a.toInt = A) (hb : b = lN B) (h1 : -2 ^ 62 < A) (h2 : A < 2 ^ 62) (h4 : B < 2 ^ 62) : zD (d + 1) 143 [.long a, .long b] h (some (.long (lN (Int.gcd A B)))) h := by
  refine zD_of zm_X11_common rfl ?_
  show az_W _ _ _ 0 [.long a, .null, .long b, .null, .null, .null, .null, .null, .null, .null] [] _
  have key : ∀ (Y X : Nat) (v v' : Value), X < 2 ^ 63 → Y < 2 ^ 63 → Nat.gcd X Y = Int.gcd A B → az_W (zD d) (fun r' h'' => r' = some (.long (lN (Int.gcd A B))) ∧ h'' = h) k_X11_common 17 [.long a, .null, .long b, .null, .long (lN X), .null, .long (lN Y), .null, v, v'] [] h := by
    intro Y
    induction Y using Nat.strongRecOn with
    | _ Y ih =>
      intro X v v' hX hY hg
      simp only [u_X11_common_17]
      by_cases h0 : Y = 0
      · subst h0
        rw [Nat.gcd_zero_right] at hg
        simp only [u_X11_common_19, u_X11_common_20, u_X11_common_21, u_X11_common_24, u_X11_common_26, u_X11_common_28, u_X11_common_29, u_X11_common_31, u_X11_common_33, u_X11_common_35, u_X11_common_37, u_X11_common_39, u_X11_common_42, u_X11_common_44, az_un_i, az_un_r, az_un_n, az_un_l, Option.toList_some, Option.toList_none, List.cons_append, List.nil_append, List.length_cons, List.length_nil, Nat.reduceLeDiff, Nat.reduceAdd, Nat.zero_le, Nat.zero_add, and_true, true_and, zb_1, eq_self, lg_cmp_eq, show lN 0 = (0 : Int64) from rfl, if_true, hg]
      · have hYp : 0 < Y := by omega
        have h2 : ¬ lN Y = 0 := fun z => by have := (zln0 hY).mp z; omega
        simp only [u_X11_common_19, u_X11_common_20, u_X11_common_21, u_X11_common_24, u_X11_common_26, u_X11_common_28, u_X11_common_29, u_X11_common_31, u_X11_common_33, u_X11_common_35, u_X11_common_37, u_X11_common_39, u_X11_common_42, u_X11_common_44, az_un_i, az_un_r, az_un_n, az_un_l, Option.toList_some, Option.toList_none, List.cons_append, List.nil_append, List.length_cons, List.length_nil, Nat.reduceLeDiff, Nat.reduceAdd, Nat.zero_le, Nat.zero_add, and_true, true_and, zb_1, eq_self, lg_cmp_eq, h2, if_false, not_false_eq_true, pk_lRem hX hYp hY]
        have l1 : X % Y < Y := Nat.mod_lt _ hYp
        have g1 : Nat.gcd X Y = Nat.gcd Y (X % Y) := by rw [Nat.gcd_comm X Y, Nat.gcd_rec, Nat.gcd_comm]
        exact ih (X % Y) l1 Y (.long (lN (X % Y))) .null hY (by omega) (g1.symm.trans hg)
  simp only [u_X11_common_0, u_X11_common_1, u_X11_common_2, u_X11_common_3, u_X11_common_6, u_X11_common_7, u_X11_common_8, u_X11_common_11, u_X11_common_12, u_X11_common_14, u_X11_common_15, az_un_i, az_un_r, az_un_n, az_un_l, Option.toList_some, Option.toList_none, List.cons_append, List.nil_append, List.length_cons, List.length_nil, Nat.reduceLeDiff, Nat.reduceAdd, Nat.zero_le, Nat.zero_add, and_true, true_and, zb_1, eq_self, lg_cmp_ge]
  have e := zabs2 ha h1 h2
  by_cases g : 0 ≤ a
  · rw [if_pos g] at e ⊢
    rw [hb]
    have := key B A.natAbs .null .null (by omega) (by omega) rfl
    rw [← e, hb] at this
    exact this
  · rw [if_neg g] at e ⊢
    rw [hb, e]
    have := key B A.natAbs .null .null (by omega) (by omega) rfl
    rw [hb] at this
    exact this
def zfP (A : Int) (B : Nat) (x : Int32) : Int64 := if x = 0 then zfA A B else zfB A B
theorem s_X11_told {B : Nat} {a b : Int64} {A : Int} {x : Int32} (ha : a.toInt = A) (hb : b = lN B) (h1 : -2 ^ 62 < A) (h2 : A < 2 ^ 62) (h3 : 0 < B) (h4 : B < 2 ^ 62) : zD (d + 2) 144 [.long a, .long b, .int x] h (some (.long (zfP A B x))) h := by
  refine zD_of zm_X11_told rfl ?_
  show az_W _ _ _ 0 [.long a, .null, .long b, .null, .int x, .null, .null] [] _
  have hg := zgp (A := A) h3
  have hg2 := zg3 (A := A) h3
  have c2 : ¬ lN (Int.gcd A B) = 0 := fun z => by have := (zln0 (show Int.gcd A B < 2 ^ 63 by omega)).mp z; omega
  simp only [u_X11_told_0, u_X11_told_1, u_X11_told_2, u_X11_told_5, u_X11_told_7, u_X11_told_9, u_X11_told_12, u_X11_told_13, u_X11_told_15, u_X11_told_16, u_X11_told_19, u_X11_told_20, u_X11_told_22, u_X11_told_23, az_un_i, az_un_r, az_un_n, az_un_l, Option.toList_some, Option.toList_none, List.cons_append, List.nil_append, List.length_cons, List.length_nil, Nat.reduceLeDiff, Nat.reduceAdd, Nat.zero_le, Nat.zero_add, and_true, true_and, zb_1, eq_self, az_call (s_X11_common ha hb h1 h2 h4), c2, not_false_eq_true, zldiv ha (zg1 A B) (show Int.gcd A B < 2 ^ 63 by omega)]
  rw [hb, pk_lDiv (show B < 2 ^ 63 by omega) hg (show Int.gcd A B < 2 ^ 63 by omega)]
  unfold zfP
  by_cases g : x = 0
  · simp only [g, if_true]; rfl
  · simp only [g, if_false]; rfl
theorem s_X2_part {f : Nat} {x : Int32} (hf : az_kn 130 f = (0, 2)) : zD (d + 1) 25 [.ref f, .int x] (130, az_Pf, I, L) (some (.long (if x = 0 then L f 0 else L f 1))) (130, az_Pf, I, L) := by
  refine zD_of zm_X2_part rfl ?_
  show az_W _ _ _ 0 [.ref f, .int x] [] _
  simp only [u_X2_part_0, u_X2_part_1, u_X2_part_4, u_X2_part_5, u_X2_part_8, u_X2_part_11, u_X2_part_12, u_X2_part_15, az_un_i, az_un_r, az_un_n, az_un_l, Option.toList_some, Option.toList_none, List.cons_append, List.nil_append, List.length_cons, List.length_nil, Nat.reduceLeDiff, Nat.reduceAdd, Nat.zero_le, Nat.zero_add, and_true, true_and, zb_1, eq_self, hf]
  by_cases g : x = 0 <;> simp only [g, if_true, if_false]
end S
