/-! ===== many ===== -/
theorem z10 : ¬ (1 : Int32) = 0 := by decide
def zpc (g : Nat) : Nat := zcn (fun i => g.testBit i) 8
theorem zpc_le (g : Nat) : zpc g ≤ 8 := zcn_le _ 8
theorem zcn_lt {p q : Nat → Bool} {i : Nat} (h : ∀ k, p k = true → q k = true) (h1 : q i = true) (h2 : p i = false) : ∀ n, i < n → zcn p n < zcn q n
  | 0, hi => absurd hi (Nat.not_lt_zero _)
  | n + 1, hi => by
    rw [zcn, zcn]
    by_cases c : i = n
    · rw [← c, h1, h2]
      have := zcn_mono h i
      simp; omega
    · have := zcn_lt h h1 h2 n (by omega)
      by_cases g : p n = true
      · rw [if_pos g, if_pos (h n g)]; omega
      · rw [if_neg g]; split <;> omega
theorem zpc_and {g t : Nat} (hg : g < 256) (hn : g &&& t ≠ g) : zpc (g &&& t) < zpc g := by
  by_cases ex : ∃ i, i < 8 ∧ g.testBit i = true ∧ t.testBit i = false
  · obtain ⟨i, hi, h1, h2⟩ := ex
    refine zcn_lt (i := i) (fun k hk => ?_) h1 (by rw [Nat.testBit_and, h2, Bool.and_false]) 8 hi
    rw [Nat.testBit_and] at hk
    exact (Bool.and_eq_true_iff.mp hk).1
  · exfalso
    apply hn
    apply Nat.eq_of_testBit_eq
    intro i
    rw [Nat.testBit_and]
    cases h1 : g.testBit i
    · rfl
    · cases h2 : t.testBit i
      · exfalso
        refine ex ⟨i, ?_, h1, h2⟩
        rcases Nat.lt_or_ge i 8 with c | c
        · exact c
        · have : g.testBit i = false := Nat.testBit_lt_two_pow (Nat.lt_of_lt_of_le hg (Nat.pow_le_pow_right (n := 2) (by decide) c))
          rw [this] at h1; cases h1
      · rfl
/-- those that have said, as bits -/
def zth (v : Nat → Int32) : Nat → Nat
  | 0 => 0
  | h + 1 => zth v h ||| (if v h = -1 then 0 else 2 ^ h)
theorem zth_b {v : Nat → Int32} : ∀ n i, (zth v n).testBit i = (decide (i < n) && decide (v i ≠ -1))
  | 0, i => by simp [zth]
  | n + 1, i => by
    rw [zth, Nat.testBit_or, zth_b n i]
    by_cases c : i = n
    · subst c
      by_cases g : v i = -1
      · simp [g]
      · simp [g, Nat.testBit_two_pow_self]
    · have e : (if v n = -1 then 0 else 2 ^ n).testBit i = false := by
        split
        · simp
        · rw [Nat.testBit_two_pow]; simp; omega
      rw [e, Bool.or_false]
      have : (i < n + 1) ↔ (i < n) := by omega
      simp only [this]
theorem zth_lt {v : Nat → Int32} : ∀ n, zth v n < 2 ^ n
  | 0 => Nat.zero_lt_one
  | n + 1 => by
    rw [zth]
    refine Nat.or_lt_two_pow (Nat.lt_of_lt_of_le (zth_lt n) (Nat.pow_le_pow_right (by decide) (by omega))) ?_
    split
    · exact Nat.two_pow_pos _
    · exact Nat.pow_lt_pow_right (by decide) (by omega)
theorem zbn_and {v : Nat → Int32} {g : Nat} {y : Int32} (i : Nat) (hi : i < 8) : zbn v (g &&& zth v 8) y i = zbn v g y i := by
  unfold zbn
  rw [Nat.testBit_and, zth_b]
  by_cases c : v i = -1
  · simp [c]
  · simp [c, hi]
theorem zmv_and {v : Nat → Int32} {g c : Nat} {y : Int32} : zmv v (g &&& zth v 8) y c = zmv v g y c := by
  unfold zmv; rw [zS_c (fun i hi => zbn_and i hi)]
theorem zmv_0 {v : Nat → Int32} {c : Nat} {y : Int32} : zmv v 0 y c = 0 := by
  have : zS (zbn v 0 y) c = zS v c := zS_c (fun i hi => by unfold zbn; rw [if_neg (by rw [Nat.zero_testBit]; simp)]) c
  unfold zmv; rw [this]; split <;> omega
/-- a group that moves enough -/
def zmo (v : Nat → Int32) (y : Int32) (c l x : Nat) (g : Nat) : Bool := zok v c l && decide ((x : Int) * ((zK v - 2 * c : Nat) : Int) ≤ zmv v g y c)
theorem zmo_and {v : Nat → Int32} {y : Int32} {c l x g : Nat} (hx : 1 ≤ x) (h : zmo v y c l x g = true) : zmo v y c l x (g &&& zth v 8) = true ∧ g &&& zth v 8 ≠ 0 := by
  unfold zmo at h ⊢
  rw [Bool.and_eq_true_iff, decide_eq_true_iff] at h ⊢
  rw [zmv_and]
  refine ⟨h, fun e => ?_⟩
  have h2 := h.2
  rw [← zmv_and, e, zmv_0] at h2
  have h3 := zok_i.mp h.1
  have : 1 * 1 ≤ x * (zK v - 2 * c) := Nat.mul_le_mul hx (by omega)
  rw [← Int.natCast_mul] at h2
  omega
def zfd : Option Nat → Int32
  | none => -4
  | some g => nI g
def zbi : Option Nat → Nat
  | none => 9
  | some g => zpc g
/-- what is found among the groups 1 .. k -/
def zfw (ok : Nat → Bool) : Nat → Option Nat
  | 0 => none
  | k + 1 => if zpc (k + 1) < zbi (zfw ok k) ∧ ok (k + 1) = true then some (k + 1) else zfw ok k
theorem zfw_b {ok : Nat → Bool} : ∀ k g, 1 ≤ g → g ≤ k → ok g = true → zbi (zfw ok k) ≤ zpc g
  | 0, g, h1, h2, _ => by omega
  | k + 1, g, h1, h2, h3 => by
    rw [zfw]
    by_cases c : zpc (k + 1) < zbi (zfw ok k) ∧ ok (k + 1) = true
    · rw [if_pos c]
      show zpc (k + 1) ≤ zpc g
      by_cases e : g = k + 1
      · rw [e]; exact Nat.le_refl _
      · have := zfw_b k g h1 (by omega) h3
        omega
    · rw [if_neg c]
      by_cases e : g = k + 1
      · rw [e] at h3 ⊢
        have : ¬ zpc (k + 1) < zbi (zfw ok k) := fun q => c ⟨q, h3⟩
        omega
      · exact zfw_b k g h1 (by omega) h3
theorem zfw_r {ok : Nat → Bool} : ∀ k, zfw ok k = none ∨ ∃ g, 1 ≤ g ∧ g ≤ k ∧ zfw ok k = some g
  | 0 => Or.inl rfl
  | k + 1 => by
    rw [zfw]
    split
    · exact Or.inr ⟨k + 1, by omega, by omega, rfl⟩
    · rcases zfw_r (ok := ok) k with e | ⟨g, h1, h2, e⟩
      · exact Or.inl e
      · exact Or.inr ⟨g, h1, by omega, e⟩
/-- only groups of such as have said are found -/
theorem zfw_th {v : Nat → Int32} {y : Int32} {c l x k : Nat} (hk : k < 255) (hx : 1 ≤ x) (h1 : zpc (k + 1) < zbi (zfw (zmo v y c l x) k)) (h2 : zmo v y c l x (k + 1) = true) : (k + 1) &&& zth v 8 = k + 1 := by
  rcases Nat.decEq ((k + 1) &&& zth v 8) (k + 1) with e | e
  · exfalso
    obtain ⟨a1, a2⟩ := zmo_and hx h2
    have a3 := zpc_and (show k + 1 < 256 by omega) e
    have a4 : (k + 1) &&& zth v 8 ≤ k + 1 := Nat.and_le_left
    have := zfw_b (ok := zmo v y c l x) k ((k + 1) &&& zth v 8) (by omega) (by omega) a1
    omega
  · exact e
theorem zsub {g t : Nat} (hg : g < 256) (ht : t < 256) : (nI g &&& (nI t ^^^ -1) = 0) ↔ g &&& t = g := by
  rw [show (-1 : Int32) = nI 4294967295 from rfl, zxor, zando]
  have h1 : g &&& (t ^^^ 4294967295) ≤ g := Nat.and_le_left
  rw [show (0 : Int32) = nI 0 from rfl, nI_eq (by omega) (by omega)]
  have tb : ∀ i, i < 8 → (4294967295 : Nat).testBit i = true := by decide
  have hb : ∀ i, 8 ≤ i → g.testBit i = false := fun i hi => Nat.testBit_lt_two_pow (Nat.lt_of_lt_of_le hg (Nat.pow_le_pow_right (n := 2) (by decide) hi))
  constructor
  · intro e
    apply Nat.eq_of_testBit_eq
    intro i
    have := congrArg (fun z => z.testBit i) e
    simp only [Nat.testBit_and, Nat.testBit_xor, Nat.zero_testBit] at this
    rw [Nat.testBit_and]
    rcases Nat.lt_or_ge i 8 with c | c
    · rw [tb i c] at this
      cases h3 : g.testBit i <;> cases h4 : t.testBit i <;> rw [h3, h4] at this <;> simp at this ⊢
    · rw [hb i c]; rfl
  · intro e
    apply Nat.eq_of_testBit_eq
    intro i
    have := congrArg (fun z => z.testBit i) e
    simp only [Nat.testBit_and] at this
    rw [Nat.testBit_and, Nat.testBit_xor, Nat.zero_testBit]
    rcases Nat.lt_or_ge i 8 with c | c
    · rw [tb i c]
      cases h3 : g.testBit i <;> cases h4 : t.testBit i <;> rw [h3, h4] at this <;> simp at this ⊢
    · rw [hb i c]; rfl
theorem zon : ∀ g, g < 256 → g ≠ 0 → nI g &&& (nI g - 1) = nI (g &&& (g - 1)) ∧ zpc (g &&& (g - 1)) + 1 = zpc g ∧ g &&& (g - 1) < g := by decide +kernel
section S
variable {d : Nat} {I : Nat → Nat → Int32} {L : Nat → Nat → Int64} {h : az_H}
theorem s_J6_bitCount_0f7a4 {g : Nat} (hg : g < 256) : zD (d + 1) 210 [.int (nI g)] h (some (.int (nI (zpc g)))) h := by
  refine zD_of zm_J6_bitCount_0f7a4 rfl ?_
  show az_W _ _ _ 0 [.int (nI g)] [] _
  simp only [u_J6_bitCount_0f7a4_0, u_J6_bitCount_0f7a4_1, u_J6_bitCount_0f7a4_2, u_J6_bitCount_0f7a4_3, u_J6_bitCount_0f7a4_4, u_J6_bitCount_0f7a4_7, u_J6_bitCount_0f7a4_8, u_J6_bitCount_0f7a4_9, u_J6_bitCount_0f7a4_10, u_J6_bitCount_0f7a4_11, u_J6_bitCount_0f7a4_14, u_J6_bitCount_0f7a4_15, u_J6_bitCount_0f7a4_16, u_J6_bitCount_0f7a4_17, u_J6_bitCount_0f7a4_18, u_J6_bitCount_0f7a4_21, u_J6_bitCount_0f7a4_22, u_J6_bitCount_0f7a4_23, u_J6_bitCount_0f7a4_24, u_J6_bitCount_0f7a4_25, u_J6_bitCount_0f7a4_26, u_J6_bitCount_0f7a4_27, u_J6_bitCount_0f7a4_28, u_J6_bitCount_0f7a4_29, u_J6_bitCount_0f7a4_32, u_J6_bitCount_0f7a4_33, u_J6_bitCount_0f7a4_34, u_J6_bitCount_0f7a4_35, u_J6_bitCount_0f7a4_36, u_J6_bitCount_0f7a4_38, u_J6_bitCount_0f7a4_39, u_J6_bitCount_0f7a4_40, u_J6_bitCount_0f7a4_41, u_J6_bitCount_0f7a4_42, u_J6_bitCount_0f7a4_43, u_J6_bitCount_0f7a4_45, u_J6_bitCount_0f7a4_46, u_J6_bitCount_0f7a4_47, u_J6_bitCount_0f7a4_48, u_J6_bitCount_0f7a4_49, u_J6_bitCount_0f7a4_51, u_J6_bitCount_0f7a4_52, az_un_i, az_un_r, az_un_n, az_un_l, Option.toList_some, Option.toList_none, List.cons_append, List.nil_append, List.length_cons, List.length_nil, Nat.reduceLeDiff, Nat.reduceAdd, Nat.zero_le, Nat.zero_add, and_true, true_and, zb_1, eq_self]
  refine congrArg (fun z => some (Value.int z)) ?_
  revert g
  decide +kernel
theorem s_X11_ones {g : Nat} (hg : g < 256) : zD (d + 1) 164 [.int (nI g)] h (some (.int (nI (zpc g)))) h := by
  refine zD_of zm_X11_ones rfl ?_
  show az_W _ _ _ 0 [.int (nI g), .null, .null] [] _
  simp only [u_X11_ones_0, u_X11_ones_1, u_X11_ones_2, u_X11_ones_3, az_un_i, az_un_r, az_un_n, az_un_l, Option.toList_some, Option.toList_none, List.cons_append, List.nil_append, List.length_cons, List.length_nil, Nat.reduceLeDiff, Nat.reduceAdd, Nat.zero_le, Nat.zero_add, and_true, true_and, zb_1, eq_self]
  have key : ∀ b, b < 256 → ∀ n, n + zpc b = zpc g → az_W (zD d) (fun r' h'' => r' = some (.int (nI (zpc g))) ∧ h'' = h) k_X11_ones 4 [.int (nI g), .int (nI n), .int (nI b)] [] h := by
    intro b
    induction b using Nat.strongRecOn with
    | _ b ih =>
      intro hb n hn
      simp only [u_X11_ones_4]
      by_cases h0 : b = 0
      · subst h0
        have : n = zpc g := by rw [← hn]; rfl
        simp only [u_X11_ones_5, u_X11_ones_8, u_X11_ones_11, u_X11_ones_12, u_X11_ones_13, u_X11_ones_14, u_X11_ones_15, u_X11_ones_16, u_X11_ones_17, u_X11_ones_20, u_X11_ones_21, az_un_i, az_un_r, az_un_n, az_un_l, Option.toList_some, Option.toList_none, List.cons_append, List.nil_append, List.length_cons, List.length_nil, Nat.reduceLeDiff, Nat.reduceAdd, Nat.zero_le, Nat.zero_add, and_true, true_and, zb_1, eq_self, show nI 0 = (0 : Int32) from rfl, if_true, this]
      · have h1 : ¬ nI b = 0 := fun z => h0 ((nI_eq (b := 0) (by omega) (by decide)).mp z)
        obtain ⟨a1, a2, a3⟩ := zon b hb h0
        simp only [u_X11_ones_5, u_X11_ones_8, u_X11_ones_11, u_X11_ones_12, u_X11_ones_13, u_X11_ones_14, u_X11_ones_15, u_X11_ones_16, u_X11_ones_17, u_X11_ones_20, u_X11_ones_21, az_un_i, az_un_r, az_un_n, az_un_l, Option.toList_some, Option.toList_none, List.cons_append, List.nil_append, List.length_cons, List.length_nil, Nat.reduceLeDiff, Nat.reduceAdd, Nat.zero_le, Nat.zero_add, and_true, true_and, zb_1, eq_self, h1, if_false, a1]
        rw [show nI n + 1 = nI (n + 1) from (nI_succ n).symm]
        exact ih _ a3 (by omega) (n + 1) (by omega)
  exact key g hg 0 (by omega)
theorem s_X5_fewest {m c l x t e nl nr n cc w : Nat} {y : Int32} (hG : zG I t e nl nr n cc w) (hm : m < 30) (hx : x ≤ 999) (hc : c ≤ 3) (hl : l ≤ 8) (ec : zrl I (nI m) 0 e = nI c) (el : zrl I (nI m) 1 e = nI l) : zE (d + 5) 48 [.ref 1, .int (nI m), .int y, .int (nI x)] I L (some (.int (zfd (zfw (zmo (I (4 + m)) y c l x) 255)))) (fun J _ => zFr I J) := by
  refine zE_of zm_X5_fewest rfl ?_
  show az_W _ _ _ 0 [.ref 1, .int (nI m), .int y, .int (nI x), .null, .null, .null, .null, .null] [] _
  have he := hG.2.2.2.1.2.2.2.2.2.1
  have c0 : zD (d + 4) 60 [.ref 35, .int (nI m), .int 0] (130, az_Pf, I, L) (some (.int (nI c))) (130, az_Pf, I, L) := ec ▸ s_X6_inForce hG.2.2.2.1 (w := 0) (by decide)
  have hv := hG.vr hm
  obtain ⟨v, hvv⟩ : ∃ v, v = I (4 + m) := ⟨_, rfl⟩
  rw [← hvv] at hv ⊢
  obtain ⟨ok, eok⟩ : ∃ ok, ok = zmo v y c l x := ⟨_, rfl⟩
  have hok : ∀ g, ok g = (zok v c l && decide ((x : Int) * ((zK v - 2 * c : Nat) : Int) ≤ zmv v g y c)) := fun g => by rw [eok]; rfl
  rw [← eok]
  obtain ⟨R, eR⟩ : ∃ R, R = zfd (zfw ok 255) := ⟨_, rfl⟩
  rw [← eR]
  simp only [u_X5_fewest_0, u_X5_fewest_1, u_X5_fewest_4, u_X5_fewest_5, u_X5_fewest_6, u_X5_fewest_9, u_X5_fewest_11, u_X5_fewest_13, u_X5_fewest_15, u_X5_fewest_17, u_X5_fewest_19, u_X5_fewest_20, az_un_i, az_un_r, az_un_n, az_un_l, Option.toList_some, Option.toList_none, List.cons_append, List.nil_append, List.length_cons, List.length_nil, Nat.reduceLeDiff, Nat.reduceAdd, Nat.zero_le, Nat.zero_add, and_true, true_and, zb_1, eq_self, az_call c0]
  refine zloop (P := fun k => ∀ J M v8, zFr I J → az_W (zD (d + 4)) _ _ 22 [.ref 1, .int (nI m), .int y, .int (nI x), .int (nI c), .int (zfd (zfw ok k)), .int (nI (zbi (zfw ok k))), .int (nI (k + 1)), v8] [] (130, az_Pf, J, M)) 255 (fun k hk ih J M v8 fr => ?_) (fun J M v8 fr => ?_) 0 (Nat.zero_le _) I L _ zFr.rf
  · have h1 : ¬ (256 : Int32) ≤ nI (k + 1) := nI_ge (b := 256) (show k + 1 < 256 by omega) (by decide)
    have er : zrl J (nI m) 1 e = nI l := by rw [zrl_fr (fr.rw 37 (by omega)) (fun k hk => fr.rw (39 + k) (by omega)) e he, el]
    obtain ⟨J2, M2, h2, f2, q2, q3⟩ := s_X5_findMove (d := d) (I := J) (L := M) (f := 47) (g := k + 1) (y := y) (c := c) (l := l) (hG.fr fr) hm (by omega) kx_47 (by decide) (by decide) hc hl er
    rw [fr.rw (4 + m) (by omega), ← hvv] at h2 q2
    have fr2 := fr.tr f2
    rw [show nI (k + 1 + 1) = nI (k + 1) + 1 from nI_succ (k + 1), zfw] at ih
    obtain ⟨s, es⟩ : ∃ s, s = zfw ok k := ⟨_, rfl⟩
    rw [← es] at ih ⊢
    have bb : zbi s ≤ 9 := by
      cases s
      · exact Nat.le_refl _
      · rename_i z; have := zpc_le z; show zpc z ≤ 9; omega
    have pb := zpc_le (k + 1)
    rw [hok (k + 1)] at ih
    simp only [u_X5_fewest_22]
    simp only [u_X5_fewest_24, u_X5_fewest_27, u_X5_fewest_30, u_X5_fewest_32, u_X5_fewest_35, u_X5_fewest_37, u_X5_fewest_40, u_X5_fewest_41, u_X5_fewest_44, u_X5_fewest_45, u_X5_fewest_47, u_X5_fewest_49, u_X5_fewest_52, u_X5_fewest_53, u_X5_fewest_55, u_X5_fewest_56, u_X5_fewest_57, u_X5_fewest_59, u_X5_fewest_60, u_X5_fewest_63, u_X5_fewest_66, u_X5_fewest_69, u_X5_fewest_70, u_X5_fewest_73, u_X5_fewest_74, u_X5_fewest_77, u_X5_fewest_80, u_X5_fewest_82, u_X5_fewest_84, u_X5_fewest_86, u_X5_fewest_89, u_X5_fewest_91, u_X5_fewest_94, az_un_i, az_un_r, az_un_n, az_un_l, Option.toList_some, Option.toList_none, List.cons_append, List.nil_append, List.length_cons, List.length_nil, Nat.reduceLeDiff, Nat.reduceAdd, Nat.zero_le, Nat.zero_add, and_true, true_and, zb_1, eq_self, h1, if_false, az_call (s_J6_bitCount_0f7a4 (d := d + 3) (show k + 1 < 256 by omega)), kx_47, az_call h2, zb_0]
    by_cases g1 : zpc (k + 1) < zbi s
    · rw [if_neg (nI_ge g1 (by omega))]
      cases hz : zok v c l
      · rw [hz] at ih
        simp only [Bool.false_and, Bool.false_eq_true, and_false, if_false] at ih
        simp only [Bool.false_eq_true, not_false_eq_true, if_true, if_false, z10]
        exact ih J2 M2 _ fr2
      · rw [hz] at ih
        have ha := s_X2_isAtLeast (d := d + 3) (I := J2) (L := M2) (p := 47) (v := x) kx_47 (q2 hz) (zFb_mv hv hz) (by omega)
        simp only [not_true, not_true_eq_false, if_false, z10, az_call ha, zb_0, az_call (s_J6_bitCount_0f7a4 (d := d + 3) (show k + 1 < 256 by omega)), u_X5_fewest_77, u_X5_fewest_80, u_X5_fewest_82, u_X5_fewest_84, u_X5_fewest_86, u_X5_fewest_89, u_X5_fewest_91, u_X5_fewest_94, az_un_i, az_un_r, az_un_n, az_un_l, Option.toList_some, Option.toList_none, List.cons_append, List.nil_append, List.length_cons, List.length_nil, Nat.reduceLeDiff, Nat.reduceAdd, Nat.zero_le, Nat.zero_add, and_true, true_and, zb_1, eq_self]
        by_cases g2 : (x : Int) * ((zK v - 2 * c : Nat) : Int) ≤ zmv v (k + 1) y c
        · rw [if_pos ⟨g1, by simp [g2]⟩] at ih
          simp only [g2, not_true, not_true_eq_false, if_false]
          exact ih J2 M2 _ fr2
        · rw [if_neg (fun q => by simp [g2] at q)] at ih
          simp only [g2, not_false_eq_true, if_true]
          exact ih J2 M2 _ fr2
    · rw [if_neg (fun q => g1 q.1)] at ih
      rw [if_pos (nI_le (by omega) (by omega))]
      simp only [if_true]
      exact ih J M _ fr
  · have h1 : (256 : Int32) ≤ nI (255 + 1) := by decide
    simp only [u_X5_fewest_22]
    simp only [u_X5_fewest_24, u_X5_fewest_27, u_X5_fewest_97, u_X5_fewest_99, az_un_i, az_un_r, az_un_n, az_un_l, Option.toList_some, Option.toList_none, List.cons_append, List.nil_append, List.length_cons, List.length_nil, Nat.reduceLeDiff, Nat.reduceAdd, Nat.zero_le, Nat.zero_add, and_true, true_and, zb_1, eq_self, h1, if_true, zR_at, ← eR]
    exact fr
theorem s_X10_many_bad {x y z : Int32} (hb : ¬ ((0 ≤ x.toInt ∧ x.toInt ≤ 29) ∧ (0 ≤ y.toInt ∧ y.toInt ≤ 1) ∧ (1 ≤ z.toInt ∧ z.toInt ≤ 999))) : zD (d + 6) 100 [.ref 0, .int x, .int y, .int z] (130, az_Pf, I, L) (some (.int (-1))) (130, az_Pf, I, L) := by
  refine zD_of zm_X10_many rfl ?_
  show az_W _ _ _ 0 [.ref 0, .int x, .int y, .int z] [] _
  simp only [u_X10_many_0, u_X10_many_1, u_X10_many_4, u_X10_many_7, u_X10_many_8, u_X10_many_11, u_X10_many_14, u_X10_many_15, u_X10_many_16, u_X10_many_19, u_X10_many_22, u_X10_many_25, u_X10_many_26, u_X10_many_27, u_X10_many_28, u_X10_many_31, u_X10_many_32, u_X10_many_33, u_X10_many_34, u_X10_many_37, az_un_i, az_un_r, az_un_n, az_un_l, Option.toList_some, Option.toList_none, List.cons_append, List.nil_append, List.length_cons, List.length_nil, Nat.reduceLeDiff, Nat.reduceAdd, Nat.zero_le, Nat.zero_add, and_true, true_and, zb_1, eq_self, zb_0, az_call s_X10_isMorning, az_call s_X10_isBit, az_call s_X10_isIn, zl_0, zj_0, zl_1, zj_1, zl_2, zj_2, zl_3, zj_3, zl_4, zj_4, zl_5, zj_5, zl_6, zj_6, zl_7, zj_7, zl_8, zj_8, zl_9, zj_9, zl_10, zj_10, zl_11, zj_11, zl_12, zj_12, zl_15, zj_15, zl_16, zj_16, zl_20, zj_20, zl_24, zj_24, zl_29, zj_29, zl_30, zj_30, zl_31, zj_31, zl_32, zj_32, zl_40, zj_40, zl_48, zj_48, zl_57, zj_57, zl_59, zj_59, zl_60, zj_60, zl_63, zj_63, zl_99, zj_99, zl_100, zj_100, zl_126, zj_126, zl_144, zj_144, zl_200, zj_200, zl_240, zj_240, zl_255, zj_255, zl_256, zj_256, zl_999, zj_999, zl_1000, zj_1000, zlm_1, zjm_1, zlm_2, zjm_2, zlm_3, zjm_3, zlm_4, zjm_4, zlm_11, zjm_11, zlm_12, zjm_12, zlm_13, zjm_13, zlm_14, zjm_14, zlm_20, zjm_20, zlm_10001, zjm_10001, zlm_10002, zjm_10002]
  by_cases h1 : 0 ≤ x.toInt ∧ x.toInt ≤ 29 <;> by_cases h2 : 0 ≤ y.toInt ∧ y.toInt ≤ 1 <;> by_cases h3 : 1 ≤ z.toInt ∧ z.toInt ≤ 999 <;> simp only [h1, h2, h3, and_self, and_true, true_and, if_true, if_false, not_true, not_false_iff, not_true_eq_false, not_false_eq_true, ite_true, ite_false]
  exact absurd ⟨h1, h2, h3⟩ hb
theorem s_X11_many_bad {x y z : Int32} (hb : ¬ ((0 ≤ x.toInt ∧ x.toInt ≤ 29) ∧ (0 ≤ y.toInt ∧ y.toInt ≤ 1) ∧ (1 ≤ z.toInt ∧ z.toInt ≤ 999))) : zD (d + 6) 165 [.ref 97, .int x, .int y, .int z] (130, az_Pf, I, L) (some (.int (-1))) (130, az_Pf, I, L) := by
  refine zD_of zm_X11_many rfl ?_
  show az_W _ _ _ 0 [.ref 97, .int x, .int y, .int z, .null, .null, .null, .null] [] _
  simp only [u_X11_many_0, u_X11_many_1, u_X11_many_4, u_X11_many_7, u_X11_many_8, u_X11_many_9, u_X11_many_10, u_X11_many_11, u_X11_many_14, u_X11_many_17, u_X11_many_18, u_X11_many_19, u_X11_many_20, u_X11_many_23, u_X11_many_26, u_X11_many_29, u_X11_many_30, u_X11_many_31, u_X11_many_32, u_X11_many_34, u_X11_many_35, u_X11_many_39, u_X11_many_41, u_X11_many_44, u_X11_many_46, u_X11_many_47, u_X11_many_50, u_X11_many_52, u_X11_many_53, u_X11_many_54, u_X11_many_56, u_X11_many_57, u_X11_many_58, u_X11_many_61, u_X11_many_62, u_X11_many_64, u_X11_many_65, u_X11_many_68, u_X11_many_69, u_X11_many_70, u_X11_many_72, u_X11_many_75, u_X11_many_78, u_X11_many_80, u_X11_many_82, u_X11_many_83, u_X11_many_87, u_X11_many_90, u_X11_many_93, u_X11_many_95, u_X11_many_98, u_X11_many_100, u_X11_many_103, u_X11_many_105, u_X11_many_108, u_X11_many_111, u_X11_many_112, u_X11_many_115, u_X11_many_116, u_X11_many_118, u_X11_many_120, u_X11_many_123, u_X11_many_125, u_X11_many_127, u_X11_many_128, u_X11_many_129, u_X11_many_130, u_X11_many_133, u_X11_many_134, u_X11_many_136, u_X11_many_137, u_X11_many_138, u_X11_many_139, u_X11_many_140, u_X11_many_141, u_X11_many_144, u_X11_many_147, u_X11_many_150, u_X11_many_151, u_X11_many_154, u_X11_many_155, u_X11_many_156, u_X11_many_159, u_X11_many_160, u_X11_many_163, u_X11_many_165, u_X11_many_167, u_X11_many_170, u_X11_many_173, u_X11_many_175, az_un_i, az_un_r, az_un_n, az_un_l, Option.toList_some, Option.toList_none, List.cons_append, List.nil_append, List.length_cons, List.length_nil, Nat.reduceLeDiff, Nat.reduceAdd, Nat.zero_le, Nat.zero_add, and_true, true_and, zb_1, eq_self, zb_0, az_call s_X11_isMorning, az_call s_X11_in, z64, zl_0, zj_0, zl_1, zj_1, zl_2, zj_2, zl_3, zj_3, zl_4, zj_4, zl_5, zj_5, zl_6, zj_6, zl_7, zj_7, zl_8, zj_8, zl_9, zj_9, zl_10, zj_10, zl_11, zj_11, zl_12, zj_12, zl_15, zj_15, zl_16, zj_16, zl_20, zj_20, zl_24, zj_24, zl_29, zj_29, zl_30, zj_30, zl_31, zj_31, zl_32, zj_32, zl_40, zj_40, zl_48, zj_48, zl_57, zj_57, zl_59, zj_59, zl_60, zj_60, zl_63, zj_63, zl_99, zj_99, zl_100, zj_100, zl_126, zj_126, zl_144, zj_144, zl_200, zj_200, zl_240, zj_240, zl_255, zj_255, zl_256, zj_256, zl_999, zj_999, zl_1000, zj_1000, zlm_1, zjm_1, zlm_2, zjm_2, zlm_3, zjm_3, zlm_4, zjm_4, zlm_11, zjm_11, zlm_12, zjm_12, zlm_13, zjm_13, zlm_14, zjm_14, zlm_20, zjm_20, zlm_10001, zjm_10001, zlm_10002, zjm_10002]
  by_cases h1 : 0 ≤ x.toInt ∧ x.toInt ≤ 29 <;> by_cases h2 : 0 ≤ y.toInt ∧ y.toInt ≤ 1 <;> by_cases h3 : 1 ≤ z.toInt ∧ z.toInt ≤ 999 <;> simp only [h1, h2, h3, and_self, and_true, true_and, if_true, if_false, not_true, not_false_iff, not_true_eq_false, not_false_eq_true, ite_true, ite_false]
  exact absurd ⟨h1, h2, h3⟩ hb
theorem s_X10_many {m c l x t e nl nr n cc w : Nat} {y : Int32} (hG : zG I t e nl nr n cc w) (hm : m < 30) (hy : 0 ≤ y.toInt ∧ y.toInt ≤ 1) (hx1 : 1 ≤ x) (hx : x ≤ 999) (hc : c ≤ 3) (hl : l ≤ 8) (ec : zrl I (nI m) 0 e = nI c) (el : zrl I (nI m) 1 e = nI l) : zE (d + 6) 100 [.ref 0, .int (nI m), .int y, .int (nI x)] I L (some (.int (zfd (zfw (zmo (I (4 + m)) y c l x) 255)))) (fun J _ => zFr I J) := by
  refine zE_of zm_X10_many rfl ?_
  show az_W _ _ _ 0 [.ref 0, .int (nI m), .int y, .int (nI x)] [] _
  have tx : (1 ≤ (nI x).toInt ∧ (nI x).toInt ≤ 999) = True := eq_true (by rw [nI_toInt (by omega)]; omega)
  obtain ⟨J, L', hk, q1⟩ := s_X5_fewest (d := d) (L := L) (y := y) hG hm hx hc hl ec el
  obtain ⟨R, eR⟩ : ∃ R, R = zfd (zfw (zmo (I (4 + m)) y c l x) 255) := ⟨_, rfl⟩
  rw [← eR] at hk ⊢
  simp only [u_X10_many_0, u_X10_many_1, u_X10_many_4, u_X10_many_7, u_X10_many_8, u_X10_many_11, u_X10_many_14, u_X10_many_15, u_X10_many_16, u_X10_many_19, u_X10_many_22, u_X10_many_25, u_X10_many_26, u_X10_many_27, u_X10_many_28, u_X10_many_31, u_X10_many_32, u_X10_many_33, u_X10_many_34, u_X10_many_37, az_un_i, az_un_r, az_un_n, az_un_l, Option.toList_some, Option.toList_none, List.cons_append, List.nil_append, List.length_cons, List.length_nil, Nat.reduceLeDiff, Nat.reduceAdd, Nat.zero_le, Nat.zero_add, and_true, true_and, zb_1, eq_self, az_call s_X10_isMorning, az_call s_X10_isBit, az_call s_X10_isIn, zl_0, zj_0, zl_1, zj_1, zl_2, zj_2, zl_3, zj_3, zl_4, zj_4, zl_5, zj_5, zl_6, zj_6, zl_7, zj_7, zl_8, zj_8, zl_9, zj_9, zl_10, zj_10, zl_11, zj_11, zl_12, zj_12, zl_15, zj_15, zl_16, zj_16, zl_20, zj_20, zl_24, zj_24, zl_29, zj_29, zl_30, zj_30, zl_31, zj_31, zl_32, zj_32, zl_40, zj_40, zl_48, zj_48, zl_57, zj_57, zl_59, zj_59, zl_60, zj_60, zl_63, zj_63, zl_99, zj_99, zl_100, zj_100, zl_126, zj_126, zl_144, zj_144, zl_200, zj_200, zl_240, zj_240, zl_255, zj_255, zl_256, zj_256, zl_999, zj_999, zl_1000, zj_1000, zlm_1, zjm_1, zlm_2, zjm_2, zlm_3, zjm_3, zlm_4, zjm_4, zlm_11, zjm_11, zlm_12, zjm_12, zlm_13, zjm_13, zlm_14, zjm_14, zlm_20, zjm_20, zlm_10001, zjm_10001, zlm_10002, zjm_10002, zb_0, (eq_true (by rw [nI_toInt (by omega)]; omega) : (0 ≤ (nI m).toInt ∧ (nI m).toInt ≤ 29) = True), eq_true hy, tx, and_self, and_true, true_and, if_true, if_false, not_true, not_false_iff, not_true_eq_false, not_false_eq_true, ite_true, ite_false, az_call hk, zR_at]
  exact q1
theorem s_X11_many {m c l x t e nl nr n cc w : Nat} {y : Int32} (hG : zG I t e nl nr n cc w) (hm : m < 30) (hy : 0 ≤ y.toInt ∧ y.toInt ≤ 1) (hx1 : 1 ≤ x) (hx : x ≤ 999) (hc : c ≤ 3) (hl : l ≤ 8) (ec : zrl I (nI m) 0 e = nI c) (el : zrl I (nI m) 1 e = nI l) : zE (d + 6) 165 [.ref 97, .int (nI m), .int y, .int (nI x)] I L (some (.int (zfd (zfw (zmo (I (4 + m)) y c l x) 255)))) (fun J _ => zFr I J) := by
  refine zE_of zm_X11_many rfl ?_
  show az_W _ _ _ 0 [.ref 97, .int (nI m), .int y, .int (nI x), .null, .null, .null, .null] [] _
  have he := hG.2.2.2.1.2.2.2.2.2.1
  have tx : (1 ≤ (nI x).toInt ∧ (nI x).toInt ≤ 999) = True := eq_true (by rw [nI_toInt (by omega)]; omega)
  have hv := hG.vr hm
  have h98 : ∀ h, h < 8 → I 98 (8 * m + h) = I (4 + m) h := fun h hh => (hG.1 m hm h hh).1.symm
  obtain ⟨v, hvv⟩ : ∃ v, v = I (4 + m) := ⟨_, rfl⟩
  rw [← hvv] at hv h98 ⊢
  obtain ⟨ok, eok⟩ : ∃ ok, ok = zmo v y c l x := ⟨_, rfl⟩
  have hok : ∀ g, ok g = (zok v c l && decide ((x : Int) * ((zK v - 2 * c : Nat) : Int) ≤ zmv v g y c)) := fun g => by rw [eok]; rfl
  have hth := fun k (hk : k < 255) => zfw_th (v := v) (y := y) (c := c) (l := l) (x := x) hk hx1
  rw [← eok] at hth ⊢
  obtain ⟨R, eR⟩ : ∃ R, R = zfd (zfw ok 255) := ⟨_, rfl⟩
  rw [← eR]
  simp only [u_X11_many_0, u_X11_many_1, u_X11_many_4, u_X11_many_7, u_X11_many_8, u_X11_many_9, u_X11_many_10, u_X11_many_11, u_X11_many_14, u_X11_many_17, u_X11_many_18, u_X11_many_19, u_X11_many_20, u_X11_many_23, u_X11_many_26, u_X11_many_29, u_X11_many_30, u_X11_many_31, u_X11_many_32, u_X11_many_34, u_X11_many_35, az_un_i, az_un_r, az_un_n, az_un_l, Option.toList_some, Option.toList_none, List.cons_append, List.nil_append, List.length_cons, List.length_nil, Nat.reduceLeDiff, Nat.reduceAdd, Nat.zero_le, Nat.zero_add, and_true, true_and, zb_1, eq_self, az_call s_X11_isMorning, az_call s_X11_in, z64, zl_0, zj_0, zl_1, zj_1, zl_2, zj_2, zl_3, zj_3, zl_4, zj_4, zl_5, zj_5, zl_6, zj_6, zl_7, zj_7, zl_8, zj_8, zl_9, zj_9, zl_10, zj_10, zl_11, zj_11, zl_12, zj_12, zl_15, zj_15, zl_16, zj_16, zl_20, zj_20, zl_24, zj_24, zl_29, zj_29, zl_30, zj_30, zl_31, zj_31, zl_32, zj_32, zl_40, zj_40, zl_48, zj_48, zl_57, zj_57, zl_59, zj_59, zl_60, zj_60, zl_63, zj_63, zl_99, zj_99, zl_100, zj_100, zl_126, zj_126, zl_144, zj_144, zl_200, zj_200, zl_240, zj_240, zl_255, zj_255, zl_256, zj_256, zl_999, zj_999, zl_1000, zj_1000, zlm_1, zjm_1, zlm_2, zjm_2, zlm_3, zjm_3, zlm_4, zjm_4, zlm_11, zjm_11, zlm_12, zjm_12, zlm_13, zjm_13, zlm_14, zjm_14, zlm_20, zjm_20, zlm_10001, zjm_10001, zlm_10002, zjm_10002, zb_0, (eq_true (by rw [nI_toInt (by omega)]; omega) : (0 ≤ (nI m).toInt ∧ (nI m).toInt ≤ 29) = True), eq_true hy, tx, and_self, and_true, true_and, if_true, if_false, not_true, not_false_iff, not_true_eq_false, not_false_eq_true, ite_true, ite_false]
  refine zloop (P := fun k => az_W (zD (d + 5)) _ _ 37 [.ref 97, .int (nI m), .int y, .int (nI x), .int (nI (zth v k)), .int (nI k), .null, .null] [] (130, az_Pf, I, L)) 8 (fun k hk ih => ?_) ?_ 0 (Nat.zero_le _)
  · have h1 : ¬ (8 : Int32) ≤ nI k := nI_ge (b := 8) hk (by decide)
    have ng := zneg (hv k hk).1
    simp only [u_X11_many_37]
    simp only [u_X11_many_39, u_X11_many_41, u_X11_many_44, u_X11_many_46, u_X11_many_47, u_X11_many_50, u_X11_many_52, u_X11_many_53, u_X11_many_54, u_X11_many_56, u_X11_many_57, u_X11_many_58, u_X11_many_61, u_X11_many_62, u_X11_many_64, u_X11_many_65, u_X11_many_68, u_X11_many_69, u_X11_many_70, u_X11_many_72, u_X11_many_75, az_un_i, az_un_r, az_un_n, az_un_l, Option.toList_some, Option.toList_none, List.cons_append, List.nil_append, List.length_cons, List.length_nil, Nat.reduceLeDiff, Nat.reduceAdd, Nat.zero_le, Nat.zero_add, and_true, true_and, zb_1, eq_self, h1, if_false, z8m, kx_98, zinT (show 8 * m + k < 240 by omega) (by decide), zcl (show 8 * m + k < 240 by omega) (by decide), h98 k hk, z1sh (show k < 31 by omega)]
    rw [nI_succ, zth] at ih
    by_cases g : v k = -1
    · rw [if_pos g] at ih
      rw [if_pos (ng.mpr g), show (0 : Int32) = nI 0 from rfl, zoro]; exact ih
    · rw [if_neg g] at ih
      rw [if_neg (fun q => g (ng.mp q)), zoro]; exact ih
  have h8 : (8 : Int32) ≤ nI 8 := by decide
  have ht : zth v 8 < 256 := zth_lt 8
  obtain ⟨th, eth⟩ : ∃ th, th = zth v 8 := ⟨_, rfl⟩
  rw [← eth] at hth ht ⊢
  simp only [u_X11_many_37]
  simp only [u_X11_many_39, u_X11_many_41, u_X11_many_78, u_X11_many_80, u_X11_many_82, u_X11_many_83, az_un_i, az_un_r, az_un_n, az_un_l, Option.toList_some, Option.toList_none, List.cons_append, List.nil_append, List.length_cons, List.length_nil, Nat.reduceLeDiff, Nat.reduceAdd, Nat.zero_le, Nat.zero_add, and_true, true_and, zb_1, eq_self, h8, if_true]
  refine zloop (P := fun k => ∀ J M v7, zFr I J → az_W (zD (d + 5)) _ _ 85 [.ref 97, .int (nI m), .int y, .int (nI x), .int (nI th), .int (zfd (zfw ok k)), .int (nI (k + 1)), v7] [] (130, az_Pf, J, M)) 255 (fun k hk ih J M v7 fr => ?_) (fun J M v7 fr => ?_) 0 (Nat.zero_le _) I L _ zFr.rf
  · have h1 : ¬ (256 : Int32) ≤ nI (k + 1) := nI_ge (b := 256) (show k + 1 < 256 by omega) (by decide)
    have er : ∀ j, zrl J (nI m) j e = zrl I (nI m) j e := fun j => zrl_fr (fr.rw 37 (by omega)) (fun k hk => fr.rw (39 + k) (by omega)) e he
    have hG1 := hG.fr fr
    have c0 : zD (d + 5) 154 [.ref 97, .int (nI m), .int 0] (130, az_Pf, J, M) (some (.int (nI c))) (130, az_Pf, J, M) := ((er 0).trans ec) ▸ s_X11_ruleOn hG1.2.2.2.1 hG1.2.1 (w := 0) (by decide)
    obtain ⟨J2, M2, h2, q0, f2, q2⟩ := s_X11_findMove (d := d + 3) (I := J) (L := M) (g := k + 1) (y := y) (c := c) (l := l) hG1 hm (by omega) hc hl ((er 1).trans el)
    subst q0
    rw [fr.rw (4 + m) (by omega), ← hvv] at h2 q2
    have fr2 := fr.tr f2.fr
    have hthk := hth k hk
    have rr := zfw_r (ok := ok) k
    rw [show nI (k + 1 + 1) = nI (k + 1) + 1 from nI_succ (k + 1), zfw] at ih
    obtain ⟨s, es⟩ : ∃ s, s = zfw ok k := ⟨_, rfl⟩
    rw [← es] at ih hthk rr ⊢
    have pb := zpc_le (k + 1)
    rw [hok (k + 1)] at ih hthk
    have iha : ¬ (zpc (k + 1) < zbi s ∧ (zok v c l && decide ((x : Int) * ((zK v - 2 * c : Nat) : Int) ≤ zmv v (k + 1) y c)) = true) → ∀ J M v7, zFr I J → az_W (zD (d + 5)) (zR (some (.int R)) (fun J _ => zFr I J)) k_X11_many 85 [.ref 97, .int (nI m), .int y, .int (nI x), .int (nI th), .int (zfd s), .int (nI (k + 1) + 1), v7] [] (130, az_Pf, J, M) := fun q => by
      rw [if_neg q] at ih; exact ih
    have main : zpc (k + 1) < zbi s → az_W (zD (d + 5)) (zR (some (.int R)) (fun J _ => zFr I J)) k_X11_many 123 [.ref 97, .int (nI m), .int y, .int (nI x), .int (nI th), .int (zfd s), .int (nI (k + 1)), .int 1] [] (130, az_Pf, J, M2) := by
      intro g1
      simp only [u_X11_many_123, u_X11_many_125, u_X11_many_127, u_X11_many_128, u_X11_many_129, u_X11_many_130, u_X11_many_133, u_X11_many_134, u_X11_many_136, u_X11_many_137, u_X11_many_138, u_X11_many_139, u_X11_many_140, u_X11_many_141, u_X11_many_144, u_X11_many_147, u_X11_many_150, u_X11_many_151, u_X11_many_154, u_X11_many_155, u_X11_many_156, u_X11_many_159, u_X11_many_160, u_X11_many_163, u_X11_many_165, u_X11_many_167, u_X11_many_170, az_un_i, az_un_r, az_un_n, az_un_l, Option.toList_some, Option.toList_none, List.cons_append, List.nil_append, List.length_cons, List.length_nil, Nat.reduceLeDiff, Nat.reduceAdd, Nat.zero_le, Nat.zero_add, and_true, true_and, zb_1, eq_self, zsub (show k + 1 < 256 by omega) ht, az_call c0, az_call h2, zb_0]
      by_cases g0 : (k + 1) &&& th = k + 1
      · simp only [g0, if_true]
        cases hz : zok v c l
        · simp only [Bool.false_eq_true, not_false_eq_true, if_true]
          exact iha (fun q => by rw [hz] at q; simp at q) J2 M2 _ fr2
        · obtain ⟨e1, e2⟩ := q2 hz
          obtain ⟨b1, b2, b3, b4⟩ := zFb_mv (g := k + 1) (y := y) hv hz
          have hK := zK_le (v := v)
          have bx : x * (zK v - 2 * c) ≤ 999 * 8 := Nat.mul_le_mul hx (by omega)
          have lt : (zmI v (k + 1) y c < nI (x * (zK v - 2 * c))) ↔ ¬ ((x : Int) * ((zK v - 2 * c : Nat) : Int) ≤ zmv v (k + 1) y c) := by
            rw [Int32.lt_iff_toInt_lt, zmI_t hv, nI_toInt (by omega), Int.natCast_mul, Int.not_le]
          simp only [not_true, not_true_eq_false, if_false, e1, e2, pk_mul, lt]
          by_cases g2 : (x : Int) * ((zK v - 2 * c : Nat) : Int) ≤ zmv v (k + 1) y c
          · rw [if_pos ⟨g1, by rw [hz]; simp [g2]⟩] at ih
            simp only [g2, not_true, not_true_eq_false, if_false]
            exact ih J2 M2 _ fr2
          · simp only [g2, not_false_eq_true, if_true]
            exact iha (fun q => by simp [g2] at q) J2 M2 _ fr2
      · simp only [g0, if_false]
        exact iha (fun q => g0 (hthk q.1 q.2)) J M2 _ fr
    simp only [u_X11_many_85]
    simp only [u_X11_many_87, u_X11_many_90, u_X11_many_93, u_X11_many_95, u_X11_many_98, u_X11_many_100, u_X11_many_103, u_X11_many_105, u_X11_many_108, u_X11_many_111, u_X11_many_112, u_X11_many_115, u_X11_many_116, u_X11_many_118, u_X11_many_120, az_un_i, az_un_r, az_un_n, az_un_l, Option.toList_some, Option.toList_none, List.cons_append, List.nil_append, List.length_cons, List.length_nil, Nat.reduceLeDiff, Nat.reduceAdd, Nat.zero_le, Nat.zero_add, and_true, true_and, zb_1, eq_self, h1, if_false]
    rcases rr with rr | ⟨g, a1, a2, rr⟩
    · subst rr
      have n4 : zfd none < 0 := by decide
      simp only [n4, if_true, z10, if_false]
      exact main (show zpc (k + 1) < 9 by omega)
    · subst rr
      have n4 : ¬ zfd (some g) < 0 := nI_pos (n := g) (by omega)
      have c1 := s_X11_ones (d := d + 4) (h := (130, az_Pf, J, M2)) (show k + 1 < 256 by omega)
      have c2 : zD (d + 5) 164 [.int (zfd (some g))] (130, az_Pf, J, M2) (some (.int (nI (zpc g)))) (130, az_Pf, J, M2) := s_X11_ones (d := d + 4) (h := (130, az_Pf, J, M2)) (show g < 256 by omega)
      have pg := zpc_le g
      simp only [n4, if_false, az_call c1, az_call c2, u_X11_many_87, u_X11_many_90, u_X11_many_93, u_X11_many_95, u_X11_many_98, u_X11_many_100, u_X11_many_103, u_X11_many_105, u_X11_many_108, u_X11_many_111, u_X11_many_112, u_X11_many_115, u_X11_many_116, u_X11_many_118, u_X11_many_120, az_un_i, az_un_r, az_un_n, az_un_l, Option.toList_some, Option.toList_none, List.cons_append, List.nil_append, List.length_cons, List.length_nil, Nat.reduceLeDiff, Nat.reduceAdd, Nat.zero_le, Nat.zero_add, and_true, true_and, zb_1, eq_self]
      by_cases g1 : zpc (k + 1) < zpc g
      · rw [if_neg (nI_ge g1 (by omega))]
        simp only [z10, if_false]
        exact main g1
      · rw [if_pos (nI_le (by omega) (by omega))]
        simp only [if_true, u_X11_many_167, u_X11_many_170, az_un_i, az_un_r, az_un_n, az_un_l, Option.toList_some, Option.toList_none, List.cons_append, List.nil_append, List.length_cons, List.length_nil, Nat.reduceLeDiff, Nat.reduceAdd, Nat.zero_le, Nat.zero_add, and_true, true_and, zb_1, eq_self]
        exact iha (fun q => g1 q.1) J M2 _ fr
  · have h1 : (256 : Int32) ≤ nI (255 + 1) := by decide
    simp only [u_X11_many_85]
    simp only [u_X11_many_87, u_X11_many_90, u_X11_many_173, u_X11_many_175, az_un_i, az_un_r, az_un_n, az_un_l, Option.toList_some, Option.toList_none, List.cons_append, List.nil_append, List.length_cons, List.length_nil, Nat.reduceLeDiff, Nat.reduceAdd, Nat.zero_le, Nat.zero_add, and_true, true_and, zb_1, eq_self, h1, if_true, zR_at, ← eR]
    exact fr
end S
theorem op_many (x y z : Int32) : zOp 100 165 [.int x, .int y, .int z] := by
  refine zOp_of (fun I L hI => ?_)
  obtain ⟨t, e, nl, nr, n, cc, w, hG⟩ := zInv_G hI
  by_cases hb : (0 ≤ x.toInt ∧ x.toInt ≤ 29) ∧ (0 ≤ y.toInt ∧ y.toInt ≤ 1) ∧ (1 ≤ z.toInt ∧ z.toInt ≤ 999)
  · obtain ⟨h1, h2, h3⟩ := hb
    obtain ⟨m, hm, rfl⟩ := znat h1.1 (n := 29) h1.2 (by decide)
    obtain ⟨u, hu, rfl⟩ := znat (show 0 ≤ z.toInt by omega) (n := 999) h3.2 (by decide)
    rw [nI_toInt (by omega)] at h3
    obtain ⟨c, l, s, hc, -, hl, -, ec, el, -⟩ := zrl_rg hG.2.2.2.1 (nI m) e (Nat.le_refl _)
    refine ⟨_, s_X10_many (d := 3) hG (by omega) h2 (by omega) hu hc hl ec el, fun J M f => ?_⟩
    have er : ∀ k, zrl J (nI m) k e = zrl I (nI m) k e := fun k => zrl_fr (f.rw 37 (by omega)) (fun k hk => f.rw (39 + k) (by omega)) e hG.2.2.2.1.2.2.2.2.2.1
    rw [← f.rw (4 + m) (by omega)]
    exact s_X11_many (d := 3) (hG.fr f) (by omega) h2 (by omega) hu hc hl ((er 0).trans ec) ((er 1).trans el)
  · exact ⟨_, zE_D (s_X10_many_bad (d := 3) hb) zFr.rf, fun J M f => zE_D (s_X11_many_bad (d := 3) hb) zFr.rf⟩
