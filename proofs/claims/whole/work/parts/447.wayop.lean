section S
variable {d : Nat} {I : Nat → Nat → Int32} {L : Nat → Nat → Int64} {h : az_H}
def zan (u : Nat) : Int32 := if u = 1000 then -4 else nI (u - 1)
theorem s_X9_fewestWords {n a b : Nat} {fr to : Nat → Nat} {tm : Nat → Int} {va : Nat → Bool} {m : Int32} (ha : a < 12) (hb : b < 12) (hw : zWd I n fr to tm va m 999) : zE (d + 2) 86 [.ref 63, .int (nI a), .int (nI b), .int m] I L (some (.int (zan (zlf (fun r => decide (zwg fr to tm va n a r b ≠ 1000)) 12)))) (fun J _ => zFr I J) := by
  refine zE_of zm_X9_fewestWords rfl ?_
  show az_W _ _ _ 0 [.ref 63, .int (nI a), .int (nI b), .int m, .null] [] _
  obtain ⟨J0, L0, c0, q0, f0, e0⟩ := s_X9_startFrom (d := d) (I := I) (L := L) ha
  subst q0
  obtain ⟨u1, u2, u3⟩ := zlf_i (p := fun r => decide (zwg fr to tm va n a r b ≠ 1000)) 12 (by decide)
  have ul := fun i hi hp => zlf_le (p := fun r => decide (zwg fr to tm va n a r b ≠ 1000)) (n := 12) (i := i) (by decide) hi hp
  obtain ⟨U, eU⟩ : ∃ U, U = zlf (fun r => decide (zwg fr to tm va n a r b ≠ 1000)) 12 := ⟨_, rfl⟩
  rw [← eU] at u1 u2 u3 ul ⊢
  simp only [u_X9_fewestWords_0, u_X9_fewestWords_1, u_X9_fewestWords_2, u_X9_fewestWords_5, u_X9_fewestWords_6, az_un_i, az_un_r, az_un_n, az_un_l, Option.toList_some, Option.toList_none, List.cons_append, List.nil_append, List.length_cons, List.length_nil, Nat.reduceLeDiff, Nat.reduceAdd, Nat.zero_le, Nat.zero_add, and_true, true_and, zb_1, eq_self, az_call c0]
  refine zloop (P := fun r => ∀ J, zFt I J → (∀ x, x < 12 → (J 69 x).toInt = zwg fr to tm va n a r x) → (∀ j, j < r → zwg fr to tm va n a j b = 1000) → az_W (zD (d + 1)) _ _ 8 [.ref 63, .int (nI a), .int (nI b), .int m, .int (nI r)] [] (130, az_Pf, J, L0)) 12 (fun r hr ih J f a1 a2 => ?_) (fun J f a1 a2 => ?_) 0 (Nat.zero_le _) J0 f0 (fun x hx => by rw [zwg_0]; exact e0 x hx) (fun j hj => absurd hj (Nat.not_lt_zero _))
  · have h1 : ¬ (12 : Int32) ≤ nI r := nI_ge (b := 12) hr (by decide)
    obtain ⟨J2, L2, c2, q0, f2, e2⟩ := s_X9_followOne (d := d) (I := J) (L := L0) (hw.fr f.fr) a1
    subst q0
    have c1 : (J 69 b = 1000) ↔ zwg fr to tm va n a r b = 1000 := by
      rw [← Int32.toInt_inj, a1 b hb, show (1000 : Int32).toInt = 1000 from rfl]
    rw [show nI (r + 1) = nI r + 1 from nI_succ r] at ih
    simp only [u_X9_fewestWords_8]
    simp only [u_X9_fewestWords_10, u_X9_fewestWords_12, u_X9_fewestWords_15, u_X9_fewestWords_16, u_X9_fewestWords_19, u_X9_fewestWords_20, u_X9_fewestWords_21, u_X9_fewestWords_24, u_X9_fewestWords_27, u_X9_fewestWords_29, u_X9_fewestWords_30, u_X9_fewestWords_31, u_X9_fewestWords_32, u_X9_fewestWords_35, u_X9_fewestWords_38, u_X9_fewestWords_41, az_un_i, az_un_r, az_un_n, az_un_l, Option.toList_some, Option.toList_none, List.cons_append, List.nil_append, List.length_cons, List.length_nil, Nat.reduceLeDiff, Nat.reduceAdd, Nat.zero_le, Nat.zero_add, and_true, true_and, zb_1, eq_self, h1, if_false, kx_69, zinT hb (by decide), zcl hb (by decide), c1, az_call c2, zR_at]
    by_cases g : zwg fr to tm va n a r b = 1000
    · rw [if_pos g]
      exact ih J2 (f.tr f2) (fun x hx => by rw [zwg]; exact e2 x hx) (fun j hj => by
        by_cases c : j = r
        · rw [c]; exact g
        · exact a2 j (by omega))
    · rw [if_neg g]
      have k1 := ul r hr (by simpa using g)
      obtain ⟨i, i1, i2, i3, i4⟩ := u2 (by omega)
      have k2 : ¬ i < r := fun q => by
        rw [decide_eq_true_iff] at i3
        exact i3 (a2 i q)
      refine ⟨?_, f.fr⟩
      unfold zan
      rw [if_neg (by omega), show U - 1 = r by omega]
  · have h1 : (12 : Int32) ≤ nI 12 := by decide
    simp only [u_X9_fewestWords_8]
    simp only [u_X9_fewestWords_10, u_X9_fewestWords_12, u_X9_fewestWords_44, u_X9_fewestWords_46, az_un_i, az_un_r, az_un_n, az_un_l, Option.toList_some, Option.toList_none, List.cons_append, List.nil_append, List.length_cons, List.length_nil, Nat.reduceLeDiff, Nat.reduceAdd, Nat.zero_le, Nat.zero_add, and_true, true_and, zb_1, eq_self, h1, if_true, zR_at]
    refine ⟨?_, f.fr⟩
    have : U = 1000 := by
      rcases Nat.lt_or_ge U 1000 with c | c
      · obtain ⟨i, i1, i2, i3, i4⟩ := u2 c
        rw [decide_eq_true_iff] at i3
        exact absurd (a2 i i1) i3
      · omega
    unfold zan
    rw [if_pos this]
theorem s_X10_way_bad {x y z : Int32} {n : Nat} (hn : I 49 1 = nI n) (hle : n ≤ 12) (hb : ¬ ((0 ≤ x.toInt ∧ x.toInt < (n : Int)) ∧ (0 ≤ y.toInt ∧ y.toInt < (n : Int)) ∧ (0 ≤ z.toInt ∧ z.toInt ≤ 29))) : zD (d + 4) 120 [.ref 0, .int x, .int y, .int z] (130, az_Pf, I, L) (some (.int (-1))) (130, az_Pf, I, L) := by
  refine zD_of zm_X10_way rfl ?_
  show az_W _ _ _ 0 [.ref 0, .int x, .int y, .int z] [] _
  simp only [u_X10_way_0, u_X10_way_1, u_X10_way_4, u_X10_way_5, u_X10_way_8, u_X10_way_11, u_X10_way_12, u_X10_way_15, u_X10_way_16, u_X10_way_19, u_X10_way_22, u_X10_way_23, u_X10_way_26, u_X10_way_29, u_X10_way_30, u_X10_way_31, u_X10_way_32, u_X10_way_35, u_X10_way_36, u_X10_way_37, u_X10_way_38, u_X10_way_41, az_un_i, az_un_r, az_un_n, az_un_l, Option.toList_some, Option.toList_none, List.cons_append, List.nil_append, List.length_cons, List.length_nil, Nat.reduceLeDiff, Nat.reduceAdd, Nat.zero_le, Nat.zero_add, and_true, true_and, zb_1, eq_self, zb_0, az_call (s_X0_hasN hn hle), az_call s_X10_isMorning]
  by_cases h1 : 0 ≤ x.toInt ∧ x.toInt < (n : Int) <;> by_cases h2 : 0 ≤ y.toInt ∧ y.toInt < (n : Int) <;> by_cases h3 : 0 ≤ z.toInt ∧ z.toInt ≤ 29 <;> simp only [h1, h2, h3, and_self, and_true, true_and, if_true, if_false, not_true, not_false_iff, not_true_eq_false, not_false_eq_true, ite_true, ite_false]
  exact absurd ⟨h1, h2, h3⟩ hb
theorem s_X11_way_bad {x y z : Int32} {n : Nat} (hn : I 97 17 = nI n) (hle : n ≤ 12) (hb : ¬ ((0 ≤ x.toInt ∧ x.toInt < (n : Int)) ∧ (0 ≤ y.toInt ∧ y.toInt < (n : Int)) ∧ (0 ≤ z.toInt ∧ z.toInt ≤ 29))) : zD (d + 4) 194 [.ref 97, .int x, .int y, .int z] (130, az_Pf, I, L) (some (.int (-1))) (130, az_Pf, I, L) := by
  refine zD_of zm_X11_way rfl ?_
  show az_W _ _ _ 0 [.ref 97, .int x, .int y, .int z, .null, .null, .null, .null, .null] [] _
  simp only [u_X11_way_0, u_X11_way_1, u_X11_way_2, u_X11_way_5, u_X11_way_8, u_X11_way_9, u_X11_way_10, u_X11_way_13, u_X11_way_16, u_X11_way_17, u_X11_way_20, u_X11_way_23, u_X11_way_24, u_X11_way_25, u_X11_way_26, u_X11_way_27, u_X11_way_30, u_X11_way_31, u_X11_way_32, u_X11_way_35, u_X11_way_37, u_X11_way_38, u_X11_way_42, u_X11_way_43, u_X11_way_46, u_X11_way_49, u_X11_way_50, u_X11_way_53, u_X11_way_55, u_X11_way_56, u_X11_way_59, u_X11_way_61, u_X11_way_62, u_X11_way_63, u_X11_way_66, u_X11_way_67, u_X11_way_70, u_X11_way_72, u_X11_way_73, u_X11_way_74, u_X11_way_77, u_X11_way_78, u_X11_way_81, u_X11_way_84, u_X11_way_85, u_X11_way_88, u_X11_way_91, u_X11_way_92, u_X11_way_96, u_X11_way_97, u_X11_way_100, u_X11_way_103, u_X11_way_104, u_X11_way_108, u_X11_way_109, u_X11_way_112, u_X11_way_115, u_X11_way_116, u_X11_way_120, u_X11_way_121, u_X11_way_124, u_X11_way_127, u_X11_way_128, u_X11_way_131, u_X11_way_133, u_X11_way_134, u_X11_way_135, u_X11_way_138, u_X11_way_139, u_X11_way_142, u_X11_way_144, u_X11_way_145, u_X11_way_146, u_X11_way_149, u_X11_way_150, u_X11_way_153, u_X11_way_155, u_X11_way_156, u_X11_way_157, u_X11_way_160, u_X11_way_162, u_X11_way_163, u_X11_way_166, u_X11_way_167, u_X11_way_170, u_X11_way_172, u_X11_way_173, u_X11_way_174, u_X11_way_177, u_X11_way_179, u_X11_way_180, u_X11_way_183, u_X11_way_184, u_X11_way_187, u_X11_way_188, u_X11_way_190, u_X11_way_191, u_X11_way_194, u_X11_way_196, u_X11_way_198, u_X11_way_201, u_X11_way_202, u_X11_way_205, u_X11_way_207, u_X11_way_208, u_X11_way_209, u_X11_way_210, u_X11_way_211, u_X11_way_214, u_X11_way_216, u_X11_way_217, u_X11_way_220, u_X11_way_221, u_X11_way_224, u_X11_way_226, u_X11_way_227, u_X11_way_228, u_X11_way_229, u_X11_way_232, u_X11_way_233, u_X11_way_236, u_X11_way_238, u_X11_way_239, u_X11_way_240, u_X11_way_243, u_X11_way_246, u_X11_way_249, u_X11_way_252, u_X11_way_255, u_X11_way_258, u_X11_way_259, u_X11_way_263, u_X11_way_264, u_X11_way_267, u_X11_way_270, u_X11_way_271, u_X11_way_274, u_X11_way_276, u_X11_way_277, u_X11_way_278, u_X11_way_281, u_X11_way_282, u_X11_way_285, u_X11_way_287, u_X11_way_288, u_X11_way_290, u_X11_way_293, u_X11_way_294, u_X11_way_297, u_X11_way_299, u_X11_way_300, u_X11_way_303, u_X11_way_305, u_X11_way_307, u_X11_way_310, u_X11_way_313, u_X11_way_315, u_X11_way_318, u_X11_way_321, u_X11_way_323, u_X11_way_326, u_X11_way_328, az_un_i, az_un_r, az_un_n, az_un_l, Option.toList_some, Option.toList_none, List.cons_append, List.nil_append, List.length_cons, List.length_nil, Nat.reduceLeDiff, Nat.reduceAdd, Nat.zero_le, Nat.zero_add, and_true, true_and, zb_1, eq_self, zb_0, az_call (s_X11_isDesk hn hle), az_call s_X11_isMorning]
  by_cases h1 : 0 ≤ x.toInt ∧ x.toInt < (n : Int) <;> by_cases h2 : 0 ≤ y.toInt ∧ y.toInt < (n : Int) <;> by_cases h3 : 0 ≤ z.toInt ∧ z.toInt ≤ 29 <;> simp only [h1, h2, h3, and_self, and_true, true_and, if_true, if_false, not_true, not_false_iff, not_true_eq_false, not_false_eq_true, ite_true, ite_false]
  exact absurd ⟨h1, h2, h3⟩ hb
theorem s_X10_way {a b nd c t e nl nr n w : Nat} {fr to : Nat → Nat} {tm : Nat → Int} {va : Nat → Bool} {m : Int32} (hG : zG I t e nl nr nd c w) (ha : a < nd) (hb : b < nd) (hm : 0 ≤ m.toInt ∧ m.toInt ≤ 29) (hw : zWd I n fr to tm va m 999) : zE (d + 4) 120 [.ref 0, .int (nI a), .int (nI b), .int m] I L (some (.int (zan (zlf (fun r => decide (zwg fr to tm va n a r b ≠ 1000)) 12)))) (fun J _ => zFr I J) := by
  refine zE_of zm_X10_way rfl ?_
  show az_W _ _ _ 0 [.ref 0, .int (nI a), .int (nI b), .int m] [] _
  have hD := hG.2.2.2.2.2.2.1
  have hle := hD.1
  obtain ⟨J, L', c1, q⟩ := s_X9_fewestWords (d := d + 1) (L := L) (show a < 12 by omega) (show b < 12 by omega) hw
  obtain ⟨R, eR⟩ : ∃ R, R = zan (zlf (fun r => decide (zwg fr to tm va n a r b ≠ 1000)) 12) := ⟨_, rfl⟩
  rw [← eR] at c1 ⊢
  simp only [u_X10_way_0, u_X10_way_1, u_X10_way_4, u_X10_way_5, u_X10_way_8, u_X10_way_11, u_X10_way_12, u_X10_way_15, u_X10_way_16, u_X10_way_19, u_X10_way_22, u_X10_way_23, u_X10_way_26, u_X10_way_29, u_X10_way_30, u_X10_way_31, u_X10_way_32, u_X10_way_35, u_X10_way_36, u_X10_way_37, u_X10_way_38, u_X10_way_41, az_un_i, az_un_r, az_un_n, az_un_l, Option.toList_some, Option.toList_none, List.cons_append, List.nil_append, List.length_cons, List.length_nil, Nat.reduceLeDiff, Nat.reduceAdd, Nat.zero_le, Nat.zero_add, and_true, true_and, zb_1, eq_self, az_call (s_X0_hasN hD.2.1 hD.1), az_call s_X10_isMorning, zb_0, (eq_true (by rw [nI_toInt (by omega)]; omega) : (0 ≤ (nI a).toInt ∧ (nI a).toInt < (nd : Int)) = True), (eq_true (by rw [nI_toInt (by omega)]; omega) : (0 ≤ (nI b).toInt ∧ (nI b).toInt < (nd : Int)) = True), eq_true hm, and_self, and_true, true_and, if_true, if_false, not_true, not_false_iff, not_true_eq_false, not_false_eq_true, ite_true, ite_false, az_call c1, zR_at]
  exact q
theorem s_X11_way {a b nd c t e nl nr n w : Nat} {fr to : Nat → Nat} {tm : Nat → Int} {va : Nat → Bool} {m : Int32} (hG : zG I t e nl nr nd c w) (ha : a < nd) (hb : b < nd) (hm : 0 ≤ m.toInt ∧ m.toInt ≤ 29) (hw : zWd I n fr to tm va m 999) : zE (d + 4) 194 [.ref 97, .int (nI a), .int (nI b), .int m] I L (some (.int (zan (zlf (fun r => decide (zwg fr to tm va n a r b ≠ 1000)) 12)))) (fun J _ => zFr I J) := by
  refine zE_of zm_X11_way rfl ?_
  show az_W _ _ _ 0 [.ref 97, .int (nI a), .int (nI b), .int m, .null, .null, .null, .null, .null] [] _
  have hD := hG.2.2.2.2.2.2.1
  have hle := hD.1
  have ht : ∀ j, j < n → 0 ≤ tm j ∧ tm j ≤ 999 := fun j hj => (hw.2.2.2.2.2.2.2 j hj).2.2.2.2.2.1
  have hfr : ∀ j, j < n → fr j < 12 := fun j hj => (hw.2.2.2.2.2.2.2 j hj).2.1
  have hto : ∀ j, j < n → to j < 12 := fun j hj => (hw.2.2.2.2.2.2.2 j hj).2.2.2.1
  have hn := hw.1
  simp only [u_X11_way_0, u_X11_way_1, u_X11_way_2, u_X11_way_5, u_X11_way_8, u_X11_way_9, u_X11_way_10, u_X11_way_13, u_X11_way_16, u_X11_way_17, u_X11_way_20, u_X11_way_23, u_X11_way_24, u_X11_way_25, u_X11_way_26, u_X11_way_27, u_X11_way_30, u_X11_way_31, u_X11_way_32, u_X11_way_35, u_X11_way_37, u_X11_way_38, az_un_i, az_un_r, az_un_n, az_un_l, Option.toList_some, Option.toList_none, List.cons_append, List.nil_append, List.length_cons, List.length_nil, Nat.reduceLeDiff, Nat.reduceAdd, Nat.zero_le, Nat.zero_add, and_true, true_and, zb_1, eq_self, az_call (s_X11_isDesk hD.2.2.1 hD.1), az_call s_X11_isMorning, zb_0, (eq_true (by rw [nI_toInt (by omega)]; omega) : (0 ≤ (nI a).toInt ∧ (nI a).toInt < (nd : Int)) = True), (eq_true (by rw [nI_toInt (by omega)]; omega) : (0 ≤ (nI b).toInt ∧ (nI b).toInt < (nd : Int)) = True), eq_true hm, and_self, and_true, true_and, if_true, if_false, not_true, not_false_iff, not_true_eq_false, not_false_eq_true, ite_true, ite_false, nI_eq (show a < 2 ^ 31 by omega) (show b < 2 ^ 31 by omega)]
  by_cases hab : a = b
  · rw [if_pos hab]
    rw [zR_at]
    refine ⟨?_, zFr.rf⟩
    have : zlf (fun r => decide (zwg fr to tm va n a r b ≠ 1000)) 12 = 1 := by
      have k1 := zlf_le (p := fun r => decide (zwg fr to tm va n a r b ≠ 1000)) (n := 12) (i := 0) (by decide) (by decide) (by rw [hab, decide_eq_true_iff, zwg_0, if_pos rfl]; decide)
      obtain ⟨u1, u2, u3⟩ := zlf_i (p := fun r => decide (zwg fr to tm va n a r b ≠ 1000)) 12 (by decide)
      obtain ⟨i, i1, i2, i3⟩ := u2 (by omega)
      omega
    rw [this]; rfl
  rw [if_neg hab, zw_way (show b < 12 by omega) hab hfr hto ht]
  have w2 := zw_way2 (va := va) (a := a) (b := b) hfr hto ht
  have vm : ∀ k, k < n → (va k = true ↔ I 66 k = m) := fun k hk => by
    have q := hw.2.2.2.2.2.2.2 k hk
    rw [q.2.2.2.2.2.2, show (999 : Int32).toInt = 999 from rfl]
    exact ⟨fun z => z.1, fun z => ⟨z, q.2.2.2.2.2.1.2⟩⟩
  have scr : ∀ j, zscr 126 j = true := fun j => rfl
  have rows : ∀ J, zF1 126 I J → J 97 34 = nI n ∧ J 119 = I 64 ∧ J 120 = I 65 ∧ J 121 = I 66 ∧ J 122 = I 67 := fun J f => by
    have q := hw.fr (f.fr scr)
    refine ⟨q.2.2.1, ?_, ?_, ?_, ?_⟩
    · rw [f 119 (by decide)]; exact hw.2.2.2.1.symm
    · rw [f 120 (by decide)]; exact hw.2.2.2.2.1.symm
    · rw [f 121 (by decide)]; exact hw.2.2.2.2.2.1.symm
    · rw [f 122 (by decide)]; exact hw.2.2.2.2.2.2.1.symm
  obtain ⟨S, eS⟩ : ∃ S, S = zvr (zwl fr to tm va) n (zws0 fr va a) n := ⟨_, rfl⟩
  rw [← eS] at w2 ⊢
  obtain ⟨R, eR⟩ : ∃ R, R = zan (if zwb to S b n = 1000 then 1000 else zwb to S b n + 1) := ⟨_, rfl⟩
  rw [← eR]
  have hw8 := hw.2.2.2.2.2.2.2
  refine zloop (P := fun k => ∀ J, zF1 126 I J → (∀ x, x < k → J 126 x = nI (zws0 fr va a x)) → az_W (zD (d + 3)) _ _ 40 [.ref 97, .int (nI a), .int (nI b), .int m, .int 1000, .int (nI k), .null, .null, .null] [] (130, az_Pf, J, L)) n (fun k hk ih J f a1 => ?_) (fun J f a1 => ?_) 0 (Nat.zero_le _) I zF1.rf (fun x hx => absurd hx (Nat.not_lt_zero _))
  · have h1 : ¬ nI n ≤ nI k := nI_ge hk (by omega)
    obtain ⟨w3, w4, w5, w6, w7⟩ := rows J f
    obtain ⟨k1, k2, k3, k4, k5, k6, k7⟩ := hw8 k hk
    have vk := vm k hk
    rw [show nI (k + 1) = nI k + 1 from nI_succ k] at ih
    have ih := fun v (hv : v = nI (zws0 fr va a k)) => ih (az_uI J 126 k v) f.up (fun x hx => by
      rw [az_uI_at]
      by_cases c : x = k
      · rw [if_pos ⟨rfl, c⟩, c]; exact hv
      · rw [if_neg (by omega)]; exact a1 x (by omega))
    simp only [u_X11_way_40]
    simp only [u_X11_way_42, u_X11_way_43, u_X11_way_46, u_X11_way_49, u_X11_way_50, u_X11_way_53, u_X11_way_55, u_X11_way_56, u_X11_way_59, u_X11_way_61, u_X11_way_62, u_X11_way_63, u_X11_way_66, u_X11_way_67, u_X11_way_70, u_X11_way_72, u_X11_way_73, u_X11_way_74, u_X11_way_77, u_X11_way_78, u_X11_way_81, u_X11_way_84, u_X11_way_85, u_X11_way_88, az_un_i, az_un_r, az_un_n, az_un_l, Option.toList_some, Option.toList_none, List.cons_append, List.nil_append, List.length_cons, List.length_nil, Nat.reduceLeDiff, Nat.reduceAdd, Nat.zero_le, Nat.zero_add, and_true, true_and, zb_1, eq_self, w3, h1, if_false, kx_119, kx_121, kx_126, zinT (show k < 40 by omega) (by decide), zcl (show k < 40 by omega) (by decide), w4, w6, k1, nI_eq (show fr k < 2 ^ 31 by omega) (show a < 2 ^ 31 by omega)]
    unfold zws0 at ih
    by_cases g1 : I 66 k = m
    · rw [if_pos g1]
      by_cases g2 : fr k = a
      · rw [if_pos g2]; exact ih _ (by rw [if_pos ⟨vk.mpr g1, g2⟩]; rfl)
      · rw [if_neg g2]; exact ih _ (by rw [if_neg (fun q => g2 q.2)]; rfl)
    · rw [if_neg g1]; exact ih _ (by rw [if_neg (fun q => g1 (vk.mp q.1))]; rfl)
  have h1 : nI n ≤ nI n := nI_le (Nat.le_refl _) (by omega)
  obtain ⟨w3, -⟩ := rows J f
  simp only [u_X11_way_40]
  simp only [u_X11_way_42, u_X11_way_43, u_X11_way_46, u_X11_way_91, u_X11_way_92, az_un_i, az_un_r, az_un_n, az_un_l, Option.toList_some, Option.toList_none, List.cons_append, List.nil_append, List.length_cons, List.length_nil, Nat.reduceLeDiff, Nat.reduceAdd, Nat.zero_le, Nat.zero_add, and_true, true_and, zb_1, eq_self, w3, h1, if_true]
  have b0 : ∀ r x, zvr (zwl fr to tm va) n (zws0 fr va a) r x ≤ 1000 := fun r x => by
    have := zvr_le0 (rel := zwl fr to tm va) (n := n) (s := zws0 fr va a) (x := x) r
    have q : zws0 fr va a x ≤ 1000 := by unfold zws0; split <;> omega
    omega
  refine zloop (P := fun r => ∀ J v6 v7 v8, zF1 126 I J → (∀ x, x < n → J 126 x = nI (zvr (zwl fr to tm va) n (zws0 fr va a) r x)) → az_W (zD (d + 3)) _ _ 94 [.ref 97, .int (nI a), .int (nI b), .int m, .int 1000, .int (nI r), v6, v7, v8] [] (130, az_Pf, J, L)) n (fun r hr ih J v6 v7 v8 f a1 => ?_) (fun J v6 v7 v8 f a1 => ?_) 0 (Nat.zero_le _) J _ _ _ f a1
  · have h1 : ¬ nI n ≤ nI r := nI_ge hr (by omega)
    obtain ⟨w3, -⟩ := rows J f
    simp only [u_X11_way_94]
    simp only [u_X11_way_96, u_X11_way_97, u_X11_way_100, u_X11_way_103, u_X11_way_104, az_un_i, az_un_r, az_un_n, az_un_l, Option.toList_some, Option.toList_none, List.cons_append, List.nil_append, List.length_cons, List.length_nil, Nat.reduceLeDiff, Nat.reduceAdd, Nat.zero_le, Nat.zero_add, and_true, true_and, zb_1, eq_self, w3, h1, if_false]
    rw [show nI (r + 1) = nI r + 1 from nI_succ r, zvr] at ih
    have b1 := b0 r
    generalize zvr (zwl fr to tm va) n (zws0 fr va a) r = s at *
    have b2 : ∀ k x, zvj (zwl fr to tm va) n s k x ≤ 1000 := fun k x => by
      have := zvj_le (rel := zwl fr to tm va) (n := n) (s := s) (x := x) k
      have := b1 x; omega
    refine zloop (P := fun k => ∀ J v7 v8, zF1 126 I J → (∀ x, x < n → J 126 x = nI (zvj (zwl fr to tm va) n s k x)) → az_W (zD (d + 3)) _ _ 106 [.ref 97, .int (nI a), .int (nI b), .int m, .int 1000, .int (nI r), .int (nI k), v7, v8] [] (130, az_Pf, J, L)) n (fun k hk ih J v7 v8 f a1 => ?_) (fun J v7 v8 f a1 => ?_) 0 (Nat.zero_le _) J _ _ f a1
    · have h1 : ¬ nI n ≤ nI k := nI_ge hk (by omega)
      obtain ⟨w3, -⟩ := rows J f
      simp only [u_X11_way_106]
      simp only [u_X11_way_108, u_X11_way_109, u_X11_way_112, u_X11_way_115, u_X11_way_116, az_un_i, az_un_r, az_un_n, az_un_l, Option.toList_some, Option.toList_none, List.cons_append, List.nil_append, List.length_cons, List.length_nil, Nat.reduceLeDiff, Nat.reduceAdd, Nat.zero_le, Nat.zero_add, and_true, true_and, zb_1, eq_self, w3, h1, if_false]
      rw [show nI (k + 1) = nI k + 1 from nI_succ k, zvj] at ih
      have b3 := b2 k
      generalize zvj (zwl fr to tm va) n s k = s2 at *
      refine zloop (P := fun q => ∀ J v8, zF1 126 I J → (∀ x, x < n → J 126 x = nI (zvi (zwl fr to tm va) s2 k q x)) → az_W (zD (d + 3)) _ _ 118 [.ref 97, .int (nI a), .int (nI b), .int m, .int 1000, .int (nI r), .int (nI k), .int (nI q), v8] [] (130, az_Pf, J, L)) n (fun q hq ih J v8 f a1 => ?_) (fun J v8 f a1 => ?_) 0 (Nat.zero_le _) J _ f a1
      · have h1 : ¬ nI n ≤ nI q := nI_ge hq (by omega)
        obtain ⟨w3, w4, w5, w6, w7⟩ := rows J f
        obtain ⟨k1, k2, k3, k4, k5, k6, k7⟩ := hw8 k hk
        obtain ⟨q1, q2, q3, q4, q5, q6, q7⟩ := hw8 q hq
        have vk := vm k hk
        have vq := vm q hq
        rw [show nI (q + 1) = nI q + 1 from nI_succ q, zvi] at ih
        have b4 : ∀ x, zvi (zwl fr to tm va) s2 k q x ≤ 1000 := fun x => by
          have := zvi_le (rel := zwl fr to tm va) (s := s2) (w := k) (x := x) q
          have := b3 x; omega
        obtain ⟨g, eg⟩ : ∃ g, g = zvi (zwl fr to tm va) s2 k q := ⟨_, rfl⟩
        rw [← eg] at a1 ih b4
        have bk := b4 k
        have bq := b4 q
        have tlt : (I 67 k ≤ I 67 q) ↔ ¬ tm q < tm k := by rw [Int32.le_iff_toInt_le, k5, q5]; omega
        have e1 : nI (g q) + 1 = nI (g q + 1) := (nI_succ _).symm
        have glt : (nI (g k) ≤ nI (g q + 1)) ↔ ¬ g q + 1 < g k := by
          constructor
          · intro z
            have := Int32.le_iff_toInt_le.mp z
            rw [nI_toInt (by omega), nI_toInt (by omega)] at this; omega
          · intro z; exact nI_le (by omega) (by omega)
        simp only [u_X11_way_118]
        simp only [u_X11_way_120, u_X11_way_121, u_X11_way_124, u_X11_way_127, u_X11_way_128, u_X11_way_131, u_X11_way_133, u_X11_way_134, u_X11_way_135, u_X11_way_138, u_X11_way_139, u_X11_way_142, u_X11_way_144, u_X11_way_145, u_X11_way_146, u_X11_way_149, u_X11_way_150, u_X11_way_153, u_X11_way_155, u_X11_way_156, u_X11_way_157, u_X11_way_160, u_X11_way_162, u_X11_way_163, u_X11_way_166, u_X11_way_167, u_X11_way_170, u_X11_way_172, u_X11_way_173, u_X11_way_174, u_X11_way_177, u_X11_way_179, u_X11_way_180, u_X11_way_183, u_X11_way_184, u_X11_way_187, u_X11_way_188, u_X11_way_190, u_X11_way_191, u_X11_way_194, u_X11_way_196, u_X11_way_198, u_X11_way_201, u_X11_way_202, u_X11_way_205, u_X11_way_207, u_X11_way_208, u_X11_way_209, u_X11_way_210, u_X11_way_211, u_X11_way_214, u_X11_way_216, u_X11_way_217, u_X11_way_220, u_X11_way_221, u_X11_way_224, u_X11_way_226, u_X11_way_227, u_X11_way_228, u_X11_way_229, u_X11_way_232, u_X11_way_233, u_X11_way_236, u_X11_way_238, u_X11_way_239, u_X11_way_240, u_X11_way_243, az_un_i, az_un_r, az_un_n, az_un_l, Option.toList_some, Option.toList_none, List.cons_append, List.nil_append, List.length_cons, List.length_nil, Nat.reduceLeDiff, Nat.reduceAdd, Nat.zero_le, Nat.zero_add, and_true, true_and, zb_1, eq_self, w3, h1, if_false, kx_119, kx_120, kx_121, kx_122, kx_126, zinT (show k < 40 by omega) (by decide), zcl (show k < 40 by omega) (by decide), zinT (show q < 40 by omega) (by decide), zcl (show q < 40 by omega) (by decide), w4, w5, w6, w7, k1, q3, nI_eq (show to q < 2 ^ 31 by omega) (show fr k < 2 ^ 31 by omega), tlt, a1 k hk, a1 q hq, e1, glt, z10, if_true]
        have no : ¬ (zwl fr to tm va q k = true ∧ g q + 1 < g k) → ∀ v8, az_W (zD (d + 3)) (zR (some (.int R)) (fun J _ => zFr I J)) k_X11_way 118 [.ref 97, .int (nI a), .int (nI b), .int m, .int 1000, .int (nI r), .int (nI k), .int (nI q + 1), v8] [] (130, az_Pf, az_uI J 126 k (nI (g k)), L) := fun z v8 => by
          rw [if_neg z] at ih
          refine ih _ v8 f.up (fun x hx => ?_)
          rw [az_uI_at]
          by_cases c : x = k
          · rw [if_pos ⟨rfl, c⟩, c]
          · rw [if_neg (by omega)]; exact a1 x hx
        have zl : zwl fr to tm va q k = true ↔ (I 66 k = m ∧ I 66 q = m ∧ to q = fr k ∧ tm q < tm k) := by
          unfold zwl; rw [decide_eq_true_iff, vk, vq]
        by_cases g1 : I 66 k = m
        · rw [if_pos g1]
          by_cases g2 : I 66 q = m
          · rw [if_pos g2]
            by_cases g3 : to q = fr k
            · rw [if_pos g3]
              by_cases g4 : tm q < tm k
              · rw [if_neg (fun z => z g4)]
                by_cases g5 : g q + 1 < g k
                · rw [if_neg (fun z => z g5)]
                  rw [if_pos ⟨zl.mpr ⟨g1, g2, g3, g4⟩, g5⟩] at ih
                  refine ih _ _ f.up (fun x hx => ?_)
                  rw [az_uI_at]
                  unfold zsu1
                  by_cases c : x = k
                  · rw [if_pos ⟨rfl, c⟩, if_pos c]
                  · rw [if_neg (by omega), if_neg c]; exact a1 x hx
                · rw [if_pos g5]; exact no (fun z => g5 z.2) _
              · rw [if_pos g4]; exact no (fun z => g4 (zl.mp z.1).2.2.2) _
            · rw [if_neg g3]; exact no (fun z => g3 (zl.mp z.1).2.2.1) _
          · rw [if_neg g2]; exact no (fun z => g2 (zl.mp z.1).2.1) _
        · rw [if_neg g1]; exact no (fun z => g1 (zl.mp z.1).1) _
      · have h1 : nI n ≤ nI n := nI_le (Nat.le_refl _) (by omega)
        obtain ⟨w3, -⟩ := rows J f
        simp only [u_X11_way_118]
        simp only [u_X11_way_120, u_X11_way_121, u_X11_way_124, u_X11_way_246, u_X11_way_249, az_un_i, az_un_r, az_un_n, az_un_l, Option.toList_some, Option.toList_none, List.cons_append, List.nil_append, List.length_cons, List.length_nil, Nat.reduceLeDiff, Nat.reduceAdd, Nat.zero_le, Nat.zero_add, and_true, true_and, zb_1, eq_self, w3, h1, if_true]
        exact ih J _ _ f a1
    · have h1 : nI n ≤ nI n := nI_le (Nat.le_refl _) (by omega)
      obtain ⟨w3, -⟩ := rows J f
      simp only [u_X11_way_106]
      simp only [u_X11_way_108, u_X11_way_109, u_X11_way_112, u_X11_way_252, u_X11_way_255, az_un_i, az_un_r, az_un_n, az_un_l, Option.toList_some, Option.toList_none, List.cons_append, List.nil_append, List.length_cons, List.length_nil, Nat.reduceLeDiff, Nat.reduceAdd, Nat.zero_le, Nat.zero_add, and_true, true_and, zb_1, eq_self, w3, h1, if_true]
      exact ih J _ _ _ f a1
  · have h1 : nI n ≤ nI n := nI_le (Nat.le_refl _) (by omega)
    obtain ⟨w3, w4, w5, w6, w7⟩ := rows J f
    have b1 := b0 n
    rw [← eS] at a1 b1
    simp only [u_X11_way_94]
    simp only [u_X11_way_96, u_X11_way_97, u_X11_way_100, u_X11_way_258, u_X11_way_259, az_un_i, az_un_r, az_un_n, az_un_l, Option.toList_some, Option.toList_none, List.cons_append, List.nil_append, List.length_cons, List.length_nil, Nat.reduceLeDiff, Nat.reduceAdd, Nat.zero_le, Nat.zero_add, and_true, true_and, zb_1, eq_self, w3, h1, if_true]
    have bb : ∀ k, zwb to S b k ≤ 1000 := fun k => (zwb_i k).1
    refine zloop (P := fun k => ∀ v6 v7 v8, az_W (zD (d + 3)) _ _ 261 [.ref 97, .int (nI a), .int (nI b), .int m, .int (nI (zwb to S b k)), .int (nI k), v6, v7, v8] [] (130, az_Pf, J, L)) n (fun k hk ih v6 v7 v8 => ?_) (fun v6 v7 v8 => ?_) 0 (Nat.zero_le _) _ _ _
    · have h1 : ¬ nI n ≤ nI k := nI_ge hk (by omega)
      obtain ⟨k1, k2, k3, k4, k5, k6, k7⟩ := hw8 k hk
      rw [show nI (k + 1) = nI k + 1 from nI_succ k, zwb] at ih
      have x1 := bb k
      have x2 := b1 k
      obtain ⟨B, eB⟩ : ∃ B, B = zwb to S b k := ⟨_, rfl⟩
      rw [← eB] at ih x1 ⊢
      have glt : (nI B ≤ nI (S k)) ↔ ¬ S k < B := by
        constructor
        · intro z
          have := Int32.le_iff_toInt_le.mp z
          rw [nI_toInt (by omega), nI_toInt (by omega)] at this; omega
        · intro z; exact nI_le (by omega) (by omega)
      simp only [u_X11_way_261]
      simp only [u_X11_way_263, u_X11_way_264, u_X11_way_267, u_X11_way_270, u_X11_way_271, u_X11_way_274, u_X11_way_276, u_X11_way_277, u_X11_way_278, u_X11_way_281, u_X11_way_282, u_X11_way_285, u_X11_way_287, u_X11_way_288, u_X11_way_290, u_X11_way_293, u_X11_way_294, u_X11_way_297, u_X11_way_299, u_X11_way_300, u_X11_way_303, u_X11_way_305, u_X11_way_307, u_X11_way_310, az_un_i, az_un_r, az_un_n, az_un_l, Option.toList_some, Option.toList_none, List.cons_append, List.nil_append, List.length_cons, List.length_nil, Nat.reduceLeDiff, Nat.reduceAdd, Nat.zero_le, Nat.zero_add, and_true, true_and, zb_1, eq_self, w3, h1, if_false, kx_120, kx_126, zinT (show k < 40 by omega) (by decide), zcl (show k < 40 by omega) (by decide), w5, k3, nI_eq (show to k < 2 ^ 31 by omega) (show b < 2 ^ 31 by omega), a1 k hk, glt]
      by_cases g1 : to k = b
      · rw [if_pos g1]
        by_cases g2 : S k < B
        · rw [if_pos ⟨g1, g2⟩] at ih
          rw [if_neg (fun z => z g2)]; exact ih _ _ _
        · rw [if_neg (fun z => g2 z.2)] at ih
          rw [if_pos g2]; exact ih _ _ _
      · rw [if_neg (fun z => g1 z.1)] at ih
        rw [if_neg g1]; exact ih _ _ _
    · have h1 : nI n ≤ nI n := nI_le (Nat.le_refl _) (by omega)
      have x1 := bb n
      obtain ⟨B, eB⟩ : ∃ B, B = zwb to S b n := ⟨_, rfl⟩
      rw [← eB] at x1 eR w2 ⊢
      have g0 : (nI B = 1000) ↔ B = 1000 := nI_eq (b := 1000) (by omega) (by decide)
      simp only [u_X11_way_261]
      simp only [u_X11_way_263, u_X11_way_264, u_X11_way_267, u_X11_way_313, u_X11_way_315, u_X11_way_318, u_X11_way_321, u_X11_way_323, u_X11_way_326, u_X11_way_328, az_un_i, az_un_r, az_un_n, az_un_l, Option.toList_some, Option.toList_none, List.cons_append, List.nil_append, List.length_cons, List.length_nil, Nat.reduceLeDiff, Nat.reduceAdd, Nat.zero_le, Nat.zero_add, and_true, true_and, zb_1, eq_self, w3, h1, if_true, g0, zR_at]
      unfold zan at eR
      by_cases g : B = 1000
      · rw [if_pos g, if_pos rfl] at eR
        rw [if_pos g, eR]; exact ⟨rfl, f.fr scr⟩
      · have w2 := w2 g
        rw [if_neg g, if_neg (show ¬ B + 1 = 1000 by omega), Nat.add_sub_cancel] at eR
        rw [if_neg g, eR]; exact ⟨rfl, f.fr scr⟩
end S
theorem op_way (x y z : Int32) : zOp 120 194 [.int x, .int y, .int z] := by
  refine zOp_of (fun I L hI => ?_)
  obtain ⟨t, e, nl, nr, n, k, w, hG⟩ := zInv_G hI
  have hD := hG.2.2.2.2.2.2.1
  by_cases hb : (0 ≤ x.toInt ∧ x.toInt < (n : Int)) ∧ (0 ≤ y.toInt ∧ y.toInt < (n : Int)) ∧ (0 ≤ z.toInt ∧ z.toInt ≤ 29)
  · obtain ⟨h0, h1, h2⟩ := hb
    have hle := hD.1
    obtain ⟨a, ha, rfl⟩ := znat h0.1 (n := 12) (by omega) (by decide)
    rw [nI_toInt (by omega)] at h0
    obtain ⟨b, hb, rfl⟩ := znat h1.1 (n := 12) (by omega) (by decide)
    rw [nI_toInt (by omega)] at h1
    have hw := zWd_of hle hG.2.2.2.2.2.2.2.1 z 999
    exact ⟨_, s_X10_way (d := 5) hG (by omega) (by omega) h2 hw, fun J M f => s_X11_way (d := 5) (hG.fr f) (by omega) (by omega) h2 (hw.fr f)⟩
  · exact ⟨_, zE_D (s_X10_way_bad (d := 5) hD.2.1 hD.1 hb) zFr.rf, fun J M f => zE_D (s_X11_way_bad (d := 5) (hG.fr f).2.2.2.2.2.2.1.2.2.1 hD.1 hb) zFr.rf⟩
