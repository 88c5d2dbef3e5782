def zIm (I : Nat → Nat → Int32) : Nat → Nat → Int32 := fun b j => if b = 98 ∧ j < 240 then -1 else if b = 127 ∧ j < 4 then -1 else az_uI (az_uI (az_uI (az_uI (az_uI (az_uI (az_uI (az_uI (az_uI I 103 0 0) 103 1 1) 103 2 0) 104 0 3) 104 1 8) 104 2 99) 105 0 1) 105 1 3) 105 2 20 b j
section S
variable {d : Nat} {P : Nat → Nat → Option Nat} {I : Nat → Nat → Int32} {L : Nat → Nat → Int64} {h : az_H}
theorem zI4_n {b j : Nat} (h : b < 4 ∨ 34 ≤ b) : zI4 I b j = I b j := by unfold zI4; rw [if_neg (by omega)]
theorem s_X5_init (hz : ∀ b j, I b j = 0) : ∃ L', zD (d + 2) 43 [.ref 1] (2, P, I, L) none (49, az_uP (az_uP (az_uP (az_uP (az_uP (az_uP (az_uP (az_uP (az_uR (az_uP (az_uP (az_uP (az_uP (az_uP (az_uR P 3 30) 2 0 (some 3)) 2 1 (some 34)) 1 0 (some 2)) 35 0 (some 36)) 35 2 (some 37)) 38 4) 35 3 (some 38)) 35 5 (some 43)) 1 1 (some 35)) 1 2 (some 44)) 1 3 (some 45)) 1 4 (some 46)) 1 5 (some 47)) 1 6 (some 48), zI4 I, L') := by
  refine ⟨az_uL (az_uL (az_uL (az_uL (az_uL (az_uL (az_uL (az_uL L 45 0 0) 45 1 1) 46 0 0) 46 1 1) 47 0 0) 47 1 1) 48 0 0) 48 1 1, ?_⟩
  refine zD_of zm_X5_init rfl ?_
  show az_W _ _ _ 0 [.ref 1] [] _
  simp only [u_X5_init_0, u_X5_init_1, u_X5_init_4, u_X5_init_5, u_X5_init_8, u_X5_init_8r, u_X5_init_9, u_X5_init_12, u_X5_init_15, u_X5_init_16, u_X5_init_19, u_X5_init_19r, u_X5_init_20, u_X5_init_23, u_X5_init_26, u_X5_init_27, u_X5_init_29, u_X5_init_31, u_X5_init_34, u_X5_init_35, u_X5_init_38, u_X5_init_38r, u_X5_init_39, u_X5_init_42, u_X5_init_45, u_X5_init_46, u_X5_init_49, u_X5_init_49r, u_X5_init_50, u_X5_init_53, u_X5_init_56, u_X5_init_57, u_X5_init_60, u_X5_init_60r, u_X5_init_61, u_X5_init_64, u_X5_init_67, u_X5_init_68, u_X5_init_71, u_X5_init_71r, u_X5_init_72, u_X5_init_75, u_X5_init_78, az_un_i, az_un_r, az_un_n, az_un_l, Option.toList_some, Option.toList_none, List.cons_append, List.nil_append, List.length_cons, List.length_nil, Nat.reduceLeDiff, Nat.reduceAdd, Nat.zero_le, Nat.zero_add, and_true, true_and, zb_1, eq_self, az_kn_le, kd_1, az_call (s_X4_init (d := d) (I := I) (fun j => hz 2 j)), az_call (s_X6_init (d := d) (I := zI4 I) (fun j => by rw [zI4_n (by omega)]; exact hz 35 j)), az_call (s_X2_init (d := d) (n := 46) (f := 45) (by decide +kernel)), az_call (s_X2_init (d := d) (n := 47) (f := 46) (by decide +kernel)), az_call (s_X2_init (d := d) (n := 48) (f := 47) (by decide +kernel)), az_call (s_X2_init (d := d) (n := 49) (f := 48) (by decide +kernel))]
theorem s_X10_init (hz : ∀ b j, I b j = 0) : ∃ L', zD (d + 3) 89 [.ref 0] (1, (fun _ _ => none), I, L) none (97, az_Px, zI8 (zI4 I), L') := by
  obtain ⟨L1, c1⟩ := s_X5_init (d := d) (P := fun _ _ => none) (L := L) hz
  refine ⟨az_uL (az_uL (az_uL (az_uL L1 94 0 0) 94 1 1) 95 0 0) 95 1 1, ?_⟩
  refine zD_of zm_X10_init rfl ?_
  show az_W _ _ _ 0 [.ref 0] [] _
  simp only [u_X10_init_0, u_X10_init_1, u_X10_init_4, u_X10_init_5, u_X10_init_8, u_X10_init_8r, u_X10_init_9, u_X10_init_12, u_X10_init_15, az_un_i, az_un_r, az_un_n, az_un_l, Option.toList_some, Option.toList_none, List.cons_append, List.nil_append, List.length_cons, List.length_nil, Nat.reduceLeDiff, Nat.reduceAdd, Nat.zero_le, Nat.zero_add, and_true, true_and, zb_1, eq_self, az_call c1, az_kn_le, kd_0]
  simp only [u_X10_init_16, az_un_i, az_un_r, az_un_n, az_un_l, Option.toList_some, Option.toList_none, List.cons_append, List.nil_append, List.length_cons, List.length_nil, Nat.reduceLeDiff, Nat.reduceAdd, Nat.zero_le, Nat.zero_add, and_true, true_and, zb_1, eq_self]
  refine (u_X10_init_17 (b := 1) (by decide +kernel) rfl).mpr ?_
  refine (u_X10_init_20 (b := 2) (by decide +kernel) rfl).mpr ?_
  simp only [u_X10_init_23, u_X10_init_26, u_X10_init_27, az_un_i, az_un_r, az_un_n, az_un_l, Option.toList_some, Option.toList_none, List.cons_append, List.nil_append, List.length_cons, List.length_nil, Nat.reduceLeDiff, Nat.reduceAdd, Nat.zero_le, Nat.zero_add, and_true, true_and, zb_1, eq_self, az_kn_le, kd_0]
  refine (u_X10_init_28 (b := 1) (by decide +kernel) rfl).mpr ?_
  refine (u_X10_init_31 (b := 35) (by decide +kernel) rfl).mpr ?_
  have z4 : ∀ b j, 34 ≤ b → zI4 I b j = 0 := fun b j hb => by rw [zI4_n (Or.inr hb)]; exact hz b j
  simp only [u_X10_init_34, u_X10_init_37, u_X10_init_38, u_X10_init_41, u_X10_init_41r, u_X10_init_42, u_X10_init_45, u_X10_init_48, u_X10_init_49, u_X10_init_52, u_X10_init_52r, u_X10_init_53, u_X10_init_56, u_X10_init_59, u_X10_init_60, u_X10_init_63, u_X10_init_63r, u_X10_init_64, u_X10_init_67, u_X10_init_70, u_X10_init_71, u_X10_init_74, u_X10_init_74r, u_X10_init_75, u_X10_init_78, u_X10_init_81, u_X10_init_82, u_X10_init_85, u_X10_init_85r, u_X10_init_86, u_X10_init_89, u_X10_init_92, u_X10_init_93, u_X10_init_96, u_X10_init_96r, u_X10_init_97, u_X10_init_100, u_X10_init_103, u_X10_init_104, u_X10_init_107, u_X10_init_107r, u_X10_init_108, u_X10_init_111, u_X10_init_114, u_X10_init_115, u_X10_init_118, u_X10_init_118r, u_X10_init_119, u_X10_init_122, u_X10_init_125, u_X10_init_126, u_X10_init_128, u_X10_init_130, u_X10_init_133, az_un_i, az_un_r, az_un_n, az_un_l, Option.toList_some, Option.toList_none, List.cons_append, List.nil_append, List.length_cons, List.length_nil, Nat.reduceLeDiff, Nat.reduceAdd, Nat.zero_le, Nat.zero_add, and_true, true_and, zb_1, eq_self, az_kn_le, kd_0, az_call (s_X0_init (d := d + 1) (I := zI4 I) (fun j => z4 49 j (by omega))), az_call (s_X3_init (d := d + 1) (I := zI4 I) (fun j => z4 56 j (by omega))), az_call (s_X7_init (d := d + 1) (I := zI4 I) (fun j => z4 60 j (by omega))), az_call (s_X9_init (d := d + 1) (I := zI4 I) (fun j => z4 63 j (by omega))), az_call (s_X1_init (d := d + 1) (I := zI4 I)), az_call (s_X8_init (d := d + 1) (I := zI4 I)), az_call (s_X2_init (d := d + 1) (n := 95) (f := 94) (by decide +kernel)), az_call (s_X2_init (d := d + 1) (n := 96) (f := 95) (by decide +kernel))]
  rfl
theorem s_X11_init : zD (d + 1) 140 [.ref 97] (98, az_Px, I, L) none (130, az_Pf, zIm I, L) := by
  refine zD_of zm_X11_init rfl ?_
  show az_W _ _ _ 0 [.ref 97, .null] [] _
  have t0 : az_in 0 3 := by decide
  have t1 : az_in 1 3 := by decide
  have t2 : az_in 2 3 := by decide
  simp only [u_X11_init_0, u_X11_init_1, u_X11_init_4, u_X11_init_5, u_X11_init_8, u_X11_init_10, u_X11_init_13, u_X11_init_14, u_X11_init_16, u_X11_init_18, u_X11_init_21, u_X11_init_22, u_X11_init_23, u_X11_init_25, u_X11_init_28, u_X11_init_29, u_X11_init_31, u_X11_init_33, u_X11_init_36, u_X11_init_37, u_X11_init_38, u_X11_init_40, u_X11_init_43, u_X11_init_44, u_X11_init_45, u_X11_init_47, u_X11_init_47r, u_X11_init_48, u_X11_init_49, u_X11_init_50, u_X11_init_51, u_X11_init_51r, u_X11_init_52, u_X11_init_53, u_X11_init_54, u_X11_init_55, u_X11_init_55r, u_X11_init_56, u_X11_init_57, u_X11_init_58, u_X11_init_59, u_X11_init_62, u_X11_init_63, u_X11_init_64, u_X11_init_66, u_X11_init_66r, u_X11_init_67, u_X11_init_68, u_X11_init_69, u_X11_init_70, u_X11_init_70r, u_X11_init_71, u_X11_init_72, u_X11_init_74, u_X11_init_75, u_X11_init_75r, u_X11_init_76, u_X11_init_77, u_X11_init_79, u_X11_init_80, u_X11_init_83, u_X11_init_84, u_X11_init_85, u_X11_init_87, u_X11_init_87r, u_X11_init_88, u_X11_init_89, u_X11_init_90, u_X11_init_91, u_X11_init_91r, u_X11_init_92, u_X11_init_93, u_X11_init_94, u_X11_init_95, u_X11_init_95r, u_X11_init_96, u_X11_init_97, u_X11_init_99, u_X11_init_100, u_X11_init_103, u_X11_init_104, u_X11_init_106, u_X11_init_108, u_X11_init_111, u_X11_init_112, u_X11_init_114, u_X11_init_116, u_X11_init_119, u_X11_init_120, u_X11_init_122, u_X11_init_124, u_X11_init_127, u_X11_init_128, u_X11_init_130, u_X11_init_132, u_X11_init_135, u_X11_init_136, u_X11_init_138, u_X11_init_140, u_X11_init_143, u_X11_init_144, u_X11_init_146, u_X11_init_148, u_X11_init_151, u_X11_init_152, u_X11_init_154, u_X11_init_156, u_X11_init_159, u_X11_init_160, u_X11_init_162, u_X11_init_164, u_X11_init_167, u_X11_init_168, u_X11_init_170, u_X11_init_172, u_X11_init_175, u_X11_init_176, u_X11_init_178, u_X11_init_180, u_X11_init_183, u_X11_init_184, u_X11_init_186, u_X11_init_188, u_X11_init_191, u_X11_init_192, u_X11_init_194, u_X11_init_196, u_X11_init_199, u_X11_init_200, u_X11_init_202, u_X11_init_204, u_X11_init_207, u_X11_init_208, u_X11_init_210, u_X11_init_212, u_X11_init_215, u_X11_init_216, u_X11_init_218, u_X11_init_220, u_X11_init_223, u_X11_init_224, u_X11_init_226, u_X11_init_228, u_X11_init_231, u_X11_init_232, u_X11_init_234, u_X11_init_236, u_X11_init_239, u_X11_init_240, u_X11_init_243, u_X11_init_245, u_X11_init_248, u_X11_init_249, u_X11_init_252, u_X11_init_254, u_X11_init_257, u_X11_init_258, u_X11_init_260, u_X11_init_262, u_X11_init_265, u_X11_init_266, u_X11_init_268, u_X11_init_270, u_X11_init_273, u_X11_init_274, u_X11_init_275, u_X11_init_277, u_X11_init_280, u_X11_init_281, u_X11_init_282, u_X11_init_284, u_X11_init_287, u_X11_init_288, u_X11_init_290, u_X11_init_292, u_X11_init_295, u_X11_init_296, az_un_i, az_un_r, az_un_n, az_un_l, Option.toList_some, Option.toList_none, List.cons_append, List.nil_append, List.length_cons, List.length_nil, Nat.reduceLeDiff, Nat.reduceAdd, Nat.zero_le, Nat.zero_add, and_true, true_and, zb_1, eq_self, az_kn_le, kd_97, kd_103, kd_104, kd_105, eq_true t0, eq_true t1, eq_true t2, show (0 : Int32).toNatClampNeg = 0 from rfl, show (1 : Int32).toNatClampNeg = 1 from rfl, show (2 : Int32).toNatClampNeg = 2 from rfl]
  show az_W _ _ _ 297 [.ref 97, .int (nI 0)] [] (130, az_Pf, _, L)
  refine zloop (P := fun k => ∀ J, (∀ b j, J b j = if b = 98 ∧ j < k then -1 else az_uI (az_uI (az_uI (az_uI (az_uI (az_uI (az_uI (az_uI (az_uI I 103 0 0) 103 1 1) 103 2 0) 104 0 3) 104 1 8) 104 2 99) 105 0 1) 105 1 3) 105 2 20 b j) → az_W (zD d) _ _ 297 [.ref 97, .int (nI k)] [] (130, az_Pf, J, L)) 240 (fun k hk ih J e => ?_) (fun J e => ?_) 0 (Nat.zero_le _) _ (fun b j => by rw [if_neg (by omega)])
  · have h1 : ¬ (240 : Int32) ≤ nI k := nI_ge (b := 240) hk (by decide)
    rw [nI_succ] at ih
    simp only [u_X11_init_297]
    simp only [u_X11_init_298, u_X11_init_301, u_X11_init_304, az_un_i, az_un_r, az_un_n, az_un_l, Option.toList_some, Option.toList_none, List.cons_append, List.nil_append, List.length_cons, List.length_nil, Nat.reduceLeDiff, Nat.reduceAdd, Nat.zero_le, Nat.zero_add, and_true, true_and, zb_1, eq_self, h1, if_false]
    refine (u_X11_init_305 (b := 98) kx_97 rfl).mpr ?_
    simp only [u_X11_init_308, u_X11_init_309, u_X11_init_310, u_X11_init_311, u_X11_init_314, az_un_i, az_un_r, az_un_n, az_un_l, Option.toList_some, Option.toList_none, List.cons_append, List.nil_append, List.length_cons, List.length_nil, Nat.reduceLeDiff, Nat.reduceAdd, Nat.zero_le, Nat.zero_add, and_true, true_and, zb_1, eq_self, kx_98, zinT hk (by decide), zcl hk (by decide)]
    refine ih _ (fun b j => ?_)
    rw [az_uI_at, e b j]
    by_cases c : b = 98 ∧ j = k
    · rw [if_pos c, if_pos (by omega)]
    · rw [if_neg c]
      by_cases c2 : b = 98 ∧ j < k
      · rw [if_pos c2, if_pos (by omega)]
      · rw [if_neg c2, if_neg (by omega)]
  have h1 : (240 : Int32) ≤ nI 240 := by decide
  simp only [u_X11_init_297]
  simp only [u_X11_init_298, u_X11_init_301, u_X11_init_317, u_X11_init_318, az_un_i, az_un_r, az_un_n, az_un_l, Option.toList_some, Option.toList_none, List.cons_append, List.nil_append, List.length_cons, List.length_nil, Nat.reduceLeDiff, Nat.reduceAdd, Nat.zero_le, Nat.zero_add, and_true, true_and, zb_1, eq_self, h1, if_true]
  obtain ⟨I2, e2⟩ : ∃ I2, I2 = az_uI (az_uI (az_uI (az_uI (az_uI (az_uI (az_uI (az_uI (az_uI I 103 0 0) 103 1 1) 103 2 0) 104 0 3) 104 1 8) 104 2 99) 105 0 1) 105 1 3) 105 2 20 := ⟨_, rfl⟩
  rw [← e2] at e
  have ez : zIm I = fun b j => if b = 98 ∧ j < 240 then -1 else if b = 127 ∧ j < 4 then -1 else I2 b j := by rw [e2]; rfl
  rw [ez]
  refine zloop (P := fun k => ∀ K, (∀ b j, K b j = if b = 98 ∧ j < 240 then -1 else if b = 127 ∧ j < k then -1 else I2 b j) → az_W (zD d) _ _ 319 [.ref 97, .int (nI k)] [] (130, az_Pf, K, L)) 4 (fun k hk ih K e => ?_) (fun K e => ?_) 0 (Nat.zero_le _) J (fun b j => by
    rw [e b j]
    by_cases c : b = 98 ∧ j < 240
    · rw [if_pos c, if_pos c]
    · rw [if_neg c, if_neg c, if_neg (by omega)])
  · have h1 : ¬ (4 : Int32) ≤ nI k := nI_ge (b := 4) hk (by decide)
    rw [nI_succ] at ih
    simp only [u_X11_init_319]
    simp only [u_X11_init_320, u_X11_init_321, u_X11_init_324, az_un_i, az_un_r, az_un_n, az_un_l, Option.toList_some, Option.toList_none, List.cons_append, List.nil_append, List.length_cons, List.length_nil, Nat.reduceLeDiff, Nat.reduceAdd, Nat.zero_le, Nat.zero_add, and_true, true_and, zb_1, eq_self, h1, if_false]
    refine (u_X11_init_325 (b := 127) kx_97 rfl).mpr ?_
    simp only [u_X11_init_328, u_X11_init_329, u_X11_init_330, u_X11_init_331, u_X11_init_334, az_un_i, az_un_r, az_un_n, az_un_l, Option.toList_some, Option.toList_none, List.cons_append, List.nil_append, List.length_cons, List.length_nil, Nat.reduceLeDiff, Nat.reduceAdd, Nat.zero_le, Nat.zero_add, and_true, true_and, zb_1, eq_self, kx_127, zinT hk (by decide), zcl hk (by decide)]
    refine ih _ (fun b j => ?_)
    rw [az_uI_at, e b j]
    by_cases c : b = 127 ∧ j = k
    · rw [if_pos c, if_neg (by omega), if_pos (by omega)]
    · rw [if_neg c]
      by_cases c0 : b = 98 ∧ j < 240
      · rw [if_pos c0, if_pos c0]
      · rw [if_neg c0, if_neg c0]
        by_cases c2 : b = 127 ∧ j < k
        · rw [if_pos c2, if_pos (by omega)]
        · rw [if_neg c2, if_neg (by omega)]
  · have h1 : (4 : Int32) ≤ nI 4 := by decide
    have ej : K = fun b j => if b = 98 ∧ j < 240 then -1 else if b = 127 ∧ j < 4 then -1 else I2 b j := funext fun b => funext fun j => e b j
    simp only [u_X11_init_319]
    simp only [u_X11_init_320, u_X11_init_321, u_X11_init_337, az_un_i, az_un_r, az_un_n, az_un_l, Option.toList_some, Option.toList_none, List.cons_append, List.nil_append, List.length_cons, List.length_nil, Nat.reduceLeDiff, Nat.reduceAdd, Nat.zero_le, Nat.zero_add, and_true, true_and, zb_1, eq_self, h1, if_true, ej]
end S
/-- all at the start -/
def zI0 : Nat → Nat → Int32 := zIm (zI8 (zI4 (fun _ _ => 0)))
theorem zI0_z {b j : Nat} (h : ¬ (4 ≤ b ∧ b < 34 ∧ j < 8)) (h1 : b ≠ 87) (h2 : b ≠ 98) (h3 : b ≠ 127) (h4 : b ≠ 103) (h5 : b ≠ 104) (h6 : b ≠ 105) : zI0 b j = 0 := by
  unfold zI0 zIm
  rw [if_neg (by omega), if_neg (by omega), zu_ne h6, zu_ne h6, zu_ne h6, zu_ne h5, zu_ne h5, zu_ne h5, zu_ne h4, zu_ne h4, zu_ne h4]
  unfold zI8; rw [if_neg (by omega)]
  unfold zI4; rw [if_neg h]
theorem zInv_0 : zInv zI0 := by
  have z : ∀ b, 34 ≤ b → b ≠ 87 → b ≠ 98 → b ≠ 127 → b ≠ 103 → b ≠ 104 → b ≠ 105 → zI0 b = fun _ => 0 := fun b h h1 h2 h3 h4 h5 h6 => funext fun j => zI0_z (by omega) h1 h2 h3 h4 h5 h6
  have zz : ∀ b j, 34 ≤ b → b ≠ 87 → b ≠ 98 → b ≠ 127 → b ≠ 103 → b ≠ 104 → b ≠ 105 → zI0 b j = 0 := fun b j h h1 h2 h3 h4 h5 h6 => zI0_z (by omega) h1 h2 h3 h4 h5 h6
  have e87 : ∀ j, zI0 87 j = if j < 4 then -1 else 0 := fun j => by
    unfold zI0 zIm
    rw [if_neg (by omega), if_neg (by omega), zu_ne (by decide), zu_ne (by decide), zu_ne (by decide), zu_ne (by decide), zu_ne (by decide), zu_ne (by decide), zu_ne (by decide), zu_ne (by decide), zu_ne (by decide)]
    unfold zI8
    by_cases c : j < 4
    · rw [if_pos ⟨rfl, c⟩, if_pos c]
    · rw [if_neg (fun q => c q.2), if_neg c]; unfold zI4; rw [if_neg (by omega)]
  have e127 : ∀ j, zI0 127 j = if j < 4 then -1 else 0 := fun j => by
    unfold zI0 zIm
    rw [if_neg (by omega)]
    by_cases c : j < 4
    · rw [if_pos ⟨rfl, c⟩, if_pos c]
    · rw [if_neg (fun q => c q.2), if_neg c, zu_ne (by decide), zu_ne (by decide), zu_ne (by decide), zu_ne (by decide), zu_ne (by decide), zu_ne (by decide), zu_ne (by decide), zu_ne (by decide), zu_ne (by decide)]
      unfold zI8; rw [if_neg (by omega)]; unfold zI4; rw [if_neg (by omega)]
  refine ⟨fun m hm k hk => ?_, ?_, ⟨?_, ?_, fun s hs => ⟨Or.inl ?_, ⟨0, by decide, ?_⟩, fun i hi => ?_⟩⟩, ⟨0, 0, ?_⟩, ⟨0, ?_⟩, ⟨0, ?_⟩, 0, 0, 0, ?_, ?_, ?_, ?_⟩
  · have a1 : zI0 (4 + m) k = -1 := by
      unfold zI0 zIm
      rw [if_neg (by omega), if_neg (by omega), zu_ne (by omega), zu_ne (by omega), zu_ne (by omega), zu_ne (by omega), zu_ne (by omega), zu_ne (by omega), zu_ne (by omega), zu_ne (by omega), zu_ne (by omega)]
      unfold zI8; rw [if_neg (by omega)]; unfold zI4; rw [if_pos (by omega)]
    have a2 : zI0 98 (8 * m + k) = -1 := by unfold zI0 zIm; rw [if_pos (by omega)]
    rw [a1, a2]; decide
  · unfold zvC zI0 zIm; decide
  · funext j; rw [e87, e127]
  · rw [z 88 (by decide) (by decide) (by decide) (by decide) (by decide) (by decide) (by decide), z 128 (by decide) (by decide) (by decide) (by decide) (by decide) (by decide) (by decide)]
  · rw [e87, if_pos (by omega)]
  · rw [zz 88 s (by decide) (by decide) (by decide) (by decide) (by decide) (by decide) (by decide)]; rfl
  · rw [zz (90 + s) i (by omega) (by omega) (by omega) (by omega) (by omega) (by omega) (by omega), zz 129 _ (by decide) (by decide) (by decide) (by decide) (by decide) (by decide) (by decide)]
  · refine ⟨by decide, zz 35 1 (by decide) (by decide) (by decide) (by decide) (by decide) (by decide) (by decide), zz 97 2 (by decide) (by decide) (by decide) (by decide) (by decide) (by decide) (by decide), ?_, fun k hk => absurd hk (Nat.not_lt_zero _), by decide, zz 35 4 (by decide) (by decide) (by decide) (by decide) (by decide) (by decide) (by decide), zz 97 4 (by decide) (by decide) (by decide) (by decide) (by decide) (by decide) (by decide), ?_, fun k hk => absurd hk (Nat.not_lt_zero _), fun k hk => absurd hk (Nat.not_lt_zero _)⟩
    · rw [z 36 (by decide) (by decide) (by decide) (by decide) (by decide) (by decide) (by decide), z 99 (by decide) (by decide) (by decide) (by decide) (by decide) (by decide) (by decide)]
    · rw [z 37 (by decide) (by decide) (by decide) (by decide) (by decide) (by decide) (by decide), z 100 (by decide) (by decide) (by decide) (by decide) (by decide) (by decide) (by decide)]
  · refine ⟨by decide, zz 56 3 (by decide) (by decide) (by decide) (by decide) (by decide) (by decide) (by decide), zz 97 25 (by decide) (by decide) (by decide) (by decide) (by decide) (by decide) (by decide), ?_, ?_, ?_, fun k hk => absurd hk (Nat.not_lt_zero _)⟩ <;> (rw [z _ (by decide) (by decide) (by decide) (by decide) (by decide) (by decide) (by decide), z _ (by decide) (by decide) (by decide) (by decide) (by decide) (by decide) (by decide)])
  · refine ⟨by decide, zz 60 2 (by decide) (by decide) (by decide) (by decide) (by decide) (by decide) (by decide), zz 97 31 (by decide) (by decide) (by decide) (by decide) (by decide) (by decide) (by decide), ?_, ?_, fun k hk => absurd hk (Nat.not_lt_zero _)⟩ <;> (rw [z _ (by decide) (by decide) (by decide) (by decide) (by decide) (by decide) (by decide), z _ (by decide) (by decide) (by decide) (by decide) (by decide) (by decide) (by decide)])
  · refine ⟨by decide, zz 49 1 (by decide) (by decide) (by decide) (by decide) (by decide) (by decide) (by decide), zz 97 17 (by decide) (by decide) (by decide) (by decide) (by decide) (by decide) (by decide), ?_, fun k hk => absurd hk (Nat.not_lt_zero _), by decide, zz 49 7 (by decide) (by decide) (by decide) (by decide) (by decide) (by decide) (by decide), zz 97 19 (by decide) (by decide) (by decide) (by decide) (by decide) (by decide) (by decide), ?_, ?_, ?_, ?_, ?_, fun k hk => absurd hk (Nat.not_lt_zero _)⟩ <;> (rw [z _ (by decide) (by decide) (by decide) (by decide) (by decide) (by decide) (by decide), z _ (by decide) (by decide) (by decide) (by decide) (by decide) (by decide) (by decide)])
  · refine ⟨by decide, zz 63 4 (by decide) (by decide) (by decide) (by decide) (by decide) (by decide) (by decide), zz 97 34 (by decide) (by decide) (by decide) (by decide) (by decide) (by decide) (by decide), ?_, ?_, ?_, ?_, fun k hk => absurd hk (Nat.not_lt_zero _)⟩ <;> (rw [z _ (by decide) (by decide) (by decide) (by decide) (by decide) (by decide) (by decide), z _ (by decide) (by decide) (by decide) (by decide) (by decide) (by decide) (by decide)])
  · intro a ha
    refine ⟨0, by decide, zz 68 a (by decide) (by decide) (by decide) (by decide) (by decide) (by decide) (by decide), fun b hb => ⟨?_, ?_⟩⟩
    · rw [zz 123 _ (by decide) (by decide) (by decide) (by decide) (by decide) (by decide) (by decide), Nat.zero_testBit]; simp
    · rw [zz 123 _ (by decide) (by decide) (by decide) (by decide) (by decide) (by decide) (by decide), zz 123 _ (by decide) (by decide) (by decide) (by decide) (by decide) (by decide) (by decide)]
  · intro a ha b hb
    rw [zz (73 + a) b (by omega) (by omega) (by omega) (by omega) (by omega) (by omega) (by omega), zz 124 _ (by decide) (by decide) (by decide) (by decide) (by decide) (by decide) (by decide)]
    exact ⟨rfl, 0, by decide, rfl, fun q => absurd q (by decide)⟩
