/-! ===== right ===== -/
/-- what a house had said in truth, if it was out -/
def zrt (I : Nat → Nat → Int32) (m nl e h : Nat) : Int32 := if zOA I h m nl e = 0 then I (4 + m) h else if 0 < zOA I h m nl e then zTh I h m nl (zrl I (nI m) 2 e) else zTl I h m nl (zrl I (nI m) 2 e)
theorem zOA_t {I : Nat → Nat → Int32} {h m nl e : Nat} (ho : zOA I h m nl e ≠ 0) : I (4 + m) h ≠ -1 ∧ zTb I h m nl = true := by
  unfold zOA zOut at ho
  by_cases g : I (4 + m) h = -1 ∨ zTb I h m nl = false
  · rw [if_pos g] at ho; exact absurd rfl ho
  · refine ⟨fun e => g (Or.inl e), ?_⟩
    cases hz : zTb I h m nl
    · exact absurd (Or.inr hz) g
    · rfl
theorem zT_r {I : Nat → Nat → Int32} {h m nl s : Nat} (hL : zvL I nl) (hs : s ≤ 99) (hb : zTb I h m nl = true) : (∃ a, a ≤ 999 ∧ zTl I h m nl (nI s) = nI a) ∧ ∃ b, b ≤ 999 ∧ zTh I h m nl (nI s) = nI b := by
  unfold zTl zTh
  cases hz : zany (zp1 I h m) nl
  · have hy : zany (zp2 I m) nl = true := by unfold zTb at hb; rw [hz] at hb; exact hb
    rcases zsp (p := zp2 I m) nl hL.pr with ⟨_, a, b, g1, g2, g3, g4⟩ | ⟨hy2, -⟩
    · rw [g3, g4]
      simp only [Bool.false_eq_true, if_false]
      refine ⟨?_, ?_⟩
      · by_cases g : s ≤ a
        · rw [pk_sub g, if_neg (nI_pos (by omega))]; exact ⟨a - s, by omega, rfl⟩
        · rw [if_pos (pk_sneg (by omega) (by omega))]; exact ⟨0, by omega, rfl⟩
      · rw [nI_add]
        by_cases g : 999 < b + s
        · rw [if_pos (show (999 : Int32) < nI (b + s) from nI_lt (a := 999) g (by omega))]; exact ⟨999, by omega, rfl⟩
        · rw [if_neg (show ¬ (999 : Int32) < nI (b + s) from nI_nlt (a := 999) (by omega) (by omega))]; exact ⟨b + s, by omega, rfl⟩
    · rw [hy] at hy2; cases hy2
  · rcases zsp (p := zp1 I h m) nl hL.pr with ⟨_, a, b, g1, g2, g3, g4⟩ | ⟨hy2, -⟩
    · rw [g3, g4]; simp only [if_true]; exact ⟨⟨a, by omega, rfl⟩, ⟨b, g2, rfl⟩⟩
    · rw [hz] at hy2; cases hy2
theorem zrt_r {I : Nat → Nat → Int32} {t e nl nr n c w m h : Nat} (hG : zG I t e nl nr n c w) (ho : zOA I h m nl e ≠ 0) : ∃ a, a ≤ 999 ∧ zrt I m nl e h = nI a := by
  obtain ⟨c', l', s, -, -, -, hs, -, -, hr⟩ := zrl_rg hG.2.2.2.1 (nI m) e (Nat.le_refl _)
  obtain ⟨⟨a, a1, a2⟩, b, b1, b2⟩ := zT_r (h := h) (m := m) hG.2.2.2.2.1 hs (zOA_t ho).2
  unfold zrt
  rw [if_neg ho, hr]
  split
  · exact ⟨b, b1, b2⟩
  · exact ⟨a, a1, a2⟩
theorem zVr_rt {I : Nat → Nat → Int32} {t e nl nr n c w m : Nat} (hG : zG I t e nl nr n c w) (hm : m < 30) : zVr (zrt I m nl e) := fun h hh => by
  by_cases ho : zOA I h m nl e = 0
  · unfold zrt; rw [if_pos ho]; exact hG.vr hm h hh
  · obtain ⟨a, a1, a2⟩ := zrt_r hG ho
    rw [a2, nI_toInt (by omega)]; omega
theorem zK_rt {I : Nat → Nat → Int32} {t e nl nr n c w m : Nat} (hG : zG I t e nl nr n c w) : zK (zrt I m nl e) = zK (I (4 + m)) := zK_p (fun h hh => by
  by_cases ho : zOA I h m nl e = 0
  · unfold zrt; rw [if_pos ho]
  · obtain ⟨a, a1, a2⟩ := zrt_r hG ho
    refine ⟨fun e => ?_, fun e => absurd e (zOA_t ho).1⟩
    rw [a2] at e
    have := congrArg Int32.toInt e
    rw [nI_toInt (by omega)] at this
    simp at this)
theorem zok_rt {I : Nat → Nat → Int32} {t e nl nr n cc w m c l : Nat} (hG : zG I t e nl nr n cc w) : zok (zrt I m nl e) c l = zok (I (4 + m)) c l := by unfold zok; rw [zK_rt hG]
theorem zrt_fr {I J : Nat → Nat → Int32} {m nl e h : Nat} (f : zFr I J) (hm : m < 30) (he : e ≤ 4) : zrt J m nl e h = zrt I m nl e h := by
  unfold zrt
  rw [zOA_fr f hm he, f.rw (4 + m) (by omega), zTl_fr (f.rw 57 (by omega)) (f.rw 58 (by omega)) (f.rw 59 (by omega)), zTh_fr (f.rw 57 (by omega)) (f.rw 58 (by omega)) (f.rw 59 (by omega)), zrl_fr (f.rw 37 (by omega)) (fun k hk => f.rw (39 + k) (by omega)) e he]
theorem zOS_h {I : Nat → Nat → Int32} {h m nl e : Nat} (ho : zOA I h m nl e ≠ 0) : zOS I h m nl (zrl I (nI m) 2 e) 56 4 = zTl I h m nl (zrl I (nI m) 2 e) ∧ zOS I h m nl (zrl I (nI m) 2 e) 56 5 = zTh I h m nl (zrl I (nI m) 2 e) := by
  obtain ⟨h1, h2⟩ := zOA_t ho
  unfold zOS
  rw [if_neg h1, h2]
  simp only [if_true, az_uI_at, az_uL_at, Nat.reduceEqDiff, false_and, and_false, and_self, if_true, if_false, ite_true, ite_false, and_self]
theorem zOM_h {I : Nat → Nat → Int32} {h m nl e : Nat} (ho : zOA I h m nl e ≠ 0) : zOM I h m nl (zrl I (nI m) 2 e) 97 29 = zTl I h m nl (zrl I (nI m) 2 e) ∧ zOM I h m nl (zrl I (nI m) 2 e) 97 30 = zTh I h m nl (zrl I (nI m) 2 e) := by
  obtain ⟨h1, h2⟩ := zOA_t ho
  unfold zOM
  rw [if_neg h1, h2]
  simp only [if_true, az_uI_at, az_uL_at, Nat.reduceEqDiff, false_and, and_false, and_self, if_true, if_false, ite_true, ite_false, and_self]
theorem zOS_row {I : Nat → Nat → Int32} {h m nl b : Nat} {s : Int32} (hb : b ≠ 56) : zOS I h m nl s b = I b := by
  unfold zOS; split
  · rfl
  · rw [zu_row hb, zu_row hb]
theorem zOM_row {I : Nat → Nat → Int32} {h m nl b : Nat} {s : Int32} (hb : b ≠ 97) : zOM I h m nl s b = I b := by
  unfold zOM; split
  · rfl
  · rw [zu_row hb, zu_row hb]
section S
variable {d : Nat} {I : Nat → Nat → Int32} {L : Nat → Nat → Int64} {h : az_H}
theorem s_X10_findRight {m c l f t e nl nr n cc w : Nat} (hG : zG I t e nl nr n cc w) (hm : m < 30) (hf : az_kn 130 f = (0, 2)) (hc : c ≤ 3) (hl : l ≤ 8) (ec : zrl I (nI m) 0 e = nI c) (el : zrl I (nI m) 1 e = nI l) : zE (d + 6) 137 [.ref 0, .int (nI m), .ref f] I L (some (.int (zb (zok (I (4 + m)) c l = true)))) (fun J L' => zFr I J ∧ L' = if zok (I (4 + m)) c l then zLs L f (zS (zrt I m nl e) c) (zK (I (4 + m)) - 2 * c) else L) := by
  refine zE_of zm_X10_findRight rfl ?_
  show az_W _ _ _ 0 [.ref 0, .int (nI m), .ref f, .null, .null] [] _
  have he := hG.2.2.2.1.2.2.2.2.2.1
  simp only [u_X10_findRight_0, u_X10_findRight_1, az_un_i, az_un_r, az_un_n, az_un_l, Option.toList_some, Option.toList_none, List.cons_append, List.nil_append, List.length_cons, List.length_nil, Nat.reduceLeDiff, Nat.reduceAdd, Nat.zero_le, Nat.zero_add, and_true, true_and, zb_1, eq_self]
  refine zloop (P := fun k => ∀ J v4, zFr I J → (∀ h, h < k → J 96 h = zrt I m nl e h) → az_W (zD (d + 5)) _ _ 2 [.ref 0, .int (nI m), .ref f, .int (nI k), v4] [] (130, az_Pf, J, L)) 8 (fun k hk ih J v4 fr a1 => ?_) (fun J v4 fr a1 => ?_) 0 (Nat.zero_le _) I _ zFr.rf (fun h hh => absurd hh (Nat.not_lt_zero _))
  · have h1 : ¬ (8 : Int32) ≤ nI k := nI_ge (b := 8) hk (by decide)
    have hO := s_X10_outSign (d := d) (L := L) (hG.fr fr) hk hm
    have eo : zOA J k m nl e = zOA I k m nl e := zOA_fr fr hm he
    have et : zrt J m nl e k = zrt I m nl e k := zrt_fr fr hm he
    have o2 := fun g : zOA J k m nl e ≠ 0 => zOS_h g
    obtain ⟨J2, ej⟩ : ∃ J2, J2 = zOS J k m nl (zrl J (nI m) 2 e) := ⟨_, rfl⟩
    have fr2 : zFr I J2 := by rw [ej]; exact fr.tr zOS_fr
    have r2 : J2 96 = J 96 := by rw [ej]; exact zOS_row (by decide)
    have r4 : J2 (4 + m) = J (4 + m) := by rw [ej]; exact zOS_row (by omega)
    rw [← ej] at hO o2
    have hh := s_X4_heard (d := d + 4) (I := J2) (L := L) hk hm
    rw [nI_succ] at ih
    have ih := fun v4 => ih (az_uI J2 96 k (zrt I m nl e k)) v4 (fr2.up rfl) (fun h hh => by
      rw [az_uI_at]
      by_cases c : h = k
      · rw [if_pos ⟨rfl, c⟩, c]
      · rw [if_neg (by omega), r2]; exact a1 h (by omega))
    obtain ⟨o, eoo⟩ : ∃ o, o = zOA J k m nl e := ⟨_, rfl⟩
    rw [← et] at ih
    unfold zrt at ih
    rw [← eoo] at ih hO o2
    simp only [u_X10_findRight_2]
    simp only [u_X10_findRight_3, u_X10_findRight_5, u_X10_findRight_8, u_X10_findRight_9, u_X10_findRight_10, u_X10_findRight_11, u_X10_findRight_14, u_X10_findRight_16, u_X10_findRight_18, u_X10_findRight_21, u_X10_findRight_22, u_X10_findRight_25, u_X10_findRight_26, u_X10_findRight_27, u_X10_findRight_30, u_X10_findRight_31, u_X10_findRight_32, u_X10_findRight_35, u_X10_findRight_36, u_X10_findRight_39, u_X10_findRight_40, u_X10_findRight_43, u_X10_findRight_44, u_X10_findRight_46, u_X10_findRight_49, u_X10_findRight_50, u_X10_findRight_53, u_X10_findRight_56, u_X10_findRight_59, u_X10_findRight_60, u_X10_findRight_63, u_X10_findRight_66, u_X10_findRight_67, u_X10_findRight_70, az_un_i, az_un_r, az_un_n, az_un_l, Option.toList_some, Option.toList_none, List.cons_append, List.nil_append, List.length_cons, List.length_nil, Nat.reduceLeDiff, Nat.reduceAdd, Nat.zero_le, Nat.zero_add, and_true, true_and, zb_1, eq_self, h1, if_false, az_call hO, az_call hh, az_call s_X3_highEnd, az_call s_X3_lowEnd, kx_96, zinT hk (by decide), zcl hk (by decide)]
    by_cases g : o = 0
    · rw [if_pos g] at ih
      rw [if_pos g, r4]; exact ih _
    · obtain ⟨o3, o4⟩ := o2 g
      rw [if_neg g] at ih
      rw [if_neg g, o3, o4]
      by_cases g2 : 0 < o
      · rw [if_pos g2] at ih
        rw [if_neg (Int32.not_le.mpr g2)]; exact ih _
      · rw [if_neg g2] at ih
        rw [if_pos (Int32.not_lt.mp g2)]; exact ih _
  · have h1 : (8 : Int32) ≤ nI 8 := by decide
    have hG1 := hG.fr fr
    have ev : ∀ i, i < 8 → zrt I m nl e i = J 96 i := fun i hi => (a1 i hi).symm
    have er : ∀ k, zrl J (nI m) k e = zrl I (nI m) k e := fun k => zrl_fr (fr.rw 37 (by omega)) (fun k hk => fr.rw (39 + k) (by omega)) e he
    obtain ⟨J2, L2, h2, p1, p2, p3, p4⟩ := s_X5_findOf (d := d + 1) (I := J) (L := L) (r := 96) (f := f) (m := m) hG1.2.2.2.1 kx_96 (by decide) (by decide) hf (zVr_c ev (zVr_rt hG hm)) hc hl ((er 0).trans ec) ((er 1).trans el)
    rw [← zok_c ev, zok_rt hG] at h2 p4
    rw [← zS_c ev, ← zK_c ev, zK_rt hG] at p4
    simp only [u_X10_findRight_2]
    simp only [u_X10_findRight_3, u_X10_findRight_5, u_X10_findRight_73, u_X10_findRight_74, u_X10_findRight_77, u_X10_findRight_78, u_X10_findRight_81, u_X10_findRight_82, u_X10_findRight_83, u_X10_findRight_86, az_un_i, az_un_r, az_un_n, az_un_l, Option.toList_some, Option.toList_none, List.cons_append, List.nil_append, List.length_cons, List.length_nil, Nat.reduceLeDiff, Nat.reduceAdd, Nat.zero_le, Nat.zero_add, and_true, true_and, zb_1, eq_self, h1, if_true, kx_96, hf, az_call h2, zR_at]
    exact ⟨fr.tr p1.fr, p4⟩
theorem s_X11_findRight {m c l t e nl nr n cc w : Nat} (hG : zG I t e nl nr n cc w) (hm : m < 30) (hc : c ≤ 3) (hl : l ≤ 8) (ec : zrl I (nI m) 0 e = nI c) (el : zrl I (nI m) 1 e = nI l) : zE (d + 6) 182 [.ref 97, .int (nI m)] I L (some (.int (zb (zok (I (4 + m)) c l = true)))) (fun J L' => L' = L ∧ zFr I J ∧ J 97 14 = nI (zS (zrt I m nl e) c) ∧ J 97 15 = nI (zK (I (4 + m))) - nI (2 * c)) := by
  refine zE_of zm_X11_findRight rfl ?_
  show az_W _ _ _ 0 [.ref 97, .int (nI m), .null, .null] [] _
  have he := hG.2.2.2.1.2.2.2.2.2.1
  obtain ⟨J0, L1, h0, q0, f0, e0⟩ := s_X11_layMorning (d := d + 4) (I := I) (L := L) hm
  subst q0
  simp only [u_X11_findRight_0, u_X11_findRight_1, u_X11_findRight_2, u_X11_findRight_5, u_X11_findRight_6, az_un_i, az_un_r, az_un_n, az_un_l, Option.toList_some, Option.toList_none, List.cons_append, List.nil_append, List.length_cons, List.length_nil, Nat.reduceLeDiff, Nat.reduceAdd, Nat.zero_le, Nat.zero_add, and_true, true_and, zb_1, eq_self, az_call h0]
  refine zloop (P := fun k => ∀ J v3, zFr I J → (∀ h, h < k → J 106 h = zrt I m nl e h) → (∀ h, k ≤ h → h < 8 → J 106 h = I (4 + m) h) → az_W (zD (d + 5)) _ _ 7 [.ref 97, .int (nI m), .int (nI k), v3] [] (130, az_Pf, J, L1)) 8 (fun k hk ih J v3 fr a1 a2 => ?_) (fun J v3 fr a1 a2 => ?_) 0 (Nat.zero_le _) J0 _ (f0.fr zscr106) (fun h hh => absurd hh (Nat.not_lt_zero _)) (fun h _ hh => by rw [e0 h hh]; exact (hG.1 m hm h hh).1.symm)
  · have h1 : ¬ (8 : Int32) ≤ nI k := nI_ge (b := 8) hk (by decide)
    have hO := s_X11_outOf (d := d) (L := L1) (hG.fr fr) hk hm
    have eo : zOA J k m nl e = zOA I k m nl e := zOA_fr fr hm he
    have et : zrt J m nl e k = zrt I m nl e k := zrt_fr fr hm he
    have o2 := fun g : zOA J k m nl e ≠ 0 => zOM_h g
    obtain ⟨J2, ej⟩ : ∃ J2, J2 = zOM J k m nl (zrl J (nI m) 2 e) := ⟨_, rfl⟩
    have fr2 : zFr I J2 := by rw [ej]; exact fr.tr zOM_fr
    have r2 : J2 106 = J 106 := by rw [ej]; exact zOM_row (by decide)
    have r4 : J (4 + m) = I (4 + m) := fr.rw (4 + m) (by omega)
    have ek := a2 k (Nat.le_refl _) hk
    rw [← r4] at ek
    rw [← ej] at hO o2
    rw [nI_succ] at ih
    have ih := fun v3 => ih (az_uI J2 106 k (zrt I m nl e k)) v3 (fr2.up rfl) (fun h hh => by
      rw [az_uI_at]
      by_cases c : h = k
      · rw [if_pos ⟨rfl, c⟩, c]
      · rw [if_neg (by omega), r2]; exact a1 h (by omega)) (fun h h3 h4 => by rw [az_uI_at, if_neg (by omega), r2]; exact a2 h (by omega) h4)
    obtain ⟨o, eoo⟩ : ∃ o, o = zOA J k m nl e := ⟨_, rfl⟩
    have ec3 : o = 0 ∨ o = 1 ∨ o = -1 := by rw [eoo]; exact zOut_c _ _ _ _
    rw [← et] at ih
    unfold zrt at ih
    rw [← eoo] at ih hO o2
    simp only [u_X11_findRight_7]
    simp only [u_X11_findRight_8, u_X11_findRight_10, u_X11_findRight_13, u_X11_findRight_14, u_X11_findRight_15, u_X11_findRight_16, u_X11_findRight_19, u_X11_findRight_20, u_X11_findRight_21, u_X11_findRight_24, u_X11_findRight_25, u_X11_findRight_26, u_X11_findRight_29, u_X11_findRight_30, u_X11_findRight_33, u_X11_findRight_36, u_X11_findRight_37, u_X11_findRight_40, u_X11_findRight_41, u_X11_findRight_44, u_X11_findRight_47, u_X11_findRight_48, u_X11_findRight_51, u_X11_findRight_52, u_X11_findRight_53, u_X11_findRight_54, u_X11_findRight_57, az_un_i, az_un_r, az_un_n, az_un_l, Option.toList_some, Option.toList_none, List.cons_append, List.nil_append, List.length_cons, List.length_nil, Nat.reduceLeDiff, Nat.reduceAdd, Nat.zero_le, Nat.zero_add, and_true, true_and, zb_1, eq_self, h1, if_false, az_call hO, kx_106, zinT hk (by decide), zcl hk (by decide), r2, ek]
    clear eoo
    rcases ec3 with rfl | rfl | rfl
    · rw [if_pos (by decide), if_pos (by decide)]
      rw [if_pos rfl] at ih; exact ih _
    · obtain ⟨o3, o4⟩ := o2 (by decide)
      rw [if_neg (by decide), o4]
      rw [if_neg (by decide), if_pos (by decide)] at ih; exact ih _
    · obtain ⟨o3, o4⟩ := o2 (by decide)
      rw [if_pos (by decide), if_neg (by decide), o3]
      rw [if_neg (by decide), if_neg (by decide)] at ih; exact ih _
  · have h1 : (8 : Int32) ≤ nI 8 := by decide
    have hG1 := hG.fr fr
    have ev : ∀ i, i < 8 → zrt I m nl e i = J 106 i := fun i hi => (a1 i hi).symm
    have er : ∀ k, zrl J (nI m) k e = zrl I (nI m) k e := fun k => zrl_fr (fr.rw 37 (by omega)) (fun k hk => fr.rw (39 + k) (by omega)) e he
    obtain ⟨J2, L2, h2, q0, f2, e2, e3, e4, e5⟩ := s_X11_findRateOn (d := d + 3) (I := J) (L := L1) (m := m) hG1.2.2.2.1 hG1.2.1 (zVr_c ev (zVr_rt hG hm)) hc hl ((er 0).trans ec) ((er 1).trans el)
    subst q0
    rw [← zok_c ev, zok_rt hG] at h2
    rw [← zS_c ev] at e4
    rw [← zK_c ev, zK_rt hG] at e5
    simp only [u_X11_findRight_7]
    simp only [u_X11_findRight_8, u_X11_findRight_10, u_X11_findRight_60, u_X11_findRight_61, u_X11_findRight_62, u_X11_findRight_65, az_un_i, az_un_r, az_un_n, az_un_l, Option.toList_some, Option.toList_none, List.cons_append, List.nil_append, List.length_cons, List.length_nil, Nat.reduceLeDiff, Nat.reduceAdd, Nat.zero_le, Nat.zero_add, and_true, true_and, zb_1, eq_self, h1, if_true, az_call h2, zR_at]
    exact ⟨fr.tr f2.fr, e4, e5⟩
/-- the answer of right -/
def zAri (I : Nat → Nat → Int32) (m nl e c l : Nat) (x : Int32) : Int64 := if zok (I (4 + m)) c l then zfP (zS (zrt I m nl e) c) (zK (I (4 + m)) - 2 * c) x else -1099511627780
theorem s_X10_right_bad {x y : Int32} (hb : ¬ ((0 ≤ x.toInt ∧ x.toInt ≤ 29) ∧ (0 ≤ y.toInt ∧ y.toInt ≤ 1))) : zD (d + 7) 110 [.ref 0, .int x, .int y] (130, az_Pf, I, L) (some (.long (-1099511627777))) (130, az_Pf, I, L) := by
  refine zD_of zm_X10_right rfl ?_
  show az_W _ _ _ 0 [.ref 0, .int x, .int y] [] _
  simp only [u_X10_right_0, u_X10_right_1, u_X10_right_4, u_X10_right_7, u_X10_right_8, u_X10_right_11, u_X10_right_14, u_X10_right_17, u_X10_right_18, u_X10_right_19, u_X10_right_20, u_X10_right_21, u_X10_right_24, u_X10_right_27, u_X10_right_30, u_X10_right_31, u_X10_right_34, u_X10_right_35, u_X10_right_38, u_X10_right_41, u_X10_right_44, az_un_i, az_un_r, az_un_n, az_un_l, Option.toList_some, Option.toList_none, List.cons_append, List.nil_append, List.length_cons, List.length_nil, Nat.reduceLeDiff, Nat.reduceAdd, Nat.zero_le, Nat.zero_add, and_true, true_and, zb_1, eq_self, zb_0, az_call s_X10_isMorning, az_call s_X10_isBit]
  by_cases h1 : 0 ≤ x.toInt ∧ x.toInt ≤ 29 <;> by_cases h2 : 0 ≤ y.toInt ∧ y.toInt ≤ 1 <;> simp only [h1, h2, and_self, and_true, true_and, if_true, if_false, not_true, not_false_iff, not_true_eq_false, not_false_eq_true, ite_true, ite_false]
  exact absurd ⟨h1, h2⟩ hb
theorem s_X11_right_bad {x y : Int32} (hb : ¬ ((0 ≤ x.toInt ∧ x.toInt ≤ 29) ∧ (0 ≤ y.toInt ∧ y.toInt ≤ 1))) : zD (d + 7) 183 [.ref 97, .int x, .int y] (130, az_Pf, I, L) (some (.long (-1099511627777))) (130, az_Pf, I, L) := by
  refine zD_of zm_X11_right rfl ?_
  show az_W _ _ _ 0 [.ref 97, .int x, .int y] [] _
  simp only [u_X11_right_0, u_X11_right_1, u_X11_right_4, u_X11_right_7, u_X11_right_8, u_X11_right_11, u_X11_right_14, u_X11_right_17, u_X11_right_18, u_X11_right_19, u_X11_right_20, u_X11_right_23, u_X11_right_26, u_X11_right_27, u_X11_right_30, u_X11_right_31, u_X11_right_32, u_X11_right_35, u_X11_right_36, u_X11_right_37, u_X11_right_40, u_X11_right_43, u_X11_right_46, az_un_i, az_un_r, az_un_n, az_un_l, Option.toList_some, Option.toList_none, List.cons_append, List.nil_append, List.length_cons, List.length_nil, Nat.reduceLeDiff, Nat.reduceAdd, Nat.zero_le, Nat.zero_add, and_true, true_and, zb_1, eq_self, zb_0, az_call s_X11_isMorning, az_call s_X11_isWhat]
  by_cases h1 : 0 ≤ x.toInt ∧ x.toInt ≤ 29 <;> by_cases h2 : 0 ≤ y.toInt ∧ y.toInt ≤ 1 <;> simp only [h1, h2, and_self, and_true, true_and, if_true, if_false, not_true, not_false_iff, not_true_eq_false, not_false_eq_true, ite_true, ite_false]
  exact absurd ⟨h1, h2⟩ hb
theorem s_X10_right {m c l t e nl nr n cc w : Nat} {x : Int32} (hG : zG I t e nl nr n cc w) (hm : m < 30) (hx : 0 ≤ x.toInt ∧ x.toInt ≤ 1) (hc : c ≤ 3) (hl : l ≤ 8) (ec : zrl I (nI m) 0 e = nI c) (el : zrl I (nI m) 1 e = nI l) : zE (d + 7) 110 [.ref 0, .int (nI m), .int x] I L (some (.long (zAri I m nl e c l x))) (fun J _ => zFr I J) := by
  refine zE_of zm_X10_right rfl ?_
  show az_W _ _ _ 0 [.ref 0, .int (nI m), .int x] [] _
  obtain ⟨J, L', hk, q1, q4⟩ := s_X10_findRight (d := d) (L := L) (f := 94) hG hm kx_94 hc hl ec el
  simp only [u_X10_right_0, u_X10_right_1, u_X10_right_4, u_X10_right_7, u_X10_right_8, u_X10_right_11, u_X10_right_14, u_X10_right_17, u_X10_right_18, u_X10_right_19, u_X10_right_20, u_X10_right_21, u_X10_right_24, u_X10_right_27, u_X10_right_30, u_X10_right_31, u_X10_right_34, u_X10_right_35, u_X10_right_38, u_X10_right_41, u_X10_right_44, az_un_i, az_un_r, az_un_n, az_un_l, Option.toList_some, Option.toList_none, List.cons_append, List.nil_append, List.length_cons, List.length_nil, Nat.reduceLeDiff, Nat.reduceAdd, Nat.zero_le, Nat.zero_add, and_true, true_and, zb_1, eq_self, az_call s_X10_isMorning, az_call s_X10_isBit, zb_0, (eq_true (by rw [nI_toInt (by omega)]; omega) : (0 ≤ (nI m).toInt ∧ (nI m).toInt ≤ 29) = True), eq_true hx, and_self, and_true, true_and, if_true, if_false, not_true, not_false_iff, not_true_eq_false, not_false_eq_true, ite_true, ite_false, az_call hk, kx_94, az_call (s_X2_part kx_94), zR_at]
  unfold zAri
  cases hz : zok (I (4 + m)) c l
  · simp [q1]
  · rw [hz] at q4
    simp only [if_true] at q4
    rw [q4]
    simp only [not_true, not_true_eq_false, if_false, if_true, zLs_p]
    exact ⟨trivial, q1⟩
theorem s_X11_right {m c l t e nl nr n cc w : Nat} {x : Int32} (hG : zG I t e nl nr n cc w) (hm : m < 30) (hx : 0 ≤ x.toInt ∧ x.toInt ≤ 1) (hc : c ≤ 3) (hl : l ≤ 8) (ec : zrl I (nI m) 0 e = nI c) (el : zrl I (nI m) 1 e = nI l) : zE (d + 7) 183 [.ref 97, .int (nI m), .int x] I L (some (.long (zAri I m nl e c l x))) (fun J _ => zFr I J) := by
  refine zE_of zm_X11_right rfl ?_
  show az_W _ _ _ 0 [.ref 97, .int (nI m), .int x] [] _
  obtain ⟨J2, L2, h2, q0, f2, e4, e5⟩ := s_X11_findRight (d := d) (L := L) hG hm hc hl ec el
  subst q0
  simp only [u_X11_right_0, u_X11_right_1, u_X11_right_4, u_X11_right_7, u_X11_right_8, u_X11_right_11, u_X11_right_14, u_X11_right_17, u_X11_right_18, u_X11_right_19, u_X11_right_20, u_X11_right_23, u_X11_right_26, u_X11_right_27, u_X11_right_30, u_X11_right_31, u_X11_right_32, u_X11_right_35, u_X11_right_36, u_X11_right_37, u_X11_right_40, u_X11_right_43, u_X11_right_46, az_un_i, az_un_r, az_un_n, az_un_l, Option.toList_some, Option.toList_none, List.cons_append, List.nil_append, List.length_cons, List.length_nil, Nat.reduceLeDiff, Nat.reduceAdd, Nat.zero_le, Nat.zero_add, and_true, true_and, zb_1, eq_self, az_call s_X11_isMorning, az_call s_X11_isWhat, zb_0, (eq_true (by rw [nI_toInt (by omega)]; omega) : (0 ≤ (nI m).toInt ∧ (nI m).toInt ≤ 29) = True), eq_true hx, and_self, and_true, true_and, if_true, if_false, not_true, not_false_iff, not_true_eq_false, not_false_eq_true, ite_true, ite_false, az_call h2, e4, e5]
  unfold zAri
  cases hz : zok (I (4 + m)) c l
  · simp only [Bool.false_eq_true, if_false, not_false_eq_true, if_true, zR_at]
    exact ⟨trivial, f2⟩
  · have hz' := zok_i.mp hz
    have b := zS_8 (zVr_rt hG hm) c
    have hK := zK_le (v := I (4 + m))
    have ht := s_X11_told (d := d + 4) (h := (130, az_Pf, J2, L2)) (B := zK (I (4 + m)) - 2 * c) (a := (nI (zS (zrt I m nl e) c)).toInt64) (b := (nI (zK (I (4 + m)) - 2 * c)).toInt64) (A := (zS (zrt I m nl e) c : Int)) (x := x) (by rw [z64, nI_toInt (by omega)]) (zil (by omega)) (by omega) (by omega) (by omega) (by omega)
    simp only [if_true, pk_sub (show 2 * c ≤ zK (I (4 + m)) by omega), az_call ht, not_true, not_true_eq_false, if_false, zR_at, u_X11_right_40, u_X11_right_43, u_X11_right_46, az_un_i, az_un_r, az_un_n, az_un_l, Option.toList_some, Option.toList_none, List.cons_append, List.nil_append, List.length_cons, List.length_nil, Nat.reduceLeDiff, Nat.reduceAdd, Nat.zero_le, Nat.zero_add, and_true, true_and, zb_1, eq_self]
    exact f2
end S
theorem op_right (x y : Int32) : zOpL 110 183 [.int x, .int y] := by
  refine zOpL_of (fun I L hI => ?_)
  obtain ⟨t, e, nl, nr, n, cc, w, hG⟩ := zInv_G hI
  by_cases hb : (0 ≤ x.toInt ∧ x.toInt ≤ 29) ∧ (0 ≤ y.toInt ∧ y.toInt ≤ 1)
  · obtain ⟨h1, h2⟩ := hb
    obtain ⟨m, hm, rfl⟩ := znat h1.1 (n := 29) h1.2 (by decide)
    obtain ⟨c, l, s, hc, -, hl, -, ec, el, -⟩ := zrl_rg hG.2.2.2.1 (nI m) e (Nat.le_refl _)
    refine ⟨_, s_X10_right (d := 2) hG (by omega) h2 hc hl ec el, fun J M f => ?_⟩
    have he := hG.2.2.2.1.2.2.2.2.2.1
    have er : ∀ k, zrl J (nI m) k e = zrl I (nI m) k e := fun k => zrl_fr (f.rw 37 (by omega)) (fun k hk => f.rw (39 + k) (by omega)) e he
    have et : zAri J m nl e c l y = zAri I m nl e c l y := by
      unfold zAri
      rw [f.rw (4 + m) (by omega), show zrt J m nl e = zrt I m nl e from funext fun h => zrt_fr f (by omega) he]
    rw [← et]
    exact s_X11_right (d := 2) (hG.fr f) (by omega) h2 hc hl ((er 0).trans ec) ((er 1).trans el)
  · exact ⟨_, zE_D (s_X10_right_bad (d := 2) hb) zFr.rf, fun J M f => zE_D (s_X11_right_bad (d := 2) hb) zFr.rf⟩
