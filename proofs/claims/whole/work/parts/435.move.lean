/-! ===== move ===== -/
theorem zso_cn {v : Nat → Int32} : ∀ h, (zso v h).1 = zcn (fun i => decide (v i ≠ -1)) h
  | 0 => rfl
  | h + 1 => by
    rw [zso, zcn, ← zso_cn h]
    by_cases g : v h = -1
    · rw [if_pos g, if_neg (by simp [g])]
    · rw [if_neg g, if_pos (by simp [g])]
theorem zK_p {v w : Nat → Int32} (h : ∀ i, i < 8 → (v i = -1 ↔ w i = -1)) : zK v = zK w := by
  unfold zK; rw [zso_cn, zso_cn]
  refine zcn_c (fun k hk => ?_)
  simp only [ne_eq, h k hk]
theorem zen_n {w : Int32} : zen w ≠ -1 := by unfold zen; split <;> decide
theorem zbn_p {v : Nat → Int32} {g : Nat} {w : Int32} (i : Nat) : zbn v g w i = -1 ↔ v i = -1 := by
  unfold zbn; split
  · rename_i h
    exact ⟨fun e => absurd e zen_n, fun e => absurd e h.1⟩
  · exact Iff.rfl
theorem zK_bn {v : Nat → Int32} {g : Nat} {w : Int32} : zK (zbn v g w) = zK v := zK_p (fun i _ => zbn_p i)
theorem zok_bn {v : Nat → Int32} {g c l : Nat} {w : Int32} : zok (zbn v g w) c l = zok v c l := by unfold zok; rw [zK_bn]
/-- by how much the sum moves -/
def zmv (v : Nat → Int32) (g : Nat) (y : Int32) (c : Nat) : Int := if y = 0 then (zS v c : Int) - zS (zbn v g y) c else (zS (zbn v g y) c : Int) - zS v c
def zmI (v : Nat → Int32) (g : Nat) (y : Int32) (c : Nat) : Int32 := if y = 0 then nI (zS v c) - nI (zS (zbn v g y) c) else nI (zS (zbn v g y) c) - nI (zS v c)
theorem zS_8 {v : Nat → Int32} (hv : zVr v) (c : Nat) : zS v c ≤ 7992 := by
  have := zS_b hv c
  have := zK_le (v := v)
  have : 999 * (zK v - 2 * c) ≤ 999 * 8 := Nat.mul_le_mul_left _ (by omega)
  omega
theorem zmv_b {v : Nat → Int32} {g c : Nat} {y : Int32} (hv : zVr v) : -7992 ≤ zmv v g y c ∧ zmv v g y c ≤ 7992 := by
  have h1 := zS_8 hv c
  have h2 := zS_8 (zVr_bn (g := g) (w := y) hv) c
  unfold zmv; split <;> omega
theorem zmI_t {v : Nat → Int32} {g c : Nat} {y : Int32} (hv : zVr v) : (zmI v g y c).toInt = zmv v g y c := by
  have h1 := zS_8 hv c
  have h2 := zS_8 (zVr_bn (g := g) (w := y) hv) c
  unfold zmI zmv; split <;> exact pk_sub_toInt (by omega) (by omega)
theorem zFb_mv {v : Nat → Int32} {g c l : Nat} {y : Int32} (hv : zVr v) (hz : zok v c l = true) : zFb (zmv v g y c) (zK v - 2 * c) := by
  have h1 := zmv_b (g := g) (c := c) (y := y) hv
  have h2 := zok_i.mp hz
  have h3 := zK_le (v := v)
  exact ⟨by omega, by omega, by omega, by omega⟩
theorem zFb_S {v : Nat → Int32} {c l : Nat} (hv : zVr v) (hz : zok v c l = true) : zFb (zS v c) (zK v - 2 * c) := by
  have h1 := zS_8 hv c
  have h2 := zok_i.mp hz
  have h3 := zK_le (v := v)
  exact ⟨by omega, by omega, by omega, by omega⟩
/-- but for what the reference's findMove writes -/
def zFM (I J : Nat → Nat → Int32) : Prop := ∀ b j, b ≠ 106 → b ≠ 107 → (b ≠ 97 ∨ (j ≠ 13 ∧ j ≠ 14 ∧ j ≠ 15 ∧ j ≠ 16)) → J b j = I b j
theorem zFM.rf {I : Nat → Nat → Int32} : zFM I I := fun _ _ _ _ _ => rfl
theorem zFM.tr {I J K : Nat → Nat → Int32} (h1 : zFM I J) (h2 : zFM J K) : zFM I K := fun a j p q r => (h2 a j p q r).trans (h1 a j p q r)
theorem zFM.fr {I J : Nat → Nat → Int32} (h : zFM I J) : zFr I J := fun a j hs => h a j (zscr_m hs).2.1 (zscr_m hs).1 (zscr_m hs).2.2
theorem zF1.M {I J : Nat → Nat → Int32} (h : zF1 106 I J) : zFM I J := fun a j p _ _ => by rw [h a p]
theorem zFm.M {I J : Nat → Nat → Int32} (h : zFm I J) : zFM I J := fun a j _ p q => h a j p (by omega)
theorem zFM.u {I J : Nat → Nat → Int32} {v : Int32} (h : zFM I J) : zFM I (az_uI J 97 16 v) := fun b k h1 h2 h3 => by rw [az_uI_at, if_neg (by omega)]; exact h b k h1 h2 h3
section S
variable {d : Nat} {I : Nat → Nat → Int32} {L : Nat → Nat → Int64} {h : az_H}
theorem s_X5_findMove {g m c l f t e nl nr n cc w : Nat} {y : Int32} (hG : zG I t e nl nr n cc w) (hm : m < 30) (hg : g < 256) (hf : az_kn 130 f = (0, 2)) (f1 : f ≠ 45) (f2 : f ≠ 46) (hc : c ≤ 3) (hl : l ≤ 8) (el : zrl I (nI m) 1 e = nI l) : zE (d + 4) 47 [.ref 1, .int (nI g), .int (nI m), .int y, .int (nI c), .ref f] I L (some (.int (zb (zok (I (4 + m)) c l = true)))) (fun J L' => zFr I J ∧ (zok (I (4 + m)) c l = true → zFc L' f (zmv (I (4 + m)) g y c) (zK (I (4 + m)) - 2 * c)) ∧ ∀ q, q ≠ 45 → q ≠ 46 → q ≠ f → L' q = L q) := by
  refine zE_of zm_X5_findMove rfl ?_
  show az_W _ _ _ 0 [.ref 1, .int (nI g), .int (nI m), .int y, .int (nI c), .ref f, .null] [] _
  have hv := hG.vr hm
  have c1 : zD (d + 3) 60 [.ref 35, .int (nI m), .int 1] (130, az_Pf, I, L) (some (.int (nI l))) (130, az_Pf, I, L) := el ▸ s_X6_inForce hG.2.2.2.1 (w := 1) (by decide)
  obtain ⟨J1, L1, h1, p1, p2, p3, p4⟩ := s_X4_findMean (d := d) (I := I) (L := L) (r := 4 + m) (f := 45) (kx_m hm) (by omega) (by omega) kx_45 hv hc hl
  obtain ⟨J2, L2, h2, q0, q1, q2⟩ := s_X5_bend (d := d + 1) (I := J1) (L := L1) (m := m) (g := g) (y := y) hm hg
  subst q0
  have e4 := p1.row (r := 4 + m) (by omega) (by omega)
  rw [e4] at q2
  obtain ⟨v, ev⟩ : ∃ v, v = I (4 + m) := ⟨_, rfl⟩
  rw [← ev] at h1 p2 p3 p4 q2 hv ⊢
  have ee : ∀ i, i < 8 → zbn v g y i = J2 44 i := fun i hi => (q2 i hi).symm
  obtain ⟨J3, L3, h3, r1, r2, r3, r4⟩ := s_X4_findMean (d := d) (I := J2) (L := L2) (r := 44) (f := 46) (c := c) (l := l) kx_44 (by omega) (by omega) kx_46 (zVr_c ee (zVr_bn hv)) hc hl
  rw [← zok_c ee, zok_bn] at h3 r4
  rw [← zS_c ee, ← zK_c ee, zK_bn] at r4
  simp only [u_X5_findMove_0, u_X5_findMove_1, u_X5_findMove_4, u_X5_findMove_5, u_X5_findMove_6, u_X5_findMove_9, u_X5_findMove_11, u_X5_findMove_12, u_X5_findMove_15, u_X5_findMove_16, u_X5_findMove_19, u_X5_findMove_20, u_X5_findMove_23, u_X5_findMove_25, u_X5_findMove_27, u_X5_findMove_28, u_X5_findMove_31, u_X5_findMove_34, u_X5_findMove_37, u_X5_findMove_38, u_X5_findMove_39, u_X5_findMove_40, u_X5_findMove_41, u_X5_findMove_42, u_X5_findMove_43, u_X5_findMove_46, u_X5_findMove_47, u_X5_findMove_50, u_X5_findMove_51, u_X5_findMove_54, u_X5_findMove_56, u_X5_findMove_58, u_X5_findMove_59, u_X5_findMove_62, u_X5_findMove_65, u_X5_findMove_68, u_X5_findMove_69, az_un_i, az_un_r, az_un_n, az_un_l, Option.toList_some, Option.toList_none, List.cons_append, List.nil_append, List.length_cons, List.length_nil, Nat.reduceLeDiff, Nat.reduceAdd, Nat.zero_le, Nat.zero_add, and_true, true_and, zb_1, eq_self, az_call c1, az_call (s_X4_rowOf hm), kx_m hm, kx_44, kx_45, kx_46, az_call h1, az_call h2, az_call h3, zb_0]
  cases hz : zok v c l
  · rw [hz] at p4
    simp only [Bool.false_eq_true, if_false] at p4
    simp only [Bool.false_eq_true, not_false_eq_true, if_true, if_false, zR_at, zb, false_implies, true_and, true_or]
    exact ⟨p1.fr, fun q _ _ _ => by rw [p4]⟩
  · rw [hz] at p4 r4
    simp only [if_true] at p4 r4
    have fr : zFr I J3 := (p1.fr.tr (q1.fr zscr44)).tr r1.fr
    have b1 := zFb_S hv hz
    have b2 := zFb_S (v := zbn v g y) (c := c) (l := l) (zVr_bn hv) (by rw [zok_bn]; exact hz)
    rw [zK_bn] at b2
    have a1 : zFc L3 45 (zS v c) (zK v - 2 * c) := by rw [r4, p4]; exact zFc_n zFc_s (by decide)
    have a2 : zFc L3 46 (zS (zbn v g y) c) (zK v - 2 * c) := by rw [r4]; exact zFc_s
    have fin : ∀ (A : Int) (B : Nat), 0 < B → A * ((zK v - 2 * c : Nat) : Int) = zmv v g y c * B → zFc (zLs L3 f A B) f (zmv v g y c) (zK v - 2 * c) ∧ ∀ q, q ≠ 45 → q ≠ 46 → q ≠ f → zLs L3 f A B q = L q := by
      intro A B hB e
      refine ⟨?_, fun q n1 n2 n3 => ?_⟩
      · rw [zLs_e hB b1.1 e]; exact zFc_s
      · funext j; rw [zLs_n n3, r4, zLs_n n2, p4, zLs_n n1]
    have bb : 0 < (zK v - 2 * c) * (zK v - 2 * c) := Nat.mul_pos b1.1 b1.1
    simp only [not_true, not_true_eq_false, if_false, zb, if_true, true_implies]
    by_cases gy : y = 0
    · obtain ⟨t1, t2⟩ := fin ((zS v c : Int) * ((zK v - 2 * c : Nat) : Int) - (zS (zbn v g y) c : Int) * ((zK v - 2 * c : Nat) : Int)) _ bb (by
        unfold zmv; rw [if_pos gy, Int.natCast_mul]; grind)
      simp only [u_X5_findMove_70, u_X5_findMove_71, u_X5_findMove_74, u_X5_findMove_76, u_X5_findMove_77, u_X5_findMove_80, u_X5_findMove_81, u_X5_findMove_84, u_X5_findMove_87, u_X5_findMove_90, u_X5_findMove_92, u_X5_findMove_93, u_X5_findMove_96, u_X5_findMove_97, u_X5_findMove_100, u_X5_findMove_103, u_X5_findMove_104, az_un_i, az_un_r, az_un_n, az_un_l, Option.toList_some, Option.toList_none, List.cons_append, List.nil_append, List.length_cons, List.length_nil, Nat.reduceLeDiff, Nat.reduceAdd, Nat.zero_le, Nat.zero_add, and_true, true_and, zb_1, eq_self, gy, if_true, hf, kx_45, kx_46, az_call (s_X2_putDifference hf kx_45 kx_46 a1 a2 b1 b2), zR_at, or_true, true_and]
      rw [gy] at t1 t2
      exact ⟨fr, t1, t2⟩
    · obtain ⟨t1, t2⟩ := fin ((zS (zbn v g y) c : Int) * ((zK v - 2 * c : Nat) : Int) - (zS v c : Int) * ((zK v - 2 * c : Nat) : Int)) _ bb (by
        unfold zmv; rw [if_neg gy, Int.natCast_mul]; grind)
      simp only [u_X5_findMove_70, u_X5_findMove_71, u_X5_findMove_74, u_X5_findMove_76, u_X5_findMove_77, u_X5_findMove_80, u_X5_findMove_81, u_X5_findMove_84, u_X5_findMove_87, u_X5_findMove_90, u_X5_findMove_92, u_X5_findMove_93, u_X5_findMove_96, u_X5_findMove_97, u_X5_findMove_100, u_X5_findMove_103, u_X5_findMove_104, az_un_i, az_un_r, az_un_n, az_un_l, Option.toList_some, Option.toList_none, List.cons_append, List.nil_append, List.length_cons, List.length_nil, Nat.reduceLeDiff, Nat.reduceAdd, Nat.zero_le, Nat.zero_add, and_true, true_and, zb_1, eq_self, gy, if_false, hf, kx_45, kx_46, az_call (s_X2_putDifference hf kx_46 kx_45 a2 a1 b2 b1), zR_at, or_true, true_and]
      exact ⟨fr, t1, t2⟩
theorem s_X11_findMove {g m c l t e nl nr n cc w : Nat} {y : Int32} (hG : zG I t e nl nr n cc w) (hm : m < 30) (hg : g < 256) (hc : c ≤ 3) (hl : l ≤ 8) (el : zrl I (nI m) 1 e = nI l) : zE (d + 2) 162 [.ref 97, .int (nI g), .int (nI m), .int y, .int (nI c)] I L (some (.int (zb (zok (I (4 + m)) c l = true)))) (fun J L' => L' = L ∧ zFM I J ∧ (zok (I (4 + m)) c l = true → J 97 16 = zmI (I (4 + m)) g y c ∧ J 97 15 = nI (zK (I (4 + m)) - 2 * c))) := by
  refine zE_of zm_X11_findMove rfl ?_
  show az_W _ _ _ 0 [.ref 97, .int (nI g), .int (nI m), .int y, .int (nI c), .null, .null, .null] [] _
  obtain ⟨J1, L1, h1, q0, f1, e1⟩ := s_X11_layMorning (d := d) (I := I) (L := L) hm
  subst q0
  have fr1 := f1.fr zscr106
  have hG1 := hG.fr fr1
  have c1 : zD (d + 1) 154 [.ref 97, .int (nI m), .int 1] (130, az_Pf, J1, L1) (some (.int (nI l))) (130, az_Pf, J1, L1) := by
    have := s_X11_ruleOn (d := d) (I := J1) (L := L1) (m := nI m) (w := 1) hG1.2.2.2.1 hG1.2.1 (by decide)
    rw [zrl_fr (fr1.rw 37 (by omega)) (fun k hk => fr1.rw (39 + k) (by omega)) e hG.2.2.2.1.2.2.2.2.2.1, el] at this
    exact this
  have hv := hG.vr hm
  have ev : ∀ h, h < 8 → I (4 + m) h = J1 106 h := fun h hh => by rw [e1 h hh]; exact (hG.1 m hm h hh).1
  obtain ⟨v, hvv⟩ : ∃ v, v = I (4 + m) := ⟨_, rfl⟩
  rw [← hvv] at ev hv ⊢
  obtain ⟨J2, L2, h2, q0, f2, g1, g2, g3, g4⟩ := s_X11_findRate (d := d) (I := J1) (L := L1) (c := c) (l := l) (zVr_c ev hv) hc hl
  subst q0
  rw [← zok_c ev] at h2
  rw [← zK_c ev] at g1 g4
  rw [← zS_c ev] at g3
  have er := f2.row (r := 106) (by decide) (by decide)
  simp only [u_X11_findMove_0, u_X11_findMove_1, u_X11_findMove_2, u_X11_findMove_5, u_X11_findMove_6, u_X11_findMove_7, u_X11_findMove_8, u_X11_findMove_11, u_X11_findMove_13, u_X11_findMove_14, u_X11_findMove_16, u_X11_findMove_18, u_X11_findMove_21, u_X11_findMove_24, u_X11_findMove_25, u_X11_findMove_26, u_X11_findMove_27, u_X11_findMove_30, u_X11_findMove_32, u_X11_findMove_33, az_un_i, az_un_r, az_un_n, az_un_l, Option.toList_some, Option.toList_none, List.cons_append, List.nil_append, List.length_cons, List.length_nil, Nat.reduceLeDiff, Nat.reduceAdd, Nat.zero_le, Nat.zero_add, and_true, true_and, zb_1, eq_self, az_call h1, az_call c1, az_call h2, zb_0, g3]
  cases hz : zok v c l
  · simp only [Bool.false_eq_true, not_false_eq_true, if_true, if_false, zR_at, zb, false_implies, true_and, true_or, and_true]
    exact f1.M.tr f2.M
  · simp only [not_true, not_true_eq_false, if_false]
    refine zloop (P := fun k => ∀ J, zFM I J → (∀ h, h < k → J 106 h = zbn v g y h) → (∀ h, k ≤ h → h < 8 → J 106 h = v h) → az_W (zD (d + 1)) _ _ 35 [.ref 97, .int (nI g), .int (nI m), .int y, .int (nI c), .int (nI l), .int (nI (zS v c)), .int (nI k)] [] (130, az_Pf, J, L2)) 8 (fun k hk ih J f a1 a2 => ?_) (fun J f a1 a2 => ?_) 0 (Nat.zero_le _) J2 (f1.M.tr f2.M) (fun h hh => absurd hh (Nat.not_lt_zero _)) (fun h _ hh => by rw [er, ← ev h hh])
    · have h1 : ¬ (8 : Int32) ≤ nI k := nI_ge (b := 8) hk (by decide)
      have ek := a2 k (Nat.le_refl _) hk
      have ng := zneg (hv k hk).1
      rw [nI_succ] at ih
      have ih := ih (az_uI J 106 k (zbn v g y k)) (fun b j n1 n2 n3 => by rw [zu_ne n1]; exact f b j n1 n2 n3) (fun h hh => by
        rw [az_uI_at]
        by_cases c : h = k
        · rw [if_pos ⟨rfl, c⟩, c]
        · rw [if_neg (by omega)]; exact a1 h (by omega)) (fun h h3 h4 => by rw [az_uI_at, if_neg (by omega)]; exact a2 h (by omega) h4)
      simp only [u_X11_findMove_35]
      simp only [u_X11_findMove_37, u_X11_findMove_39, u_X11_findMove_42, u_X11_findMove_43, u_X11_findMove_46, u_X11_findMove_48, u_X11_findMove_49, u_X11_findMove_52, u_X11_findMove_54, u_X11_findMove_55, u_X11_findMove_58, u_X11_findMove_59, u_X11_findMove_61, u_X11_findMove_62, u_X11_findMove_63, u_X11_findMove_64, u_X11_findMove_65, u_X11_findMove_68, u_X11_findMove_69, u_X11_findMove_72, u_X11_findMove_73, u_X11_findMove_76, u_X11_findMove_79, u_X11_findMove_82, u_X11_findMove_83, u_X11_findMove_86, u_X11_findMove_88, u_X11_findMove_89, u_X11_findMove_90, u_X11_findMove_93, az_un_i, az_un_r, az_un_n, az_un_l, Option.toList_some, Option.toList_none, List.cons_append, List.nil_append, List.length_cons, List.length_nil, Nat.reduceLeDiff, Nat.reduceAdd, Nat.zero_le, Nat.zero_add, and_true, true_and, zb_1, eq_self, h1, if_false, kx_106, zinT hk (by decide), zcl hk (by decide), ek, zbit (show g < 2 ^ 31 by omega) (show k < 32 by omega)]
      unfold zbn zen at ih
      by_cases k1 : v k = -1
      · rw [if_neg (fun q => q.1 k1)] at ih
        rw [if_pos (ng.mpr k1)]; exact ih
      · rw [if_neg (fun q => k1 (ng.mp q))]
        by_cases k2 : g.testBit k = true
        · rw [if_pos ⟨k1, k2⟩] at ih
          rw [if_pos k2, if_pos rfl]
          by_cases k3 : y = 0
          · rw [if_pos k3] at ih ⊢; exact ih
          · rw [if_neg k3] at ih ⊢; exact ih
        · rw [if_neg (fun q => k2 q.2)] at ih
          rw [if_neg k2, if_neg (by decide)]; exact ih
    · have h1 : (8 : Int32) ≤ nI 8 := by decide
      have ee : ∀ i, i < 8 → zbn v g y i = J 106 i := fun i hi => (a1 i hi).symm
      obtain ⟨J3, L3, h3, q0, f3, k1, k2, k3, k4⟩ := s_X11_findRate (d := d) (I := J) (L := L2) (c := c) (l := l) (zVr_c ee (zVr_bn hv)) hc hl
      subst q0
      rw [← zok_c ee, zok_bn, hz] at h3
      rw [← zK_c ee, zK_bn, pk_sub (by have := (zok_i.mp hz).2; omega)] at k4
      rw [← zS_c ee] at k3
      simp only [u_X11_findMove_35]
      simp only [u_X11_findMove_37, u_X11_findMove_39, u_X11_findMove_96, u_X11_findMove_97, u_X11_findMove_99, u_X11_findMove_101, u_X11_findMove_104, u_X11_findMove_106, u_X11_findMove_107, u_X11_findMove_108, u_X11_findMove_111, u_X11_findMove_113, u_X11_findMove_114, u_X11_findMove_117, u_X11_findMove_118, u_X11_findMove_121, u_X11_findMove_122, u_X11_findMove_125, u_X11_findMove_127, u_X11_findMove_128, u_X11_findMove_131, u_X11_findMove_133, az_un_i, az_un_r, az_un_n, az_un_l, Option.toList_some, Option.toList_none, List.cons_append, List.nil_append, List.length_cons, List.length_nil, Nat.reduceLeDiff, Nat.reduceAdd, Nat.zero_le, Nat.zero_add, and_true, true_and, zb_1, eq_self, h1, if_true, az_call h3, k3]
      unfold zmI
      by_cases k5 : y = 0
      · simp only [k5, if_true, zR_at, zb, or_true, true_and, true_implies, az_uI_at, az_uL_at, Nat.reduceEqDiff, false_and, and_false, and_self, if_true, if_false, ite_true, ite_false]
        exact ⟨(f.tr f3.M).u, k4⟩
      · simp only [k5, if_false, if_true, zR_at, zb, or_true, true_and, true_implies, az_uI_at, az_uL_at, Nat.reduceEqDiff, false_and, and_false, and_self, if_true, if_false, ite_true, ite_false]
        exact ⟨(f.tr f3.M).u, k4⟩
end S
