/-- but for what the reference's search for the worst writes -/
def zFW (I J : Nat → Nat → Int32) : Prop := ∀ b j, b ≠ 106 → b ≠ 107 → (b ≠ 97 ∨ (j ≠ 13 ∧ j ≠ 14 ∧ j ≠ 15 ∧ j ≠ 16 ∧ j ≠ 43 ∧ j ≠ 44)) → J b j = I b j
theorem zFW.rf {I : Nat → Nat → Int32} : zFW I I := fun _ _ _ _ _ => rfl
theorem zFW.tr {I J K : Nat → Nat → Int32} (h1 : zFW I J) (h2 : zFW J K) : zFW I K := fun a j p q r => (h2 a j p q r).trans (h1 a j p q r)
theorem zFM.W {I J : Nat → Nat → Int32} (h : zFM I J) : zFW I J := fun a j p q r => h a j p q (by omega)
theorem zFW.u {I J : Nat → Nat → Int32} {k : Nat} {v : Int32} (h : zFW I J) (hk : k = 43 ∨ k = 44) : zFW I (az_uI J 97 k v) := fun b j h1 h2 h3 => by rw [az_uI_at, if_neg (by omega)]; exact h b j h1 h2 h3
theorem zFW.fr {I J : Nat → Nat → Int32} (h : zFW I J) : zFr I J := fun a j hs => by
  refine h a j (zscr_m hs).2.1 (zscr_m hs).1 ?_
  by_cases e : a = 97
  · right; subst e; refine ⟨?_, ?_, ?_, ?_, ?_, ?_⟩ <;> (intro e2; subst e2; simp [zscr] at hs)
  · left; exact e
section S
variable {d : Nat} {I : Nat → Nat → Int32} {L : Nat → Nat → Int64} {h : az_H}
theorem s_X11_findWorst {g c f0 t0 t e nl nr n cc w : Nat} (hG : zG I t e nl nr n cc w) (hg1 : 1 ≤ g) (hg : g ≤ 4) (hc : c ≤ 3) (hf : f0 ≤ t0) (ht : t0 < 30) : zE (d + 3) 199 [.ref 97, .int (nI g), .int (nI f0), .int (nI t0), .int (nI c)] I L (some (.int (zb ((zgm I e g c f0 (t0 + 1 - f0)).1 = true)))) (fun J L' => L' = L ∧ zFW I J ∧ ((zgm I e g c f0 (t0 + 1 - f0)).1 = true → ∃ (wa : Int) (wb : Nat), (J 97 43).toInt = wa ∧ J 97 44 = nI wb ∧ 0 < wb ∧ wb ≤ 8 ∧ -7992 ≤ wa ∧ wa ≤ 7992 ∧ wa * (zgm I e g c f0 (t0 + 1 - f0)).2.2 = (zgm I e g c f0 (t0 + 1 - f0)).2.1 * wb)) := by
  refine zE_of zm_X11_findWorst rfl ?_
  show az_W _ _ _ 0 [.ref 97, .int (nI g), .int (nI f0), .int (nI t0), .int (nI c), .null, .null, .null, .null, .null] [] _
  have he := hG.2.2.2.1.2.2.2.2.2.1
  have fin := fun any wa wb => zMw_eq (g := g) (c := c) (f0 := f0) (k := t0 + 1 - f0) (any := any) (wa := wa) (wb := wb) hG (by omega) hg1 (by omega)
  obtain ⟨X, eX⟩ : ∃ X, X = zgm I e g c f0 (t0 + 1 - f0) := ⟨_, rfl⟩
  rw [← eX] at fin ⊢
  obtain ⟨R, eR⟩ : ∃ R, R = zR (some (.int (zb (X.1 = true)))) (fun J L' => L' = L ∧ zFW I J ∧ (X.1 = true → ∃ (wa : Int) (wb : Nat), (J 97 43).toInt = wa ∧ J 97 44 = nI wb ∧ 0 < wb ∧ wb ≤ 8 ∧ -7992 ≤ wa ∧ wa ≤ 7992 ∧ wa * X.2.2 = X.2.1 * wb)) := ⟨_, rfl⟩
  rw [← eR]
  have vr : ∀ m, m < 30 → zVr (I (4 + m)) := fun m hm => hG.vr hm
  -- what holds of the two cells
  obtain ⟨Hw, eH⟩ : ∃ Hw : (Nat → Nat → Nat → Prop) → Bool → (Nat → Nat → Int32) → Prop, Hw = fun S any J => ∃ (wa : Int) (wb : Nat), zMw (zgk I e c) (fun m G y => zmv (I (4 + m)) G (nI y) c) (zgb I c) g S any wa wb ∧ (any = true → (J 97 43).toInt = wa ∧ J 97 44 = nI wb ∧ wb ≤ 8 ∧ -7992 ≤ wa ∧ wa ≤ 7992) := ⟨_, rfl⟩
  have hbel : ∀ m, zgk I e c m = true → 0 < zgb I c m := fun m hm => zgk_p hm
  have cong : ∀ {S S' : Nat → Nat → Nat → Prop} {any J}, Hw S any J → (∀ m G y, zpc G = g → (S' m G y ↔ S m G y)) → Hw S' any J := fun {S S' any J} hh hS => by
    rw [eH] at hh ⊢
    obtain ⟨wa, wb, h1, h2⟩ := hh
    exact ⟨wa, wb, zMw_c h1 hS, h2⟩
  -- one look
  have step : ∀ (m G y : Nat) (S S' : Nat → Nat → Nat → Prop) (any : Bool) (v9 : Value), m < 30 → 1 ≤ G → G < 256 → y < 2 → zpc G = g → (∀ a b c, S' a b c ↔ (S a b c ∨ (a = m ∧ b = G ∧ c = y))) → ∀ J, zFW I J → Hw S any J → (∀ J any v9, zFW I J → Hw S' any J → az_W (zD (d + 2)) R k_X11_findWorst 26 [.ref 97, .int (nI g), .int (nI f0), .int (nI t0), .int (nI c), .int (zb (any = true)), .int (nI m), .int (nI G), .int (nI (y + 1)), v9] [] (130, az_Pf, J, L)) → az_W (zD (d + 2)) R k_X11_findWorst 26 [.ref 97, .int (nI g), .int (nI f0), .int (nI t0), .int (nI c), .int (zb (any = true)), .int (nI m), .int (nI G), .int (nI y), v9] [] (130, az_Pf, J, L) := by
    intro m G y S S' any v9 hm hG1 hG2 hy hp hS J fr hh nx
    have h1 : ¬ (2 : Int32) ≤ nI y := nI_ge (b := 2) hy (by decide)
    have hGj := hG.fr fr.fr
    obtain ⟨el, hl⟩ := zle1_e (m := m) hG
    have fr' := fr.fr
    have er : zrl J (nI m) 1 e = nI (zle1 I e m) := by rw [zrl_fr (fr'.rw 37 (by omega)) (fun k hk => fr'.rw (39 + k) (by omega)) e he, el]
    obtain ⟨J2, L2, c2, q0, f2, q2⟩ := s_X11_findMove (d := d) (I := J) (L := L) (g := G) (y := nI y) (c := c) (l := zle1 I e m) hGj hm hG2 hc hl er
    subst q0
    rw [fr'.rw (4 + m) (by omega)] at c2 q2
    have c2 : zD (d + 2) 162 [.ref 97, .int (nI G), .int (nI m), .int (nI y), .int (nI c)] (130, az_Pf, J, L2) (some (.int (zb (zgk I e c m = true)))) (130, az_Pf, J2, L2) := c2
    have fr2 := fr.tr f2.W
    have c1 := s_X11_ones (d := d + 1) (h := (130, az_Pf, J, L2)) hG2
    rw [hp] at c1
    have k43 : J2 97 43 = J 97 43 := f2 97 43 (by decide) (by decide) (by omega)
    have k44 : J2 97 44 = J 97 44 := f2 97 44 (by decide) (by decide) (by omega)
    rw [show nI (y + 1) = nI y + 1 from nI_succ y] at nx
    simp only [u_X11_findWorst_26]
    simp only [u_X11_findWorst_28, u_X11_findWorst_29, u_X11_findWorst_32, u_X11_findWorst_34, u_X11_findWorst_37, u_X11_findWorst_38, u_X11_findWorst_41, u_X11_findWorst_42, u_X11_findWorst_44, u_X11_findWorst_46, u_X11_findWorst_48, u_X11_findWorst_50, u_X11_findWorst_53, az_un_i, az_un_r, az_un_n, az_un_l, Option.toList_some, Option.toList_none, List.cons_append, List.nil_append, List.length_cons, List.length_nil, Nat.reduceLeDiff, Nat.reduceAdd, Nat.zero_le, Nat.zero_add, and_true, true_and, zb_1, eq_self, h1, if_false, az_call c1, if_true, az_call c2, zb_0]
    rw [eH] at hh nx
    obtain ⟨wa, wb, g1, g2⟩ := hh
    cases hz : zgk I e c m
    · simp only [Bool.false_eq_true, not_false_eq_true, if_true, u_X11_findWorst_132, u_X11_findWorst_135, az_un_i, az_un_r, az_un_n, az_un_l, Option.toList_some, Option.toList_none, List.cons_append, List.nil_append, List.length_cons, List.length_nil, Nat.reduceLeDiff, Nat.reduceAdd, Nat.zero_le, Nat.zero_add, and_true, true_and, zb_1, eq_self]
      refine nx J2 any _ fr2 ⟨wa, wb, zMw_n g1 hS hz, fun ha => ?_⟩
      rw [k43, k44]; exact g2 ha
    · obtain ⟨e1, e2⟩ := q2 hz
      have bM := zgv_b (g := g) (y := y) hG hm hz
      have tm := zmI_t (g := G) (c := c) (y := nI y) (vr m hm)
      have bm := zmv_b (g := G) (c := c) (y := nI y) (vr m hm)
      have p1 := zgk_p hz
      have K8 := zK_le (v := I (4 + m))
      have b8 : zgb I c m ≤ 8 := by unfold zgb; omega
      have e2 : J2 97 15 = nI (zgb I c m) := e2
      have yes : (any = false ∨ wa * (zgb I c m : Int) < zmv (I (4 + m)) G (nI y) c * (wb : Int)) → ∀ v9, az_W (zD (d + 2)) R k_X11_findWorst 26 [.ref 97, .int (nI g), .int (nI f0), .int (nI t0), .int (nI c), .int 1, .int (nI m), .int (nI G), .int (nI y + 1), v9] [] (130, az_Pf, az_uI (az_uI J2 97 43 (zmI (I (4 + m)) G (nI y) c)) 97 44 (nI (zgb I c m)), L2) := fun q v9 => by
        have := nx (az_uI (az_uI J2 97 43 (zmI (I (4 + m)) G (nI y) c)) 97 44 (nI (zgb I c m))) true v9 ((fr2.u (Or.inl rfl)).u (Or.inr rfl)) ⟨_, _, zMw_y hbel g1 hS hz hp q, fun _ => ⟨by simp only [az_uI_at, az_uL_at, Nat.reduceEqDiff, false_and, and_false, and_self, if_true, if_false, ite_true, ite_false]; exact tm, by simp only [az_uI_at, az_uL_at, Nat.reduceEqDiff, false_and, and_false, and_self, if_true, if_false, ite_true, ite_false], b8, bm.1, bm.2⟩⟩
        simpa [zb] using this
      cases ha : any
      · simp only [u_X11_findWorst_56, u_X11_findWorst_58, u_X11_findWorst_61, u_X11_findWorst_62, u_X11_findWorst_65, u_X11_findWorst_66, u_X11_findWorst_69, u_X11_findWorst_70, u_X11_findWorst_71, u_X11_findWorst_74, u_X11_findWorst_75, u_X11_findWorst_78, u_X11_findWorst_79, u_X11_findWorst_82, u_X11_findWorst_83, u_X11_findWorst_86, u_X11_findWorst_87, u_X11_findWorst_89, u_X11_findWorst_90, u_X11_findWorst_92, u_X11_findWorst_95, u_X11_findWorst_96, u_X11_findWorst_99, u_X11_findWorst_102, u_X11_findWorst_103, u_X11_findWorst_106, u_X11_findWorst_109, u_X11_findWorst_110, u_X11_findWorst_112, u_X11_findWorst_115, u_X11_findWorst_116, u_X11_findWorst_119, u_X11_findWorst_122, u_X11_findWorst_123, u_X11_findWorst_126, u_X11_findWorst_129, u_X11_findWorst_130, az_un_i, az_un_r, az_un_n, az_un_l, Option.toList_some, Option.toList_none, List.cons_append, List.nil_append, List.length_cons, List.length_nil, Nat.reduceLeDiff, Nat.reduceAdd, Nat.zero_le, Nat.zero_add, and_true, true_and, zb_1, eq_self, zb, Bool.false_eq_true, if_false, if_true, z10, e1, e2, az_uI_at, az_uL_at, Nat.reduceEqDiff, false_and, and_false, and_self, if_true, if_false, ite_true, ite_false, u_X11_findWorst_132, u_X11_findWorst_135]
        exact yes (Or.inl ha) _
      · obtain ⟨x1, x2, x3, x4, x5⟩ := g2 ha
        have s1 := zsm1 bm.1 bm.2 x3
        have s2 := zsm1 x4 x5 b8
        have tb : (nI wb).toInt = (wb : Int) := nI_toInt (by omega)
        have tl : (nI (zgb I c m)).toInt = ((zgb I c m : Nat) : Int) := nI_toInt (by omega)
        have m1 := zimu tm tb s1.1 s1.2
        have m2 := zimu x1 tl s2.1 s2.2
        have lt : (zmI (I (4 + m)) G (nI y) c * nI wb ≤ J 97 43 * nI (zgb I c m)) ↔ ¬ wa * (zgb I c m : Int) < zmv (I (4 + m)) G (nI y) c * (wb : Int) := by
          rw [Int32.le_iff_toInt_le, m1, m2]; omega
        simp only [u_X11_findWorst_56, u_X11_findWorst_58, u_X11_findWorst_61, u_X11_findWorst_62, u_X11_findWorst_65, u_X11_findWorst_66, u_X11_findWorst_69, u_X11_findWorst_70, u_X11_findWorst_71, u_X11_findWorst_74, u_X11_findWorst_75, u_X11_findWorst_78, u_X11_findWorst_79, u_X11_findWorst_82, u_X11_findWorst_83, u_X11_findWorst_86, u_X11_findWorst_87, u_X11_findWorst_89, u_X11_findWorst_90, u_X11_findWorst_92, u_X11_findWorst_95, u_X11_findWorst_96, u_X11_findWorst_99, u_X11_findWorst_102, u_X11_findWorst_103, u_X11_findWorst_106, u_X11_findWorst_109, u_X11_findWorst_110, u_X11_findWorst_112, u_X11_findWorst_115, u_X11_findWorst_116, u_X11_findWorst_119, u_X11_findWorst_122, u_X11_findWorst_123, u_X11_findWorst_126, u_X11_findWorst_129, u_X11_findWorst_130, az_un_i, az_un_r, az_un_n, az_un_l, Option.toList_some, Option.toList_none, List.cons_append, List.nil_append, List.length_cons, List.length_nil, Nat.reduceLeDiff, Nat.reduceAdd, Nat.zero_le, Nat.zero_add, and_true, true_and, zb_1, eq_self, zb, if_false, if_true, z10, e1, e2, k43, k44, x2, lt, az_uI_at, az_uL_at, Nat.reduceEqDiff, false_and, and_false, and_self, if_true, if_false, ite_true, ite_false, u_X11_findWorst_132, u_X11_findWorst_135]
        by_cases q : wa * (zgb I c m : Int) < zmv (I (4 + m)) G (nI y) c * (wb : Int)
        · rw [if_neg (not_not_intro q)]
          exact yes (Or.inr q) _
        · rw [if_pos q]
          have e43 : az_uI (az_uI J2 97 43 (J 97 43)) 97 44 (nI wb) = J2 := by rw [← k43, zself, ← x2, ← k44, zself]
          rw [e43]
          rw [ha] at g1
          have := nx J2 true (.int 0) fr2 ⟨wa, wb, zMw_k g1 hS q, fun _ => ⟨by rw [k43]; exact x1, by rw [k44]; exact x2, x3, x4, x5⟩⟩
          simpa [zb] using this
  simp only [u_X11_findWorst_0, u_X11_findWorst_1, u_X11_findWorst_3, u_X11_findWorst_4, az_un_i, az_un_r, az_un_n, az_un_l, Option.toList_some, Option.toList_none, List.cons_append, List.nil_append, List.length_cons, List.length_nil, Nat.reduceLeDiff, Nat.reduceAdd, Nat.zero_le, Nat.zero_add, and_true, true_and, zb_1, eq_self]
  refine zloop (P := fun k => ∀ J any v7 v8 v9, zFW I J → Hw (fun m G y => f0 ≤ m ∧ m < f0 + k ∧ 1 ≤ G ∧ G < 256 ∧ y < 2) any J → az_W (zD (d + 2)) R k_X11_findWorst 6 [.ref 97, .int (nI g), .int (nI f0), .int (nI t0), .int (nI c), .int (zb (any = true)), .int (nI (f0 + k)), v7, v8, v9] [] (130, az_Pf, J, L)) (t0 + 1 - f0) (fun k hk ih J any v7 v8 v9 fr hh => ?_) (fun J any v7 v8 v9 fr hh => ?_) 0 (Nat.zero_le _) I false _ _ _ zFW.rf (by rw [eH]; exact ⟨0, 1, ⟨fun _ m G y hq => by omega, fun q => by cases q⟩, fun q => by cases q⟩)
  · have h1 : ¬ nI t0 < nI (f0 + k) := nI_nlt (by omega) (by omega)
    have hm : f0 + k < 30 := by omega
    simp only [u_X11_findWorst_6]
    simp only [u_X11_findWorst_8, u_X11_findWorst_9, u_X11_findWorst_12, u_X11_findWorst_13, az_un_i, az_un_r, az_un_n, az_un_l, Option.toList_some, Option.toList_none, List.cons_append, List.nil_append, List.length_cons, List.length_nil, Nat.reduceLeDiff, Nat.reduceAdd, Nat.zero_le, Nat.zero_add, and_true, true_and, zb_1, eq_self, h1, if_false]
    refine zloop (P := fun j => ∀ J any v8 v9, zFW I J → Hw (fun m G y => (f0 ≤ m ∧ m < f0 + k ∧ 1 ≤ G ∧ G < 256 ∧ y < 2) ∨ (m = f0 + k ∧ 1 ≤ G ∧ G < j + 1 ∧ y < 2)) any J → az_W (zD (d + 2)) R k_X11_findWorst 15 [.ref 97, .int (nI g), .int (nI f0), .int (nI t0), .int (nI c), .int (zb (any = true)), .int (nI (f0 + k)), .int (nI (j + 1)), v8, v9] [] (130, az_Pf, J, L)) 255 (fun j hj ih2 J any v8 v9 fr hh => ?_) (fun J any v8 v9 fr hh => ?_) 0 (Nat.zero_le _) J any _ _ fr (cong hh (fun m G y _ => by omega))
    · have h1 : ¬ (256 : Int32) ≤ nI (j + 1) := nI_ge (b := 256) (show j + 1 < 256 by omega) (by decide)
      rw [show nI (j + 1 + 1) = nI (j + 1) + 1 from nI_succ (j + 1)] at ih2
      simp only [u_X11_findWorst_15]
      simp only [u_X11_findWorst_17, u_X11_findWorst_20, u_X11_findWorst_23, u_X11_findWorst_24, az_un_i, az_un_r, az_un_n, az_un_l, Option.toList_some, Option.toList_none, List.cons_append, List.nil_append, List.length_cons, List.length_nil, Nat.reduceLeDiff, Nat.reduceAdd, Nat.zero_le, Nat.zero_add, and_true, true_and, zb_1, eq_self, h1, if_false]
      by_cases hp : zpc (j + 1) = g
      · refine step (f0 + k) (j + 1) 0 _ (fun m G y => ((f0 ≤ m ∧ m < f0 + k ∧ 1 ≤ G ∧ G < 256 ∧ y < 2) ∨ (m = f0 + k ∧ 1 ≤ G ∧ G < j + 1 ∧ y < 2)) ∨ (m = f0 + k ∧ G = j + 1 ∧ y = 0)) any _ hm (by omega) (by omega) (by decide) hp (fun a b c => Iff.rfl) J fr hh (fun J any v9 fr hh => ?_)
        refine step (f0 + k) (j + 1) 1 _ (fun m G y => (f0 ≤ m ∧ m < f0 + k ∧ 1 ≤ G ∧ G < 256 ∧ y < 2) ∨ (m = f0 + k ∧ 1 ≤ G ∧ G < j + 1 + 1 ∧ y < 2)) any _ hm (by omega) (by omega) (by decide) hp (fun a b c => by omega) J fr hh (fun J any v9 fr hh => ?_)
        have h2 : (2 : Int32) ≤ nI (1 + 1) := by decide
        simp only [u_X11_findWorst_26]
        simp only [u_X11_findWorst_28, u_X11_findWorst_29, u_X11_findWorst_138, u_X11_findWorst_141, az_un_i, az_un_r, az_un_n, az_un_l, Option.toList_some, Option.toList_none, List.cons_append, List.nil_append, List.length_cons, List.length_nil, Nat.reduceLeDiff, Nat.reduceAdd, Nat.zero_le, Nat.zero_add, and_true, true_and, zb_1, eq_self, h2, if_true]
        exact ih2 J any _ _ fr hh
      · have h2 : ¬ (2 : Int32) ≤ nI 0 := by decide
        have c1 := s_X11_ones (d := d + 1) (h := (130, az_Pf, J, L)) (show j + 1 < 256 by omega)
        have pb := zpc_le (j + 1)
        simp only [u_X11_findWorst_26]
        simp only [u_X11_findWorst_28, u_X11_findWorst_29, u_X11_findWorst_32, u_X11_findWorst_34, u_X11_findWorst_37, u_X11_findWorst_38, u_X11_findWorst_138, u_X11_findWorst_141, az_un_i, az_un_r, az_un_n, az_un_l, Option.toList_some, Option.toList_none, List.cons_append, List.nil_append, List.length_cons, List.length_nil, Nat.reduceLeDiff, Nat.reduceAdd, Nat.zero_le, Nat.zero_add, and_true, true_and, zb_1, eq_self, show (0 : Int32) = nI 0 from rfl, h2, if_false, az_call c1, nI_eq (show zpc (j + 1) < 2 ^ 31 by omega) (show g < 2 ^ 31 by omega), hp]
        exact ih2 J any _ _ fr (cong hh (fun m G y hG => by
          have : G ≠ j + 1 := fun q => by rw [q] at hG; exact hp hG
          omega))
    · have h1 : (256 : Int32) ≤ nI (255 + 1) := by decide
      simp only [u_X11_findWorst_15]
      simp only [u_X11_findWorst_17, u_X11_findWorst_20, u_X11_findWorst_144, u_X11_findWorst_147, az_un_i, az_un_r, az_un_n, az_un_l, Option.toList_some, Option.toList_none, List.cons_append, List.nil_append, List.length_cons, List.length_nil, Nat.reduceLeDiff, Nat.reduceAdd, Nat.zero_le, Nat.zero_add, and_true, true_and, zb_1, eq_self, h1, if_true]
      rw [show nI (f0 + k) + 1 = nI (f0 + (k + 1)) from (nI_succ (f0 + k)).symm]
      exact ih J any _ _ _ fr (cong hh (fun m G y _ => by omega))
  · have h1 : nI t0 < nI (f0 + (t0 + 1 - f0)) := nI_lt (by omega) (by omega)
    rw [eH] at hh
    obtain ⟨wa, wb, g1, g2⟩ := hh
    obtain ⟨x1, x2⟩ := fin any wa wb g1
    simp only [u_X11_findWorst_6]
    simp only [u_X11_findWorst_8, u_X11_findWorst_9, u_X11_findWorst_150, u_X11_findWorst_152, az_un_i, az_un_r, az_un_n, az_un_l, Option.toList_some, Option.toList_none, List.cons_append, List.nil_append, List.length_cons, List.length_nil, Nat.reduceLeDiff, Nat.reduceAdd, Nat.zero_le, Nat.zero_add, and_true, true_and, zb_1, eq_self, h1, if_true]
    rw [eR, zR_at, ← x1]
    refine ⟨rfl, rfl, fr, fun ha => ?_⟩
    obtain ⟨y1, y2, y3, y4, y5⟩ := x2 ha
    obtain ⟨z1, z2, -⟩ := g2 ha
    exact ⟨wa, wb, z1, z2, y1, y2, y3, y4, y5⟩
theorem s_X11_findBest {g f0 t0 t e nl nr n cc w : Nat} (hG : zG I t e nl nr n cc w) (hg1 : 1 ≤ g) (hg : g ≤ 4) (hf0 : f0 ≤ t0) (ht : t0 < 30) : zE (d + 4) 200 [.ref 97, .int (nI g), .int (nI f0), .int (nI t0)] I L (some (.int (zfd (zbc (fun c => zgm I e g c f0 (t0 + 1 - f0)) 4).1))) (fun J L' => zFr I J ∧ ((zbc (fun c => zgm I e g c f0 (t0 + 1 - f0)) 4).1 ≠ none → ∃ (ba : Int) (bb : Nat), (J 97 45).toInt = ba ∧ J 97 46 = nI bb ∧ 0 < bb ∧ bb ≤ 8 ∧ -7992 ≤ ba ∧ ba ≤ 7992 ∧ ba * (zbc (fun c => zgm I e g c f0 (t0 + 1 - f0)) 4).2.2 = (zbc (fun c => zgm I e g c f0 (t0 + 1 - f0)) 4).2.1 * bb)) := by
  refine zE_of zm_X11_findBest rfl ?_
  show az_W _ _ _ 0 [.ref 97, .int (nI g), .int (nI f0), .int (nI t0), .null, .null] [] _
  have he := hG.2.2.2.1.2.2.2.2.2.1
  obtain ⟨G, eG⟩ : ∃ G : Nat → Bool × Int × Nat, G = fun c => zgm I e g c f0 (t0 + 1 - f0) := ⟨_, rfl⟩
  have eG' : ∀ c, zgm I e g c f0 (t0 + 1 - f0) = G c := fun c => by rw [eG]
  have bG : ∀ c, zFb (G c).2.1 (G c).2.2 := fun c => by rw [← eG' c]; exact zgm_b hG _ (by omega)
  rw [← eG]
  obtain ⟨X, eX⟩ : ∃ X, X = zbc G 4 := ⟨_, rfl⟩
  rw [← eX]
  obtain ⟨R, eR⟩ : ∃ R, R = zR (some (.int (zfd X.1))) (fun J L' => zFr I J ∧ (X.1 ≠ none → ∃ (ba : Int) (bb : Nat), (J 97 45).toInt = ba ∧ J 97 46 = nI bb ∧ 0 < bb ∧ bb ≤ 8 ∧ -7992 ≤ ba ∧ ba ≤ 7992 ∧ ba * X.2.2 = X.2.1 * bb)) := ⟨_, rfl⟩
  rw [← eR]
  simp only [u_X11_findBest_0, u_X11_findBest_2, u_X11_findBest_4, u_X11_findBest_5, az_un_i, az_un_r, az_un_n, az_un_l, Option.toList_some, Option.toList_none, List.cons_append, List.nil_append, List.length_cons, List.length_nil, Nat.reduceLeDiff, Nat.reduceAdd, Nat.zero_le, Nat.zero_add, and_true, true_and, zb_1, eq_self]
  refine zloop (P := fun k => ∀ J M, zFr I J → ((zbc G k).1 ≠ none → ∃ (ba : Int) (bb : Nat), (J 97 45).toInt = ba ∧ J 97 46 = nI bb ∧ 0 < bb ∧ bb ≤ 8 ∧ -7992 ≤ ba ∧ ba ≤ 7992 ∧ ba * (zbc G k).2.2 = (zbc G k).2.1 * bb) → az_W (zD (d + 3)) R k_X11_findBest 7 [.ref 97, .int (nI g), .int (nI f0), .int (nI t0), .int (zfd (zbc G k).1), .int (nI k)] [] (130, az_Pf, J, M)) 4 (fun k hk ih J M fr a1 => ?_) (fun J M fr a1 => ?_) 0 (Nat.zero_le _) I _ zFr.rf (fun q => absurd rfl q)
  · have h1 : ¬ (4 : Int32) ≤ nI k := nI_ge (b := 4) hk (by decide)
    obtain ⟨J2, M2, c2, q0, f2, q2⟩ := s_X11_findWorst (d := d) (I := J) (L := M) (g := g) (c := k) (hG.fr fr) hg1 hg (by omega) hf0 ht
    subst q0
    rw [zgm_fr fr he _ (by omega), eG' k] at c2 q2
    have fr2 := fr.tr f2.fr
    have k45 : J2 97 45 = J 97 45 := f2 97 45 (by decide) (by decide) (by omega)
    have k46 : J2 97 46 = J 97 46 := f2 97 46 (by decide) (by decide) (by omega)
    have bB := zbc_b bG k
    have rr := fun j => zbc_r (G := G) k j
    rw [show nI (k + 1) = nI k + 1 from nI_succ k, zbc] at ih
    obtain ⟨B, eB⟩ : ∃ B, B = zbc G k := ⟨_, rfl⟩
    rw [← eB] at ih a1 bB rr ⊢
    have no : ¬ ((G k).1 = true ∧ (B.1 = none ∨ (G k).2.1 * (B.2.2 : Int) < B.2.1 * ((G k).2.2 : Int))) → az_W (zD (d + 3)) R k_X11_findBest 7 [.ref 97, .int (nI g), .int (nI f0), .int (nI t0), .int (zfd B.1), .int (nI k + 1)] [] (130, az_Pf, J2, M2) := fun q => by
      rw [if_neg q] at ih
      exact ih J2 _ fr2 (by rw [k45, k46]; exact a1)
    simp only [u_X11_findBest_7]
    simp only [u_X11_findBest_9, u_X11_findBest_10, u_X11_findBest_13, u_X11_findBest_14, u_X11_findBest_15, u_X11_findBest_16, u_X11_findBest_17, u_X11_findBest_19, u_X11_findBest_22, az_un_i, az_un_r, az_un_n, az_un_l, Option.toList_some, Option.toList_none, List.cons_append, List.nil_append, List.length_cons, List.length_nil, Nat.reduceLeDiff, Nat.reduceAdd, Nat.zero_le, Nat.zero_add, and_true, true_and, zb_1, eq_self, h1, if_false, az_call c2, zb_0]
    by_cases g1 : (G k).1 = true
    · rw [if_neg (not_not_intro g1)]
      obtain ⟨wa, wb, w1, w2, w3, w4, w5, w6, w7⟩ := q2 g1
      have yes : (G k).1 = true ∧ (B.1 = none ∨ (G k).2.1 * (B.2.2 : Int) < B.2.1 * ((G k).2.2 : Int)) → az_W (zD (d + 3)) R k_X11_findBest 7 [.ref 97, .int (nI g), .int (nI f0), .int (nI t0), .int (nI k), .int (nI k + 1)] [] (130, az_Pf, az_uI (az_uI J2 97 45 (J2 97 43)) 97 46 (nI wb), M2) := fun q => by
        rw [if_pos q] at ih
        refine ih _ _ ((fr2.up rfl).up rfl) (fun _ => ⟨wa, wb, by simp only [az_uI_at, az_uL_at, Nat.reduceEqDiff, false_and, and_false, and_self, if_true, if_false, ite_true, ite_false]; exact w1, by simp only [az_uI_at, az_uL_at, Nat.reduceEqDiff, false_and, and_false, and_self, if_true, if_false, ite_true, ite_false], w3, w4, w5, w6, w7⟩)
      cases hB : B.1 with
      | none =>
        have n4' : zfd none < 0 := by decide
        simp only [u_X11_findBest_25, u_X11_findBest_27, u_X11_findBest_30, u_X11_findBest_31, u_X11_findBest_34, u_X11_findBest_35, u_X11_findBest_38, u_X11_findBest_39, u_X11_findBest_40, u_X11_findBest_43, u_X11_findBest_44, u_X11_findBest_47, u_X11_findBest_48, u_X11_findBest_51, u_X11_findBest_53, u_X11_findBest_55, u_X11_findBest_56, u_X11_findBest_57, u_X11_findBest_60, u_X11_findBest_63, u_X11_findBest_64, u_X11_findBest_65, u_X11_findBest_68, u_X11_findBest_71, u_X11_findBest_74, az_un_i, az_un_r, az_un_n, az_un_l, Option.toList_some, Option.toList_none, List.cons_append, List.nil_append, List.length_cons, List.length_nil, Nat.reduceLeDiff, Nat.reduceAdd, Nat.zero_le, Nat.zero_add, and_true, true_and, zb_1, eq_self, n4', if_true, az_uI_at, az_uL_at, Nat.reduceEqDiff, false_and, and_false, and_self, if_true, if_false, ite_true, ite_false, w2]
        exact yes ⟨g1, Or.inl hB⟩
      | some j =>
        have hj := rr j hB
        have n4' : ¬ zfd (some j) < 0 := nI_pos (n := j) (by omega)
        obtain ⟨ba, bb, v1, v2, v3, v4, v5, v6, v7⟩ := a1 (by rw [hB]; simp)
        have s1 := zsm1 w5 w6 v4
        have s2 := zsm1 v5 v6 w4
        have tb : (nI wb).toInt = (wb : Int) := nI_toInt (by omega)
        have tl : (nI bb).toInt = (bb : Int) := nI_toInt (by omega)
        have m1 := zimu w1 tl s1.1 s1.2
        have m2 := zimu v1 tb s2.1 s2.2
        have cmp := zfr_lt (A := B.2.1) (C := (G k).2.1) (a := ba) (c := wa) (B := B.2.2) (D := (G k).2.2) (b := bb) (e := wb) bB.1 (bG k).1 v3 w3 v7 w7
        have lt : (J 97 45 * nI wb ≤ J2 97 43 * nI bb) ↔ ¬ (G k).2.1 * (B.2.2 : Int) < B.2.1 * ((G k).2.2 : Int) := by
          rw [← cmp, Int32.le_iff_toInt_le, m1, m2]; omega
        simp only [u_X11_findBest_25, u_X11_findBest_27, u_X11_findBest_30, u_X11_findBest_31, u_X11_findBest_34, u_X11_findBest_35, u_X11_findBest_38, u_X11_findBest_39, u_X11_findBest_40, u_X11_findBest_43, u_X11_findBest_44, u_X11_findBest_47, u_X11_findBest_48, u_X11_findBest_51, u_X11_findBest_53, u_X11_findBest_55, u_X11_findBest_56, u_X11_findBest_57, u_X11_findBest_60, u_X11_findBest_63, u_X11_findBest_64, u_X11_findBest_65, u_X11_findBest_68, u_X11_findBest_71, u_X11_findBest_74, az_un_i, az_un_r, az_un_n, az_un_l, Option.toList_some, Option.toList_none, List.cons_append, List.nil_append, List.length_cons, List.length_nil, Nat.reduceLeDiff, Nat.reduceAdd, Nat.zero_le, Nat.zero_add, and_true, true_and, zb_1, eq_self, n4', if_false, az_uI_at, az_uL_at, Nat.reduceEqDiff, false_and, and_false, and_self, if_true, if_false, ite_true, ite_false, w2, k45, k46, v2, lt]
        by_cases g2 : (G k).2.1 * (B.2.2 : Int) < B.2.1 * ((G k).2.2 : Int)
        · rw [if_neg (not_not_intro g2)]
          exact yes ⟨g1, Or.inr g2⟩
        · rw [if_pos g2, ← hB]
          exact no (fun q => q.2.elim (fun z => by rw [hB] at z; cases z) g2)
    · rw [if_pos g1]
      simp only [u_X11_findBest_71, u_X11_findBest_74, az_un_i, az_un_r, az_un_n, az_un_l, Option.toList_some, Option.toList_none, List.cons_append, List.nil_append, List.length_cons, List.length_nil, Nat.reduceLeDiff, Nat.reduceAdd, Nat.zero_le, Nat.zero_add, and_true, true_and, zb_1, eq_self]
      exact no (fun q => g1 q.1)
  · have h1 : (4 : Int32) ≤ nI 4 := by decide
    rw [← eX] at a1 ⊢
    simp only [u_X11_findBest_7]
    simp only [u_X11_findBest_9, u_X11_findBest_10, u_X11_findBest_77, u_X11_findBest_79, az_un_i, az_un_r, az_un_n, az_un_l, Option.toList_some, Option.toList_none, List.cons_append, List.nil_append, List.length_cons, List.length_nil, Nat.reduceLeDiff, Nat.reduceAdd, Nat.zero_le, Nat.zero_add, and_true, true_and, zb_1, eq_self, h1, if_true]
    rw [eR, zR_at]
    exact ⟨rfl, fr, a1⟩
theorem s_X10_isPlan {x y z : Int32} : zD (d + 2) 134 [.int x, .int y, .int z] h (some (.int (zb ((1 ≤ x.toInt ∧ x.toInt ≤ 4) ∧ (0 ≤ y.toInt ∧ y.toInt ≤ 29) ∧ (0 ≤ z.toInt ∧ z.toInt ≤ 29) ∧ y.toInt ≤ z.toInt)))) h := by
  refine zD_of zm_X10_isPlan rfl ?_
  show az_W _ _ _ 0 [.int x, .int y, .int z] [] _
  simp only [u_X10_isPlan_0, u_X10_isPlan_1, u_X10_isPlan_2, u_X10_isPlan_3, u_X10_isPlan_6, u_X10_isPlan_9, u_X10_isPlan_10, u_X10_isPlan_13, u_X10_isPlan_16, u_X10_isPlan_17, u_X10_isPlan_20, u_X10_isPlan_23, u_X10_isPlan_24, u_X10_isPlan_25, u_X10_isPlan_28, u_X10_isPlan_29, u_X10_isPlan_32, u_X10_isPlan_33, az_un_i, az_un_r, az_un_n, az_un_l, Option.toList_some, Option.toList_none, List.cons_append, List.nil_append, List.length_cons, List.length_nil, Nat.reduceLeDiff, Nat.reduceAdd, Nat.zero_le, Nat.zero_add, and_true, true_and, zb_1, eq_self, az_call s_X10_isIn, az_call s_X10_isMorning, zl_0, zj_0, zl_1, zj_1, zl_2, zj_2, zl_3, zj_3, zl_4, zj_4, zl_5, zj_5, zl_6, zj_6, zl_7, zj_7, zl_8, zj_8, zl_9, zj_9, zl_10, zj_10, zl_11, zj_11, zl_12, zj_12, zl_15, zj_15, zl_16, zj_16, zl_20, zj_20, zl_24, zj_24, zl_29, zj_29, zl_30, zj_30, zl_31, zj_31, zl_32, zj_32, zl_40, zj_40, zl_48, zj_48, zl_57, zj_57, zl_59, zj_59, zl_60, zj_60, zl_63, zj_63, zl_99, zj_99, zl_100, zj_100, zl_126, zj_126, zl_144, zj_144, zl_200, zj_200, zl_240, zj_240, zl_255, zj_255, zl_256, zj_256, zl_999, zj_999, zl_1000, zj_1000, zlm_1, zjm_1, zlm_2, zjm_2, zlm_3, zjm_3, zlm_4, zjm_4, zlm_11, zjm_11, zlm_12, zjm_12, zlm_13, zjm_13, zlm_14, zjm_14, zlm_20, zjm_20, zlm_10001, zjm_10001, zlm_10002, zjm_10002, zb_0, Int32.lt_iff_toInt_lt]
  by_cases h1 : 1 ≤ x.toInt ∧ x.toInt ≤ 4 <;> by_cases h2 : 0 ≤ y.toInt ∧ y.toInt ≤ 29 <;> by_cases h3 : 0 ≤ z.toInt ∧ z.toInt ≤ 29 <;> by_cases h4 : y.toInt ≤ z.toInt <;> simp [h1, h2, h3, h4, zb, Int.not_lt.mpr, Int.not_le.mp] <;> omega
theorem s_X11_isPlan {x y z : Int32} : zD (d + 3) 201 [.int x, .int y, .int z] h (some (.int (zb ((1 ≤ x.toInt ∧ x.toInt ≤ 4) ∧ (0 ≤ y.toInt ∧ y.toInt ≤ 29) ∧ (0 ≤ z.toInt ∧ z.toInt ≤ 29) ∧ y.toInt ≤ z.toInt)))) h := by
  refine zD_of zm_X11_isPlan rfl ?_
  show az_W _ _ _ 0 [.int x, .int y, .int z] [] _
  simp only [u_X11_isPlan_0, u_X11_isPlan_1, u_X11_isPlan_2, u_X11_isPlan_3, u_X11_isPlan_6, u_X11_isPlan_9, u_X11_isPlan_12, u_X11_isPlan_13, u_X11_isPlan_16, u_X11_isPlan_19, u_X11_isPlan_20, u_X11_isPlan_23, u_X11_isPlan_26, u_X11_isPlan_27, u_X11_isPlan_28, u_X11_isPlan_31, u_X11_isPlan_32, u_X11_isPlan_35, u_X11_isPlan_36, az_un_i, az_un_r, az_un_n, az_un_l, Option.toList_some, Option.toList_none, List.cons_append, List.nil_append, List.length_cons, List.length_nil, Nat.reduceLeDiff, Nat.reduceAdd, Nat.zero_le, Nat.zero_add, and_true, true_and, zb_1, eq_self, az_call s_X11_in, z64, az_call s_X11_isMorning, zl_0, zj_0, zl_1, zj_1, zl_2, zj_2, zl_3, zj_3, zl_4, zj_4, zl_5, zj_5, zl_6, zj_6, zl_7, zj_7, zl_8, zj_8, zl_9, zj_9, zl_10, zj_10, zl_11, zj_11, zl_12, zj_12, zl_15, zj_15, zl_16, zj_16, zl_20, zj_20, zl_24, zj_24, zl_29, zj_29, zl_30, zj_30, zl_31, zj_31, zl_32, zj_32, zl_40, zj_40, zl_48, zj_48, zl_57, zj_57, zl_59, zj_59, zl_60, zj_60, zl_63, zj_63, zl_99, zj_99, zl_100, zj_100, zl_126, zj_126, zl_144, zj_144, zl_200, zj_200, zl_240, zj_240, zl_255, zj_255, zl_256, zj_256, zl_999, zj_999, zl_1000, zj_1000, zlm_1, zjm_1, zlm_2, zjm_2, zlm_3, zjm_3, zlm_4, zjm_4, zlm_11, zjm_11, zlm_12, zjm_12, zlm_13, zjm_13, zlm_14, zjm_14, zlm_20, zjm_20, zlm_10001, zjm_10001, zlm_10002, zjm_10002, zb_0, Int32.lt_iff_toInt_lt]
  by_cases h1 : 1 ≤ x.toInt ∧ x.toInt ≤ 4 <;> by_cases h2 : 0 ≤ y.toInt ∧ y.toInt ≤ 29 <;> by_cases h3 : 0 ≤ z.toInt ∧ z.toInt ≤ 29 <;> by_cases h4 : y.toInt ≤ z.toInt <;> simp [h1, h2, h3, h4, zb, Int.not_lt.mpr, Int.not_le.mp] <;> omega
end S
