section S
variable {d : Nat} {I : Nat → Nat → Int32} {L : Nat → Nat → Int64} {h : az_H}
theorem zdv12 : ∀ k, k < 144 → nI k / 12 = nI (k / 12) ∧ nI k - nI (k / 12) * 12 = nI (k % 12) := by decide +kernel
theorem z120 : ¬ (12 : Int32) = 0 := by decide
theorem zor0 (a : Nat) : nI a ||| (0 : Int32) = nI a := Int32.or_zero
theorem s_X1_findLeads {n : Nat} (hF : zvF I n) : zE (d + 1) 17 [.ref 71] I L none (fun J L' => L' = L ∧ zF1 85 I J ∧ ∀ a, a < 12 → J 85 a = nI (zbs (zWa (zE0 I) 12 a) 12)) := by
  refine zE_of zm_X1_findLeads rfl ?_
  show az_W _ _ _ 0 [.ref 71, .null, .null] [] _
  obtain ⟨E, eE⟩ : ∃ E, E = zE0 I := ⟨_, rfl⟩
  have hE : ∀ a b, a < 12 → b < 12 → ((I (73 + a) b ≤ 0) ↔ ¬ E a b = true) := fun a b ha hb => by
    rw [eE]; unfold zE0
    rw [decide_eq_true_iff, ← Int32.not_lt]
    exact ⟨fun z q => z q.2.2, fun z q => z ⟨ha, hb, q⟩⟩
  rw [← eE]
  obtain ⟨R, eR⟩ : ∃ R, R = zR none (fun J L' => L' = L ∧ zF1 85 I J ∧ ∀ a, a < 12 → J 85 a = nI (zbs (zWa E 12 a) 12)) := ⟨_, rfl⟩
  rw [← eR]
  simp only [u_X1_findLeads_0, u_X1_findLeads_1, az_un_i, az_un_r, az_un_n, az_un_l, Option.toList_some, Option.toList_none, List.cons_append, List.nil_append, List.length_cons, List.length_nil, Nat.reduceLeDiff, Nat.reduceAdd, Nat.zero_le, Nat.zero_add, and_true, true_and, zb_1, eq_self]
  refine zloop (P := fun k => ∀ J v2, zF1 85 I J → (∀ a, a < k → J 85 a = nI (zbs (E a) 12)) → az_W (zD d) R k_X1_findLeads 2 [.ref 71, .int (nI k), v2] [] (130, az_Pf, J, L)) 12 (fun k hk ih J v2 f a1 => ?_) (fun J v2 f a1 => ?_) 0 (Nat.zero_le _) I _ zF1.rf (fun x hx => absurd hx (Nat.not_lt_zero _))
  · have h1 : ¬ (12 : Int32) ≤ nI k := nI_ge (b := 12) hk (by decide)
    rw [show nI (k + 1) = nI k + 1 from nI_succ k] at ih
    simp only [u_X1_findLeads_2]
    simp only [u_X1_findLeads_3, u_X1_findLeads_5, u_X1_findLeads_8, u_X1_findLeads_9, u_X1_findLeads_12, u_X1_findLeads_13, u_X1_findLeads_14, u_X1_findLeads_15, u_X1_findLeads_16, az_un_i, az_un_r, az_un_n, az_un_l, Option.toList_some, Option.toList_none, List.cons_append, List.nil_append, List.length_cons, List.length_nil, Nat.reduceLeDiff, Nat.reduceAdd, Nat.zero_le, Nat.zero_add, and_true, true_and, zb_1, eq_self, h1, if_false, kx_85, zinT hk (by decide), zcl hk (by decide)]
    refine zloop (P := fun b => ∀ J, zF1 85 I J → (∀ a, a < k → J 85 a = nI (zbs (E a) 12)) → J 85 k = nI (zbs (E k) b) → az_W (zD d) R k_X1_findLeads 17 [.ref 71, .int (nI k), .int (nI b)] [] (130, az_Pf, J, L)) 12 (fun b hb ih J f a1 a2 => ?_) (fun J f a1 a2 => ?_) 0 (Nat.zero_le _) _ f.up (fun a ha => by rw [az_uI_at, if_neg (by omega)]; exact a1 a ha) (by rw [az_uI_at, if_pos ⟨rfl, rfl⟩]; rfl)
    · have h1 : ¬ (12 : Int32) ≤ nI b := nI_ge (b := 12) hb (by decide)
      rw [show nI (b + 1) = nI b + 1 from nI_succ b, zbs] at ih
      have ih := fun v (hv : v = nI (zbs (E k) b ||| if E k b = true then 2 ^ b else 0)) => ih (az_uI J 85 k v) f.up (fun a ha => by rw [az_uI_at, if_neg (by omega)]; exact a1 a ha) (by rw [az_uI_at, if_pos ⟨rfl, rfl⟩]; exact hv)
      simp only [u_X1_findLeads_17]
      simp only [u_X1_findLeads_18, u_X1_findLeads_20, u_X1_findLeads_23, u_X1_findLeads_24, u_X1_findLeads_27, u_X1_findLeads_28, u_X1_findLeads_29, u_X1_findLeads_30, u_X1_findLeads_31, u_X1_findLeads_34, u_X1_findLeads_35, u_X1_findLeads_36, u_X1_findLeads_37, u_X1_findLeads_38, u_X1_findLeads_41, u_X1_findLeads_42, u_X1_findLeads_43, u_X1_findLeads_44, u_X1_findLeads_47, u_X1_findLeads_48, u_X1_findLeads_49, u_X1_findLeads_50, u_X1_findLeads_53, az_un_i, az_un_r, az_un_n, az_un_l, Option.toList_some, Option.toList_none, List.cons_append, List.nil_append, List.length_cons, List.length_nil, Nat.reduceLeDiff, Nat.reduceAdd, Nat.zero_le, Nat.zero_add, and_true, true_and, zb_1, eq_self, h1, if_false, kx_85, kx_72, zinT hk (by decide), zcl hk (by decide), zinT hb (by decide), zcl hb (by decide), pr_72 k hk, kr_72 k hk, Option.some.injEq, exists_eq_left', exists_eq_left, a2, f (73 + k) (by omega), hE k b hk hb, z1sh (show b < 31 by omega)]
      by_cases g : E k b = true
      · rw [if_neg (fun z => z g), zoro]; exact ih _ (by rw [if_pos g])
      · rw [if_pos g, zor0]; exact ih _ (by rw [if_neg g, Nat.or_zero])
    · have h1 : (12 : Int32) ≤ nI 12 := by decide
      simp only [u_X1_findLeads_17]
      simp only [u_X1_findLeads_18, u_X1_findLeads_20, u_X1_findLeads_56, u_X1_findLeads_59, az_un_i, az_un_r, az_un_n, az_un_l, Option.toList_some, Option.toList_none, List.cons_append, List.nil_append, List.length_cons, List.length_nil, Nat.reduceLeDiff, Nat.reduceAdd, Nat.zero_le, Nat.zero_add, and_true, true_and, zb_1, eq_self, h1, if_true]
      exact ih J _ f (fun a ha => by
        by_cases c : a = k
        · rw [c]; exact a2
        · exact a1 a (by omega))
  have h1 : (12 : Int32) ≤ nI 12 := by decide
  simp only [u_X1_findLeads_2]
  simp only [u_X1_findLeads_3, u_X1_findLeads_5, u_X1_findLeads_62, u_X1_findLeads_63, az_un_i, az_un_r, az_un_n, az_un_l, Option.toList_some, Option.toList_none, List.cons_append, List.nil_append, List.length_cons, List.length_nil, Nat.reduceLeDiff, Nat.reduceAdd, Nat.zero_le, Nat.zero_add, and_true, true_and, zb_1, eq_self, h1, if_true]
  refine zloop (P := fun k => ∀ J v2, zF1 85 I J → (∀ a, a < 12 → J 85 a = nI (zbs (zWa E k a) 12)) → az_W (zD d) R k_X1_findLeads 64 [.ref 71, .int (nI k), v2] [] (130, az_Pf, J, L)) 12 (fun k hk ih J v2 f a1 => ?_) (fun J v2 f a1 => ?_) 0 (Nat.zero_le _) J _ f a1
  · have h1 : ¬ (12 : Int32) ≤ nI k := nI_ge (b := 12) hk (by decide)
    rw [show nI (k + 1) = nI k + 1 from nI_succ k] at ih
    simp only [u_X1_findLeads_64]
    simp only [u_X1_findLeads_65, u_X1_findLeads_67, u_X1_findLeads_70, u_X1_findLeads_71, az_un_i, az_un_r, az_un_n, az_un_l, Option.toList_some, Option.toList_none, List.cons_append, List.nil_append, List.length_cons, List.length_nil, Nat.reduceLeDiff, Nat.reduceAdd, Nat.zero_le, Nat.zero_add, and_true, true_and, zb_1, eq_self, h1, if_false]
    refine zloop (P := fun b => ∀ J, zF1 85 I J → (∀ a, a < b → J 85 a = nI (zbs (zWa E (k + 1) a) 12)) → (∀ a, b ≤ a → a < 12 → J 85 a = nI (zbs (zWa E k a) 12)) → az_W (zD d) R k_X1_findLeads 72 [.ref 71, .int (nI k), .int (nI b)] [] (130, az_Pf, J, L)) 12 (fun b hb ih J f a1 a2 => ?_) (fun J f a1 a2 => ?_) 0 (Nat.zero_le _) J f (fun x hx => absurd hx (Nat.not_lt_zero _)) (fun a _ ha => a1 a ha)
    · have h1 : ¬ (12 : Int32) ≤ nI b := nI_ge (b := 12) hb (by decide)
      rw [show nI (b + 1) = nI b + 1 from nI_succ b] at ih
      have eb := a2 b (Nat.le_refl _) hb
      have ek : J 85 k = nI (zbs (zWa E k k) 12) := by
        rcases Nat.lt_or_ge k b with c | c
        · rw [a1 k c, show zWa E (k + 1) k = zWa E k k from funext fun y => zWa_k]
        · exact a2 k c hk
      have l1 := zbs_12 (p := zWa E k b)
      simp only [u_X1_findLeads_72]
      simp only [u_X1_findLeads_73, u_X1_findLeads_75, u_X1_findLeads_78, u_X1_findLeads_79, u_X1_findLeads_82, u_X1_findLeads_83, u_X1_findLeads_84, u_X1_findLeads_85, u_X1_findLeads_86, u_X1_findLeads_87, u_X1_findLeads_88, u_X1_findLeads_89, u_X1_findLeads_92, u_X1_findLeads_93, u_X1_findLeads_96, u_X1_findLeads_97, u_X1_findLeads_98, u_X1_findLeads_99, u_X1_findLeads_100, u_X1_findLeads_103, u_X1_findLeads_104, u_X1_findLeads_105, u_X1_findLeads_106, u_X1_findLeads_107, u_X1_findLeads_110, az_un_i, az_un_r, az_un_n, az_un_l, Option.toList_some, Option.toList_none, List.cons_append, List.nil_append, List.length_cons, List.length_nil, Nat.reduceLeDiff, Nat.reduceAdd, Nat.zero_le, Nat.zero_add, and_true, true_and, zb_1, eq_self, h1, if_false, kx_85, zinT hk (by decide), zcl hk (by decide), zinT hb (by decide), zcl hb (by decide), eb, ek, zbit (show zbs (zWa E k b) 12 < 2 ^ 31 by omega) (show k < 32 by omega), zbs_b, zoro, zbs_or]
      have dk : decide (k < 12) = true := by simp [hk]
      rw [dk, Bool.true_and]
      cases hz : zWa E k b k
      · simp only [Bool.false_eq_true, if_false]
        rw [if_neg (by decide)]
        have e : zWa E (k + 1) b = zWa E k b := funext fun y => by rw [zWa, hz]; simp
        exact ih J f (fun a ha => by
          by_cases c : a = b
          · rw [c, e]; exact eb
          · exact a1 a (by omega)) (fun a h3 h4 => a2 a (by omega) h4)
      · simp only [if_true]
        have e : zWa E (k + 1) b = fun y => zWa E k b y || zWa E k k y := funext fun y => by rw [zWa, hz]; simp
        refine ih _ f.up (fun a ha => ?_) (fun a h3 h4 => by rw [az_uI_at, if_neg (by omega)]; exact a2 a (by omega) h4)
        rw [az_uI_at]
        by_cases c : a = b
        · rw [if_pos ⟨rfl, c⟩, c, e]
        · rw [if_neg (by omega)]; exact a1 a (by omega)
    · have h1 : (12 : Int32) ≤ nI 12 := by decide
      simp only [u_X1_findLeads_72]
      simp only [u_X1_findLeads_73, u_X1_findLeads_75, u_X1_findLeads_113, u_X1_findLeads_116, az_un_i, az_un_r, az_un_n, az_un_l, Option.toList_some, Option.toList_none, List.cons_append, List.nil_append, List.length_cons, List.length_nil, Nat.reduceLeDiff, Nat.reduceAdd, Nat.zero_le, Nat.zero_add, and_true, true_and, zb_1, eq_self, h1, if_true]
      exact ih J _ f a1
  · have h1 : (12 : Int32) ≤ nI 12 := by decide
    simp only [u_X1_findLeads_64]
    simp only [u_X1_findLeads_65, u_X1_findLeads_67, u_X1_findLeads_119, az_un_i, az_un_r, az_un_n, az_un_l, Option.toList_some, Option.toList_none, List.cons_append, List.nil_append, List.length_cons, List.length_nil, Nat.reduceLeDiff, Nat.reduceAdd, Nat.zero_le, Nat.zero_add, and_true, true_and, zb_1, eq_self, h1, if_true]
    rw [eR, zR_at]
    exact ⟨rfl, rfl, f, a1⟩
theorem s_X1_inRings {n : Nat} (hF : zvF I n) : zE (d + 2) 16 [.ref 71] I L (some (.int (nI (zbs (fun x => zWa (zE0 I) 12 x x) 12)))) (fun J _ => zFr I J) := by
  refine zE_of zm_X1_inRings rfl ?_
  show az_W _ _ _ 0 [.ref 71, .null, .null] [] _
  obtain ⟨J, L', c1, q0, f, a1⟩ := s_X1_findLeads (d := d) (L := L) hF
  subst q0
  obtain ⟨E, eE⟩ : ∃ E, E = zE0 I := ⟨_, rfl⟩
  rw [← eE] at a1 ⊢
  obtain ⟨R, eR⟩ : ∃ R, R = nI (zbs (fun x => zWa E 12 x x) 12) := ⟨_, rfl⟩
  rw [← eR]
  simp only [u_X1_inRings_0, u_X1_inRings_1, u_X1_inRings_4, u_X1_inRings_5, u_X1_inRings_6, u_X1_inRings_7, az_un_i, az_un_r, az_un_n, az_un_l, Option.toList_some, Option.toList_none, List.cons_append, List.nil_append, List.length_cons, List.length_nil, Nat.reduceLeDiff, Nat.reduceAdd, Nat.zero_le, Nat.zero_add, and_true, true_and, zb_1, eq_self, az_call c1]
  refine zloop (P := fun k => az_W (zD (d + 1)) _ _ 8 [.ref 71, .int (nI (zbs (fun x => zWa E 12 x x) k)), .int (nI k)] [] (130, az_Pf, J, L')) 12 (fun k hk ih => ?_) ?_ 0 (Nat.zero_le _)
  · have h1 : ¬ (12 : Int32) ≤ nI k := nI_ge (b := 12) hk (by decide)
    rw [show nI (k + 1) = nI k + 1 from nI_succ k, zbs] at ih
    have e : zbs (zWa E 12 k) 12 &&& 2 ^ k = if zWa E 12 k k = true then 2 ^ k else 0 := by
      apply Nat.eq_of_testBit_eq
      intro i
      rw [Nat.testBit_and, zbs_b, Nat.testBit_two_pow]
      by_cases c : k = i
      · subst c
        cases hz : zWa E 12 k k
        · simp
        · simp [hk, Nat.testBit_two_pow_self]
      · cases hz : zWa E 12 k k
        · simp [c]
        · simp [c, Nat.testBit_two_pow]
    simp only [u_X1_inRings_8]
    simp only [u_X1_inRings_9, u_X1_inRings_11, u_X1_inRings_14, u_X1_inRings_15, u_X1_inRings_16, u_X1_inRings_19, u_X1_inRings_20, u_X1_inRings_21, u_X1_inRings_22, u_X1_inRings_23, u_X1_inRings_24, u_X1_inRings_25, u_X1_inRings_26, u_X1_inRings_27, u_X1_inRings_30, az_un_i, az_un_r, az_un_n, az_un_l, Option.toList_some, Option.toList_none, List.cons_append, List.nil_append, List.length_cons, List.length_nil, Nat.reduceLeDiff, Nat.reduceAdd, Nat.zero_le, Nat.zero_add, and_true, true_and, zb_1, eq_self, h1, if_false, kx_85, zinT hk (by decide), zcl hk (by decide), a1 k hk, z1sh (show k < 31 by omega), zando, e, zoro]
    exact ih
  · have h1 : (12 : Int32) ≤ nI 12 := by decide
    simp only [u_X1_inRings_8]
    simp only [u_X1_inRings_9, u_X1_inRings_11, u_X1_inRings_33, u_X1_inRings_34, az_un_i, az_un_r, az_un_n, az_un_l, Option.toList_some, Option.toList_none, List.cons_append, List.nil_append, List.length_cons, List.length_nil, Nat.reduceLeDiff, Nat.reduceAdd, Nat.zero_le, Nat.zero_add, and_true, true_and, zb_1, eq_self, h1, if_true, zR_at, ← eR]
    exact f.fr (fun j => rfl)
theorem s_X10_ringed_x {n : Nat} {J : Nat → Nat → Int32} {L' : Nat → Nat → Int64} {r : Int32} (hc : zD (d + 2) 16 [.ref 71] (130, az_Pf, I, L) (some (.int r)) (130, az_Pf, J, L')) : zD (d + 3) 123 [.ref 0] (130, az_Pf, I, L) (some (.int r)) (130, az_Pf, J, L') := by
  refine zD_of zm_X10_ringed rfl ?_
  show az_W _ _ _ 0 [.ref 0] [] _
  simp only [u_X10_ringed_0, u_X10_ringed_1, u_X10_ringed_4, u_X10_ringed_7, az_un_i, az_un_r, az_un_n, az_un_l, Option.toList_some, Option.toList_none, List.cons_append, List.nil_append, List.length_cons, List.length_nil, Nat.reduceLeDiff, Nat.reduceAdd, Nat.zero_le, Nat.zero_add, and_true, true_and, zb_1, eq_self, az_call hc]
theorem s_X11_reachedFrom {n a : Nat} (hF : zvF I n) (ha : a < 12) : zD (d + 1) 197 [.ref 97, .int (nI a)] (130, az_Pf, I, L) (some (.int (nI (zbs (fun y => decide (y = a) || zWa (zE0 I) 12 a y) 12)))) (130, az_Pf, I, L) := by
  refine zD_of zm_X11_reachedFrom rfl ?_
  show az_W _ _ _ 0 [.ref 97, .int (nI a), .null, .null, .null] [] _
  obtain ⟨E, eE⟩ : ∃ E, E = zE0 I := ⟨_, rfl⟩
  have hE : ∀ a b, E a b = true → a < 12 ∧ b < 12 := fun a b hh => by
    rw [eE] at hh; unfold zE0 at hh; rw [decide_eq_true_iff] at hh; exact ⟨hh.1, hh.2.1⟩
  have hO : ∀ k, k < 144 → ((I 124 k ≤ 0) ↔ ¬ E (k / 12) (k % 12) = true) := fun k hk => by
    have b1 : k / 12 < 12 := by omega
    have b2 : k % 12 < 12 := Nat.mod_lt _ (by decide)
    have := (hF (k / 12) b1 (k % 12) b2).1
    rw [show 12 * (k / 12) + k % 12 = k by omega] at this
    rw [eE]; unfold zE0
    rw [decide_eq_true_iff, ← Int32.not_lt, ← this]
    exact ⟨fun z q => z q.2.2, fun z q => z ⟨b1, b2, q⟩⟩
  rw [← eE]
  obtain ⟨F, eF⟩ : ∃ F, F = zbs (fun y => decide (y = a) || zWa E 12 a y) 12 := ⟨_, rfl⟩
  rw [← eF]
  simp only [u_X11_reachedFrom_0, u_X11_reachedFrom_1, u_X11_reachedFrom_2, u_X11_reachedFrom_3, u_X11_reachedFrom_4, u_X11_reachedFrom_5, az_un_i, az_un_r, az_un_n, az_un_l, Option.toList_some, Option.toList_none, List.cons_append, List.nil_append, List.length_cons, List.length_nil, Nat.reduceLeDiff, Nat.reduceAdd, Nat.zero_le, Nat.zero_add, and_true, true_and, zb_1, eq_self, z1sh (show a < 31 by omega)]
  have key : ∀ M w s v4, 4096 - w = M → w < 4096 → w.testBit a = true → (∀ y, w.testBit y = true → y = a ∨ zWa E 12 a y = true) → (s = w → zrb E w 144 = w) → s < 4096 → az_W (zD d) (fun r' h'' => r' = some (.int (nI F)) ∧ h'' = (130, az_Pf, I, L)) k_X11_reachedFrom 6 [.ref 97, .int (nI a), .int (nI w), .int (nI s), v4] [] (130, az_Pf, I, L) := by
    intro M
    induction M using Nat.strongRecOn with
    | _ M ihM =>
      intro w s v4 hM hw h0 h1 h2 hs
      simp only [u_X11_reachedFrom_6]
      simp only [u_X11_reachedFrom_7, u_X11_reachedFrom_8, u_X11_reachedFrom_11, u_X11_reachedFrom_12, u_X11_reachedFrom_13, u_X11_reachedFrom_14, u_X11_reachedFrom_70, u_X11_reachedFrom_71, az_un_i, az_un_r, az_un_n, az_un_l, Option.toList_some, Option.toList_none, List.cons_append, List.nil_append, List.length_cons, List.length_nil, Nat.reduceLeDiff, Nat.reduceAdd, Nat.zero_le, Nat.zero_add, and_true, true_and, zb_1, eq_self, nI_eq (show s < 2 ^ 31 by omega) (show w < 2 ^ 31 by omega)]
      by_cases g : s = w
      · rw [if_pos g]
        have := zrb_fin hE ha hw h0 h1 (h2 g)
        rw [eF, ← this]
      · rw [if_neg g]
        refine zloop (P := fun k => az_W (zD d) _ _ 16 [.ref 97, .int (nI a), .int (nI (zrb E w k)), .int (nI w), .int (nI k)] [] (130, az_Pf, I, L)) 144 (fun k hk ih => ?_) ?_ 0 (Nat.zero_le _)
        · have h1 : ¬ (144 : Int32) ≤ nI k := nI_ge (b := 144) hk (by decide)
          rw [show nI (k + 1) = nI k + 1 from nI_succ k, zrb] at ih
          have b1 : k / 12 < 12 := by omega
          have b2 : k % 12 < 12 := Nat.mod_lt _ (by decide)
          obtain ⟨d1, d2⟩ := zdv12 k hk
          simp only [u_X11_reachedFrom_16]
          simp only [u_X11_reachedFrom_18, u_X11_reachedFrom_21, u_X11_reachedFrom_24, u_X11_reachedFrom_25, u_X11_reachedFrom_26, u_X11_reachedFrom_28, u_X11_reachedFrom_30, u_X11_reachedFrom_31, u_X11_reachedFrom_32, u_X11_reachedFrom_33, u_X11_reachedFrom_34, u_X11_reachedFrom_35, u_X11_reachedFrom_38, u_X11_reachedFrom_39, u_X11_reachedFrom_42, u_X11_reachedFrom_44, u_X11_reachedFrom_45, u_X11_reachedFrom_48, u_X11_reachedFrom_49, u_X11_reachedFrom_51, u_X11_reachedFrom_53, u_X11_reachedFrom_54, u_X11_reachedFrom_55, u_X11_reachedFrom_58, u_X11_reachedFrom_59, u_X11_reachedFrom_60, u_X11_reachedFrom_61, u_X11_reachedFrom_64, az_un_i, az_un_r, az_un_n, az_un_l, Option.toList_some, Option.toList_none, List.cons_append, List.nil_append, List.length_cons, List.length_nil, Nat.reduceLeDiff, Nat.reduceAdd, Nat.zero_le, Nat.zero_add, and_true, true_and, zb_1, eq_self, h1, if_false, z120, not_false_eq_true, d1, d2, zbit (show w < 2 ^ 31 by omega) (show k / 12 < 32 by omega), kx_124, zinT hk (by decide), zcl hk (by decide), hO k hk, z1sh (show k % 12 < 31 by omega)]
          cases hz : w.testBit (k / 12)
          · rw [hz, if_neg (fun q => by cases q.1), Nat.or_zero] at ih
            simp only [Bool.false_eq_true, if_false]
            rw [if_neg (by decide), zor0]; exact ih
          · simp only [if_true]
            by_cases g2 : E (k / 12) (k % 12) = true
            · rw [if_pos ⟨hz, g2⟩] at ih
              rw [if_neg (fun q => q g2), zoro]; exact ih
            · rw [if_neg (fun q => g2 q.2), Nat.or_zero] at ih
              rw [if_pos g2, zor0]; exact ih
        · have h3 : (144 : Int32) ≤ nI 144 := by decide
          simp only [u_X11_reachedFrom_16]
          simp only [u_X11_reachedFrom_18, u_X11_reachedFrom_21, u_X11_reachedFrom_67, az_un_i, az_un_r, az_un_n, az_un_l, Option.toList_some, Option.toList_none, List.cons_append, List.nil_append, List.length_cons, List.length_nil, Nat.reduceLeDiff, Nat.reduceAdd, Nat.zero_le, Nat.zero_add, and_true, true_and, zb_1, eq_self, h3, if_true]
          have l1 := zrb_lt (E := E) hw 144
          have l2 := zrb_le (E := E) (w := w) 144
          by_cases g3 : w = zrb E w 144
          · -- nothing was added: the next look ends it
            rw [← g3]
            have := zrb_fin hE ha hw h0 h1 g3.symm
            simp only [u_X11_reachedFrom_6]
            simp only [u_X11_reachedFrom_7, u_X11_reachedFrom_8, u_X11_reachedFrom_70, u_X11_reachedFrom_71, az_un_i, az_un_r, az_un_n, az_un_l, Option.toList_some, Option.toList_none, List.cons_append, List.nil_append, List.length_cons, List.length_nil, Nat.reduceLeDiff, Nat.reduceAdd, Nat.zero_le, Nat.zero_add, and_true, true_and, zb_1, eq_self, if_true]
            rw [eF, ← this]
          · exact ihM (4096 - zrb E w 144) (by omega) (zrb E w 144) w _ rfl l1 ((zrb_b a 144).mpr (Or.inl h0)) (zrb_sound hE h1 144) (fun e => absurd e g3) hw
  exact key _ (2 ^ a) 0 .null rfl (by have := Nat.pow_lt_pow_right (a := 2) (by decide) ha; omega) (Nat.testBit_two_pow_self ..) (fun y hy => by rw [Nat.testBit_two_pow] at hy; left; exact (of_decide_eq_true hy).symm) (fun e => by have := Nat.two_pow_pos a; omega) (by decide)
theorem s_X11_ringed {n : Nat} (hF : zvF I n) (hn : n ≤ 12) (e17 : I 97 17 = nI n) : zD (d + 2) 198 [.ref 97] (130, az_Pf, I, L) (some (.int (nI (zbs (fun x => zWa (zE0 I) 12 x x) 12)))) (130, az_Pf, I, L) := by
  refine zD_of zm_X11_ringed rfl ?_
  show az_W _ _ _ 0 [.ref 97, .null, .null, .null] [] _
  have hr := fun a (ha : a < 12) => s_X11_reachedFrom (d := d) (L := L) hF ha
  obtain ⟨E, eE⟩ : ∃ E, E = zE0 I := ⟨_, rfl⟩
  have hE : ∀ a b, E a b = true → a < 12 ∧ b < 12 := fun a b hh => by
    rw [eE] at hh; unfold zE0 at hh; rw [decide_eq_true_iff] at hh; exact ⟨hh.1, hh.2.1⟩
  have hE2 : ∀ a b, E a b = true → a < n ∧ b < n ∧ a ≠ b := fun a b hh => by
    rw [eE] at hh; unfold zE0 at hh; rw [decide_eq_true_iff] at hh
    obtain ⟨g1, g2, g3⟩ := hh
    obtain ⟨-, v, v1, v2, v3⟩ := hF a g1 b g2
    refine v3 ?_
    rcases Nat.eq_zero_or_pos v with e | e
    · rw [v2, e] at g3; exact absurd g3 (by decide)
    · exact e
  rw [← eE] at hr ⊢
  obtain ⟨c, ec⟩ : ∃ c : Nat → Nat → Bool, c = fun x e => decide (x ≠ e) && zWa E 12 x e && zWa E 12 e x := ⟨_, rfl⟩
  have fin : zra c n n = zbs (fun x => zWa E 12 x x) 12 := by
    apply Nat.eq_of_testBit_eq
    intro y
    have h1 := zra_b (c := c) (n := n) y n
    have h2 := zring hE hE2 y
    rw [zbs_b]
    have h3 : (∃ j, j < n ∧ c y j = true) ↔ (∃ e, e < n ∧ y ≠ e ∧ zWa E 12 y e = true ∧ zWa E 12 e y = true) := by
      rw [ec]
      simp only [Bool.and_eq_true, decide_eq_true_eq, and_assoc]
    rw [h3, ← h2] at h1
    cases hz : zWa E 12 y y
    · rw [Bool.and_false]
      cases hy : (zra c n n).testBit y
      · rfl
      · rw [h1.mp hy] at hz; cases hz
    · have : y < 12 := by have := (h2.mp hz).1; omega
      rw [h1.mpr hz]; simp [this]
  rw [← fin]
  obtain ⟨R, eR⟩ : ∃ R, R = nI (zra c n n) := ⟨_, rfl⟩
  rw [← eR]
  simp only [u_X11_ringed_0, u_X11_ringed_1, u_X11_ringed_2, u_X11_ringed_3, az_un_i, az_un_r, az_un_n, az_un_l, Option.toList_some, Option.toList_none, List.cons_append, List.nil_append, List.length_cons, List.length_nil, Nat.reduceLeDiff, Nat.reduceAdd, Nat.zero_le, Nat.zero_add, and_true, true_and, zb_1, eq_self]
  refine zloop (P := fun x => ∀ v3, az_W (zD (d + 1)) _ _ 4 [.ref 97, .int (nI (zra c n x)), .int (nI x), v3] [] (130, az_Pf, I, L)) n (fun x hx ih v3 => ?_) (fun v3 => ?_) 0 (Nat.zero_le _) _
  · have h1 : ¬ nI n ≤ nI x := nI_ge hx (by omega)
    rw [show nI (x + 1) = nI x + 1 from nI_succ x, zra] at ih
    simp only [u_X11_ringed_4]
    simp only [u_X11_ringed_5, u_X11_ringed_6, u_X11_ringed_9, u_X11_ringed_12, u_X11_ringed_13, az_un_i, az_un_r, az_un_n, az_un_l, Option.toList_some, Option.toList_none, List.cons_append, List.nil_append, List.length_cons, List.length_nil, Nat.reduceLeDiff, Nat.reduceAdd, Nat.zero_le, Nat.zero_add, and_true, true_and, zb_1, eq_self, e17, h1, if_false]
    generalize zra c n x = w at *
    refine zloop (P := fun e => az_W (zD (d + 1)) _ _ 14 [.ref 97, .int (nI (zro c x w e)), .int (nI x), .int (nI e)] [] (130, az_Pf, I, L)) n (fun e he ih => ?_) ?_ 0 (Nat.zero_le _)
    · have h1 : ¬ nI n ≤ nI e := nI_ge he (by omega)
      rw [show nI (e + 1) = nI e + 1 from nI_succ e, zro] at ih
      have l1 := zbs_12 (p := fun y => decide (y = x) || zWa E 12 x y)
      have l2 := zbs_12 (p := fun y => decide (y = e) || zWa E 12 e y)
      simp only [u_X11_ringed_14]
      simp only [u_X11_ringed_15, u_X11_ringed_16, u_X11_ringed_19, u_X11_ringed_22, u_X11_ringed_23, u_X11_ringed_24, u_X11_ringed_25, u_X11_ringed_28, u_X11_ringed_29, u_X11_ringed_30, u_X11_ringed_33, u_X11_ringed_34, u_X11_ringed_35, u_X11_ringed_36, u_X11_ringed_37, u_X11_ringed_38, u_X11_ringed_41, u_X11_ringed_42, u_X11_ringed_43, u_X11_ringed_46, u_X11_ringed_47, u_X11_ringed_48, u_X11_ringed_49, u_X11_ringed_50, u_X11_ringed_51, u_X11_ringed_54, u_X11_ringed_55, u_X11_ringed_56, u_X11_ringed_57, u_X11_ringed_60, u_X11_ringed_61, u_X11_ringed_62, u_X11_ringed_63, u_X11_ringed_66, az_un_i, az_un_r, az_un_n, az_un_l, Option.toList_some, Option.toList_none, List.cons_append, List.nil_append, List.length_cons, List.length_nil, Nat.reduceLeDiff, Nat.reduceAdd, Nat.zero_le, Nat.zero_add, and_true, true_and, zb_1, eq_self, e17, h1, if_false, nI_eq (show x < 2 ^ 31 by omega) (show e < 2 ^ 31 by omega), az_call (hr x (by omega)), az_call (hr e (by omega)), zbit (show zbs (fun y => decide (y = x) || zWa E 12 x y) 12 < 2 ^ 31 by omega) (show e < 32 by omega), zbit (show zbs (fun y => decide (y = e) || zWa E 12 e y) 12 < 2 ^ 31 by omega) (show x < 32 by omega), zbs_b, z1sh (show x < 31 by omega)]
      have dx : decide (x < 12) = true := by simp; omega
      have de : decide (e < 12) = true := by simp; omega
      rw [dx, de, Bool.true_and, Bool.true_and]
      have ce : c x e = (decide (x ≠ e) && zWa E 12 x e && zWa E 12 e x) := by rw [ec]
      rw [ce] at ih
      by_cases g : x = e
      · rw [if_pos g, zor0]
        rw [if_neg (by simp [g]), Nat.or_zero] at ih
        exact ih
      · rw [if_neg g]
        have g' : ¬ e = x := fun q => g q.symm
        cases h3 : zWa E 12 x e
        · rw [h3] at ih
          simp only [g', g, decide_false, Bool.false_or, Bool.or_self, Bool.false_eq_true, if_false]
          rw [if_neg (by decide), zor0]
          simp only [Bool.and_false, Bool.false_and, Bool.false_eq_true, if_false, Nat.or_zero] at ih
          exact ih
        · cases h4 : zWa E 12 e x
          · rw [h4] at ih
            simp only [g', g, decide_false, Bool.false_or, Bool.or_true, Bool.or_self, Bool.false_eq_true, if_false, if_true]
            rw [if_neg (by decide), zor0]
            simp only [Bool.and_false, Bool.false_eq_true, if_false, Nat.or_zero] at ih
            exact ih
          · rw [h3, h4] at ih
            simp only [Bool.or_true, if_true]
            rw [zoro]
            rw [if_pos (by simp [g])] at ih
            exact ih
    · have h1 : nI n ≤ nI n := nI_le (Nat.le_refl _) (by omega)
      simp only [u_X11_ringed_14]
      simp only [u_X11_ringed_15, u_X11_ringed_16, u_X11_ringed_19, u_X11_ringed_69, u_X11_ringed_72, az_un_i, az_un_r, az_un_n, az_un_l, Option.toList_some, Option.toList_none, List.cons_append, List.nil_append, List.length_cons, List.length_nil, Nat.reduceLeDiff, Nat.reduceAdd, Nat.zero_le, Nat.zero_add, and_true, true_and, zb_1, eq_self, e17, h1, if_true]
      exact ih _
  · have h1 : nI n ≤ nI n := nI_le (Nat.le_refl _) (by omega)
    simp only [u_X11_ringed_4]
    simp only [u_X11_ringed_5, u_X11_ringed_6, u_X11_ringed_9, u_X11_ringed_75, u_X11_ringed_76, az_un_i, az_un_r, az_un_n, az_un_l, Option.toList_some, Option.toList_none, List.cons_append, List.nil_append, List.length_cons, List.length_nil, Nat.reduceLeDiff, Nat.reduceAdd, Nat.zero_le, Nat.zero_add, and_true, true_and, zb_1, eq_self, e17, h1, if_true, ← eR]
theorem zE0_fr {J : Nat → Nat → Int32} (f : zFr I J) : zE0 J = zE0 I := funext fun a => funext fun b => by
  unfold zE0
  by_cases c : a < 12
  · rw [f.rw (73 + a) (by omega)]
  · simp [c]
end S
theorem op_ringed : zOp 123 198 [] := by
  refine zOp_of (fun I L hI => ?_)
  obtain ⟨t, e, nl, nr, n, k, w, hG⟩ := zInv_G hI
  have hF := hG.2.2.2.2.2.2.2.2.2
  obtain ⟨J1, L1, c1, f1⟩ := s_X1_inRings (d := 6) (L := L) hF
  refine ⟨_, zE_D (s_X10_ringed_x (d := 6) (n := n) c1) f1, fun J M f => ?_⟩
  have hG2 := hG.fr f
  rw [← zE0_fr f]
  exact zE_D (s_X11_ringed (d := 7) hG2.2.2.2.2.2.2.2.2.2 hG2.2.2.2.2.2.2.1.1 hG2.2.2.2.2.2.2.1.2.2.1) zFr.rf
