/-! ===== best, worst: the class ===== -/
theorem zFb01 : zFb 0 1 := ⟨by decide, by decide, by decide, by decide⟩
def zgs (st : Bool × Int × Nat) (ok : Bool) (A : Int) (B : Nat) : Bool × Int × Nat := if ok = true then (if st.2.1 * B < A * st.2.2 then (true, A, B) else (true, st.2.1, st.2.2)) else st
def zle1 (I : Nat → Nat → Int32) (e m : Nat) : Nat := (zrl I (nI m) 1 e).toInt.toNat
def zgk (I : Nat → Nat → Int32) (e c m : Nat) : Bool := zok (I (4 + m)) c (zle1 I e m)
def zgv (I : Nat → Nat → Int32) (g c m : Nat) (y : Nat) : Int := zmv (I (4 + m)) (zfg (I (4 + m)) g (nI y)) (nI y) c
def zgb (I : Nat → Nat → Int32) (c m : Nat) : Nat := zK (I (4 + m)) - 2 * c
def zgm (I : Nat → Nat → Int32) (e g c f0 : Nat) : Nat → Bool × Int × Nat
  | 0 => (false, 0, 1)
  | k + 1 => zgs (zgs (zgm I e g c f0 k) (zgk I e c (f0 + k)) (zgv I g c (f0 + k) 0) (zgb I c (f0 + k))) (zgk I e c (f0 + k)) (zgv I g c (f0 + k) 1) (zgb I c (f0 + k))
theorem zgs_b {st : Bool × Int × Nat} {ok : Bool} {A : Int} {B : Nat} (h : zFb st.2.1 st.2.2) (h2 : ok = true → zFb A B) : zFb (zgs st ok A B).2.1 (zgs st ok A B).2.2 := by
  unfold zgs
  by_cases c : ok = true
  · rw [if_pos c]; split
    · exact h2 c
    · exact h
  · rw [if_neg c]; exact h
theorem zle1_e {I : Nat → Nat → Int32} {t e nl nr n c w m : Nat} (hG : zG I t e nl nr n c w) : zrl I (nI m) 1 e = nI (zle1 I e m) ∧ zle1 I e m ≤ 8 := by
  obtain ⟨c', l, s, -, -, hl, -, -, el, -⟩ := zrl_rg hG.2.2.2.1 (nI m) e (Nat.le_refl _)
  unfold zle1
  rw [el, nI_toInt (by omega)]
  exact ⟨rfl, by omega⟩
theorem zgv_b {I : Nat → Nat → Int32} {t e nl nr n cc w g c m y : Nat} (hG : zG I t e nl nr n cc w) (hm : m < 30) (hz : zgk I e c m = true) : zFb (zgv I g c m y) (zgb I c m) := zFb_mv (hG.vr hm) hz
theorem zgm_b {I : Nat → Nat → Int32} {t e nl nr n cc w g c f0 : Nat} (hG : zG I t e nl nr n cc w) : ∀ k, f0 + k ≤ 30 → zFb (zgm I e g c f0 k).2.1 (zgm I e g c f0 k).2.2
  | 0, _ => zFb01
  | k + 1, h => by
    rw [zgm]
    exact zgs_b (zgs_b (zgm_b hG k (by omega)) (zgv_b hG (by omega))) (zgv_b hG (by omega))
def zbc (G : Nat → Bool × Int × Nat) : Nat → Option Nat × Int × Nat
  | 0 => (none, 0, 1)
  | k + 1 => if (G k).1 = true ∧ ((zbc G k).1 = none ∨ (G k).2.1 * (zbc G k).2.2 < (zbc G k).2.1 * (G k).2.2) then (some k, (G k).2.1, (G k).2.2) else zbc G k
theorem zbc_b {G : Nat → Bool × Int × Nat} (h : ∀ k, zFb (G k).2.1 (G k).2.2) : ∀ k, zFb (zbc G k).2.1 (zbc G k).2.2
  | 0 => zFb01
  | k + 1 => by
    rw [zbc]; split
    · exact h k
    · exact zbc_b h k
theorem zbc_r {G : Nat → Bool × Int × Nat} : ∀ k j, (zbc G k).1 = some j → j < k
  | 0, j, h => by cases h
  | k + 1, j, h => by
    rw [zbc] at h; split at h
    · cases h; omega
    · have := zbc_r k j h; omega
theorem zgm_fr {I J : Nat → Nat → Int32} (f : zFr I J) {e g c f0 : Nat} (he : e ≤ 4) : ∀ k, f0 + k ≤ 30 → zgm J e g c f0 k = zgm I e g c f0 k
  | 0, _ => rfl
  | k + 1, h => by
    rw [zgm, zgm, zgm_fr f he k (by omega)]
    unfold zgk zgv zgb zle1
    rw [f.rw (4 + (f0 + k)) (by omega), zrl_fr (f.rw 37 (by omega)) (fun k hk => f.rw (39 + k) (by omega)) e he]
theorem zFc_c {L M : Nat → Nat → Int64} {f : Nat} {A : Int} {B : Nat} (h : zFc L f A B) (e : M f = L f) : zFc M f A B := by unfold zFc; rw [e]; exact h
section S
variable {d : Nat} {I : Nat → Nat → Int32} {L : Nat → Nat → Int64} {h : az_H}
theorem s_X4_farthest {g : Nat} {y : Int32} {v : Nat → Int32} (h2 : I 2 2 = nI (zK v)) (h3 : zSt (I 34) (zK v) (zO v)) (hg : g ≤ 8) : zD (d + 1) 42 [.ref 2, .int (nI g), .int y] (130, az_Pf, I, L) (some (.int (nI (zfg v g y)))) (130, az_Pf, I, L) := by
  refine zD_of zm_X4_farthest rfl ?_
  show az_W _ _ _ 0 [.ref 2, .int (nI g), .int y, .null, .null] [] _
  have hK := zK_le (v := v)
  obtain ⟨R, eR⟩ : ∃ R, R = nI (zfg v g y) := ⟨_, rfl⟩
  rw [← eR]
  simp only [u_X4_farthest_0, u_X4_farthest_1, u_X4_farthest_2, u_X4_farthest_3, az_un_i, az_un_r, az_un_n, az_un_l, Option.toList_some, Option.toList_none, List.cons_append, List.nil_append, List.length_cons, List.length_nil, Nat.reduceLeDiff, Nat.reduceAdd, Nat.zero_le, Nat.zero_add, and_true, true_and, zb_1, eq_self]
  refine zloop (P := fun i => az_W (zD d) _ _ 5 [.ref 2, .int (nI g), .int y, .int (nI (zfa v y i)), .int (nI i)] [] (130, az_Pf, I, L)) (min g (zK v)) (fun i hi ih => ?_) ?_ 0 (Nat.zero_le _)
  · have h1 : ¬ nI g ≤ nI i := nI_ge (by omega) (by omega)
    have h4 : ¬ nI (zK v) ≤ nI i := nI_ge (by omega) (by omega)
    have e3 : nI (zK v) - 1 - nI i = nI (zK v - 1 - i) := by
      rw [show (1 : Int32) = nI 1 from rfl, pk_sub (by omega), pk_sub (by omega)]
    have o1 := zO_lt (v := v) (i := i) (by omega)
    have o2 := zO_lt (v := v) (i := zK v - 1 - i) (by omega)
    rw [show nI (i + 1) = nI i + 1 from nI_succ i, zfa] at ih
    simp only [u_X4_farthest_5]
    simp only [u_X4_farthest_7, u_X4_farthest_8, u_X4_farthest_11, u_X4_farthest_13, u_X4_farthest_14, u_X4_farthest_17, u_X4_farthest_20, u_X4_farthest_21, u_X4_farthest_22, u_X4_farthest_23, u_X4_farthest_26, u_X4_farthest_27, u_X4_farthest_30, u_X4_farthest_31, u_X4_farthest_34, u_X4_farthest_35, u_X4_farthest_36, u_X4_farthest_38, u_X4_farthest_39, u_X4_farthest_40, u_X4_farthest_43, u_X4_farthest_44, u_X4_farthest_47, u_X4_farthest_49, u_X4_farthest_50, u_X4_farthest_51, u_X4_farthest_52, u_X4_farthest_53, u_X4_farthest_56, az_un_i, az_un_r, az_un_n, az_un_l, Option.toList_some, Option.toList_none, List.cons_append, List.nil_append, List.length_cons, List.length_nil, Nat.reduceLeDiff, Nat.reduceAdd, Nat.zero_le, Nat.zero_add, and_true, true_and, zb_1, eq_self, h1, h2, h4, if_false, kx_34, zinT (show i < 8 by omega) (by decide), zcl (show i < 8 by omega) (by decide), h3 i (by omega), e3, zinT (show zK v - 1 - i < 8 by omega) (by decide), zcl (show zK v - 1 - i < 8 by omega) (by decide), h3 (zK v - 1 - i) (by omega), z1sh (show zO v i < 31 by omega), z1sh (show zO v (zK v - 1 - i) < 31 by omega), zoro]
    by_cases gy : y = 0
    · rw [if_pos gy] at ih ⊢; exact ih
    · rw [if_neg gy] at ih ⊢; exact ih
  · simp only [u_X4_farthest_5]
    simp only [u_X4_farthest_7, u_X4_farthest_8, u_X4_farthest_11, u_X4_farthest_13, u_X4_farthest_14, u_X4_farthest_17, u_X4_farthest_59, u_X4_farthest_60, az_un_i, az_un_r, az_un_n, az_un_l, Option.toList_some, Option.toList_none, List.cons_append, List.nil_append, List.length_cons, List.length_nil, Nat.reduceLeDiff, Nat.reduceAdd, Nat.zero_le, Nat.zero_add, and_true, true_and, zb_1, eq_self, h2, show zfa v y (min g (zK v)) = zfg v g y from rfl, ← eR]
    rcases Nat.lt_or_ge g (zK v) with c | c
    · rw [if_pos (show nI g ≤ nI (min g (zK v)) from nI_le (by omega) (by omega))]; trivial
    · by_cases c2 : g = zK v
      · rw [if_pos (show nI g ≤ nI (min g (zK v)) from nI_le (by omega) (by omega))]; trivial
      · rw [if_neg (show ¬ nI g ≤ nI (min g (zK v)) from nI_ge (by omega) (by omega)), if_pos (show nI (zK v) ≤ nI (min g (zK v)) from nI_le (by omega) (by omega))]; trivial
theorem s_X5_findGreatest {g c f0 t0 t e nl nr n cc w : Nat} (hG : zG I t e nl nr n cc w) (hg : g ≤ 4) (hc : c ≤ 3) (hf : f0 ≤ t0) (ht : t0 < 30) : zE (d + 5) 50 [.ref 1, .int (nI g), .int (nI f0), .int (nI t0), .int (nI c)] I L (some (.int (zb ((zgm I e g c f0 (t0 + 1 - f0)).1 = true)))) (fun J L' => zFr I J ∧ zFc L' 48 (zgm I e g c f0 (t0 + 1 - f0)).2.1 (zgm I e g c f0 (t0 + 1 - f0)).2.2 ∧ ∀ q, q ≠ 45 → q ≠ 46 → q ≠ 47 → q ≠ 48 → L' q = L q) := by
  refine zE_of zm_X5_findGreatest rfl ?_
  show az_W _ _ _ 0 [.ref 1, .int (nI g), .int (nI f0), .int (nI t0), .int (nI c), .null, .null, .null] [] _
  have he := hG.2.2.2.1.2.2.2.2.2.1
  obtain ⟨X, eX⟩ : ∃ X, X = zgm I e g c f0 (t0 + 1 - f0) := ⟨_, rfl⟩
  rw [← eX]
  obtain ⟨R, eR⟩ : ∃ R, R = zR (some (.int (zb (X.1 = true)))) (fun J L' => zFr I J ∧ zFc L' 48 X.2.1 X.2.2 ∧ ∀ q, q ≠ 45 → q ≠ 46 → q ≠ 47 → q ≠ 48 → L' q = L q) := ⟨_, rfl⟩
  rw [← eR]
  have hp := s_X2_put (d := d + 3) (I := I) (L := L) (f := 48) (B := 1) (a := 0) (b := 1) (A := 0) kx_48 rfl rfl (by decide) (by decide) (by decide) (by decide)
  simp only [u_X5_findGreatest_0, u_X5_findGreatest_1, u_X5_findGreatest_3, u_X5_findGreatest_4, u_X5_findGreatest_7, u_X5_findGreatest_8, u_X5_findGreatest_9, u_X5_findGreatest_12, u_X5_findGreatest_13, az_un_i, az_un_r, az_un_n, az_un_l, Option.toList_some, Option.toList_none, List.cons_append, List.nil_append, List.length_cons, List.length_nil, Nat.reduceLeDiff, Nat.reduceAdd, Nat.zero_le, Nat.zero_add, and_true, true_and, zb_1, eq_self, kx_48, az_call hp]
  have step : ∀ (m y : Nat) (st : Bool × Int × Nat), m < 30 → y < 2 → zFb st.2.1 st.2.2 → ∀ J M, zFr I J → zFc M 48 st.2.1 st.2.2 → (∀ q, q ≠ 45 → q ≠ 46 → q ≠ 47 → q ≠ 48 → M q = L q) → (∀ J M, zFr I J → zFc M 48 (zgs st (zgk I e c m) (zgv I g c m y) (zgb I c m)).2.1 (zgs st (zgk I e c m) (zgv I g c m y) (zgb I c m)).2.2 → (∀ q, q ≠ 45 → q ≠ 46 → q ≠ 47 → q ≠ 48 → M q = L q) → az_W (zD (d + 4)) R k_X5_findGreatest 24 [.ref 1, .int (nI g), .int (nI f0), .int (nI t0), .int (nI c), .int (zb ((zgs st (zgk I e c m) (zgv I g c m y) (zgb I c m)).1 = true)), .int (nI m), .int (nI (y + 1))] [] (130, az_Pf, J, M)) → az_W (zD (d + 4)) R k_X5_findGreatest 24 [.ref 1, .int (nI g), .int (nI f0), .int (nI t0), .int (nI c), .int (zb (st.1 = true)), .int (nI m), .int (nI y)] [] (130, az_Pf, J, M) := by
    intro m y st hm hy hb J M fr c48 fL nx
    have h1 : ¬ (1 : Int32) < nI y := nI_nlt (a := 1) (by omega) (by omega)
    obtain ⟨J1, M1, c1, q0, f1, e1, e2⟩ := s_X4_sort (d := d + 2) (I := J) (L := M) (r := 4 + m) (kx_m hm) (by omega) (by omega)
    subst q0
    have e4 : J (4 + m) = I (4 + m) := fr.rw (4 + m) (by omega)
    rw [e4] at e1 e2
    have fr1 := fr.tr f1.fr
    have c2 := s_X4_farthest (d := d + 3) (I := J1) (L := M1) (g := g) (y := nI y) (v := I (4 + m)) e1 e2 (by omega)
    have hG1 := hG.fr fr1
    obtain ⟨el, hl⟩ := zle1_e (m := m) hG
    have er : zrl J1 (nI m) 1 e = nI (zle1 I e m) := by rw [zrl_fr (fr1.rw 37 (by omega)) (fun k hk => fr1.rw (39 + k) (by omega)) e he, el]
    obtain ⟨J2, M2, c3, f2, q2, q3⟩ := s_X5_findMove (d := d) (I := J1) (L := M1) (f := 47) (g := zfg (I (4 + m)) g (nI y)) (y := nI y) (c := c) (l := zle1 I e m) hG1 hm zfg_lt kx_47 (by decide) (by decide) hc hl er
    rw [fr1.rw (4 + m) (by omega)] at c3 q2
    have c3 : zD (d + 4) 47 [.ref 1, .int (nI (zfg (I (4 + m)) g (nI y))), .int (nI m), .int (nI y), .int (nI c), .ref 47] (130, az_Pf, J1, M1) (some (.int (zb (zgk I e c m = true)))) (130, az_Pf, J2, M2) := c3
    have q2 : zgk I e c m = true → zFc M2 47 (zgv I g c m y) (zgb I c m) := q2
    have fr2 := fr1.tr f2
    have c48' : zFc M2 48 st.2.1 st.2.2 := zFc_c c48 (q3 48 (by decide) (by decide) (by decide))
    have fL2 : ∀ q, q ≠ 45 → q ≠ 46 → q ≠ 47 → q ≠ 48 → M2 q = L q := fun q n1 n2 n3 n4 => by rw [q3 q n1 n2 n3]; exact fL q n1 n2 n3 n4
    rw [show nI (y + 1) = nI y + 1 from nI_succ y] at nx
    simp only [u_X5_findGreatest_24]
    simp only [u_X5_findGreatest_26, u_X5_findGreatest_27, u_X5_findGreatest_30, u_X5_findGreatest_31, u_X5_findGreatest_34, u_X5_findGreatest_35, u_X5_findGreatest_38, u_X5_findGreatest_40, u_X5_findGreatest_43, u_X5_findGreatest_46, u_X5_findGreatest_47, u_X5_findGreatest_48, u_X5_findGreatest_51, u_X5_findGreatest_52, u_X5_findGreatest_54, u_X5_findGreatest_57, u_X5_findGreatest_59, u_X5_findGreatest_61, u_X5_findGreatest_63, u_X5_findGreatest_64, u_X5_findGreatest_67, u_X5_findGreatest_70, az_un_i, az_un_r, az_un_n, az_un_l, Option.toList_some, Option.toList_none, List.cons_append, List.nil_append, List.length_cons, List.length_nil, Nat.reduceLeDiff, Nat.reduceAdd, Nat.zero_le, Nat.zero_add, and_true, true_and, zb_1, eq_self, h1, if_false, az_call (s_X4_rowOf hm), kx_m hm, az_call c1, az_call c2, kx_47, az_call c3, zb_0]
    cases hz : zgk I e c m
    · rw [hz] at nx
      have e : zgs st false (zgv I g c m y) (zgb I c m) = st := by unfold zgs; simp
      rw [e] at nx
      simp only [Bool.false_eq_true, not_false_eq_true, if_true, u_X5_findGreatest_101, u_X5_findGreatest_104, az_un_i, az_un_r, az_un_n, az_un_l, Option.toList_some, Option.toList_none, List.cons_append, List.nil_append, List.length_cons, List.length_nil, Nat.reduceLeDiff, Nat.reduceAdd, Nat.zero_le, Nat.zero_add, and_true, true_and, zb_1, eq_self]
      exact nx J2 M2 fr2 c48' fL2
    · have bM := zgv_b (g := g) (y := y) hG hm hz
      have c4 := s_X2_isAbove (d := d + 3) (I := J2) (L := M2) (p := 47) (q := 48) kx_47 kx_48 (q2 hz) c48' bM hb
      have c5 := s_X2_copy (d := d + 3) (I := J2) (L := M2) (f := 48) (q := 47) kx_48 kx_47 (by decide) (q2 hz)
      simp only [not_true, not_true_eq_false, if_false, u_X5_findGreatest_73, u_X5_findGreatest_74, u_X5_findGreatest_76, u_X5_findGreatest_77, u_X5_findGreatest_80, u_X5_findGreatest_81, u_X5_findGreatest_84, u_X5_findGreatest_87, u_X5_findGreatest_90, u_X5_findGreatest_91, u_X5_findGreatest_94, u_X5_findGreatest_95, u_X5_findGreatest_98, u_X5_findGreatest_101, u_X5_findGreatest_104, az_un_i, az_un_r, az_un_n, az_un_l, Option.toList_some, Option.toList_none, List.cons_append, List.nil_append, List.length_cons, List.length_nil, Nat.reduceLeDiff, Nat.reduceAdd, Nat.zero_le, Nat.zero_add, and_true, true_and, zb_1, eq_self, kx_47, kx_48, az_call c4, zb_0, az_call c5]
      rw [hz] at nx
      by_cases g2 : st.2.1 * (zgb I c m : Int) < zgv I g c m y * (st.2.2 : Int)
      · have e : zgs st true (zgv I g c m y) (zgb I c m) = (true, zgv I g c m y, zgb I c m) := by unfold zgs; rw [if_pos rfl, if_pos g2]
        rw [e] at nx
        rw [if_neg (fun z => z g2)]
        exact nx J2 _ fr2 zFc_s (fun q n1 n2 n3 n4 => by funext j; rw [zLs_n n4]; exact congrFun (fL2 q n1 n2 n3 n4) j)
      · have e : zgs st true (zgv I g c m y) (zgb I c m) = (true, st.2.1, st.2.2) := by unfold zgs; rw [if_pos rfl, if_neg g2]
        rw [e] at nx
        rw [if_pos g2]
        exact nx J2 M2 fr2 c48' fL2
  refine zloop (P := fun k => ∀ J M v7, zFr I J → zFc M 48 (zgm I e g c f0 k).2.1 (zgm I e g c f0 k).2.2 → (∀ q, q ≠ 45 → q ≠ 46 → q ≠ 47 → q ≠ 48 → M q = L q) → az_W (zD (d + 4)) R k_X5_findGreatest 15 [.ref 1, .int (nI g), .int (nI f0), .int (nI t0), .int (nI c), .int (zb ((zgm I e g c f0 k).1 = true)), .int (nI (f0 + k)), v7] [] (130, az_Pf, J, M)) (t0 + 1 - f0) (fun k hk ih J M v7 fr c48 fL => ?_) (fun J M v7 fr c48 fL => ?_) 0 (Nat.zero_le _) I _ _ zFr.rf zFc_s (fun q n1 n2 n3 n4 => by funext j; rw [zLs_n n4])
  · have h1 : ¬ nI t0 < nI (f0 + k) := nI_nlt (by omega) (by omega)
    have hm : f0 + k < 30 := by omega
    have b0 := zgm_b (g := g) (c := c) (f0 := f0) hG k (by omega)
    rw [zgm] at ih
    simp only [u_X5_findGreatest_15]
    simp only [u_X5_findGreatest_17, u_X5_findGreatest_18, u_X5_findGreatest_21, u_X5_findGreatest_22, az_un_i, az_un_r, az_un_n, az_un_l, Option.toList_some, Option.toList_none, List.cons_append, List.nil_append, List.length_cons, List.length_nil, Nat.reduceLeDiff, Nat.reduceAdd, Nat.zero_le, Nat.zero_add, and_true, true_and, zb_1, eq_self, h1, if_false]
    refine step (f0 + k) 0 _ hm (by decide) b0 J M fr c48 fL (fun J M fr c48 fL => ?_)
    refine step (f0 + k) 1 _ hm (by decide) (zgs_b b0 (zgv_b hG hm)) J M fr c48 fL (fun J M fr c48 fL => ?_)
    have h2 : (1 : Int32) < nI 2 := by decide
    simp only [u_X5_findGreatest_24]
    simp only [u_X5_findGreatest_26, u_X5_findGreatest_27, u_X5_findGreatest_107, u_X5_findGreatest_110, az_un_i, az_un_r, az_un_n, az_un_l, Option.toList_some, Option.toList_none, List.cons_append, List.nil_append, List.length_cons, List.length_nil, Nat.reduceLeDiff, Nat.reduceAdd, Nat.zero_le, Nat.zero_add, and_true, true_and, zb_1, eq_self, h2, if_true]
    rw [show nI (f0 + k) + 1 = nI (f0 + (k + 1)) from (nI_succ (f0 + k)).symm]
    exact ih J M _ fr c48 fL
  · have h1 : nI t0 < nI (f0 + (t0 + 1 - f0)) := nI_lt (by omega) (by omega)
    rw [← eX] at c48 ⊢
    simp only [u_X5_findGreatest_15]
    simp only [u_X5_findGreatest_17, u_X5_findGreatest_18, u_X5_findGreatest_113, u_X5_findGreatest_115, az_un_i, az_un_r, az_un_n, az_un_l, Option.toList_some, Option.toList_none, List.cons_append, List.nil_append, List.length_cons, List.length_nil, Nat.reduceLeDiff, Nat.reduceAdd, Nat.zero_le, Nat.zero_add, and_true, true_and, zb_1, eq_self, h1, if_true]
    rw [eR, zR_at]
    exact ⟨rfl, fr, c48, fL⟩
theorem s_X5_bestCut {g f0 t0 f t e nl nr n cc w : Nat} (hG : zG I t e nl nr n cc w) (hg : g ≤ 4) (hf0 : f0 ≤ t0) (ht : t0 < 30) (hf : az_kn 130 f = (0, 2)) (n1 : f ≠ 45) (n2 : f ≠ 46) (n3 : f ≠ 47) (n4 : f ≠ 48) : zE (d + 6) 49 [.ref 1, .int (nI g), .int (nI f0), .int (nI t0), .ref f] I L (some (.int (zfd (zbc (fun c => zgm I e g c f0 (t0 + 1 - f0)) 4).1))) (fun J L' => zFr I J ∧ ((zbc (fun c => zgm I e g c f0 (t0 + 1 - f0)) 4).1 ≠ none → zFc L' f (zbc (fun c => zgm I e g c f0 (t0 + 1 - f0)) 4).2.1 (zbc (fun c => zgm I e g c f0 (t0 + 1 - f0)) 4).2.2)) := by
  refine zE_of zm_X5_bestCut rfl ?_
  show az_W _ _ _ 0 [.ref 1, .int (nI g), .int (nI f0), .int (nI t0), .ref f, .null, .null] [] _
  have he := hG.2.2.2.1.2.2.2.2.2.1
  obtain ⟨G, eG⟩ : ∃ G : Nat → Bool × Int × Nat, G = fun c => zgm I e g c f0 (t0 + 1 - f0) := ⟨_, rfl⟩
  have eG' : ∀ c, zgm I e g c f0 (t0 + 1 - f0) = G c := fun c => by rw [eG]
  have bG : ∀ c, zFb (G c).2.1 (G c).2.2 := fun c => by rw [← eG' c]; exact zgm_b hG _ (by omega)
  rw [← eG]
  obtain ⟨X, eX⟩ : ∃ X, X = zbc G 4 := ⟨_, rfl⟩
  rw [← eX]
  obtain ⟨R, eR⟩ : ∃ R, R = zR (some (.int (zfd X.1))) (fun J L' => zFr I J ∧ (X.1 ≠ none → zFc L' f X.2.1 X.2.2)) := ⟨_, rfl⟩
  rw [← eR]
  simp only [u_X5_bestCut_0, u_X5_bestCut_2, u_X5_bestCut_4, u_X5_bestCut_5, az_un_i, az_un_r, az_un_n, az_un_l, Option.toList_some, Option.toList_none, List.cons_append, List.nil_append, List.length_cons, List.length_nil, Nat.reduceLeDiff, Nat.reduceAdd, Nat.zero_le, Nat.zero_add, and_true, true_and, zb_1, eq_self]
  refine zloop (P := fun k => ∀ J M, zFr I J → ((zbc G k).1 ≠ none → zFc M f (zbc G k).2.1 (zbc G k).2.2) → az_W (zD (d + 5)) R k_X5_bestCut 7 [.ref 1, .int (nI g), .int (nI f0), .int (nI t0), .ref f, .int (zfd (zbc G k).1), .int (nI k)] [] (130, az_Pf, J, M)) 4 (fun k hk ih J M fr a1 => ?_) (fun J M fr a1 => ?_) 0 (Nat.zero_le _) I _ zFr.rf (fun q => absurd rfl q)
  · have h1 : ¬ (3 : Int32) < nI k := nI_nlt (a := 3) (by omega) (by omega)
    obtain ⟨J2, M2, c2, f2, q2, q3⟩ := s_X5_findGreatest (d := d) (I := J) (L := M) (g := g) (c := k) (hG.fr fr) hg (by omega) hf0 ht
    rw [zgm_fr fr he _ (by omega), eG' k] at c2 q2
    have fr2 := fr.tr f2
    have a2 : (zbc G k).1 ≠ none → zFc M2 f (zbc G k).2.1 (zbc G k).2.2 := fun q => zFc_c (a1 q) (q3 f n1 n2 n3 n4)
    have bB := zbc_b bG k
    have rr := fun j => zbc_r (G := G) k j
    rw [show nI (k + 1) = nI k + 1 from nI_succ k, zbc] at ih
    obtain ⟨B, eB⟩ : ∃ B, B = zbc G k := ⟨_, rfl⟩
    rw [← eB] at ih a1 a2 bB rr ⊢
    have c5 := s_X2_copy (d := d + 4) (I := J2) (L := M2) (f := f) (q := 48) hf kx_48 n4 q2
    have yes : (G k).1 = true ∧ (B.1 = none ∨ (G k).2.1 * (B.2.2 : Int) < B.2.1 * ((G k).2.2 : Int)) → az_W (zD (d + 5)) R k_X5_bestCut 7 [.ref 1, .int (nI g), .int (nI f0), .int (nI t0), .ref f, .int (nI k), .int (nI k + 1)] [] (130, az_Pf, J2, zLs M2 f (G k).2.1 (G k).2.2) := fun q => by
      rw [if_pos q] at ih
      exact ih J2 _ fr2 (fun _ => zFc_s)
    have no : ¬ ((G k).1 = true ∧ (B.1 = none ∨ (G k).2.1 * (B.2.2 : Int) < B.2.1 * ((G k).2.2 : Int))) → az_W (zD (d + 5)) R k_X5_bestCut 7 [.ref 1, .int (nI g), .int (nI f0), .int (nI t0), .ref f, .int (zfd B.1), .int (nI k + 1)] [] (130, az_Pf, J2, M2) := fun q => by
      rw [if_neg q] at ih
      exact ih J2 _ fr2 a2
    simp only [u_X5_bestCut_7]
    simp only [u_X5_bestCut_9, u_X5_bestCut_10, u_X5_bestCut_13, u_X5_bestCut_14, u_X5_bestCut_15, u_X5_bestCut_16, u_X5_bestCut_17, u_X5_bestCut_19, u_X5_bestCut_22, az_un_i, az_un_r, az_un_n, az_un_l, Option.toList_some, Option.toList_none, List.cons_append, List.nil_append, List.length_cons, List.length_nil, Nat.reduceLeDiff, Nat.reduceAdd, Nat.zero_le, Nat.zero_add, and_true, true_and, zb_1, eq_self, h1, if_false, az_call c2, zb_0]
    by_cases g1 : (G k).1 = true
    · rw [if_neg (fun z => z g1)]
      cases hB : B.1 with
      | none =>
        have n4' : zfd none = -4 := rfl
        simp only [u_X5_bestCut_25, u_X5_bestCut_27, u_X5_bestCut_29, u_X5_bestCut_32, u_X5_bestCut_34, u_X5_bestCut_35, u_X5_bestCut_38, u_X5_bestCut_41, u_X5_bestCut_44, u_X5_bestCut_46, u_X5_bestCut_48, u_X5_bestCut_50, u_X5_bestCut_51, u_X5_bestCut_54, u_X5_bestCut_57, u_X5_bestCut_60, az_un_i, az_un_r, az_un_n, az_un_l, Option.toList_some, Option.toList_none, List.cons_append, List.nil_append, List.length_cons, List.length_nil, Nat.reduceLeDiff, Nat.reduceAdd, Nat.zero_le, Nat.zero_add, and_true, true_and, zb_1, eq_self, n4', if_true, hf, kx_48, az_call c5]
        exact yes ⟨g1, Or.inl hB⟩
      | some j =>
        have hj := rr j hB
        have n4' : ¬ zfd (some j) = -4 := fun z => by
          have := congrArg Int32.toInt (show nI j = -4 from z)
          rw [nI_toInt (by omega)] at this
          simp at this
        have c4 := s_X2_isAbove (d := d + 4) (I := J2) (L := M2) (p := f) (q := 48) hf kx_48 (a2 (by rw [hB]; simp)) q2 bB (bG k)
        simp only [u_X5_bestCut_25, u_X5_bestCut_27, u_X5_bestCut_29, u_X5_bestCut_32, u_X5_bestCut_34, u_X5_bestCut_35, u_X5_bestCut_38, u_X5_bestCut_41, u_X5_bestCut_44, u_X5_bestCut_46, u_X5_bestCut_48, u_X5_bestCut_50, u_X5_bestCut_51, u_X5_bestCut_54, u_X5_bestCut_57, u_X5_bestCut_60, az_un_i, az_un_r, az_un_n, az_un_l, Option.toList_some, Option.toList_none, List.cons_append, List.nil_append, List.length_cons, List.length_nil, Nat.reduceLeDiff, Nat.reduceAdd, Nat.zero_le, Nat.zero_add, and_true, true_and, zb_1, eq_self, n4', if_false, hf, kx_48, az_call c4, zb_0, az_call c5]
        by_cases g2 : (G k).2.1 * (B.2.2 : Int) < B.2.1 * ((G k).2.2 : Int)
        · rw [if_neg (fun z => z g2)]
          exact yes ⟨g1, Or.inr g2⟩
        · rw [if_pos g2, ← hB]
          exact no (fun q => q.2.elim (fun z => by rw [hB] at z; cases z) g2)
    · rw [if_pos g1]
      simp only [u_X5_bestCut_57, u_X5_bestCut_60, az_un_i, az_un_r, az_un_n, az_un_l, Option.toList_some, Option.toList_none, List.cons_append, List.nil_append, List.length_cons, List.length_nil, Nat.reduceLeDiff, Nat.reduceAdd, Nat.zero_le, Nat.zero_add, and_true, true_and, zb_1, eq_self]
      exact no (fun q => g1 q.1)
  · have h1 : (3 : Int32) < nI 4 := by decide
    rw [← eX] at a1 ⊢
    simp only [u_X5_bestCut_7]
    simp only [u_X5_bestCut_9, u_X5_bestCut_10, u_X5_bestCut_63, u_X5_bestCut_65, az_un_i, az_un_r, az_un_n, az_un_l, Option.toList_some, Option.toList_none, List.cons_append, List.nil_append, List.length_cons, List.length_nil, Nat.reduceLeDiff, Nat.reduceAdd, Nat.zero_le, Nat.zero_add, and_true, true_and, zb_1, eq_self, h1, if_true]
    rw [eR, zR_at]
    exact ⟨rfl, fr, a1⟩
end S
