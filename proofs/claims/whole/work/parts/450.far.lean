/-! ===== the farthest move most ===== -/
theorem zpos_r {v : Nat → Int32} {O : Nat → Nat} {x : Nat} : ∀ k, (∀ j, zpos v O x k ≤ j → j < k → v x < v (O j)) ∧ (0 < zpos v O x k → v (O (zpos v O x k - 1)) ≤ v x)
  | 0 => ⟨fun j _ hj => absurd hj (Nat.not_lt_zero _), fun h => absurd h (Nat.lt_irrefl _)⟩
  | k + 1 => by
    obtain ⟨h1, h2⟩ := zpos_r (v := v) (O := O) (x := x) k
    rw [zpos]
    by_cases c : v x < v (O k)
    · rw [if_pos c]
      refine ⟨fun j g1 g2 => ?_, h2⟩
      by_cases e : j = k
      · rw [e]; exact c
      · exact h1 j g1 (by omega)
    · rw [if_neg c]
      exact ⟨fun j g1 g2 => by omega, fun _ => by rw [Nat.add_sub_cancel]; exact Int32.not_lt.mp c⟩
/-- the order is one -/
theorem zso_s {v : Nat → Int32} : ∀ h i j, i < j → j < (zso v h).1 → v ((zso v h).2 i) ≤ v ((zso v h).2 j)
  | 0, _, j, _, hj => absurd hj (Nat.not_lt_zero _)
  | h + 1, i, j, hi, hj => by
    have ih := zso_s (v := v) h
    rw [zso] at hj ⊢
    by_cases g : v h = -1
    · rw [if_pos g] at hj ⊢; exact ih i j hi hj
    · rw [if_neg g] at hj ⊢
      have hj : j < (zso v h).1 + 1 := hj
      show v (zins _ _ _ i) ≤ v (zins _ _ _ j)
      have hp := zpos_le (v := v) (O := (zso v h).2) (x := h) (zso v h).1
      obtain ⟨r1, r2⟩ := zpos_r (v := v) (O := (zso v h).2) (x := h) (zso v h).1
      generalize zpos v (zso v h).2 h (zso v h).1 = p at *
      have low : ∀ i, i < p → v ((zso v h).2 i) ≤ v h := fun i hi => by
        by_cases e : i = p - 1
        · rw [e]; exact r2 (by omega)
        · exact Int32.le_trans (ih i (p - 1) (by omega) (by omega)) (r2 (by omega))
      rcases Nat.lt_trichotomy i p with c1 | c1 | c1 <;> rcases Nat.lt_trichotomy j p with c2 | c2 | c2
      · rw [zins_lt c1, zins_lt c2]; exact ih i j hi (by omega)
      · rw [zins_lt c1, c2, zins_at]; exact low i c1
      · rw [zins_lt c1, zins_gt c2]
        by_cases e : i = j - 1
        · rw [e]; exact Int32.le_refl _
        · exact ih i (j - 1) (by omega) (by omega)
      · omega
      · omega
      · rw [c1, zins_at, zins_gt c2]; exact Int32.le_of_lt (r1 (j - 1) (by omega) (by omega))
      · omega
      · omega
      · rw [zins_gt c1, zins_gt c2]; exact ih (i - 1) (j - 1) (by omega) (by omega)
theorem zO_s {v : Nat → Int32} {i j : Nat} (h1 : i ≤ j) (h2 : j < zK v) : (v (zO v i)).toInt ≤ (v (zO v j)).toInt := by
  rcases Nat.lt_or_ge i j with c | c
  · exact Int32.le_iff_toInt_le.mp (zso_s 8 i j c h2)
  · rw [show i = j by omega]; exact Int.le_refl _
/-- counting houses by their places -/
theorem zcn_ins {q : Nat → Bool} {O : Nat → Nat} {p x : Nat} : ∀ k, p ≤ k → zcn (fun j => q (zins O p x j)) (k + 1) = zcn (fun j => q (O j)) k + (if q x = true then 1 else 0) := by
  have lo : ∀ k, k ≤ p → zcn (fun j => q (zins O p x j)) k = zcn (fun j => q (O j)) k := fun k hk => zcn_c (fun j hj => by rw [zins_lt (by omega)])
  intro k
  induction k with
  | zero =>
    intro hp
    have e : p = 0 := by omega
    rw [zcn, zcn, e, zins_at]
    cases q x <;> simp [zcn]
  | succ k ih =>
    intro hp
    by_cases c : p = k + 1
    · rw [zcn, lo (k + 1) (by omega), c, zins_at]
      cases q x <;> simp
    · have := ih (by omega)
      rw [zcn, this, zins_gt (by omega), Nat.add_sub_cancel]
      rw [show zcn (fun j => q (O j)) (k + 1) = if q (O k) = true then zcn (fun j => q (O j)) k + 1 else zcn (fun j => q (O j)) k from rfl]
      cases q (O k) <;> simp <;> omega
theorem zcn_so {v : Nat → Int32} {q : Nat → Bool} : ∀ h, (∀ x, x < h → v x = -1 → q x = false) → zcn q h = zcn (fun j => q ((zso v h).2 j)) (zso v h).1
  | 0, _ => rfl
  | h + 1, hq => by
    have ih := zcn_so (v := v) (q := q) h (fun x hx => hq x (by omega))
    rw [zcn, ih]
    by_cases g : v h = -1
    · rw [hq h (by omega) g, if_neg (by simp)]
      rw [show zso v (h + 1) = zso v h by rw [zso, if_pos g]]
    · rw [show zso v (h + 1) = ((zso v h).1 + 1, zins (zso v h).2 (zpos v (zso v h).2 h (zso v h).1) h) by rw [zso, if_neg g]]
      show _ = zcn (fun j => q (zins _ _ _ j)) ((zso v h).1 + 1)
      rw [zcn_ins _ (zpos_le _)]
      split <;> omega
theorem zcn_O {v : Nat → Int32} {q : Nat → Bool} (hq : ∀ x, x < 8 → v x = -1 → q x = false) : zcn q 8 = zcn (fun j => q (zO v j)) (zK v) := zcn_so 8 hq
theorem zcn_hi {p : Nat → Bool} {i : Nat} : ∀ k, (∀ j, i ≤ j → j < k → p j = true) → k - i ≤ zcn p k
  | 0, _ => by omega
  | k + 1, h => by
    have ih := zcn_hi k (fun j h1 h2 => h j h1 (by omega))
    rw [zcn]
    by_cases c : i ≤ k
    · rw [if_pos (h k c (by omega))]; omega
    · split <;> omega
theorem zcn_lo {p : Nat → Bool} {i : Nat} : ∀ k, (∀ j, j < i → p j = false) → i ≤ k → zcn p k ≤ k - i
  | 0, _, _ => by rw [zcn]; omega
  | k + 1, h, hi => by
    rw [zcn]
    by_cases c : i = k + 1
    · have z : ∀ m, m ≤ k → zcn p m = 0 := by
        intro m
        induction m with
        | zero => intro _; rfl
        | succ m im => intro hm; rw [zcn, h m (by omega), im (by omega)]; simp
      rw [h k (by omega), z k (Nat.le_refl _)]; simp
    · have ih := zcn_lo k h (by omega)
      split <;> omega
/-- how many say so much or more -/
def zN (v : Nat → Int32) (t : Int) : Nat := zcn (fun h => decide (t ≤ (v h).toInt)) 8
theorem zN_O {v : Nat → Int32} {t : Int} (ht : 0 ≤ t) : zN v t = zcn (fun j => decide (t ≤ (v (zO v j)).toInt)) (zK v) := by
  unfold zN
  refine zcn_O (q := fun h => decide (t ≤ (v h).toInt)) (fun x _ e => ?_)
  rw [e, decide_eq_false_iff_not, show (-1 : Int32).toInt = -1 from rfl]; omega
/-- more of them everywhere: no place is lower -/
theorem zdom {v w : Nat → Int32} (hv : zVr v) (hK : zK v = zK w) (h : ∀ t : Int, 0 ≤ t → zN v t ≤ zN w t) {i : Nat} (hi : i < zK v) : (v (zO v i)).toInt ≤ (w (zO w i)).toInt := by
  rcases (show (w (zO w i)).toInt < (v (zO v i)).toInt ∨ (v (zO v i)).toInt ≤ (w (zO w i)).toInt by omega) with c | c
  · exfalso
    have t0 := (hv.at hi).1
    have h1 := h (v (zO v i)).toInt t0
    rw [zN_O t0, zN_O t0] at h1
    have a1 := zcn_hi (p := fun j => decide ((v (zO v i)).toInt ≤ (v (zO v j)).toInt)) (i := i) (zK v) (fun j g1 g2 => by
      rw [decide_eq_true_iff]; exact zO_s g1 g2)
    have a2 := zcn_lo (p := fun j => decide ((v (zO v i)).toInt ≤ (w (zO w j)).toInt)) (i := i + 1) (zK w) (fun j hj => by
      rw [decide_eq_false_iff_not]
      have := zO_s (v := w) (i := j) (j := i) (by omega) (by omega)
      omega) (by omega)
    omega
  · exact c
theorem zts_mono {v w : Nat → Int32} {O O' : Nat → Nat} {c : Nat} : ∀ n, (∀ j, j < n → (v (O (c + j))).toInt ≤ (w (O' (c + j))).toInt) → zts v O c n ≤ zts w O' c n
  | 0, _ => Nat.le_refl _
  | n + 1, h => by
    have := zts_mono n (fun j hj => h j (by omega))
    have := h n (by omega)
    rw [zts, zts]; omega
theorem zS_dom {v w : Nat → Int32} (hv : zVr v) (hK : zK v = zK w) (h : ∀ t : Int, 0 ≤ t → zN v t ≤ zN w t) (c : Nat) : zS v c ≤ zS w c := by
  unfold zS
  rw [← hK]
  exact zts_mono _ (fun j hj => zdom hv hK h (by omega))
/-- the g highest, the g lowest as bits -/
def zfa (v : Nat → Int32) (y : Int32) : Nat → Nat
  | 0 => 0
  | i + 1 => zfa v y i ||| 2 ^ (if y = 0 then zO v (zK v - 1 - i) else zO v i)
def zfg (v : Nat → Int32) (g : Nat) (y : Int32) : Nat := zfa v y (min g (zK v))
theorem zfa_b {v : Nat → Int32} {y : Int32} (h : Nat) : ∀ k, (zfa v y k).testBit h = true ↔ ∃ i, i < k ∧ (if y = 0 then zO v (zK v - 1 - i) else zO v i) = h
  | 0 => by simp [zfa]
  | k + 1 => by
    rw [zfa, Nat.testBit_or, Bool.or_eq_true, zfa_b h k, Nat.testBit_two_pow, decide_eq_true_iff]
    constructor
    · rintro (⟨i, i1, i2⟩ | e)
      · exact ⟨i, by omega, i2⟩
      · exact ⟨k, by omega, e⟩
    · rintro ⟨i, i1, i2⟩
      by_cases c : i = k
      · right; rw [← c]; exact i2
      · left; exact ⟨i, by omega, i2⟩
theorem zfg_lt {v : Nat → Int32} {g : Nat} {y : Int32} : zfg v g y < 256 := by
  have key : ∀ k, k ≤ zK v → zfa v y k < 2 ^ 8 := by
    intro k
    induction k with
    | zero => intro _; exact Nat.two_pow_pos 8
    | succ k ih =>
      intro hk
      rw [zfa]
      refine Nat.or_lt_two_pow (ih (by omega)) (Nat.pow_lt_pow_right (by decide) ?_)
      split
      · exact zO_lt (by omega)
      · exact zO_lt (by omega)
  exact key _ (Nat.min_le_right _ _)
/-- by places -/
theorem zfg_0 {v : Nat → Int32} {g j : Nat} (hj : j < zK v) : (zfg v g 0).testBit (zO v j) = decide (zK v ≤ j + g) := by
  by_cases c : zK v ≤ j + g
  · rw [show decide (zK v ≤ j + g) = true by simp [c]]
    refine (zfa_b _ _).mpr ⟨zK v - 1 - j, by omega, ?_⟩
    rw [if_pos rfl, show zK v - 1 - (zK v - 1 - j) = j by omega]
  · rw [show decide (zK v ≤ j + g) = false by simp [c]]
    cases hz : (zfg v g 0).testBit (zO v j)
    · rfl
    · exfalso
      obtain ⟨i, i1, i2⟩ := (zfa_b _ _).mp hz
      rw [if_pos rfl] at i2
      have := zO_inj (by omega) hj i2
      omega
theorem zfg_1 {v : Nat → Int32} {g j : Nat} {y : Int32} (hy : y ≠ 0) (hj : j < zK v) : (zfg v g y).testBit (zO v j) = decide (j < g) := by
  by_cases c : j < g
  · rw [show decide (j < g) = true by simp [c]]
    exact (zfa_b _ _).mpr ⟨j, by omega, by rw [if_neg hy]⟩
  · rw [show decide (j < g) = false by simp [c]]
    cases hz : (zfg v g y).testBit (zO v j)
    · rfl
    · exfalso
      obtain ⟨i, i1, i2⟩ := (zfa_b _ _).mp hz
      rw [if_neg hy] at i2
      have := zO_inj (by omega) hj i2
      omega
theorem zfg_sp {v : Nat → Int32} {g h : Nat} {y : Int32} (hb : (zfg v g y).testBit h = true) : v h ≠ -1 := by
  obtain ⟨i, i1, i2⟩ := (zfa_b _ _).mp hb
  rw [← i2]; split
  · exact zO_sp (by omega)
  · exact zO_sp (by omega)
theorem zcn_add {p q : Nat → Bool} : ∀ n, zcn (fun i => p i || q i) n ≤ zcn p n + zcn q n
  | 0 => Nat.le_refl _
  | n + 1 => by
    have := zcn_add (p := p) (q := q) n
    rw [zcn, zcn, zcn]
    cases p n <;> cases q n <;> simp <;> omega
theorem zen_0 {y : Int32} (h : y = 0) : (zen y).toInt = 0 := by unfold zen; rw [if_pos h]; rfl
theorem zen_1 {y : Int32} (h : y ≠ 0) : (zen y).toInt = 999 := by unfold zen; rw [if_neg h]; rfl
theorem zbn_t {v : Nat → Int32} {G h : Nat} {y : Int32} (h1 : v h ≠ -1) (h2 : G.testBit h = true) : zbn v G y h = zen y := by unfold zbn; rw [if_pos ⟨h1, h2⟩]
theorem zbn_f {v : Nat → Int32} {G h : Nat} {y : Int32} (h2 : G.testBit h = false) : zbn v G y h = v h := by unfold zbn; rw [if_neg (fun q => by rw [h2] at q; cases q.2)]
theorem zbn_s {v : Nat → Int32} {G h : Nat} {y : Int32} (h1 : v h = -1) : zbn v G y h = v h := by unfold zbn; rw [if_neg (fun q => q.1 h1)]
theorem zN_bn {v : Nat → Int32} {G : Nat} {y : Int32} {t : Int} (ht : 0 ≤ t) : zN (zbn v G y) t = zcn (fun j => decide (t ≤ (zbn v G y (zO v j)).toInt)) (zK v) := by
  unfold zN
  refine zcn_O (q := fun h => decide (t ≤ (zbn v G y h).toInt)) (fun x _ e => ?_)
  rw [zbn_s e, e, decide_eq_false_iff_not, show (-1 : Int32).toInt = -1 from rfl]; omega
theorem zcn_cat {p : Nat → Bool} {n : Nat} : ∀ k, zcn p (n + k) = zcn p n + zcn (fun j => p (n + j)) k
  | 0 => rfl
  | k + 1 => by
    have := zcn_cat (p := p) (n := n) k
    rw [← Nat.add_assoc, zcn, this]
    rw [show zcn (fun j => p (n + j)) (k + 1) = if p (n + k) = true then zcn (fun j => p (n + j)) k + 1 else zcn (fun j => p (n + j)) k from rfl]
    split <;> omega
theorem zcn_all {p : Nat → Bool} {n : Nat} (h : ∀ j, j < n → p j = true) : zcn p n = n := by
  rw [zcn_c (q := fun _ => true) h, zcn_t]
theorem zcn_no {p : Nat → Bool} {n : Nat} (h : ∀ j, j < n → p j = false) : zcn p n = 0 := by
  have := zcn_lo (p := p) (i := n) n h (Nat.le_refl _); omega
/-- no g move more -/
theorem zmv_max {v : Nat → Int32} {g G c : Nat} {y : Int32} (hv : zVr v) (hG : zpc G ≤ g) : zmv v G y c ≤ zmv v (zfg v g y) y c := by
  unfold zmv
  by_cases hy : y = 0
  · subst hy
    rw [if_pos rfl, if_pos rfl]
    have : zS (zbn v (zfg v g 0) 0) c ≤ zS (zbn v G 0) c := by
      refine zS_dom (zVr_bn hv) (by rw [zK_bn, zK_bn]) (fun t ht => ?_) c
      rcases (show t = 0 ∨ 0 < t by omega) with e | e
      · subst e
        rw [zN_bn (by omega), zN_bn (by omega)]
        have a1 := zcn_le (fun j => decide (0 ≤ (zbn v (zfg v g 0) 0 (zO v j)).toInt)) (zK v)
        have a2 : zcn (fun j => decide (0 ≤ (zbn v G 0 (zO v j)).toInt)) (zK v) = zK v := zcn_all (fun j hj => by
          rw [decide_eq_true_iff]
          have h1 := (zVr_bn (g := G) (w := 0) hv) _ (zO_lt hj)
          exact zpo h1.1 (fun q => zO_sp hj ((zbn_p _).mp q)))
        omega
      · have k1 : zN v t ≤ zN (zbn v G 0) t + zpc G := by
          refine Nat.le_trans (zcn_mono (q := fun h => decide (t ≤ (zbn v G 0 h).toInt) || G.testBit h) (fun h hh => ?_) 8) (zcn_add 8)
          cases hb : G.testBit h
          · rw [zbn_f hb, Bool.or_false]; exact hh
          · rw [Bool.or_true]
        rw [zN_bn (v := v) (G := zfg v g 0) (by omega)]
        rw [zN_O ht] at k1
        have eq : ∀ j, j < zK v → decide (t ≤ (zbn v (zfg v g 0) 0 (zO v j)).toInt) = (decide (t ≤ (v (zO v j)).toInt) && decide (j + g < zK v)) := fun j hj => by
          have hb := zfg_0 (g := g) hj
          by_cases c1 : zK v ≤ j + g
          · rw [show decide (zK v ≤ j + g) = true by simp [c1]] at hb
            rw [zbn_t (zO_sp hj) hb, zen_0 rfl, show decide (j + g < zK v) = false by simp; omega, Bool.and_false, decide_eq_false_iff_not]; omega
          · rw [show decide (zK v ≤ j + g) = false by simp [c1]] at hb
            rw [zbn_f hb, show decide (j + g < zK v) = true by simp; omega, Bool.and_true]
        rw [zcn_c eq]
        rcases Nat.lt_or_ge g (zK v) with c1 | c1
        · have cat : zK v = (zK v - g) + g := by omega
          rw [cat] at k1 ⊢
          rw [zcn_cat] at k1 ⊢
          rw [← cat]
          rw [zcn_no (p := fun j => decide (t ≤ (v (zO v (zK v - g + j))).toInt) && decide (zK v - g + j + g < zK v)) (fun j hj => by
            rw [show decide (zK v - g + j + g < zK v) = false by simp; omega, Bool.and_false]), Nat.add_zero]
          rw [zcn_c (q := fun j => decide (t ≤ (v (zO v j)).toInt)) (fun j hj => by
            rw [show decide (j + g < zK v) = true by simp; omega, Bool.and_true])]
          by_cases c2 : t ≤ (v (zO v (zK v - g - 1))).toInt
          · rw [zcn_all (p := fun j => decide (t ≤ (v (zO v (zK v - g + j))).toInt)) (fun j hj => by
              rw [decide_eq_true_iff]
              have := zO_s (v := v) (i := zK v - g - 1) (j := zK v - g + j) (by omega) (by omega)
              omega)] at k1
            omega
          · rw [zcn_no (n := zK v - g) (fun j hj => by
              rw [decide_eq_false_iff_not]
              have := zO_s (v := v) (i := j) (j := zK v - g - 1) (by omega) (by omega)
              omega)]
            exact Nat.zero_le _
        · rw [zcn_no (fun j hj => by rw [show decide (j + g < zK v) = false by simp; omega, Bool.and_false])]
          exact Nat.zero_le _
    omega
  · rw [if_neg hy, if_neg hy]
    have : zS (zbn v G y) c ≤ zS (zbn v (zfg v g y) y) c := by
      refine zS_dom (zVr_bn hv) (by rw [zK_bn, zK_bn]) (fun t ht => ?_) c
      rcases (show t ≤ 999 ∨ 999 < t by omega) with e | e
      · have k1 : zN (zbn v G y) t ≤ zN v t + zpc G := by
          refine Nat.le_trans (zcn_mono (q := fun h => decide (t ≤ (v h).toInt) || G.testBit h) (fun h hh => ?_) 8) (zcn_add 8)
          cases hb : G.testBit h
          · rw [zbn_f hb] at hh; rw [Bool.or_false]; exact hh
          · rw [Bool.or_true]
        have k2 : zN (zbn v G y) t ≤ zK v := by rw [zN_bn ht]; exact zcn_le _ _
        rw [zN_bn (v := v) (G := zfg v g y) ht]
        rw [zN_O (v := v) ht] at k1
        have eq : ∀ j, j < zK v → decide (t ≤ (zbn v (zfg v g y) y (zO v j)).toInt) = (decide (t ≤ (v (zO v j)).toInt) || decide (j < g)) := fun j hj => by
          have hb := zfg_1 (g := g) hy hj
          by_cases c1 : j < g
          · rw [show decide (j < g) = true by simp [c1]] at hb ⊢
            rw [zbn_t (zO_sp hj) hb, zen_1 hy, Bool.or_true, decide_eq_true_iff]; exact e
          · rw [show decide (j < g) = false by simp [c1]] at hb ⊢
            rw [zbn_f hb, Bool.or_false]
        rw [zcn_c eq]
        by_cases c1 : ∀ j, g ≤ j → j < zK v → t ≤ (v (zO v j)).toInt
        · rw [zcn_all (p := fun j => decide (t ≤ (v (zO v j)).toInt) || decide (j < g)) (fun j hj => by
            rcases Nat.lt_or_ge j g with c2 | c2
            · rw [show decide (j < g) = true by simp [c2], Bool.or_true]
            · rw [show decide (t ≤ (v (zO v j)).toInt) = true by simp [c1 j c2 hj], Bool.true_or])]
          exact k2
        · have c2 : ∃ j, g ≤ j ∧ j < zK v ∧ ¬ t ≤ (v (zO v j)).toInt := Classical.byContradiction fun q => c1 (fun j g1 g2 => Classical.byContradiction fun z => q ⟨j, g1, g2, z⟩)
          obtain ⟨j0, d1, d2, d3⟩ := c2
          have cat : zK v = g + (zK v - g) := by omega
          rw [cat, zcn_cat] at k1
          rw [cat, zcn_cat]
          rw [zcn_no (n := g) (fun j hj => by
            rw [decide_eq_false_iff_not]
            have := zO_s (v := v) (i := j) (j := j0) (by omega) d2
            omega)] at k1
          rw [zcn_all (p := fun j => decide (t ≤ (v (zO v j)).toInt) || decide (j < g)) (n := g) (fun j hj => by
            rw [show decide (j < g) = true by simp [hj], Bool.or_true])]
          have : zcn (fun j => decide (t ≤ (v (zO v (g + j))).toInt)) (zK v - g) ≤ zcn (fun j => decide (t ≤ (v (zO v (g + j))).toInt) || decide (g + j < g)) (zK v - g) := zcn_mono (fun j hj => by rw [hj, Bool.true_or]) _
          omega
      · have : zN (zbn v G y) t = 0 := by
          unfold zN
          exact zcn_no (fun h hh => by
            rw [decide_eq_false_iff_not]
            have := ((zVr_bn (g := G) (w := y) hv) h hh).2
            omega)
        omega
    omega
theorem zmv_pos {v : Nat → Int32} {g c : Nat} {y : Int32} (hv : zVr v) : 0 ≤ zmv v (zfg v g y) y c := by
  have := zmv_max (G := 0) (g := g) (c := c) (y := y) hv (by show zpc 0 ≤ g; rw [show zpc 0 = 0 from by decide]; exact Nat.zero_le _)
  rw [zmv_0] at this; exact this
theorem zpc_fg {v : Nat → Int32} {g : Nat} {y : Int32} : zpc (zfg v g y) = min g (zK v) := by
  unfold zpc
  rw [zcn_O (v := v) (fun x _ e => by
    cases hz : (zfg v g y).testBit x
    · rfl
    · exact absurd e (zfg_sp hz))]
  by_cases hy : y = 0
  · subst hy
    rw [zcn_c (fun j hj => zfg_0 hj)]
    rcases Nat.lt_or_ge g (zK v) with c | c
    · have cat : zK v = (zK v - g) + g := by omega
      rw [cat, zcn_cat, ← cat]
      rw [zcn_no (fun j hj => by rw [decide_eq_false_iff_not]; omega), zcn_all (fun j hj => by rw [decide_eq_true_iff]; omega)]
      omega
    · rw [zcn_all (fun j hj => by rw [decide_eq_true_iff]; omega)]; omega
  · rw [zcn_c (fun j hj => zfg_1 hy hj)]
    rcases Nat.lt_or_ge g (zK v) with c | c
    · have cat : zK v = g + (zK v - g) := by omega
      rw [cat, zcn_cat, ← cat]
      rw [zcn_all (n := g) (fun j hj => by rw [decide_eq_true_iff]; omega), zcn_no (fun j hj => by rw [decide_eq_false_iff_not]; omega)]
      omega
    · rw [zcn_all (fun j hj => by rw [decide_eq_true_iff]; omega)]; omega
/-- more bits, up to a number of them -/
theorem zpc_ext {g : Nat} (hg : g ≤ 8) : ∀ k w, w < 256 → g - zpc w = k → zpc w ≤ g → ∃ G, G < 256 ∧ zpc G = g ∧ ∀ i, w.testBit i = true → G.testBit i = true
  | 0, w, hw, h1, h2 => ⟨w, hw, by omega, fun _ h => h⟩
  | k + 1, w, hw, h1, h2 => by
    have ex : ∃ i, i < 8 ∧ w.testBit i = false := Classical.byContradiction fun q => by
      have : zpc w = 8 := zcn_all (fun i hi => by
        cases hz : w.testBit i
        · exact absurd ⟨i, hi, hz⟩ q
        · rfl)
      omega
    obtain ⟨i, i1, i2⟩ := ex
    have l1 : w ||| 2 ^ i < 256 := Nat.or_lt_two_pow (n := 8) hw (Nat.pow_lt_pow_right (by decide) i1)
    have l2 : zpc (w ||| 2 ^ i) = zpc w + 1 := by
      have up : zpc w < zpc (w ||| 2 ^ i) := zcn_lt (i := i) (fun k hk => by rw [Nat.testBit_or, hk, Bool.true_or]) (by rw [Nat.testBit_or, Nat.testBit_two_pow_self, Bool.or_true]) i2 8 i1
      have dn : zpc (w ||| 2 ^ i) ≤ zpc w + zpc (2 ^ i) := by
        refine Nat.le_trans (zcn_mono (q := fun k => w.testBit k || (2 ^ i).testBit k) (fun k hk => by rw [Nat.testBit_or] at hk; exact hk) 8) (zcn_add 8)
      have one : ∀ i, i < 8 → zpc (2 ^ i) = 1 := by decide
      rw [one i i1] at dn
      omega
    obtain ⟨G, g1, g2, g3⟩ := zpc_ext hg k (w ||| 2 ^ i) l1 (by omega) (by omega)
    exact ⟨G, g1, g2, fun j hj => g3 j (by rw [Nat.testBit_or, hj, Bool.true_or])⟩
/-- some g do move so much -/
theorem zmv_at {v : Nat → Int32} {g c : Nat} {y : Int32} (hg1 : 1 ≤ g) (hg : g ≤ 8) : ∃ G, 1 ≤ G ∧ G < 256 ∧ zpc G = g ∧ zmv v G y c = zmv v (zfg v g y) y c := by
  have h1 := zpc_fg (v := v) (g := g) (y := y)
  obtain ⟨G, g1, g2, g3⟩ := zpc_ext hg _ (zfg v g y) zfg_lt rfl (by omega)
  have g0 : 1 ≤ G := by
    rcases Nat.eq_zero_or_pos G with e | e
    · rw [e, show zpc 0 = 0 from by decide] at g2; omega
    · exact e
  refine ⟨G, g0, g1, g2, ?_⟩
  have e : ∀ i, i < 8 → zbn v G y i = zbn v (zfg v g y) y i := fun i hi => by
    by_cases s : v i = -1
    · rw [zbn_s s, zbn_s s]
    · obtain ⟨j, j1, j2⟩ := zO_sur hi s
      cases hb : (zfg v g y).testBit i
      · -- not among them: then there are g of them, and no more in G
        have full : zpc (zfg v g y) = g := by
          rw [h1]
          rcases Nat.lt_or_ge (zK v) g with c1 | c1
          · exfalso
            by_cases hy : y = 0
            · subst hy
              have := zfg_0 (g := g) j1
              rw [j2, hb] at this
              have := of_decide_eq_false this.symm; omega
            · have := zfg_1 (g := g) hy j1
              rw [j2, hb] at this
              have := of_decide_eq_false this.symm; omega
          · omega
        have : G.testBit i = false := by
          cases hz : G.testBit i
          · rfl
          · exfalso
            have := zcn_lt (p := fun k => (zfg v g y).testBit k) (q := fun k => G.testBit k) (i := i) (fun k hk => g3 k hk) hz hb 8 hi
            unfold zpc at full g2
            omega
        rw [zbn_f this, zbn_f hb]
      · rw [zbn_t s (g3 i hb), zbn_t s hb]
  unfold zmv
  rw [zS_c e]
