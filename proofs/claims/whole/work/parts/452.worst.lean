/-! ===== best, worst: the reference ===== -/
theorem zfr_tr {A1 sA A' : Int} {B1 sB B' : Nat} (h1 : 0 < sB) (h2 : A1 * sB ≤ sA * B1) (h3 : sA * B' ≤ A' * sB) : A1 * B' ≤ A' * B1 := by
  have e1 : A1 * B' * sB = A1 * sB * B' := by grind
  have e2 : sA * B1 * B' = sA * B' * B1 := by grind
  have e3 : A' * B1 * sB = A' * sB * B1 := by grind
  have k1 : A1 * sB * B' ≤ sA * B1 * B' := Int.mul_le_mul_of_nonneg_right h2 (by omega)
  have k2 : sA * B' * B1 ≤ A' * sB * B1 := Int.mul_le_mul_of_nonneg_right h3 (by omega)
  have k3 : A1 * B' * sB ≤ A' * B1 * sB := by rw [e1, e3]; rw [e2] at k1; exact Int.le_trans k1 k2
  exact Int.le_of_mul_le_mul_right k3 (by omega)
theorem zfr_lt {A C a c : Int} {B D b e : Nat} (hB : 0 < B) (hD : 0 < D) (hb : 0 < b) (he : 0 < e) (h1 : a * B = A * b) (h2 : c * D = C * e) : (c * b < a * e) ↔ (C * B < A * D) := by
  have p1 : (0 : Int) < (B : Int) * D := Int.mul_pos (by omega) (by omega)
  have p2 : (0 : Int) < (b : Int) * e := Int.mul_pos (by omega) (by omega)
  have e1 : (c * b) * ((B : Int) * D) = (C * B) * ((b : Int) * e) := by
    have : (c * b) * ((B : Int) * D) = (c * D) * (b * B) := by grind
    rw [this, h2]; grind
  have e2 : (a * e) * ((B : Int) * D) = (A * D) * ((b : Int) * e) := by
    have : (a * e) * ((B : Int) * D) = (a * B) * (e * D) := by grind
    rw [this, h1]; grind
  constructor
  · intro h
    have k := Int.mul_lt_mul_of_pos_right h p1
    rw [e1, e2] at k
    exact Int.lt_of_mul_lt_mul_right k (Int.le_of_lt p2)
  · intro h
    have k := Int.mul_lt_mul_of_pos_right h p2
    rw [← e1, ← e2] at k
    exact Int.lt_of_mul_lt_mul_right k (Int.le_of_lt p1)
/-- the greatest of those seen -/
def zMx (ok : Nat → Bool) (val : Nat → Nat → Int) (bel : Nat → Nat) (S : Nat → Nat → Prop) (st : Bool × Int × Nat) : Prop := (st.1 = true ↔ ∃ m y, S m y ∧ ok m = true) ∧ 0 < st.2.2 ∧ (∀ m y, S m y → ok m = true → val m y * st.2.2 ≤ st.2.1 * bel m) ∧ ((st.2.1 = 0 ∧ st.2.2 = 1) ∨ ∃ m y, S m y ∧ ok m = true ∧ st.2.1 = val m y ∧ st.2.2 = bel m)
theorem zMx_s {ok : Nat → Bool} {val : Nat → Nat → Int} {bel : Nat → Nat} {S S' : Nat → Nat → Prop} {st : Bool × Int × Nat} {m y : Nat} (h : zMx ok val bel S st) (hS : ∀ a b, S' a b ↔ (S a b ∨ (a = m ∧ b = y))) (hb : ok m = true → 0 < bel m) : zMx ok val bel S' (zgs st (ok m) (val m y) (bel m)) := by
  obtain ⟨h1, h2, h3, h4⟩ := h
  unfold zgs
  cases hz : ok m
  · rw [if_neg (by simp)]
    refine ⟨?_, h2, fun a b g1 g2 => ?_, ?_⟩
    · rw [h1]
      constructor
      · rintro ⟨a, b, g1, g2⟩; exact ⟨a, b, (hS a b).mpr (Or.inl g1), g2⟩
      · rintro ⟨a, b, g1, g2⟩
        rcases (hS a b).mp g1 with g | ⟨g, -⟩
        · exact ⟨a, b, g, g2⟩
        · rw [g, hz] at g2; cases g2
    · rcases (hS a b).mp g1 with g | ⟨g, -⟩
      · exact h3 a b g g2
      · rw [g, hz] at g2; cases g2
    · rcases h4 with g | ⟨a, b, g1, g2⟩
      · exact Or.inl g
      · exact Or.inr ⟨a, b, (hS a b).mpr (Or.inl g1), g2⟩
  · rw [if_pos rfl]
    have hb := hb hz
    by_cases c : st.2.1 * (bel m : Int) < val m y * (st.2.2 : Int)
    · rw [if_pos c]
      refine ⟨⟨fun _ => ⟨m, y, (hS m y).mpr (Or.inr ⟨rfl, rfl⟩), hz⟩, fun _ => rfl⟩, hb, fun a b g1 g2 => ?_, Or.inr ⟨m, y, (hS m y).mpr (Or.inr ⟨rfl, rfl⟩), hz, rfl, rfl⟩⟩
      rcases (hS a b).mp g1 with g | ⟨ga, gb⟩
      · exact zfr_tr h2 (h3 a b g g2) (Int.le_of_lt c)
      · rw [ga, gb]; exact Int.le_refl _
    · rw [if_neg c]
      refine ⟨⟨fun _ => ⟨m, y, (hS m y).mpr (Or.inr ⟨rfl, rfl⟩), hz⟩, fun _ => rfl⟩, h2, fun a b g1 g2 => ?_, ?_⟩
      · rcases (hS a b).mp g1 with g | ⟨ga, gb⟩
        · exact h3 a b g g2
        · rw [ga, gb]; exact Int.not_lt.mp c
      · rcases h4 with g | ⟨a, b, g1, g2⟩
        · exact Or.inl g
        · exact Or.inr ⟨a, b, (hS a b).mpr (Or.inl g1), g2⟩
theorem zgk_p {I : Nat → Nat → Int32} {e c m : Nat} (h : zgk I e c m = true) : 0 < zgb I c m := by
  have := (zok_i.mp h).2
  unfold zgb; omega
theorem zgm_i {I : Nat → Nat → Int32} {e g c f0 : Nat} : ∀ k, zMx (zgk I e c) (zgv I g c) (zgb I c) (fun m y => f0 ≤ m ∧ m < f0 + k ∧ y < 2) (zgm I e g c f0 k)
  | 0 => ⟨⟨fun h => (by cases h), fun ⟨m, y, h, _⟩ => by omega⟩, Nat.zero_lt_one, fun m y h => by omega, Or.inl ⟨rfl, rfl⟩⟩
  | k + 1 => by
    rw [zgm]
    have h1 := zMx_s (S' := fun m y => (f0 ≤ m ∧ m < f0 + k ∧ y < 2) ∨ (m = f0 + k ∧ y = 0)) (zgm_i (I := I) (e := e) (g := g) (c := c) (f0 := f0) k) (m := f0 + k) (y := 0) (fun a b => Iff.rfl) zgk_p
    exact zMx_s (S' := fun m y => f0 ≤ m ∧ m < f0 + (k + 1) ∧ y < 2) h1 (m := f0 + k) (y := 1) (fun a b => by omega) zgk_p
/-- what the reference knows of those it has seen -/
def zMw (ok : Nat → Bool) (mv : Nat → Nat → Nat → Int) (bel : Nat → Nat) (g : Nat) (S : Nat → Nat → Nat → Prop) (any : Bool) (wa : Int) (wb : Nat) : Prop := (any = false → ∀ m G y, S m G y → zpc G = g → ok m = false) ∧ (any = true → (∃ m G y, S m G y ∧ zpc G = g ∧ ok m = true ∧ wa = mv m G y ∧ wb = bel m) ∧ ∀ m G y, S m G y → zpc G = g → ok m = true → mv m G y * wb ≤ wa * bel m)
theorem zMw_c {ok : Nat → Bool} {mv : Nat → Nat → Nat → Int} {bel : Nat → Nat} {g : Nat} {S S' : Nat → Nat → Nat → Prop} {any : Bool} {wa : Int} {wb : Nat} (h : zMw ok mv bel g S any wa wb) (hS : ∀ m G y, zpc G = g → (S' m G y ↔ S m G y)) : zMw ok mv bel g S' any wa wb := by
  refine ⟨fun e m G y h1 h2 => h.1 e m G y ((hS m G y h2).mp h1) h2, fun e => ?_⟩
  obtain ⟨⟨m, G, y, g1, g2, g3⟩, k⟩ := h.2 e
  exact ⟨⟨m, G, y, (hS m G y g2).mpr g1, g2, g3⟩, fun m G y h1 h2 => k m G y ((hS m G y h2).mp h1) h2⟩
theorem zMw_n {ok : Nat → Bool} {mv : Nat → Nat → Nat → Int} {bel : Nat → Nat} {g : Nat} {S S' : Nat → Nat → Nat → Prop} {any : Bool} {wa : Int} {wb m G y : Nat} (h : zMw ok mv bel g S any wa wb) (hS : ∀ a b c, S' a b c ↔ (S a b c ∨ (a = m ∧ b = G ∧ c = y))) (hz : ok m = false) : zMw ok mv bel g S' any wa wb := by
  refine ⟨fun e a b c h1 h2 => ?_, fun e => ?_⟩
  · rcases (hS a b c).mp h1 with q | ⟨q, -, -⟩
    · exact h.1 e a b c q h2
    · rw [q]; exact hz
  · obtain ⟨⟨a, b, c, g1, g2, g3⟩, k⟩ := h.2 e
    refine ⟨⟨a, b, c, (hS a b c).mpr (Or.inl g1), g2, g3⟩, fun a b c h1 h2 h3 => ?_⟩
    rcases (hS a b c).mp h1 with q | ⟨q, -, -⟩
    · exact k a b c q h2 h3
    · rw [q, hz] at h3; cases h3
theorem zMw_y {ok : Nat → Bool} {mv : Nat → Nat → Nat → Int} {bel : Nat → Nat} {g : Nat} {S S' : Nat → Nat → Nat → Prop} {any : Bool} {wa : Int} {wb m G y : Nat} (hbel : ∀ m, ok m = true → 0 < bel m) (h : zMw ok mv bel g S any wa wb) (hS : ∀ a b c, S' a b c ↔ (S a b c ∨ (a = m ∧ b = G ∧ c = y))) (hz : ok m = true) (hG : zpc G = g) (hm : any = false ∨ wa * bel m < mv m G y * wb) : zMw ok mv bel g S' true (mv m G y) (bel m) := by
  refine ⟨fun e => (by cases e), fun _ => ⟨⟨m, G, y, (hS m G y).mpr (Or.inr ⟨rfl, rfl, rfl⟩), hG, hz, rfl, rfl⟩, fun a b c h1 h2 h3 => ?_⟩⟩
  rcases (hS a b c).mp h1 with q | ⟨q1, q2, q3⟩
  · cases ha : any
    · rw [h.1 ha a b c q h2] at h3; cases h3
    · obtain ⟨⟨a', b', c', g1, g2, g3, g4, g5⟩, k⟩ := h.2 ha
      rcases hm with e | e
      · rw [ha] at e; cases e
      · exact zfr_tr (by rw [g5]; exact hbel _ g3) (k a b c q h2 h3) (Int.le_of_lt e)
  · rw [q1, q2, q3]; exact Int.le_refl _
theorem zMw_k {ok : Nat → Bool} {mv : Nat → Nat → Nat → Int} {bel : Nat → Nat} {g : Nat} {S S' : Nat → Nat → Nat → Prop} {wa : Int} {wb m G y : Nat} (h : zMw ok mv bel g S true wa wb) (hS : ∀ a b c, S' a b c ↔ (S a b c ∨ (a = m ∧ b = G ∧ c = y))) (hm : ¬ wa * bel m < mv m G y * wb) : zMw ok mv bel g S' true wa wb := by
  obtain ⟨⟨a, b, c, g1, g2, g3⟩, k⟩ := h.2 rfl
  refine ⟨fun e => (by cases e), fun _ => ⟨⟨a, b, c, (hS a b c).mpr (Or.inl g1), g2, g3⟩, fun a b c h1 h2 h3 => ?_⟩⟩
  rcases (hS a b c).mp h1 with q | ⟨q1, q2, q3⟩
  · exact k a b c q h2 h3
  · rw [q1, q2, q3]; exact Int.not_lt.mp hm
/-- both have found the same -/
theorem zMw_eq {I : Nat → Nat → Int32} {t e nl nr n cc w g c f0 k : Nat} {any : Bool} {wa : Int} {wb : Nat} (hG : zG I t e nl nr n cc w) (hk : f0 + k ≤ 30) (hg1 : 1 ≤ g) (hg : g ≤ 8) (h : zMw (zgk I e c) (fun m G y => zmv (I (4 + m)) G (nI y) c) (zgb I c) g (fun m G y => f0 ≤ m ∧ m < f0 + k ∧ 1 ≤ G ∧ G < 256 ∧ y < 2) any wa wb) : any = (zgm I e g c f0 k).1 ∧ (any = true → 0 < wb ∧ wb ≤ 8 ∧ -7992 ≤ wa ∧ wa ≤ 7992 ∧ wa * (zgm I e g c f0 k).2.2 = (zgm I e g c f0 k).2.1 * wb) := by
  obtain ⟨i1, i2, i3, i4⟩ := zgm_i (I := I) (e := e) (g := g) (c := c) (f0 := f0) k
  generalize zgm I e g c f0 k = X at *
  have at' : ∀ m y, ∃ G, 1 ≤ G ∧ G < 256 ∧ zpc G = g ∧ zmv (I (4 + m)) G (nI y) c = zgv I g c m y := fun m y => zmv_at hg1 hg
  constructor
  · cases ha : any
    · cases hX : X.1
      · rfl
      · obtain ⟨m, y, ⟨q1, q2, q3⟩, q4⟩ := i1.mp hX
        obtain ⟨G, g1, g2, g3, -⟩ := at' m y
        rw [h.1 ha m G y ⟨q1, q2, g1, g2, q3⟩ g3] at q4; cases q4
    · obtain ⟨⟨m, G, y, ⟨q1, q2, q3, q4, q5⟩, g2, g3, -⟩, -⟩ := h.2 ha
      exact (i1.mpr ⟨m, y, ⟨q1, q2, q5⟩, g3⟩).symm
  · intro ha
    obtain ⟨⟨m, G, y, ⟨q1, q2, q3, q4, q5⟩, g2, g3, g4, g5⟩, k1⟩ := h.2 ha
    have hv := hG.vr (show m < 30 by omega)
    have g4 : wa = zmv (I (4 + m)) G (nI y) c := g4
    have b1 := zmv_b (g := G) (c := c) (y := nI y) hv
    have p1 := zgk_p g3
    have K8 := zK_le (v := I (4 + m))
    refine ⟨by omega, by rw [g5]; unfold zgb; omega, by rw [g4]; exact b1.1, by rw [g4]; exact b1.2, ?_⟩
    refine Int.le_antisymm ?_ ?_
    · have m1 := zmv_max (G := G) (g := g) (c := c) (y := nI y) hv (by omega)
      have m2 := i3 m y ⟨q1, q2, q5⟩ g3
      have m3 : wa * (X.2.2 : Int) ≤ zgv I g c m y * (X.2.2 : Int) := by
        rw [g4]; exact Int.mul_le_mul_of_nonneg_right m1 (by omega)
      rw [g5]; exact Int.le_trans m3 m2
    · rcases i4 with ⟨z1, z2⟩ | ⟨m', y', ⟨z1, z2, z3⟩, z4, z5, z6⟩
      · rw [z1, z2]
        obtain ⟨G', d1, d2, d3, d4⟩ := at' m y
        have m1 := k1 m G' y ⟨q1, q2, d1, d2, q5⟩ d3 g3
        have m1 : zmv (I (4 + m)) G' (nI y) c * (wb : Int) ≤ wa * (zgb I c m : Int) := m1
        rw [d4] at m1
        have m2 : 0 ≤ zgv I g c m y := zmv_pos hv
        have m3 : 0 ≤ zgv I g c m y * (wb : Int) := Int.mul_nonneg m2 (by omega)
        have m4 : 0 ≤ wa := by
          rcases (show 0 ≤ wa ∨ wa < 0 by omega) with q | q
          · exact q
          · exfalso
            have := Int.mul_neg_of_neg_of_pos q (show (0 : Int) < (zgb I c m : Int) by omega)
            omega
        simp; exact m4
      · obtain ⟨G', d1, d2, d3, d4⟩ := at' m' y'
        have m1 := k1 m' G' y' ⟨z1, z2, d1, d2, z3⟩ d3 z4
        have m1 : zmv (I (4 + m')) G' (nI y') c * (wb : Int) ≤ wa * (zgb I c m' : Int) := m1
        rw [d4] at m1
        rw [z5, z6]; exact m1
theorem zimu {a b : Int32} {A B : Int} (ha : a.toInt = A) (hb : b.toInt = B) (h1 : -2 ^ 31 ≤ A * B) (h2 : A * B < 2 ^ 31) : (a * b).toInt = A * B := by
  rw [Int32.toInt_mul, ha, hb, Int.bmod_def]
  generalize A * B = x at *
  omega
theorem zsm1 {A : Int} {B : Nat} (h1 : -7992 ≤ A) (h2 : A ≤ 7992) (h3 : B ≤ 8) : -2 ^ 31 ≤ A * B ∧ A * B < 2 ^ 31 := by
  have q : (A * (B : Int)).natAbs ≤ 7992 * 8 := by
    rw [Int.natAbs_mul]; exact Nat.mul_le_mul (by omega) (by omega)
  generalize A * (B : Int) = u at *
  omega
