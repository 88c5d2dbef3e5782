/-! ===== ringed ===== -/
/-- truths as bits -/
def zbs (p : Nat → Bool) : Nat → Nat
  | 0 => 0
  | k + 1 => zbs p k ||| (if p k = true then 2 ^ k else 0)
theorem zbs_b {p : Nat → Bool} : ∀ n i, (zbs p n).testBit i = (decide (i < n) && p i)
  | 0, i => by simp [zbs]
  | n + 1, i => by
    rw [zbs, Nat.testBit_or, zbs_b n i]
    by_cases c : i = n
    · subst c
      cases hp : p i
      · simp
      · simp [Nat.testBit_two_pow_self]
    · have e : (if p n = true then 2 ^ n else 0).testBit i = false := by
        split
        · rw [Nat.testBit_two_pow]; simp; omega
        · simp
      rw [e, Bool.or_false]
      have : (i < n + 1) ↔ (i < n) := by omega
      simp only [this]
theorem zbs_lt {p : Nat → Bool} : ∀ n, zbs p n < 2 ^ n
  | 0 => Nat.zero_lt_one
  | n + 1 => by
    rw [zbs]
    refine Nat.or_lt_two_pow (Nat.lt_of_lt_of_le (zbs_lt n) (Nat.pow_le_pow_right (by decide) (by omega))) ?_
    split
    · exact Nat.pow_lt_pow_right (by decide) (by omega)
    · exact Nat.two_pow_pos _
theorem zbs_12 {p : Nat → Bool} : zbs p 12 < 4096 := zbs_lt 12
theorem zbs_or {p q : Nat → Bool} {n : Nat} : zbs p n ||| zbs q n = zbs (fun i => p i || q i) n := by
  apply Nat.eq_of_testBit_eq
  intro i
  rw [Nat.testBit_or, zbs_b, zbs_b, zbs_b]
  cases decide (i < n) <;> simp
theorem zbs_c {p q : Nat → Bool} {n : Nat} (h : ∀ i, i < n → p i = q i) : zbs p n = zbs q n := by
  apply Nat.eq_of_testBit_eq
  intro i
  rw [zbs_b, zbs_b]
  by_cases c : i < n
  · rw [h i c]
  · simp [c]
/-- leads on by such as are below k -/
def zWa (E : Nat → Nat → Bool) : Nat → Nat → Nat → Bool
  | 0, a, b => E a b
  | k + 1, a, b => zWa E k a b || (zWa E k a k && zWa E k k b)
section W
variable {E : Nat → Nat → Bool}
theorem zWa_k {k b : Nat} : zWa E (k + 1) k b = zWa E k k b := by
  rw [zWa]; cases zWa E k k b <;> simp
theorem zWa_k2 {k a : Nat} : zWa E (k + 1) a k = zWa E k a k := by
  rw [zWa]; cases zWa E k a k <;> simp
theorem zWa_i {k a b : Nat} : zWa E (k + 1) a b = true ↔ (zWa E k a b = true ∨ (zWa E k a k = true ∧ zWa E k k b = true)) := by
  rw [zWa, Bool.or_eq_true, Bool.and_eq_true]
theorem zWa_t : ∀ k j a b, j < k → zWa E k a j = true → zWa E k j b = true → zWa E k a b = true
  | 0, j, _, _, h, _, _ => absurd h (Nat.not_lt_zero _)
  | k + 1, j, a, b, h, h1, h2 => by
    have ih := zWa_t k
    by_cases c : j = k
    · subst c
      rw [zWa_k2] at h1
      rw [zWa_k] at h2
      exact zWa_i.mpr (Or.inr ⟨h1, h2⟩)
    · have hj : j < k := by omega
      rcases zWa_i.mp h1 with g1 | ⟨g1, g2⟩ <;> rcases zWa_i.mp h2 with g3 | ⟨g3, g4⟩
      · exact zWa_i.mpr (Or.inl (ih j a b hj g1 g3))
      · exact zWa_i.mpr (Or.inr ⟨ih j a k hj g1 g3, g4⟩)
      · exact zWa_i.mpr (Or.inr ⟨g1, ih j k b hj g2 g3⟩)
      · exact zWa_i.mpr (Or.inr ⟨g1, g4⟩)
theorem zWa_e {a b : Nat} (h : E a b = true) : ∀ k, zWa E k a b = true
  | 0 => h
  | k + 1 => zWa_i.mpr (Or.inl (zWa_e h k))
/-- the first step -/
theorem zWa_f : ∀ k a b, zWa E k a b = true → ∃ x, E a x = true ∧ (x = b ∨ ∃ m, zWa E m x b = true)
  | 0, a, b, h => ⟨b, h, Or.inl rfl⟩
  | k + 1, a, b, h => by
    rcases zWa_i.mp h with g | ⟨g1, g2⟩
    · exact zWa_f k a b g
    · obtain ⟨x, x1, x2⟩ := zWa_f k a k g1
      refine ⟨x, x1, Or.inr ?_⟩
      rcases x2 with e | ⟨m, hm⟩
      · exact ⟨k, by rw [e]; exact g2⟩
      · -- x leads to k, k leads to b
        have mono : ∀ i j a b, zWa E i a b = true → zWa E (i + j) a b = true := by
          intro i j a b hh
          induction j with
          | zero => exact hh
          | succ j ih => exact zWa_i.mpr (Or.inl ih)
        have m1 : zWa E (m + k + 1) x k = true := by rw [Nat.add_assoc]; exact mono m (k + 1) x k hm
        have m2 : zWa E (m + k + 1) k b = true := by
          have := mono k (m + 1) k b g2
          rw [show k + (m + 1) = m + k + 1 by omega] at this; exact this
        exact ⟨m + k + 1, zWa_t _ k x b (by omega) m1 m2⟩
theorem zWa_m {i j a b : Nat} (h : zWa E i a b = true) : zWa E (i + j) a b = true := by
  induction j with
  | zero => exact h
  | succ j ih => exact zWa_i.mpr (Or.inl ih)
/-- beyond 12 nothing is added -/
theorem zWa_12 (hE : ∀ a b, E a b = true → a < 12 ∧ b < 12) : ∀ m a b, zWa E m a b = true → zWa E 12 a b = true
  | 0, a, b, h => zWa_e h 12
  | m + 1, a, b, h => by
    rcases zWa_i.mp h with g | ⟨g1, g2⟩
    · exact zWa_12 hE m a b g
    · have k1 := zWa_12 hE m a m g1
      have k2 := zWa_12 hE m m b g2
      have hm : m < 12 := by
        obtain ⟨x, x1, x2⟩ := zWa_f 12 m b k2
        exact (hE m x x1).1
      exact zWa_t 12 m a b hm k1 k2
/-- a ring: it leads back, or to another one and back -/
theorem zring (hE : ∀ a b, E a b = true → a < 12 ∧ b < 12) {n : Nat} (hn : ∀ a b, E a b = true → a < n ∧ b < n ∧ a ≠ b) (x : Nat) : zWa E 12 x x = true ↔ (x < n ∧ ∃ e, e < n ∧ x ≠ e ∧ zWa E 12 x e = true ∧ zWa E 12 e x = true) := by
  constructor
  · intro h
    obtain ⟨y, y1, y2⟩ := zWa_f 12 x x h
    obtain ⟨g1, g2, g3⟩ := hn x y y1
    refine ⟨g1, y, g2, g3, zWa_e y1 12, ?_⟩
    rcases y2 with e | ⟨m, hm⟩
    · exact absurd e.symm g3
    · exact zWa_12 hE m y x hm
  · rintro ⟨h1, e, h2, h3, h4, h5⟩
    have : e < 12 := by
      obtain ⟨y, y1, -⟩ := zWa_f 12 e x h5
      exact (hE e y y1).1
    exact zWa_t 12 e x x this h4 h5
end W
def zE0 (I : Nat → Nat → Int32) (a b : Nat) : Bool := decide (a < 12 ∧ b < 12 ∧ 0 < I (73 + a) b)
/-- all that a set leads to at once, by the first k favours -/
def zrb (E : Nat → Nat → Bool) (w : Nat) : Nat → Nat
  | 0 => w
  | k + 1 => zrb E w k ||| (if w.testBit (k / 12) = true ∧ E (k / 12) (k % 12) = true then 2 ^ (k % 12) else 0)
theorem zrb_b {E : Nat → Nat → Bool} {w : Nat} (y : Nat) : ∀ k, (zrb E w k).testBit y = true ↔ (w.testBit y = true ∨ ∃ j, j < k ∧ w.testBit (j / 12) = true ∧ E (j / 12) (j % 12) = true ∧ j % 12 = y)
  | 0 => ⟨fun h => Or.inl h, fun h => h.elim id (fun ⟨j, hj, _⟩ => absurd hj (Nat.not_lt_zero _))⟩
  | k + 1 => by
    rw [zrb, Nat.testBit_or, Bool.or_eq_true, zrb_b y k]
    have e : (if w.testBit (k / 12) = true ∧ E (k / 12) (k % 12) = true then 2 ^ (k % 12) else 0).testBit y = true ↔ (w.testBit (k / 12) = true ∧ E (k / 12) (k % 12) = true ∧ k % 12 = y) := by
      by_cases c : w.testBit (k / 12) = true ∧ E (k / 12) (k % 12) = true
      · rw [if_pos c, Nat.testBit_two_pow, decide_eq_true_iff]
        exact ⟨fun h => ⟨c.1, c.2, h⟩, fun h => h.2.2⟩
      · rw [if_neg c, Nat.zero_testBit]
        exact ⟨fun h => (by cases h), fun h => absurd ⟨h.1, h.2.1⟩ c⟩
    rw [e]
    constructor
    · rintro ((h | ⟨j, j1, j2⟩) | h)
      · exact Or.inl h
      · exact Or.inr ⟨j, by omega, j2⟩
      · exact Or.inr ⟨k, by omega, h⟩
    · rintro (h | ⟨j, j1, j2⟩)
      · exact Or.inl (Or.inl h)
      · by_cases c : j = k
        · rw [c] at j2; exact Or.inr j2
        · exact Or.inl (Or.inr ⟨j, by omega, j2⟩)
theorem zrb_lt {E : Nat → Nat → Bool} {w : Nat} (hw : w < 4096) : ∀ k, zrb E w k < 4096
  | 0 => hw
  | k + 1 => by
    rw [zrb]
    refine Nat.or_lt_two_pow (n := 12) (zrb_lt hw k) ?_
    split
    · exact Nat.pow_lt_pow_right (by decide) (Nat.mod_lt _ (by decide))
    · decide
theorem zrb_le {E : Nat → Nat → Bool} {w : Nat} : ∀ k, w ≤ zrb E w k
  | 0 => Nat.le_refl _
  | k + 1 => by rw [zrb]; exact Nat.le_trans (zrb_le k) Nat.left_le_or
/-- it holds what it began with, and leads nowhere else: it is all -/
theorem zrb_fin {E : Nat → Nat → Bool} {w a : Nat} (hE : ∀ a b, E a b = true → a < 12 ∧ b < 12) (ha : a < 12) (hw : w < 4096) (h0 : w.testBit a = true) (h1 : ∀ y, w.testBit y = true → y = a ∨ zWa E 12 a y = true) (h2 : zrb E w 144 = w) : w = zbs (fun y => decide (y = a) || zWa E 12 a y) 12 := by
  have cl : ∀ x y, w.testBit x = true → E x y = true → w.testBit y = true := fun x y g1 g2 => by
    obtain ⟨b1, b2⟩ := hE x y g2
    rw [← h2, zrb_b]
    refine Or.inr ⟨12 * x + y, by omega, ?_, ?_, ?_⟩
    · rw [show (12 * x + y) / 12 = x by omega]; exact g1
    · rw [show (12 * x + y) / 12 = x by omega, show (12 * x + y) % 12 = y by omega]; exact g2
    · omega
  have cl2 : ∀ k x y, w.testBit x = true → zWa E k x y = true → w.testBit y = true := by
    intro k
    induction k with
    | zero => intro x y g1 g2; exact cl x y g1 g2
    | succ k ih =>
      intro x y g1 g2
      rcases zWa_i.mp g2 with g | ⟨g3, g4⟩
      · exact ih x y g1 g
      · exact ih k y (ih x k g1 g3) g4
  apply Nat.eq_of_testBit_eq
  intro y
  rw [zbs_b]
  cases hy : w.testBit y
  · by_cases c : y < 12
    · have n1 : ¬ y = a := fun e => by rw [e, h0] at hy; cases hy
      have n2 : zWa E 12 a y = false := by
        cases hz : zWa E 12 a y
        · rfl
        · rw [cl2 12 a y h0 hz] at hy; cases hy
      simp [n1, n2]
    · simp [c]
  · have c : y < 12 := by
      rcases Nat.lt_or_ge y 12 with q | q
      · exact q
      · have : w.testBit y = false := Nat.testBit_lt_two_pow (Nat.lt_of_lt_of_le hw (Nat.pow_le_pow_right (n := 2) (by decide) q))
        rw [this] at hy; cases hy
    rcases h1 y hy with e | e
    · simp [e, ha]
    · simp [c, e]
theorem zrb_sound {E : Nat → Nat → Bool} {w a : Nat} (hE : ∀ a b, E a b = true → a < 12 ∧ b < 12) (h1 : ∀ y, w.testBit y = true → y = a ∨ zWa E 12 a y = true) (k : Nat) : ∀ y, (zrb E w k).testBit y = true → y = a ∨ zWa E 12 a y = true := fun y hy => by
  rcases (zrb_b y k).mp hy with h | ⟨j, j1, j2, j3, j4⟩
  · exact h1 y h
  · right
    rw [j4] at j3
    rcases h1 _ j2 with e | e
    · rw [e] at j3; exact zWa_e j3 12
    · exact zWa_t 12 (j / 12) a y (hE _ _ j3).1 e (zWa_e j3 12)
/-- one row of the search for rings; all rows -/
def zro (c : Nat → Nat → Bool) (x : Nat) (w : Nat) : Nat → Nat
  | 0 => w
  | e + 1 => zro c x w e ||| (if c x e = true then 2 ^ x else 0)
def zra (c : Nat → Nat → Bool) (n : Nat) : Nat → Nat
  | 0 => 0
  | x + 1 => zro c x (zra c n x) n
theorem zro_b {c : Nat → Nat → Bool} {x w : Nat} (y : Nat) : ∀ e, (zro c x w e).testBit y = true ↔ (w.testBit y = true ∨ (x = y ∧ ∃ j, j < e ∧ c x j = true))
  | 0 => ⟨fun h => Or.inl h, fun h => h.elim id (fun ⟨_, j, hj, _⟩ => absurd hj (Nat.not_lt_zero _))⟩
  | e + 1 => by
    rw [zro, Nat.testBit_or, Bool.or_eq_true, zro_b y e]
    have q : (if c x e = true then 2 ^ x else 0).testBit y = true ↔ (c x e = true ∧ x = y) := by
      by_cases g : c x e = true
      · rw [if_pos g, Nat.testBit_two_pow, decide_eq_true_iff]
        exact ⟨fun h => ⟨g, h⟩, fun h => h.2⟩
      · rw [if_neg g, Nat.zero_testBit]
        exact ⟨fun h => (by cases h), fun h => absurd h.1 g⟩
    rw [q]
    constructor
    · rintro ((h | ⟨h, j, j1, j2⟩) | ⟨h1, h2⟩)
      · exact Or.inl h
      · exact Or.inr ⟨h, j, by omega, j2⟩
      · exact Or.inr ⟨h2, e, by omega, h1⟩
    · rintro (h | ⟨h, j, j1, j2⟩)
      · exact Or.inl (Or.inl h)
      · by_cases g : j = e
        · rw [g] at j2; exact Or.inr ⟨j2, h⟩
        · exact Or.inl (Or.inr ⟨h, j, by omega, j2⟩)
theorem zra_b {c : Nat → Nat → Bool} {n : Nat} (y : Nat) : ∀ x, (zra c n x).testBit y = true ↔ (y < x ∧ ∃ j, j < n ∧ c y j = true)
  | 0 => by simp [zra]
  | x + 1 => by
    rw [zra, zro_b, zra_b y x]
    constructor
    · rintro (⟨h1, h2⟩ | ⟨h1, h2⟩)
      · exact ⟨by omega, h2⟩
      · rw [h1] at h2; exact ⟨by omega, h2⟩
    · rintro ⟨h1, h2⟩
      by_cases g : x = y
      · right; rw [g]; exact ⟨rfl, h2⟩
      · left; exact ⟨by omega, h2⟩
