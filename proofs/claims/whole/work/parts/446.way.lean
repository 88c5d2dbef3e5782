/-! ===== way ===== -/
section W
variable {fr to : Nat → Nat} {tm : Nat → Int} {va : Nat → Bool}
theorem zw_ex {n a : Nat} (hto : ∀ j, j < n → to j < 12) (ht : ∀ j, j < n → 0 ≤ tm j ∧ tm j ≤ 999) : ∀ M f, zwm f = M → zwsup fr to tm va n a f → ∃ f', zwfix fr to tm va n f' ∧ zwsup fr to tm va n a f' := by
  intro M
  induction M using Nat.strongRecOn with
  | _ M ih =>
    intro f hM hs
    cases hq : zwq fr to tm va f n
    · exact ⟨f, (zwq_f n hq).2, hs⟩
    · have mm := (zwp_m (a := a) (f := f) (va := va) (fr := fr) hto ht n (Nat.le_refl _)).2 hq
      exact ih _ (by omega) (zwp fr to tm va f n) rfl (zwp_sup ht hs n (Nat.le_refl _))
theorem zwg_st {n a : Nat} (hfr : ∀ j, j < n → fr j < 12) (hto : ∀ j, j < n → to j < 12) (ht : ∀ j, j < n → 0 ≤ tm j ∧ tm j ≤ 999) {d : Nat} (hd : d < 12) : zwg fr to tm va n a 12 d = zwg fr to tm va n a 11 d := by
  obtain ⟨f, h1, h2⟩ := zw_ex (fr := fr) (va := va) (a := a) hto ht _ (fun x => if x = a then -1 else 1000) rfl ⟨by simp, fun x hx => Or.inl (by simp [hx])⟩
  have e1 := zw_eq h1 h2 ht hfr hd
  have e2 := zw_ge h1 h2 ht 12 d
  have e3 : zwg fr to tm va n a 12 d ≤ zwg fr to tm va n a 11 d := zwg_s
  omega
end W
/-- one more than the least, or 1000 -/
def zlf (p : Nat → Bool) : Nat → Nat
  | 0 => 1000
  | k + 1 => if zlf p k < 1000 then zlf p k else if p k = true then k + 1 else 1000
theorem zlf_i {p : Nat → Bool} : ∀ n, n ≤ 900 → zlf p n ≤ 1000 ∧ (zlf p n < 1000 → ∃ i, i < n ∧ zlf p n = i + 1 ∧ p i = true ∧ ∀ j, j < i → p j = false) ∧ (zlf p n = 1000 → ∀ j, j < n → p j = false)
  | 0, _ => ⟨Nat.le_refl _, fun h => absurd h (Nat.lt_irrefl _), fun _ j hj => absurd hj (Nat.not_lt_zero _)⟩
  | n + 1, hn => by
    obtain ⟨h1, h2, h3⟩ := zlf_i (p := p) n (by omega)
    rw [zlf]
    by_cases c : zlf p n < 1000
    · rw [if_pos c]
      obtain ⟨i, i1, i2⟩ := h2 c
      exact ⟨h1, fun _ => ⟨i, by omega, i2⟩, fun e => by omega⟩
    · rw [if_neg c]
      have h3 := h3 (by omega)
      cases hp : p n
      · simp only [Bool.false_eq_true, if_false]
        refine ⟨Nat.le_refl _, fun h => absurd h (Nat.lt_irrefl _), fun _ j hj => ?_⟩
        by_cases e : j = n
        · rw [e]; exact hp
        · exact h3 j (by omega)
      · simp only [if_true]
        exact ⟨by omega, fun _ => ⟨n, by omega, rfl, hp, h3⟩, fun e => by omega⟩
theorem zlf_le {p : Nat → Bool} {n i : Nat} (hn : n ≤ 900) (hi : i < n) (hp : p i = true) : zlf p n ≤ i + 1 := by
  obtain ⟨h1, h2, h3⟩ := zlf_i (p := p) n hn
  rcases Nat.lt_or_ge (zlf p n) 1000 with c | c
  · obtain ⟨k, k1, k2, k3, k4⟩ := h2 c
    rcases Nat.lt_or_ge i k with e | e
    · rw [k4 i e] at hp; cases hp
    · omega
  · rw [h3 (by omega) i hi] at hp; cases hp
def zsu1 (g : Nat → Nat) (a v : Nat) : Nat → Nat := fun d => if d = a then v else g d
def zvi (rel : Nat → Nat → Bool) (s : Nat → Nat) (w : Nat) : Nat → (Nat → Nat)
  | 0 => s
  | k + 1 => if rel k w = true ∧ zvi rel s w k k + 1 < zvi rel s w k w then zsu1 (zvi rel s w k) w (zvi rel s w k k + 1) else zvi rel s w k
def zvj (rel : Nat → Nat → Bool) (n : Nat) (s : Nat → Nat) : Nat → (Nat → Nat)
  | 0 => s
  | k + 1 => zvi rel (zvj rel n s k) k n
def zvr (rel : Nat → Nat → Bool) (n : Nat) (s : Nat → Nat) : Nat → (Nat → Nat)
  | 0 => s
  | r + 1 => zvj rel n (zvr rel n s r) n
section V
variable {rel : Nat → Nat → Bool}
theorem zvi_o {s : Nat → Nat} {w x : Nat} (h : x ≠ w) : ∀ k, zvi rel s w k x = s x
  | 0 => rfl
  | k + 1 => by
    rw [zvi]; split
    · unfold zsu1; rw [if_neg h]; exact zvi_o h k
    · exact zvi_o h k
theorem zvi_le {s : Nat → Nat} {w x : Nat} : ∀ k, zvi rel s w k x ≤ s x
  | 0 => Nat.le_refl _
  | k + 1 => by
    have ih := fun x => zvi_le (s := s) (w := w) (x := x) k
    rw [zvi]; split
    · rename_i h
      unfold zsu1; split
      · rename_i e; rw [e]; have := ih w; omega
      · exact ih x
    · exact ih x
theorem zvi_d {s : Nat → Nat} {w v : Nat} (hr : rel v w = true) (hv : v ≠ w) : ∀ k, v < k → zvi rel s w k w ≤ s v + 1
  | 0, h => absurd h (Nat.not_lt_zero _)
  | k + 1, h => by
    rw [zvi]
    by_cases c : v = k
    · subst c
      rw [zvi_o hv]
      split
      · unfold zsu1; rw [if_pos rfl]; exact Nat.le_refl _
      · rename_i g
        have : ¬ s v + 1 < zvi rel s w v w := fun q => g ⟨hr, q⟩
        omega
    · have ih := zvi_d (s := s) hr hv k (by omega)
      split
      · rename_i g
        unfold zsu1; rw [if_pos rfl]; omega
      · exact ih
theorem zvi_ge {s T : Nat → Nat} {n w : Nat} (hw : w < n) (hT : ∀ v, v < n → rel v w = true → T w ≤ T v + 1) (hs : ∀ x, x < n → T x ≤ s x) : ∀ k, k ≤ n → ∀ x, x < n → T x ≤ zvi rel s w k x
  | 0, _, x, hx => hs x hx
  | k + 1, hk, x, hx => by
    have ih := zvi_ge hw hT hs k (by omega)
    rw [zvi]; split
    · rename_i h
      unfold zsu1; split
      · rename_i e
        have := hT k (by omega) h.1
        have := ih k (by omega)
        rw [e]; omega
      · exact ih x hx
    · exact ih x hx
theorem zvj_le {n : Nat} {s : Nat → Nat} {x : Nat} : ∀ k, zvj rel n s k x ≤ s x
  | 0 => Nat.le_refl _
  | k + 1 => by
    rw [zvj]
    have := zvi_le (rel := rel) (s := zvj rel n s k) (w := k) (x := x) n
    have := zvj_le (n := n) (s := s) (x := x) k
    omega
theorem zvj_d {n : Nat} {s : Nat → Nat} {w v : Nat} (hr : rel v w = true) (hv : v ≠ w) (hvn : v < n) : ∀ k, w < k → zvj rel n s k w ≤ s v + 1
  | 0, h => absurd h (Nat.not_lt_zero _)
  | k + 1, h => by
    rw [zvj]
    by_cases c : w = k
    · subst c
      have h1 := zvi_d (s := zvj rel n s w) hr hv n hvn
      have h2 := zvj_le (rel := rel) (n := n) (s := s) (x := v) w
      omega
    · have h1 := zvj_d (n := n) (s := s) hr hv hvn k (by omega)
      have h2 := zvi_le (rel := rel) (s := zvj rel n s k) (w := k) (x := w) n
      omega
theorem zvj_ge {s T : Nat → Nat} {n : Nat} (hT : ∀ w, w < n → ∀ v, v < n → rel v w = true → T w ≤ T v + 1) (hs : ∀ x, x < n → T x ≤ s x) : ∀ k, k ≤ n → ∀ x, x < n → T x ≤ zvj rel n s k x
  | 0, _ => hs
  | k + 1, hk => by
    rw [zvj]
    exact zvi_ge (show k < n by omega) (hT k (by omega)) (zvj_ge hT hs k (by omega)) n (Nat.le_refl _)
theorem zvr_ge {s T : Nat → Nat} {n : Nat} (hT : ∀ w, w < n → ∀ v, v < n → rel v w = true → T w ≤ T v + 1) (hs : ∀ x, x < n → T x ≤ s x) : ∀ r x, x < n → T x ≤ zvr rel n s r x
  | 0 => hs
  | r + 1 => by
    rw [zvr]
    exact zvj_ge hT (zvr_ge hT hs r) n (Nat.le_refl _)
theorem zvr_le0 {n : Nat} {s : Nat → Nat} {x : Nat} : ∀ r, zvr rel n s r x ≤ s x
  | 0 => Nat.le_refl _
  | r + 1 => by
    rw [zvr]
    have := zvj_le (rel := rel) (n := n) (s := zvr rel n s r) (x := x) n
    have := zvr_le0 (n := n) (s := s) (x := x) r
    omega
theorem zcn_t : ∀ n, zcn (fun _ => true) n = n
  | 0 => rfl
  | n + 1 => by rw [zcn, if_pos rfl, zcn_t n]
theorem zvr_eq {s T : Nat → Nat} {tm : Nat → Int} {n : Nat} (ht : ∀ v w, rel v w = true → tm v < tm w) (hT : ∀ w, w < n → ∀ v, v < n → rel v w = true → T w ≤ T v + 1) (hs : ∀ x, x < n → T x ≤ s x) (hS : ∀ w, w < n → s w ≤ T w ∨ ∃ v, v < n ∧ rel v w = true ∧ T v + 1 ≤ T w) : ∀ w, w < n → zvr rel n s n w = T w := by
  have up : ∀ r w, w < n → zcn (fun v => decide (tm v < tm w)) n < r → zvr rel n s r w ≤ T w := by
    intro r
    induction r with
    | zero => intro w _ h; exact absurd h (Nat.not_lt_zero _)
    | succ r ih =>
      intro w hw h
      rcases hS w hw with h1 | ⟨v, h1, h2, h3⟩
      · have := zvr_le0 (rel := rel) (n := n) (s := s) (x := w) (r + 1); omega
      · have t1 := ht v w h2
        have nv : v ≠ w := fun e => by rw [e] at t1; omega
        have lt : zcn (fun x => decide (tm x < tm v)) n < zcn (fun x => decide (tm x < tm w)) n := by
          refine zcn_lt (i := v) (fun x hx => ?_) (by simpa using t1) (by simp) n h1
          simp at hx ⊢; omega
        have k1 := ih v h1 (by omega)
        have k2 := zvj_d (n := n) (s := zvr rel n s r) h2 nv h1 n hw
        rw [zvr]; omega
  intro w hw
  have h1 := zvr_ge hT hs n w hw
  have lt : zcn (fun v => decide (tm v < tm w)) n < zcn (fun _ => true) n := zcn_lt (i := w) (fun _ _ => rfl) rfl (by simp) n hw
  rw [zcn_t] at lt
  have h2 := up n w hw lt
  omega
end V
def zwl (fr to : Nat → Nat) (tm : Nat → Int) (va : Nat → Bool) (v w : Nat) : Bool := decide (va w = true ∧ va v = true ∧ to v = fr w ∧ tm v < tm w)
def zws0 (fr : Nat → Nat) (va : Nat → Bool) (a k : Nat) : Nat := if va k = true ∧ fr k = a then 1 else 1000
/-- how many words a chain that ends with this one has at least -/
def zwt (fr to : Nat → Nat) (tm : Nat → Int) (va : Nat → Bool) (n a w : Nat) : Nat := zlf (fun r => va w && decide (zwg fr to tm va n a r (fr w) < tm w)) 12
/-- the least of these for words to a desk, of the first k words -/
def zwb (to : Nat → Nat) (s : Nat → Nat) (b : Nat) : Nat → Nat
  | 0 => 1000
  | k + 1 => if to k = b ∧ s k < zwb to s b k then s k else zwb to s b k
theorem zwb_i {to s : Nat → Nat} {b : Nat} : ∀ n, zwb to s b n ≤ 1000 ∧ (zwb to s b n < 1000 → ∃ k, k < n ∧ to k = b ∧ zwb to s b n = s k) ∧ ∀ k, k < n → to k = b → zwb to s b n ≤ s k
  | 0 => ⟨Nat.le_refl _, fun h => absurd h (Nat.lt_irrefl _), fun k hk => absurd hk (Nat.not_lt_zero _)⟩
  | n + 1 => by
    obtain ⟨h1, h2, h3⟩ := zwb_i (to := to) (s := s) (b := b) n
    rw [zwb]
    by_cases c : to n = b ∧ s n < zwb to s b n
    · rw [if_pos c]
      refine ⟨by omega, fun _ => ⟨n, by omega, c.1, rfl⟩, fun k hk e => ?_⟩
      by_cases q : k = n
      · rw [q]; exact Nat.le_refl _
      · have := h3 k (by omega) e; omega
    · rw [if_neg c]
      refine ⟨h1, fun h => ?_, fun k hk e => ?_⟩
      · obtain ⟨k, k1, k2⟩ := h2 h
        exact ⟨k, by omega, k2⟩
      · by_cases q : k = n
        · rw [q] at e ⊢
          have : ¬ s n < zwb to s b n := fun z => c ⟨e, z⟩
          omega
        · exact h3 k (by omega) e
theorem zwb_c {to s s' : Nat → Nat} {b : Nat} : ∀ n, (∀ k, k < n → s k = s' k) → zwb to s b n = zwb to s' b n
  | 0, _ => rfl
  | n + 1, h => by rw [zwb, zwb, zwb_c n (fun k hk => h k (by omega)), h n (by omega)]
section W
variable {fr to : Nat → Nat} {tm : Nat → Int} {va : Nat → Bool}
theorem zwt_i {n a w : Nat} : (zwt fr to tm va n a w < 1000 → ∃ i, i < 12 ∧ zwt fr to tm va n a w = i + 1 ∧ va w = true ∧ zwg fr to tm va n a i (fr w) < tm w ∧ ∀ j, j < i → ¬ zwg fr to tm va n a j (fr w) < tm w) ∧ ∀ i, i < 12 → va w = true → zwg fr to tm va n a i (fr w) < tm w → zwt fr to tm va n a w ≤ i + 1 := by
  obtain ⟨h1, h2, h3⟩ := zlf_i (p := fun r => va w && decide (zwg fr to tm va n a r (fr w) < tm w)) 12 (by decide)
  refine ⟨fun h => ?_, fun i hi h5 h6 => zlf_le (by decide) hi (by simp [h5, h6])⟩
  obtain ⟨i, i1, i2, i3, i4⟩ := h2 h
  simp only [Bool.and_eq_true, decide_eq_true_eq] at i3
  refine ⟨i, i1, i2, i3.1, i3.2, fun j hj => ?_⟩
  have := i4 j hj
  simp only [i3.1, Bool.true_and, decide_eq_false_iff_not] at this
  exact this
theorem zws_eq {n a : Nat} (hfr : ∀ j, j < n → fr j < 12) (hto : ∀ j, j < n → to j < 12) (ht : ∀ j, j < n → 0 ≤ tm j ∧ tm j ≤ 999) : ∀ w, w < n → zvr (zwl fr to tm va) n (zws0 fr va a) n w = zwt fr to tm va n a w := by
  have tb : ∀ w, zwt fr to tm va n a w ≤ 1000 := fun w => (zlf_i _ (by decide)).1
  refine zvr_eq (tm := tm) (fun v w h => ?_) (fun w hw v hv h => ?_) (fun x hx => ?_) (fun w hw => ?_)
  · unfold zwl at h; rw [decide_eq_true_iff] at h; exact h.2.2.2
  · unfold zwl at h; rw [decide_eq_true_iff] at h
    obtain ⟨g1, g2, g3, g4⟩ := h
    rcases Nat.lt_or_ge (zwt fr to tm va n a v) 1000 with c | c
    · obtain ⟨i, i1, i2, i3, i4, i5⟩ := zwt_i.1 c
      have k1 := zwh_fix (fr := fr) (to := to) (tm := tm) (va := va) (g := zwg fr to tm va n a i) n v hv i3 i4
      have k2 : zwg fr to tm va n a (i + 1) (fr w) < tm w := by rw [zwg, ← g3]; omega
      rcases Nat.lt_or_ge (i + 1) 12 with e | e
      · have := zwt_i.2 (i + 1) e g1 k2; omega
      · have e2 : i + 1 = 12 := by omega
        rw [e2, zwg_st hfr hto ht (hfr w hw)] at k2
        have := zwt_i.2 11 (by decide) g1 k2; omega
    · have := tb w; omega
  · unfold zws0
    by_cases c : va x = true ∧ fr x = a
    · rw [if_pos c]
      have := zwg_a (fr := fr) (to := to) (tm := tm) (va := va) (n := n) (a := a) 0
      have t0 := ht x hx
      exact zwt_i.2 0 (by decide) c.1 (by rw [c.2]; omega)
    · rw [if_neg c]; exact tb x
  · rcases Nat.lt_or_ge (zwt fr to tm va n a w) 1000 with c | c
    · obtain ⟨i, i1, i2, i3, i4, i5⟩ := zwt_i.1 c
      have t0 := ht w hw
      cases i with
      | zero =>
        left
        rw [zwg_0] at i4
        by_cases e : fr w = a
        · unfold zws0; rw [if_pos ⟨i3, e⟩]; omega
        · rw [if_neg e] at i4; omega
      | succ i =>
        right
        have k1 := i5 i (by omega)
        rw [zwg] at i4
        rcases zwh_sup (fr := fr) (to := to) (tm := tm) (va := va) (g := zwg fr to tm va n a i) n (fr w) with h | ⟨j, h3, h4, h5, h6, h7⟩
        · rw [h] at i4; exact absurd i4 k1
        · refine ⟨j, h3, ?_, ?_⟩
          · unfold zwl; rw [decide_eq_true_iff]; exact ⟨i3, h4, h5, by omega⟩
          · have := zwt_i.2 i (by omega) h4 h6; omega
    · left
      have : zws0 fr va a w ≤ 1000 := by unfold zws0; split <;> omega
      omega
/-- the class's answer is the reference's -/
theorem zw_way {n a b : Nat} (hb : b < 12) (hab : a ≠ b) (hfr : ∀ j, j < n → fr j < 12) (hto : ∀ j, j < n → to j < 12) (ht : ∀ j, j < n → 0 ≤ tm j ∧ tm j ≤ 999) : zlf (fun r => decide (zwg fr to tm va n a r b ≠ 1000)) 12 = (if zwb to (zvr (zwl fr to tm va) n (zws0 fr va a) n) b n = 1000 then 1000 else zwb to (zvr (zwl fr to tm va) n (zws0 fr va a) n) b n + 1) := by
  rw [zwb_c n (zws_eq hfr hto ht)]
  obtain ⟨u1, u2, u3⟩ := zlf_i (p := fun r => decide (zwg fr to tm va n a r b ≠ 1000)) 12 (by decide)
  obtain ⟨b1, b2, b3⟩ := zwb_i (to := to) (s := zwt fr to tm va n a) (b := b) n
  have key : ∀ k i, k < n → to k = b → va k = true → zwg fr to tm va n a i (fr k) < tm k → zwg fr to tm va n a (i + 1) b ≠ 1000 := fun k i hk e g1 g2 => by
    have k1 := zwh_fix (fr := fr) (to := to) (tm := tm) (va := va) (g := zwg fr to tm va n a i) n k hk g1 g2
    have := ht k hk
    rw [zwg, ← e]; omega
  rcases Nat.lt_or_ge (zlf (fun r => decide (zwg fr to tm va n a r b ≠ 1000)) 12) 1000 with c | c
  · obtain ⟨r, r1, r2, r3, r4⟩ := u2 c
    rw [decide_eq_true_iff] at r3
    have r4 : ∀ j, j < r → zwg fr to tm va n a j b = 1000 := fun j hj => Decidable.byContradiction fun q => by
      have := r4 j hj; rw [decide_eq_false_iff_not] at this; exact this q
    cases r with
    | zero => rw [zwg_0, if_neg (fun e => hab e.symm)] at r3; exact absurd rfl r3
    | succ r =>
      have r5 := r4 r (by omega)
      rw [zwg] at r3
      rcases zwh_sup (fr := fr) (to := to) (tm := tm) (va := va) (g := zwg fr to tm va n a r) n b with h | ⟨j, h3, h4, h5, h6, h7⟩
      · rw [h] at r3; exact absurd r5 r3
      · have k1 := zwt_i.2 r (by omega) h4 h6
        have k2 := b3 j h3 h5
        obtain ⟨k, k3, k4, k5⟩ := b2 (by omega)
        obtain ⟨i, i1, i2, i3, i4, i5⟩ := zwt_i.1 (show zwt fr to tm va n a k < 1000 by omega)
        have k6 := key k i k3 k4 i3 i4
        have k7 : r + 1 ≤ i + 1 := by
          rcases Nat.lt_or_ge (i + 1) (r + 1) with e | e
          · exact absurd (r4 (i + 1) e) k6
          · exact e
        rw [if_neg (by omega), r2]; omega
  · have u4 : zlf (fun r => decide (zwg fr to tm va n a r b ≠ 1000)) 12 = 1000 := by omega
    have u3 := u3 u4
    have u5 : ∀ j, j < 12 → zwg fr to tm va n a j b = 1000 := fun j hj => Decidable.byContradiction fun q => by
      have := u3 j hj; rw [decide_eq_false_iff_not] at this; exact this q
    rw [u4]
    rcases Nat.lt_or_ge (zwb to (zwt fr to tm va n a) b n) 1000 with e | e
    · exfalso
      obtain ⟨k, k3, k4, k5⟩ := b2 e
      obtain ⟨i, i1, i2, i3, i4, i5⟩ := zwt_i.1 (show zwt fr to tm va n a k < 1000 by omega)
      have k6 := key k i k3 k4 i3 i4
      rcases Nat.lt_or_ge (i + 1) 12 with q | q
      · exact k6 (u5 (i + 1) q)
      · have e2 : i + 1 = 12 := by omega
        rw [e2, zwg_st hfr hto ht hb] at k6
        exact k6 (u5 11 (by decide))
    · rw [if_pos (by omega)]
theorem zw_way2 {n a b : Nat} (hfr : ∀ j, j < n → fr j < 12) (hto : ∀ j, j < n → to j < 12) (ht : ∀ j, j < n → 0 ≤ tm j ∧ tm j ≤ 999) (h : zwb to (zvr (zwl fr to tm va) n (zws0 fr va a) n) b n ≠ 1000) : zwb to (zvr (zwl fr to tm va) n (zws0 fr va a) n) b n ≤ 12 := by
  rw [zwb_c n (zws_eq hfr hto ht)] at h ⊢
  obtain ⟨b1, b2, b3⟩ := zwb_i (to := to) (s := zwt fr to tm va n a) (b := b) n
  obtain ⟨k, k3, k4, k5⟩ := b2 (by omega)
  obtain ⟨i, i1, i2, i3, i4, i5⟩ := zwt_i.1 (show zwt fr to tm va n a k < 1000 by omega)
  omega
end W
