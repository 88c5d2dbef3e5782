/-! ===== words: who is told when ===== -/
def zst1 (g : Nat → Int) (a : Nat) (v : Int) : Nat → Int := fun d => if d = a then v else g d
/-- one more word followed, by the first k words -/
def zwh (fr to : Nat → Nat) (tm : Nat → Int) (va : Nat → Bool) (g : Nat → Int) : Nat → (Nat → Int)
  | 0 => g
  | k + 1 => if va k = true ∧ g (fr k) < tm k ∧ tm k < zwh fr to tm va g k (to k) then zst1 (zwh fr to tm va g k) (to k) (tm k) else zwh fr to tm va g k
def zwg (fr to : Nat → Nat) (tm : Nat → Int) (va : Nat → Bool) (n a : Nat) : Nat → (Nat → Int)
  | 0 => fun d => if d = a then -1 else 1000
  | r + 1 => zwh fr to tm va (zwg fr to tm va n a r) n
section W
variable {fr to : Nat → Nat} {tm : Nat → Int} {va : Nat → Bool}
theorem zwh_le {g : Nat → Int} : ∀ k d, zwh fr to tm va g k d ≤ g d
  | 0, d => Int.le_refl _
  | k + 1, d => by
    have ih := fun d => zwh_le (g := g) k d
    rw [zwh]; split
    · rename_i h
      unfold zst1; split
      · rename_i e; rw [e]; have := ih (to k); omega
      · exact ih d
    · exact ih d
theorem zwh_fix {g : Nat → Int} : ∀ k j, j < k → va j = true → g (fr j) < tm j → zwh fr to tm va g k (to j) ≤ tm j
  | 0, j, hj, _, _ => absurd hj (Nat.not_lt_zero _)
  | k + 1, j, hj, h1, h2 => by
    rw [zwh]
    by_cases c : j = k
    · subst c
      by_cases c2 : tm j < zwh fr to tm va g j (to j)
      · rw [if_pos ⟨h1, h2, c2⟩]; unfold zst1; rw [if_pos rfl]; exact Int.le_refl _
      · rw [if_neg (fun q => c2 q.2.2)]; omega
    · have ih := zwh_fix (g := g) k j (by omega) h1 h2
      split
      · rename_i h
        unfold zst1; split
        · rename_i e; rw [e] at ih; omega
        · exact ih
      · exact ih
theorem zwh_sup {g : Nat → Int} : ∀ k d, zwh fr to tm va g k d = g d ∨ ∃ j, j < k ∧ va j = true ∧ to j = d ∧ g (fr j) < tm j ∧ zwh fr to tm va g k d = tm j
  | 0, d => Or.inl rfl
  | k + 1, d => by
    have ih := zwh_sup (g := g) k d
    rw [zwh]
    by_cases c : va k = true ∧ g (fr k) < tm k ∧ tm k < zwh fr to tm va g k (to k)
    · rw [if_pos c]
      unfold zst1
      by_cases e : d = to k
      · rw [if_pos e]; exact Or.inr ⟨k, by omega, c.1, e.symm, c.2.1, rfl⟩
      · rw [if_neg e]
        rcases ih with h | ⟨j, h1, h2⟩
        · exact Or.inl h
        · exact Or.inr ⟨j, by omega, h2⟩
    · rw [if_neg c]
      rcases ih with h | ⟨j, h1, h2⟩
      · exact Or.inl h
      · exact Or.inr ⟨j, by omega, h2⟩
theorem zwg_0 {n a d : Nat} : zwg fr to tm va n a 0 d = if d = a then -1 else 1000 := rfl
theorem zwg_a {n a : Nat} : ∀ r, zwg fr to tm va n a r a ≤ -1
  | 0 => by rw [zwg_0, if_pos rfl]; exact Int.le_refl _
  | r + 1 => by
    have := zwh_le (fr := fr) (to := to) (tm := tm) (va := va) (g := zwg fr to tm va n a r) n a
    have ih := zwg_a (n := n) (a := a) r
    rw [zwg]; omega
theorem zwg_s {n a r : Nat} {d : Nat} : zwg fr to tm va n a (r + 1) d ≤ zwg fr to tm va n a r d := by
  rw [zwg]; exact zwh_le n d
/-- it is told by nothing better -/
def zwfix (fr to : Nat → Nat) (tm : Nat → Int) (va : Nat → Bool) (n : Nat) (f : Nat → Int) : Prop := ∀ j, j < n → va j = true → f (fr j) < tm j → f (to j) ≤ tm j
/-- it is told by something -/
def zwsup (fr to : Nat → Nat) (tm : Nat → Int) (va : Nat → Bool) (n a : Nat) (f : Nat → Int) : Prop := f a = -1 ∧ ∀ d, d ≠ a → f d = 1000 ∨ ∃ j, j < n ∧ va j = true ∧ to j = d ∧ f d = tm j ∧ f (fr j) < tm j
theorem zw_ge {n a : Nat} {f : Nat → Int} (h1 : zwfix fr to tm va n f) (h2 : zwsup fr to tm va n a f) (ht : ∀ j, j < n → 0 ≤ tm j ∧ tm j ≤ 999) : ∀ r d, f d ≤ zwg fr to tm va n a r d
  | 0, d => by
    rw [zwg_0]
    by_cases c : d = a
    · rw [if_pos c, c, h2.1]; exact Int.le_refl _
    · rw [if_neg c]
      rcases h2.2 d c with h | ⟨j, h3, h4, h5, h6, h7⟩
      · omega
      · have := ht j h3; omega
  | r + 1, d => by
    have ih := zw_ge h1 h2 ht r
    rw [zwg]
    rcases zwh_sup (fr := fr) (to := to) (tm := tm) (va := va) (g := zwg fr to tm va n a r) n d with h | ⟨j, h3, h4, h5, h6, h7⟩
    · rw [h]; exact ih d
    · rw [h7, ← h5]
      exact h1 j h3 h4 (by have := ih (fr j); omega)
def zwr (f : Nat → Int) (d : Nat) : Nat := zcn (fun x => decide (f x < f d)) 12
theorem zwr_le {f : Nat → Int} {d : Nat} (hd : d < 12) : zwr f d ≤ 11 := by
  have h := zcn_lt (p := fun x => decide (f x < f d)) (q := fun _ => true) (i := d) (fun _ _ => rfl) rfl (by simp) 12 hd
  have : zcn (fun _ => true) 12 = 12 := by decide
  unfold zwr; omega
theorem zw_le {n a : Nat} {f : Nat → Int} (h2 : zwsup fr to tm va n a f) (ht : ∀ j, j < n → 0 ≤ tm j ∧ tm j ≤ 999) (hf : ∀ j, j < n → fr j < 12) : ∀ r d, f d < 1000 → zwr f d ≤ r → zwg fr to tm va n a r d ≤ f d := by
  have lt : ∀ d j, j < n → f (fr j) < f d → zwr f (fr j) < zwr f d := fun d j hj h => by
    refine zcn_lt (i := fr j) (fun x hx => ?_) (by simpa using h) (by simp) 12 (hf j hj)
    simp at hx ⊢; omega
  intro r
  induction r with
  | zero =>
    intro d hd hr
    by_cases c : d = a
    · have := zwg_a (fr := fr) (to := to) (tm := tm) (va := va) (n := n) (a := a) 0
      rw [c, h2.1]; exact this
    · rcases h2.2 d c with h | ⟨j, h3, h4, h5, h6, h7⟩
      · omega
      · have := lt d j h3 (by omega); omega
  | succ r ih =>
    intro d hd hr
    by_cases c : d = a
    · have := zwg_a (fr := fr) (to := to) (tm := tm) (va := va) (n := n) (a := a) (r + 1)
      rw [c, h2.1]; exact this
    · rcases h2.2 d c with h | ⟨j, h3, h4, h5, h6, h7⟩
      · omega
      · have k1 := lt d j h3 (by omega)
        have k2 := ht j h3
        have k3 := ih (fr j) (by omega) (by omega)
        have := zwh_fix (fr := fr) (to := to) (tm := tm) (va := va) (g := zwg fr to tm va n a r) n j h3 h4 (by omega)
        rw [zwg, h6, ← h5]; exact this
theorem zw_eq {n a : Nat} {f : Nat → Int} (h1 : zwfix fr to tm va n f) (h2 : zwsup fr to tm va n a f) (ht : ∀ j, j < n → 0 ≤ tm j ∧ tm j ≤ 999) (hf : ∀ j, j < n → fr j < 12) {d : Nat} (hd : d < 12) : zwg fr to tm va n a 11 d = f d := by
  have k1 := zw_ge h1 h2 ht 11 d
  by_cases c : f d < 1000
  · have := zw_le h2 ht hf 11 d c (zwr_le hd); omega
  · have k2 : zwg fr to tm va n a 11 d ≤ 1000 := by
      have : ∀ r, zwg fr to tm va n a r d ≤ zwg fr to tm va n a 0 d := fun r => by
        induction r with
        | zero => exact Int.le_refl _
        | succ r ih => have := zwg_s (fr := fr) (to := to) (tm := tm) (va := va) (n := n) (a := a) (r := r) (d := d); omega
      have := this 11
      rw [zwg_0] at this
      split at this <;> omega
    omega
end W
