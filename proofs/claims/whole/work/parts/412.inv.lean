/-! ===== what holds between the class's cells and the reference's, between any two calls ===== -/
/-- places that only one call uses -/
def zscr (a j : Nat) : Bool := a == 34 || a == 43 || a == 44 || a == 69 || a == 70 || a == 85 || a == 96 || (a == 2 && j == 2) || (a == 35 && j == 6) || (a == 56 && (j == 4 || j == 5)) || a == 102 || a == 106 || a == 107 || a == 125 || a == 126 || (a == 97 && (j == 3 || j == 13 || j == 14 || j == 15 || j == 16 || j == 29 || j == 30 || j == 43 || j == 44 || j == 45 || j == 46))
def zFr (I J : Nat → Nat → Int32) : Prop := ∀ a j, zscr a j = false → J a j = I a j
theorem zFr.rf {I : Nat → Nat → Int32} : zFr I I := fun _ _ _ => rfl
theorem zFr.tr {I J K : Nat → Nat → Int32} (h1 : zFr I J) (h2 : zFr J K) : zFr I K := fun a j h => (h2 a j h).trans (h1 a j h)
theorem zFr.up {I J : Nat → Nat → Int32} {a j : Nat} {v : Int32} (h : zFr I J) (hs : zscr a j = true) : zFr I (az_uI J a j v) := fun b k hb => by
  rw [az_uI_at, if_neg (fun q => by rw [q.1, q.2, hs] at hb; cases hb)]; exact h b k hb
theorem zFr.row {I J : Nat → Nat → Int32} {a : Nat} (h : zFr I J) (hs : ∀ j, zscr a j = false) : J a = I a := funext fun j => h a j (hs j)
/-- what was said -/
def zvP (I : Nat → Nat → Int32) : Prop := ∀ m, m < 30 → ∀ h, h < 8 → I (4 + m) h = I 98 (8 * m + h) ∧ -1 ≤ (I 98 (8 * m + h)).toInt ∧ (I 98 (8 * m + h)).toInt ≤ 999
/-- the tape, the editions -/
def zvB (I : Nat → Nat → Int32) (t e : Nat) : Prop := t ≤ 40 ∧ I 35 1 = nI t ∧ I 97 2 = nI t ∧ I 36 = I 99 ∧ (∀ k, k < t → 32 ≤ (I 36 k).toInt ∧ (I 36 k).toInt ≤ 126) ∧ e ≤ 4 ∧ I 35 4 = nI e ∧ I 97 4 = nI e ∧ I 37 = I 100 ∧
  (∀ k, k < e → ∃ s, s < 30 ∧ I 37 k = nI s ∧ ∀ j, j < k → (I 37 j).toInt ≤ (I 37 k).toInt) ∧
  (∀ k, k < e → ∃ c l s, c ≤ 3 ∧ 1 ≤ l ∧ l ≤ 8 ∧ s ≤ 99 ∧ I (39 + k) 0 = nI c ∧ I (39 + k) 1 = nI l ∧ I (39 + k) 2 = nI s ∧ I 101 (3 * k) = nI c ∧ I 101 (3 * k + 1) = nI l ∧ I 101 (3 * k + 2) = nI s)
/-- rows of the reference that nobody writes -/
def zvC (I : Nat → Nat → Int32) : Prop := I 103 0 = 0 ∧ I 103 1 = 1 ∧ I 103 2 = 0 ∧ I 104 0 = 3 ∧ I 104 1 = 8 ∧ I 104 2 = 99 ∧ I 105 0 = 1 ∧ I 105 1 = 3 ∧ I 105 2 = 20
/-- desks and contracts -/
def zvD (I : Nat → Nat → Int32) (n c : Nat) : Prop := n ≤ 12 ∧ I 49 1 = nI n ∧ I 97 17 = nI n ∧ I 50 = I 108 ∧ (∀ k, k < n → ∃ h, h < 8 ∧ I 50 k = nI h) ∧ c ≤ 24 ∧ I 49 7 = nI c ∧ I 97 19 = nI c ∧ I 51 = I 109 ∧ I 52 = I 110 ∧ I 53 = I 111 ∧ I 54 = I 112 ∧ I 55 = I 113 ∧
  (∀ k, k < c → ∃ a b m z t, a < n ∧ b < n ∧ a ≠ b ∧ m < 30 ∧ 1 ≤ z ∧ z ≤ 99 ∧ t ≤ 999 ∧ I 51 k = nI a ∧ I 52 k = nI b ∧ I 53 k = nI m ∧ I 54 k = nI z ∧ I 55 k = nI t)
/-- loans -/
def zvL (I : Nat → Nat → Int32) (n : Nat) : Prop := n ≤ 60 ∧ I 56 3 = nI n ∧ I 97 25 = nI n ∧ I 57 = I 114 ∧ I 58 = I 115 ∧ I 59 = I 116 ∧ (∀ k, k < n → ∃ h m v, h < 8 ∧ m < 30 ∧ v ≤ 999 ∧ I 57 k = nI h ∧ I 58 k = nI m ∧ I 59 k = nI v)
/-- runs -/
def zvR (I : Nat → Nat → Int32) (n : Nat) : Prop := n ≤ 20 ∧ I 60 2 = nI n ∧ I 97 31 = nI n ∧ I 61 = I 117 ∧ I 62 = I 118 ∧ (∀ k, k < n → ∃ m v, m < 30 ∧ v ≤ 999 ∧ I 61 k = nI m ∧ I 62 k = nI v)
/-- words -/
def zvW (I : Nat → Nat → Int32) (n w : Nat) : Prop := w ≤ 40 ∧ I 63 4 = nI w ∧ I 97 34 = nI w ∧ I 64 = I 119 ∧ I 65 = I 120 ∧ I 66 = I 121 ∧ I 67 = I 122 ∧ (∀ k, k < w → ∃ a b m t, a < n ∧ b < n ∧ a ≠ b ∧ m < 30 ∧ t ≤ 999 ∧ I 64 k = nI a ∧ I 65 k = nI b ∧ I 66 k = nI m ∧ I 67 k = nI t)
/-- walls: bits against truths -/
def zvX (I : Nat → Nat → Int32) (n : Nat) : Prop := ∀ a, a < 12 → ∃ w, w < 4096 ∧ I 68 a = nI w ∧ ∀ b, b < 12 → I 123 (12 * a + b) = (if w.testBit b then 1 else 0) ∧ I 123 (12 * a + b) = I 123 (12 * b + a)
/-- favours -/
def zvF (I : Nat → Nat → Int32) (n : Nat) : Prop := ∀ a, a < 12 → ∀ b, b < 12 → I (73 + a) b = I 124 (12 * a + b) ∧ ∃ v, v ≤ 99 ∧ I (73 + a) b = nI v ∧ (0 < v → a < n ∧ b < n ∧ a ≠ b)
/-- sheets -/
def zvS (I : Nat → Nat → Int32) : Prop := I 87 = I 127 ∧ I 88 = I 128 ∧ (∀ s, s < 4 → (I 87 s = -1 ∨ ∃ k, k < 3 ∧ I 87 s = nI k) ∧ (∃ k, k ≤ 16 ∧ I 88 s = nI k) ∧ ∀ i, i < 16 → I (90 + s) i = I 129 (16 * s + i))
def zInv (I : Nat → Nat → Int32) : Prop := zvP I ∧ zvC I ∧ zvS I ∧ (∃ t e, zvB I t e) ∧ (∃ n, zvL I n) ∧ (∃ n, zvR I n) ∧ ∃ n c w, zvD I n c ∧ zvW I n w ∧ zvX I n ∧ zvF I n
/-- J is I wherever a part looks -/
theorem zvP.fr {I J : Nat → Nat → Int32} (h : zvP I) (f1 : ∀ m, m < 30 → J (4 + m) = I (4 + m)) (f2 : J 98 = I 98) : zvP J := fun m hm k hk => by
  rw [f1 m hm, f2]; exact h m hm k hk
theorem zvC.fr {I J : Nat → Nat → Int32} (h : zvC I) (f1 : J 103 = I 103) (f2 : J 104 = I 104) (f3 : J 105 = I 105) : zvC J := by
  unfold zvC; rw [f1, f2, f3]; exact h
theorem zvS.fr {I J : Nat → Nat → Int32} (h : zvS I) (f1 : J 87 = I 87) (f2 : J 88 = I 88) (f3 : J 127 = I 127) (f4 : J 128 = I 128) (f5 : J 129 = I 129) (f6 : ∀ s, s < 4 → J (90 + s) = I (90 + s)) : zvS J := by
  refine ⟨by rw [f1, f3]; exact h.1, by rw [f2, f4]; exact h.2.1, fun s hs => ?_⟩
  rw [f1, f2, f5, f6 s hs]
  exact h.2.2 s hs
theorem zvB.fr {I J : Nat → Nat → Int32} {t e : Nat} (h : zvB I t e) (f0 : J 35 1 = I 35 1) (f0' : J 35 4 = I 35 4) (f1 : J 97 2 = I 97 2) (f1' : J 97 4 = I 97 4) (f2 : J 36 = I 36) (f3 : J 37 = I 37) (f4 : J 99 = I 99) (f5 : J 100 = I 100) (f6 : J 101 = I 101) (f7 : ∀ k, k < 4 → J (39 + k) = I (39 + k)) : zvB J t e := by
  obtain ⟨h1, h2, h3, h4, h5, h6, h7, h8, h9, h10, h11⟩ := h
  refine ⟨h1, by rw [f0]; exact h2, by rw [f1]; exact h3, by rw [f2, f4]; exact h4, by rw [f2]; exact h5, h6, by rw [f0']; exact h7, by rw [f1']; exact h8, by rw [f3, f5]; exact h9, by rw [f3]; exact h10, fun k hk => ?_⟩
  rw [f7 k (by omega), f6]
  exact h11 k hk
theorem zvD.fr {I J : Nat → Nat → Int32} {n c : Nat} (h : zvD I n c) (f0 : J 49 1 = I 49 1) (f0' : J 49 7 = I 49 7) (f1 : J 97 17 = I 97 17) (f1' : J 97 19 = I 97 19) (f2 : ∀ k, 50 ≤ k → k ≤ 55 → J k = I k) (f3 : ∀ k, 108 ≤ k → k ≤ 113 → J k = I k) : zvD J n c := by
  unfold zvD
  rw [f0, f0', f1, f1', f2 50 (by decide) (by decide), f2 51 (by decide) (by decide), f2 52 (by decide) (by decide), f2 53 (by decide) (by decide), f2 54 (by decide) (by decide), f2 55 (by decide) (by decide), f3 108 (by decide) (by decide), f3 109 (by decide) (by decide), f3 110 (by decide) (by decide), f3 111 (by decide) (by decide), f3 112 (by decide) (by decide), f3 113 (by decide) (by decide)]
  exact h
theorem zvL.fr {I J : Nat → Nat → Int32} {n : Nat} (h : zvL I n) (f0 : J 56 3 = I 56 3) (f1 : J 97 25 = I 97 25) (f2 : ∀ k, 57 ≤ k → k ≤ 59 → J k = I k) (f3 : ∀ k, 114 ≤ k → k ≤ 116 → J k = I k) : zvL J n := by
  unfold zvL
  rw [f0, f1, f2 57 (by decide) (by decide), f2 58 (by decide) (by decide), f2 59 (by decide) (by decide), f3 114 (by decide) (by decide), f3 115 (by decide) (by decide), f3 116 (by decide) (by decide)]
  exact h
theorem zvR.fr {I J : Nat → Nat → Int32} {n : Nat} (h : zvR I n) (f0 : J 60 2 = I 60 2) (f1 : J 97 31 = I 97 31) (f2 : J 61 = I 61) (f3 : J 62 = I 62) (f4 : J 117 = I 117) (f5 : J 118 = I 118) : zvR J n := by
  unfold zvR
  rw [f0, f1, f2, f3, f4, f5]
  exact h
theorem zvW.fr {I J : Nat → Nat → Int32} {n w : Nat} (h : zvW I n w) (f0 : J 63 4 = I 63 4) (f1 : J 97 34 = I 97 34) (f2 : ∀ k, 64 ≤ k → k ≤ 67 → J k = I k) (f3 : ∀ k, 119 ≤ k → k ≤ 122 → J k = I k) : zvW J n w := by
  unfold zvW
  rw [f0, f1, f2 64 (by decide) (by decide), f2 65 (by decide) (by decide), f2 66 (by decide) (by decide), f2 67 (by decide) (by decide), f3 119 (by decide) (by decide), f3 120 (by decide) (by decide), f3 121 (by decide) (by decide), f3 122 (by decide) (by decide)]
  exact h
theorem zvX.fr {I J : Nat → Nat → Int32} {n : Nat} (h : zvX I n) (f1 : J 68 = I 68) (f2 : J 123 = I 123) : zvX J n := by
  unfold zvX; rw [f1, f2]; exact h
theorem zvF.fr {I J : Nat → Nat → Int32} {n : Nat} (h : zvF I n) (f1 : ∀ a, a < 12 → J (73 + a) = I (73 + a)) (f2 : J 124 = I 124) : zvF J n := fun a ha b hb => by
  rw [f1 a ha, f2]; exact h a ha b hb
/-- calls that write only such places keep all -/
theorem zscr_r : ∀ a, a < 130 → a ≠ 34 → a ≠ 43 → a ≠ 44 → a ≠ 69 → a ≠ 70 → a ≠ 85 → a ≠ 96 → a ≠ 2 → a ≠ 35 → a ≠ 56 → a ≠ 102 → a ≠ 106 → a ≠ 107 → a ≠ 125 → a ≠ 126 → a ≠ 97 → ∀ j, zscr a j = false := by
  intro a _ h1 h2 h3 h4 h5 h6 h7 h8 h9 h10 h11 h12 h13 h14 h15 h16 j
  simp [zscr, h1, h2, h3, h4, h5, h6, h7, h8, h9, h10, h11, h12, h13, h14, h15, h16]
theorem zInv.fr {I J : Nat → Nat → Int32} (h : zInv I) (f : zFr I J) : zInv J := by
  obtain ⟨hP, hC, hS, ⟨t, e, hB⟩, ⟨nl, hL⟩, ⟨nr, hR⟩, n, c, w, hD, hW, hX, hF⟩ := h
  have r : ∀ a, a < 130 → a ≠ 34 → a ≠ 43 → a ≠ 44 → a ≠ 69 → a ≠ 70 → a ≠ 85 → a ≠ 96 → a ≠ 2 → a ≠ 35 → a ≠ 56 → a ≠ 102 → a ≠ 106 → a ≠ 107 → a ≠ 125 → a ≠ 126 → a ≠ 97 → J a = I a := fun a h0 h1 h2 h3 h4 h5 h6 h7 h8 h9 h10 h11 h12 h13 h14 h15 h16 => f.row (zscr_r a h0 h1 h2 h3 h4 h5 h6 h7 h8 h9 h10 h11 h12 h13 h14 h15 h16)
  refine ⟨hP.fr (fun m hm => by apply r <;> omega) (by apply r <;> omega), hC.fr (by apply r <;> omega) (by apply r <;> omega) (by apply r <;> omega), hS.fr (by apply r <;> omega) (by apply r <;> omega) (by apply r <;> omega) (by apply r <;> omega) (by apply r <;> omega) (fun s hs => by apply r <;> omega), ⟨t, e, hB.fr (f _ _ rfl) (f _ _ rfl) (f _ _ rfl) (f _ _ rfl) (by apply r <;> omega) (by apply r <;> omega) (by apply r <;> omega) (by apply r <;> omega) (by apply r <;> omega) (fun k hk => by apply r <;> omega)⟩, ⟨nl, hL.fr (f _ _ rfl) (f _ _ rfl) (fun k h1 h2 => by apply r <;> omega) (fun k h1 h2 => by apply r <;> omega)⟩, ⟨nr, hR.fr (f _ _ rfl) (f _ _ rfl) (by apply r <;> omega) (by apply r <;> omega) (by apply r <;> omega) (by apply r <;> omega)⟩, n, c, w, hD.fr (f _ _ rfl) (f _ _ rfl) (f _ _ rfl) (f _ _ rfl) (fun k h1 h2 => by apply r <;> omega) (fun k h1 h2 => by apply r <;> omega), hW.fr (f _ _ rfl) (f _ _ rfl) (fun k h1 h2 => by apply r <;> omega) (fun k h1 h2 => by apply r <;> omega), hX.fr (by apply r <;> omega) (by apply r <;> omega), hF.fr (fun a ha => by apply r <;> omega) (by apply r <;> omega)⟩
/-- one call of both: the same answer, and all holds again -/
def zOp (cl mo : Nat) (as : List Value) : Prop := ∀ I L, zInv I → ∃ (r : Int32) (I1 : Nat → Nat → Int32) (L1 : Nat → Nat → Int64) (I2 : Nat → Nat → Int32) (L2 : Nat → Nat → Int64), zD 9 cl (.ref 0 :: as) (130, az_Pf, I, L) (some (.int r)) (130, az_Pf, I1, L1) ∧ zD 9 mo (.ref 97 :: as) (130, az_Pf, I1, L1) (some (.int r)) (130, az_Pf, I2, L2) ∧ zInv I2
def zOpL (cl mo : Nat) (as : List Value) : Prop := ∀ I L, zInv I → ∃ (r : Int64) (I1 : Nat → Nat → Int32) (L1 : Nat → Nat → Int64) (I2 : Nat → Nat → Int32) (L2 : Nat → Nat → Int64), zD 9 cl (.ref 0 :: as) (130, az_Pf, I, L) (some (.long r)) (130, az_Pf, I1, L1) ∧ zD 9 mo (.ref 97 :: as) (130, az_Pf, I1, L1) (some (.long r)) (130, az_Pf, I2, L2) ∧ zInv I2
