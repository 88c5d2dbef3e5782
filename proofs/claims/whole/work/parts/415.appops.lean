/-! ===== rows that grow, on both sides ===== -/
theorem znatlt {x : Int32} {n : Nat} (h0 : 0 ≤ x.toInt) (h1 : x.toInt < (n : Int)) (hn : n < 2 ^ 31) : ∃ k : Nat, k < n ∧ x = nI k := by
  refine ⟨x.toInt.toNat, by omega, Int32.toInt_inj.mp ?_⟩
  rw [nI_toInt (by omega)]; omega
theorem znat1 {x : Int32} {n : Nat} (h0 : 1 ≤ x.toInt) (h1 : x.toInt ≤ n) (hn : n < 2 ^ 31) : ∃ k : Nat, (1 ≤ k ∧ k ≤ n) ∧ x = nI k := by
  refine ⟨x.toInt.toNat, by omega, Int32.toInt_inj.mp ?_⟩
  rw [nI_toInt (by omega)]; omega
def zup (f : Nat → Int32) (n : Nat) (x : Int32) : Nat → Int32 := fun k => if k = n then x else f k
theorem zup_s (f : Nat → Int32) (n : Nat) (x : Int32) : zup f n x n = x := if_pos rfl
theorem zup_n {f : Nat → Int32} {n k : Nat} {x : Int32} (h : k ≠ n) : zup f n x k = f k := if_neg h
theorem zvW.mono {I : Nat → Nat → Int32} {n n' w : Nat} (h : zvW I n w) (hn : n ≤ n') : zvW I n' w := by
  obtain ⟨h1, h2, h3, h4, h5, h6, h7, h8⟩ := h
  refine ⟨h1, h2, h3, h4, h5, h6, h7, fun k hk => ?_⟩
  obtain ⟨a, b, m, t, g1, g2, g3⟩ := h8 k hk
  exact ⟨a, b, m, t, by omega, by omega, g3⟩
theorem zvF.mono {I : Nat → Nat → Int32} {n n' : Nat} (h : zvF I n) (hn : n ≤ n') : zvF I n' := fun a ha b hb => by
  obtain ⟨h1, v, h2, h3, h4⟩ := h a ha b hb
  exact ⟨h1, v, h2, h3, fun q => by obtain ⟨g1, g2, g3⟩ := h4 q; exact ⟨by omega, by omega, g3⟩⟩
theorem op_lent (x m v : Int32) : zOp 107 176 [.int x, .int m, .int v] := by
  intro I L hI
  have hI0 := hI
  obtain ⟨hP, hC, hS, ⟨t, e, hB⟩, ⟨nl, hL⟩, ⟨nr, hR⟩, n, c, w, hD, hW, hX, hF⟩ := hI
  by_cases hb : (0 ≤ x.toInt ∧ x.toInt ≤ 7) ∧ (0 ≤ m.toInt ∧ m.toInt ≤ 29) ∧ (0 ≤ v.toInt ∧ v.toInt ≤ 999)
  · obtain ⟨h0, h1, h2⟩ := hb
    obtain ⟨qx, gx, rfl⟩ := znat h0.1 (n := 7) h0.2 (by decide)
    obtain ⟨qm, gm, rfl⟩ := znat h1.1 (n := 29) h1.2 (by decide)
    obtain ⟨qv, gv, rfl⟩ := znat h2.1 (n := 999) h2.2 (by decide)
    by_cases hf : nl < 60
    · obtain ⟨J, hJ⟩ : ∃ J, J = (az_uI (az_uI (az_uI (az_uI (az_uI (az_uI (az_uI (az_uI I 57 nl (nI qx)) 58 nl (nI qm)) 59 nl (nI qv)) 56 3 (nI (nl + 1))) 114 nl (nI qx)) 115 nl (nI qm)) 116 nl (nI qv)) 97 25 (nI (nl + 1))) := ⟨_, rfl⟩
      have ff : ∀ b j, ¬ ((b = 56 ∧ j = 3) ∨ (b = 97 ∧ j = 25) ∨ (57 ≤ b ∧ b ≤ 59) ∨ (114 ≤ b ∧ b ≤ 116)) → J b j = I b j := fun b j hq => by
        rw [hJ]; simp only [az_uI_at]; rw [if_neg (by omega), if_neg (by omega), if_neg (by omega), if_neg (by omega), if_neg (by omega), if_neg (by omega), if_neg (by omega), if_neg (by omega)]
      have e57 : J 57 = zup (I 57) nl (nI qx) := funext fun k => by rw [hJ]; simp [az_uI_at, zup]
      have e58 : J 58 = zup (I 58) nl (nI qm) := funext fun k => by rw [hJ]; simp [az_uI_at, zup]
      have e59 : J 59 = zup (I 59) nl (nI qv) := funext fun k => by rw [hJ]; simp [az_uI_at, zup]
      have e114 : J 114 = zup (I 114) nl (nI qx) := funext fun k => by rw [hJ]; simp [az_uI_at, zup]
      have e115 : J 115 = zup (I 115) nl (nI qm) := funext fun k => by rw [hJ]; simp [az_uI_at, zup]
      have e116 : J 116 = zup (I 116) nl (nI qv) := funext fun k => by rw [hJ]; simp [az_uI_at, zup]
      have ec : J 56 3 = nI (nl + 1) := by rw [hJ]; simp [az_uI_at]
      have em : J 97 25 = nI (nl + 1) := by rw [hJ]; simp [az_uI_at]
      refine ⟨nI nl, (az_uI (az_uI (az_uI (az_uI I 57 nl (nI qx)) 58 nl (nI qm)) 59 nl (nI qv)) 56 3 (nI (nl + 1))), L, J, L, s_X10_lent (d := 5) hL.2.1 hf h0 h1 h2, ?_, ?_⟩
      · rw [hJ]
        exact s_X11_lent (d := 5) (by simp only [az_uI_at]; simp; exact hL.2.2.1) hf h0 h1 h2
      · have hLn : zvL J (nl + 1) := by
          obtain ⟨k1, k2, k3, k4, k5, k6, k7⟩ := hL
          refine ⟨by omega, ec, em, by rw [e57, e114, k4], by rw [e58, e115, k5], by rw [e59, e116, k6], fun k hk => ?_⟩
          rw [e57, e58, e59]
          by_cases q : k = nl
          · subst q
            exact ⟨qx, qm, qv, by omega, by omega, by omega, zup_s _ _ _, zup_s _ _ _, zup_s _ _ _⟩
          · rw [zup_n q, zup_n q, zup_n q]
            exact k7 k (by omega)
        exact ⟨(hP.fr (fun m hm => funext fun j => ff _ j (by omega)) (funext fun j => ff _ j (by omega))), (hC.fr (funext fun j => ff _ j (by omega)) (funext fun j => ff _ j (by omega)) (funext fun j => ff _ j (by omega))), (hS.fr (funext fun j => ff _ j (by omega)) (funext fun j => ff _ j (by omega)) (funext fun j => ff _ j (by omega)) (funext fun j => ff _ j (by omega)) (funext fun j => ff _ j (by omega)) (fun s hs => funext fun j => ff _ j (by omega))), ⟨t, e, (hB.fr (ff _ _ (by omega)) (ff _ _ (by omega)) (ff _ _ (by omega)) (ff _ _ (by omega)) (funext fun j => ff _ j (by omega)) (funext fun j => ff _ j (by omega)) (funext fun j => ff _ j (by omega)) (funext fun j => ff _ j (by omega)) (funext fun j => ff _ j (by omega)) (fun k hk => funext fun j => ff _ j (by omega)))⟩, ⟨nl + 1, (hLn)⟩, ⟨nr, (hR.fr (ff _ _ (by omega)) (ff _ _ (by omega)) (funext fun j => ff _ j (by omega)) (funext fun j => ff _ j (by omega)) (funext fun j => ff _ j (by omega)) (funext fun j => ff _ j (by omega)))⟩, n, c, w, (hD.fr (ff _ _ (by omega)) (ff _ _ (by omega)) (ff _ _ (by omega)) (ff _ _ (by omega)) (fun k h1 h2 => funext fun j => ff _ j (by omega)) (fun k h1 h2 => funext fun j => ff _ j (by omega))), (hW.fr (ff _ _ (by omega)) (ff _ _ (by omega)) (fun k h1 h2 => funext fun j => ff _ j (by omega)) (fun k h1 h2 => funext fun j => ff _ j (by omega))), (hX.fr (funext fun j => ff _ j (by omega)) (funext fun j => ff _ j (by omega))), (hF.fr (fun a ha => funext fun j => ff _ j (by omega)) (funext fun j => ff _ j (by omega)))⟩
    · have hn : nl = 60 := by have := hL.1; omega
      subst hn
      exact ⟨_, I, L, I, L, s_X10_lent_full (d := 5) hL.2.1 h0 h1 h2, s_X11_lent_full (d := 5) hL.2.2.1 h0 h1 h2, hI0⟩
  · exact ⟨_, I, L, I, L, s_X10_lent_bad (d := 5) hb, s_X11_lent_bad (d := 5) hb, hI0⟩
theorem op_run (m v : Int32) : zOp 113 187 [.int m, .int v] := by
  intro I L hI
  have hI0 := hI
  obtain ⟨hP, hC, hS, ⟨t, e, hB⟩, ⟨nl, hL⟩, ⟨nr, hR⟩, n, c, w, hD, hW, hX, hF⟩ := hI
  by_cases hb : (0 ≤ m.toInt ∧ m.toInt ≤ 29) ∧ (0 ≤ v.toInt ∧ v.toInt ≤ 999)
  · obtain ⟨h0, h1⟩ := hb
    obtain ⟨qm, gm, rfl⟩ := znat h0.1 (n := 29) h0.2 (by decide)
    obtain ⟨qv, gv, rfl⟩ := znat h1.1 (n := 999) h1.2 (by decide)
    by_cases hf : nr < 20
    · obtain ⟨J, hJ⟩ : ∃ J, J = (az_uI (az_uI (az_uI (az_uI (az_uI (az_uI I 61 nr (nI qm)) 62 nr (nI qv)) 60 2 (nI (nr + 1))) 117 nr (nI qm)) 118 nr (nI qv)) 97 31 (nI (nr + 1))) := ⟨_, rfl⟩
      have ff : ∀ b j, ¬ ((b = 60 ∧ j = 2) ∨ (b = 97 ∧ j = 31) ∨ (61 ≤ b ∧ b ≤ 62) ∨ (117 ≤ b ∧ b ≤ 118)) → J b j = I b j := fun b j hq => by
        rw [hJ]; simp only [az_uI_at]; rw [if_neg (by omega), if_neg (by omega), if_neg (by omega), if_neg (by omega), if_neg (by omega), if_neg (by omega)]
      have e61 : J 61 = zup (I 61) nr (nI qm) := funext fun k => by rw [hJ]; simp [az_uI_at, zup]
      have e62 : J 62 = zup (I 62) nr (nI qv) := funext fun k => by rw [hJ]; simp [az_uI_at, zup]
      have e117 : J 117 = zup (I 117) nr (nI qm) := funext fun k => by rw [hJ]; simp [az_uI_at, zup]
      have e118 : J 118 = zup (I 118) nr (nI qv) := funext fun k => by rw [hJ]; simp [az_uI_at, zup]
      have ec : J 60 2 = nI (nr + 1) := by rw [hJ]; simp [az_uI_at]
      have em : J 97 31 = nI (nr + 1) := by rw [hJ]; simp [az_uI_at]
      refine ⟨nI nr, (az_uI (az_uI (az_uI I 61 nr (nI qm)) 62 nr (nI qv)) 60 2 (nI (nr + 1))), L, J, L, s_X10_run (d := 5) hR.2.1 hf h0 h1, ?_, ?_⟩
      · rw [hJ]
        exact s_X11_run (d := 5) (by simp only [az_uI_at]; simp; exact hR.2.2.1) hf h0 h1
      · have hRn : zvR J (nr + 1) := by
          obtain ⟨k1, k2, k3, k4, k5, k6⟩ := hR
          refine ⟨by omega, ec, em, by rw [e61, e117, k4], by rw [e62, e118, k5], fun k hk => ?_⟩
          rw [e61, e62]
          by_cases q : k = nr
          · subst q
            exact ⟨qm, qv, by omega, by omega, zup_s _ _ _, zup_s _ _ _⟩
          · rw [zup_n q, zup_n q]
            exact k6 k (by omega)
        exact ⟨(hP.fr (fun m hm => funext fun j => ff _ j (by omega)) (funext fun j => ff _ j (by omega))), (hC.fr (funext fun j => ff _ j (by omega)) (funext fun j => ff _ j (by omega)) (funext fun j => ff _ j (by omega))), (hS.fr (funext fun j => ff _ j (by omega)) (funext fun j => ff _ j (by omega)) (funext fun j => ff _ j (by omega)) (funext fun j => ff _ j (by omega)) (funext fun j => ff _ j (by omega)) (fun s hs => funext fun j => ff _ j (by omega))), ⟨t, e, (hB.fr (ff _ _ (by omega)) (ff _ _ (by omega)) (ff _ _ (by omega)) (ff _ _ (by omega)) (funext fun j => ff _ j (by omega)) (funext fun j => ff _ j (by omega)) (funext fun j => ff _ j (by omega)) (funext fun j => ff _ j (by omega)) (funext fun j => ff _ j (by omega)) (fun k hk => funext fun j => ff _ j (by omega)))⟩, ⟨nl, (hL.fr (ff _ _ (by omega)) (ff _ _ (by omega)) (fun k h1 h2 => funext fun j => ff _ j (by omega)) (fun k h1 h2 => funext fun j => ff _ j (by omega)))⟩, ⟨nr + 1, (hRn)⟩, n, c, w, (hD.fr (ff _ _ (by omega)) (ff _ _ (by omega)) (ff _ _ (by omega)) (ff _ _ (by omega)) (fun k h1 h2 => funext fun j => ff _ j (by omega)) (fun k h1 h2 => funext fun j => ff _ j (by omega))), (hW.fr (ff _ _ (by omega)) (ff _ _ (by omega)) (fun k h1 h2 => funext fun j => ff _ j (by omega)) (fun k h1 h2 => funext fun j => ff _ j (by omega))), (hX.fr (funext fun j => ff _ j (by omega)) (funext fun j => ff _ j (by omega))), (hF.fr (fun a ha => funext fun j => ff _ j (by omega)) (funext fun j => ff _ j (by omega)))⟩
    · have hn : nr = 20 := by have := hR.1; omega
      subst hn
      exact ⟨_, I, L, I, L, s_X10_run_full (d := 5) hR.2.1 h0 h1, s_X11_run_full (d := 5) hR.2.2.1 h0 h1, hI0⟩
  · exact ⟨_, I, L, I, L, s_X10_run_bad (d := 5) hb, s_X11_run_bad (d := 5) hb, hI0⟩
theorem op_word (x y m v : Int32) : zOp 116 190 [.int x, .int y, .int m, .int v] := by
  intro I L hI
  have hI0 := hI
  obtain ⟨hP, hC, hS, ⟨t, e, hB⟩, ⟨nl, hL⟩, ⟨nr, hR⟩, n, c, w, hD, hW, hX, hF⟩ := hI
  by_cases hb : ((0 ≤ x.toInt ∧ x.toInt < (n : Int)) ∧ (0 ≤ y.toInt ∧ y.toInt < (n : Int)) ∧ ¬ x = y) ∧ (0 ≤ m.toInt ∧ m.toInt ≤ 29) ∧ (0 ≤ v.toInt ∧ v.toInt ≤ 999)
  · obtain ⟨h0, h1, h2⟩ := hb
    obtain ⟨qx, gx, rfl⟩ := znatlt h0.1.1 h0.1.2 (by have := hD.1; omega)
    obtain ⟨qy, gy, rfl⟩ := znatlt h0.2.1.1 h0.2.1.2 (by have := hD.1; omega)
    have gxy : qx ≠ qy := fun q => h0.2.2 (by rw [q])
    obtain ⟨qm, gm, rfl⟩ := znat h1.1 (n := 29) h1.2 (by decide)
    obtain ⟨qv, gv, rfl⟩ := znat h2.1 (n := 999) h2.2 (by decide)
    by_cases hf : w < 40
    · obtain ⟨J, hJ⟩ : ∃ J, J = (az_uI (az_uI (az_uI (az_uI (az_uI (az_uI (az_uI (az_uI (az_uI (az_uI I 64 w (nI qx)) 65 w (nI qy)) 66 w (nI qm)) 67 w (nI qv)) 63 4 (nI (w + 1))) 119 w (nI qx)) 120 w (nI qy)) 121 w (nI qm)) 122 w (nI qv)) 97 34 (nI (w + 1))) := ⟨_, rfl⟩
      have ff : ∀ b j, ¬ ((b = 63 ∧ j = 4) ∨ (b = 97 ∧ j = 34) ∨ (64 ≤ b ∧ b ≤ 67) ∨ (119 ≤ b ∧ b ≤ 122)) → J b j = I b j := fun b j hq => by
        rw [hJ]; simp only [az_uI_at]; rw [if_neg (by omega), if_neg (by omega), if_neg (by omega), if_neg (by omega), if_neg (by omega), if_neg (by omega), if_neg (by omega), if_neg (by omega), if_neg (by omega), if_neg (by omega)]
      have e64 : J 64 = zup (I 64) w (nI qx) := funext fun k => by rw [hJ]; simp [az_uI_at, zup]
      have e65 : J 65 = zup (I 65) w (nI qy) := funext fun k => by rw [hJ]; simp [az_uI_at, zup]
      have e66 : J 66 = zup (I 66) w (nI qm) := funext fun k => by rw [hJ]; simp [az_uI_at, zup]
      have e67 : J 67 = zup (I 67) w (nI qv) := funext fun k => by rw [hJ]; simp [az_uI_at, zup]
      have e119 : J 119 = zup (I 119) w (nI qx) := funext fun k => by rw [hJ]; simp [az_uI_at, zup]
      have e120 : J 120 = zup (I 120) w (nI qy) := funext fun k => by rw [hJ]; simp [az_uI_at, zup]
      have e121 : J 121 = zup (I 121) w (nI qm) := funext fun k => by rw [hJ]; simp [az_uI_at, zup]
      have e122 : J 122 = zup (I 122) w (nI qv) := funext fun k => by rw [hJ]; simp [az_uI_at, zup]
      have ec : J 63 4 = nI (w + 1) := by rw [hJ]; simp [az_uI_at]
      have em : J 97 34 = nI (w + 1) := by rw [hJ]; simp [az_uI_at]
      refine ⟨nI w, (az_uI (az_uI (az_uI (az_uI (az_uI I 64 w (nI qx)) 65 w (nI qy)) 66 w (nI qm)) 67 w (nI qv)) 63 4 (nI (w + 1))), L, J, L, s_X10_word (d := 5) hD.2.1 hD.1 hW.2.1 hf h0 h1 h2, ?_, ?_⟩
      · rw [hJ]
        exact s_X11_word (d := 5) (by simp only [az_uI_at]; simp; exact hD.2.2.1) hD.1 (by simp only [az_uI_at]; simp; exact hW.2.2.1) hf h0 h1 h2
      · have hWn : zvW J n (w + 1) := by
          obtain ⟨k1, k2, k3, k4, k5, k6, k7, k8⟩ := hW
          refine ⟨by omega, ec, em, by rw [e64, e119, k4], by rw [e65, e120, k5], by rw [e66, e121, k6], by rw [e67, e122, k7], fun k hk => ?_⟩
          rw [e64, e65, e66, e67]
          by_cases q : k = w
          · subst q
            exact ⟨qx, qy, qm, qv, gx, gy, gxy, by omega, by omega, zup_s _ _ _, zup_s _ _ _, zup_s _ _ _, zup_s _ _ _⟩
          · rw [zup_n q, zup_n q, zup_n q, zup_n q]
            exact k8 k (by omega)
        exact ⟨(hP.fr (fun m hm => funext fun j => ff _ j (by omega)) (funext fun j => ff _ j (by omega))), (hC.fr (funext fun j => ff _ j (by omega)) (funext fun j => ff _ j (by omega)) (funext fun j => ff _ j (by omega))), (hS.fr (funext fun j => ff _ j (by omega)) (funext fun j => ff _ j (by omega)) (funext fun j => ff _ j (by omega)) (funext fun j => ff _ j (by omega)) (funext fun j => ff _ j (by omega)) (fun s hs => funext fun j => ff _ j (by omega))), ⟨t, e, (hB.fr (ff _ _ (by omega)) (ff _ _ (by omega)) (ff _ _ (by omega)) (ff _ _ (by omega)) (funext fun j => ff _ j (by omega)) (funext fun j => ff _ j (by omega)) (funext fun j => ff _ j (by omega)) (funext fun j => ff _ j (by omega)) (funext fun j => ff _ j (by omega)) (fun k hk => funext fun j => ff _ j (by omega)))⟩, ⟨nl, (hL.fr (ff _ _ (by omega)) (ff _ _ (by omega)) (fun k h1 h2 => funext fun j => ff _ j (by omega)) (fun k h1 h2 => funext fun j => ff _ j (by omega)))⟩, ⟨nr, (hR.fr (ff _ _ (by omega)) (ff _ _ (by omega)) (funext fun j => ff _ j (by omega)) (funext fun j => ff _ j (by omega)) (funext fun j => ff _ j (by omega)) (funext fun j => ff _ j (by omega)))⟩, n, c, w + 1, (hD.fr (ff _ _ (by omega)) (ff _ _ (by omega)) (ff _ _ (by omega)) (ff _ _ (by omega)) (fun k h1 h2 => funext fun j => ff _ j (by omega)) (fun k h1 h2 => funext fun j => ff _ j (by omega))), (hWn), (hX.fr (funext fun j => ff _ j (by omega)) (funext fun j => ff _ j (by omega))), (hF.fr (fun a ha => funext fun j => ff _ j (by omega)) (funext fun j => ff _ j (by omega)))⟩
    · have hn : w = 40 := by have := hW.1; omega
      subst hn
      exact ⟨_, I, L, I, L, s_X10_word_full (d := 5) hD.2.1 hD.1 hW.2.1 h0 h1 h2, s_X11_word_full (d := 5) hD.2.2.1 hD.1 hW.2.2.1 h0 h1 h2, hI0⟩
  · exact ⟨_, I, L, I, L, s_X10_word_bad (d := 5) hD.2.1 hD.1 hb, s_X11_word_bad (d := 5) hD.2.2.1 hD.1 hb, hI0⟩
theorem op_contract (x y m z s : Int32) : zOp 102 169 [.int x, .int y, .int m, .int z, .int s] := by
  intro I L hI
  have hI0 := hI
  obtain ⟨hP, hC, hS, ⟨t, e, hB⟩, ⟨nl, hL⟩, ⟨nr, hR⟩, n, c, w, hD, hW, hX, hF⟩ := hI
  by_cases hb : ((0 ≤ x.toInt ∧ x.toInt < (n : Int)) ∧ (0 ≤ y.toInt ∧ y.toInt < (n : Int)) ∧ ¬ x = y) ∧ (0 ≤ m.toInt ∧ m.toInt ≤ 29) ∧ (1 ≤ z.toInt ∧ z.toInt ≤ 99) ∧ (0 ≤ s.toInt ∧ s.toInt ≤ 999)
  · obtain ⟨h0, h1, h2, h3⟩ := hb
    obtain ⟨qx, gx, rfl⟩ := znatlt h0.1.1 h0.1.2 (by have := hD.1; omega)
    obtain ⟨qy, gy, rfl⟩ := znatlt h0.2.1.1 h0.2.1.2 (by have := hD.1; omega)
    have gxy : qx ≠ qy := fun q => h0.2.2 (by rw [q])
    obtain ⟨qm, gm, rfl⟩ := znat h1.1 (n := 29) h1.2 (by decide)
    obtain ⟨qz, gz, rfl⟩ := znat1 h2.1 (n := 99) h2.2 (by decide)
    obtain ⟨qs, gs, rfl⟩ := znat h3.1 (n := 999) h3.2 (by decide)
    by_cases hf : c < 24
    · obtain ⟨J, hJ⟩ : ∃ J, J = (az_uI (az_uI (az_uI (az_uI (az_uI (az_uI (az_uI (az_uI (az_uI (az_uI (az_uI (az_uI I 51 c (nI qx)) 52 c (nI qy)) 53 c (nI qm)) 54 c (nI qz)) 55 c (nI qs)) 49 7 (nI (c + 1))) 109 c (nI qx)) 110 c (nI qy)) 111 c (nI qm)) 112 c (nI qz)) 113 c (nI qs)) 97 19 (nI (c + 1))) := ⟨_, rfl⟩
      have ff : ∀ b j, ¬ ((b = 49 ∧ j = 7) ∨ (b = 97 ∧ j = 19) ∨ (51 ≤ b ∧ b ≤ 55) ∨ (109 ≤ b ∧ b ≤ 113)) → J b j = I b j := fun b j hq => by
        rw [hJ]; simp only [az_uI_at]; rw [if_neg (by omega), if_neg (by omega), if_neg (by omega), if_neg (by omega), if_neg (by omega), if_neg (by omega), if_neg (by omega), if_neg (by omega), if_neg (by omega), if_neg (by omega), if_neg (by omega), if_neg (by omega)]
      have e51 : J 51 = zup (I 51) c (nI qx) := funext fun k => by rw [hJ]; simp [az_uI_at, zup]
      have e52 : J 52 = zup (I 52) c (nI qy) := funext fun k => by rw [hJ]; simp [az_uI_at, zup]
      have e53 : J 53 = zup (I 53) c (nI qm) := funext fun k => by rw [hJ]; simp [az_uI_at, zup]
      have e54 : J 54 = zup (I 54) c (nI qz) := funext fun k => by rw [hJ]; simp [az_uI_at, zup]
      have e55 : J 55 = zup (I 55) c (nI qs) := funext fun k => by rw [hJ]; simp [az_uI_at, zup]
      have e109 : J 109 = zup (I 109) c (nI qx) := funext fun k => by rw [hJ]; simp [az_uI_at, zup]
      have e110 : J 110 = zup (I 110) c (nI qy) := funext fun k => by rw [hJ]; simp [az_uI_at, zup]
      have e111 : J 111 = zup (I 111) c (nI qm) := funext fun k => by rw [hJ]; simp [az_uI_at, zup]
      have e112 : J 112 = zup (I 112) c (nI qz) := funext fun k => by rw [hJ]; simp [az_uI_at, zup]
      have e113 : J 113 = zup (I 113) c (nI qs) := funext fun k => by rw [hJ]; simp [az_uI_at, zup]
      have ec : J 49 7 = nI (c + 1) := by rw [hJ]; simp [az_uI_at]
      have em : J 97 19 = nI (c + 1) := by rw [hJ]; simp [az_uI_at]
      refine ⟨nI c, (az_uI (az_uI (az_uI (az_uI (az_uI (az_uI I 51 c (nI qx)) 52 c (nI qy)) 53 c (nI qm)) 54 c (nI qz)) 55 c (nI qs)) 49 7 (nI (c + 1))), L, J, L, s_X10_contract (d := 5) hD.2.1 hD.1 hD.2.2.2.2.2.2.1 hf h0 h1 h2 h3, ?_, ?_⟩
      · rw [hJ]
        exact s_X11_contract (d := 5) (by simp only [az_uI_at]; simp; exact hD.2.2.1) hD.1 (by simp only [az_uI_at]; simp; exact hD.2.2.2.2.2.2.2.1) hf h0 h1 h2 h3
      · have hDn : zvD J n (c + 1) := by
          obtain ⟨k1, k2, k3, k4, k5, k6, k7, k8, k9, k10, k11, k12, k13, k14⟩ := hD
          refine ⟨k1, by rw [ff _ _ (by omega)]; exact k2, by rw [ff _ _ (by omega)]; exact k3, funext fun j => by rw [ff _ _ (by omega), ff _ _ (by omega), k4], fun k hk => by rw [ff _ _ (by omega)]; exact k5 k hk, by omega, ec, em, by rw [e51, e109, k9], by rw [e52, e110, k10], by rw [e53, e111, k11], by rw [e54, e112, k12], by rw [e55, e113, k13], fun k hk => ?_⟩
          rw [e51, e52, e53, e54, e55]
          by_cases q : k = c
          · subst q
            exact ⟨qx, qy, qm, qz, qs, gx, gy, gxy, by omega, gz.1, gz.2, by omega, zup_s _ _ _, zup_s _ _ _, zup_s _ _ _, zup_s _ _ _, zup_s _ _ _⟩
          · rw [zup_n q, zup_n q, zup_n q, zup_n q, zup_n q]
            exact k14 k (by omega)
        exact ⟨(hP.fr (fun m hm => funext fun j => ff _ j (by omega)) (funext fun j => ff _ j (by omega))), (hC.fr (funext fun j => ff _ j (by omega)) (funext fun j => ff _ j (by omega)) (funext fun j => ff _ j (by omega))), (hS.fr (funext fun j => ff _ j (by omega)) (funext fun j => ff _ j (by omega)) (funext fun j => ff _ j (by omega)) (funext fun j => ff _ j (by omega)) (funext fun j => ff _ j (by omega)) (fun s hs => funext fun j => ff _ j (by omega))), ⟨t, e, (hB.fr (ff _ _ (by omega)) (ff _ _ (by omega)) (ff _ _ (by omega)) (ff _ _ (by omega)) (funext fun j => ff _ j (by omega)) (funext fun j => ff _ j (by omega)) (funext fun j => ff _ j (by omega)) (funext fun j => ff _ j (by omega)) (funext fun j => ff _ j (by omega)) (fun k hk => funext fun j => ff _ j (by omega)))⟩, ⟨nl, (hL.fr (ff _ _ (by omega)) (ff _ _ (by omega)) (fun k h1 h2 => funext fun j => ff _ j (by omega)) (fun k h1 h2 => funext fun j => ff _ j (by omega)))⟩, ⟨nr, (hR.fr (ff _ _ (by omega)) (ff _ _ (by omega)) (funext fun j => ff _ j (by omega)) (funext fun j => ff _ j (by omega)) (funext fun j => ff _ j (by omega)) (funext fun j => ff _ j (by omega)))⟩, n, c + 1, w, (hDn), (hW.fr (ff _ _ (by omega)) (ff _ _ (by omega)) (fun k h1 h2 => funext fun j => ff _ j (by omega)) (fun k h1 h2 => funext fun j => ff _ j (by omega))), (hX.fr (funext fun j => ff _ j (by omega)) (funext fun j => ff _ j (by omega))), (hF.fr (fun a ha => funext fun j => ff _ j (by omega)) (funext fun j => ff _ j (by omega)))⟩
    · have hn : c = 24 := by have := hD.2.2.2.2.2.1; omega
      subst hn
      exact ⟨_, I, L, I, L, s_X10_contract_full (d := 5) hD.2.1 hD.1 hD.2.2.2.2.2.2.1 h0 h1 h2 h3, s_X11_contract_full (d := 5) hD.2.2.1 hD.1 hD.2.2.2.2.2.2.2.1 h0 h1 h2 h3, hI0⟩
  · exact ⟨_, I, L, I, L, s_X10_contract_bad (d := 5) hD.2.1 hD.1 hb, s_X11_contract_bad (d := 5) hD.2.2.1 hD.1 hb, hI0⟩
theorem op_desk (x : Int32) : zOp 101 166 [.int x] := by
  intro I L hI
  have hI0 := hI
  obtain ⟨hP, hC, hS, ⟨t, e, hB⟩, ⟨nl, hL⟩, ⟨nr, hR⟩, n, c, w, hD, hW, hX, hF⟩ := hI
  by_cases hb : (0 ≤ x.toInt ∧ x.toInt ≤ 7)
  · have h0 := hb
    obtain ⟨qx, gx, rfl⟩ := znat h0.1 (n := 7) h0.2 (by decide)
    by_cases hf : n < 12
    · obtain ⟨J, hJ⟩ : ∃ J, J = (az_uI (az_uI (az_uI (az_uI I 50 n (nI qx)) 49 1 (nI (n + 1))) 108 n (nI qx)) 97 17 (nI (n + 1))) := ⟨_, rfl⟩
      have ff : ∀ b j, ¬ ((b = 49 ∧ j = 1) ∨ (b = 97 ∧ j = 17) ∨ (50 ≤ b ∧ b ≤ 50) ∨ (108 ≤ b ∧ b ≤ 108)) → J b j = I b j := fun b j hq => by
        rw [hJ]; simp only [az_uI_at]; rw [if_neg (by omega), if_neg (by omega), if_neg (by omega), if_neg (by omega)]
      have e50 : J 50 = zup (I 50) n (nI qx) := funext fun k => by rw [hJ]; simp [az_uI_at, zup]
      have e108 : J 108 = zup (I 108) n (nI qx) := funext fun k => by rw [hJ]; simp [az_uI_at, zup]
      have ec : J 49 1 = nI (n + 1) := by rw [hJ]; simp [az_uI_at]
      have em : J 97 17 = nI (n + 1) := by rw [hJ]; simp [az_uI_at]
      refine ⟨nI n, (az_uI (az_uI I 50 n (nI qx)) 49 1 (nI (n + 1))), L, J, L, s_X10_desk (d := 5) hD.2.1 hf h0, ?_, ?_⟩
      · rw [hJ]
        exact s_X11_desk (d := 5) (by simp only [az_uI_at]; simp; exact hD.2.2.1) hf h0
      · have hDn : zvD J (n + 1) c := by
          obtain ⟨k1, k2, k3, k4, k5, k6, k7, k8, k9, k10, k11, k12, k13, k14⟩ := hD
          refine ⟨by omega, ec, em, by rw [e50, e108, k4], fun k hk => ?_, k6, by rw [ff _ _ (by omega)]; exact k7, by rw [ff _ _ (by omega)]; exact k8, funext fun j => by rw [ff _ _ (by omega), ff _ _ (by omega), k9], funext fun j => by rw [ff _ _ (by omega), ff _ _ (by omega), k10], funext fun j => by rw [ff _ _ (by omega), ff _ _ (by omega), k11], funext fun j => by rw [ff _ _ (by omega), ff _ _ (by omega), k12], funext fun j => by rw [ff _ _ (by omega), ff _ _ (by omega), k13], fun k hk => ?_⟩
          · rw [e50]
            by_cases q : k = n
            · subst q
              exact ⟨qx, by omega, zup_s _ _ _⟩
            · rw [zup_n q]
              exact k5 k (by omega)
          · obtain ⟨a, b, m, z, t, g1, g2, g3, g4, g5, g6, g7, g8, g9, g10, g11, g12⟩ := k14 k hk
            exact ⟨a, b, m, z, t, by omega, by omega, g3, g4, g5, g6, g7, by rw [ff _ _ (by omega)]; exact g8, by rw [ff _ _ (by omega)]; exact g9, by rw [ff _ _ (by omega)]; exact g10, by rw [ff _ _ (by omega)]; exact g11, by rw [ff _ _ (by omega)]; exact g12⟩
        have hWn : zvW J (n + 1) w := (hW.fr (ff _ _ (by omega)) (ff _ _ (by omega)) (fun k h1 h2 => funext fun j => ff _ j (by omega)) (fun k h1 h2 => funext fun j => ff _ j (by omega))).mono (Nat.le_succ n)
        have hFn : zvF J (n + 1) := (hF.fr (fun a ha => funext fun j => ff _ j (by omega)) (funext fun j => ff _ j (by omega))).mono (Nat.le_succ n)
        exact ⟨(hP.fr (fun m hm => funext fun j => ff _ j (by omega)) (funext fun j => ff _ j (by omega))), (hC.fr (funext fun j => ff _ j (by omega)) (funext fun j => ff _ j (by omega)) (funext fun j => ff _ j (by omega))), (hS.fr (funext fun j => ff _ j (by omega)) (funext fun j => ff _ j (by omega)) (funext fun j => ff _ j (by omega)) (funext fun j => ff _ j (by omega)) (funext fun j => ff _ j (by omega)) (fun s hs => funext fun j => ff _ j (by omega))), ⟨t, e, (hB.fr (ff _ _ (by omega)) (ff _ _ (by omega)) (ff _ _ (by omega)) (ff _ _ (by omega)) (funext fun j => ff _ j (by omega)) (funext fun j => ff _ j (by omega)) (funext fun j => ff _ j (by omega)) (funext fun j => ff _ j (by omega)) (funext fun j => ff _ j (by omega)) (fun k hk => funext fun j => ff _ j (by omega)))⟩, ⟨nl, (hL.fr (ff _ _ (by omega)) (ff _ _ (by omega)) (fun k h1 h2 => funext fun j => ff _ j (by omega)) (fun k h1 h2 => funext fun j => ff _ j (by omega)))⟩, ⟨nr, (hR.fr (ff _ _ (by omega)) (ff _ _ (by omega)) (funext fun j => ff _ j (by omega)) (funext fun j => ff _ j (by omega)) (funext fun j => ff _ j (by omega)) (funext fun j => ff _ j (by omega)))⟩, n + 1, c, w, (hDn), (hWn), (hX.fr (funext fun j => ff _ j (by omega)) (funext fun j => ff _ j (by omega))), (hFn)⟩
    · have hn : n = 12 := by have := hD.1; omega
      subst hn
      exact ⟨_, I, L, I, L, s_X10_desk_full (d := 5) hD.2.1 h0, s_X11_desk_full (d := 5) hD.2.2.1 h0, hI0⟩
  · exact ⟨_, I, L, I, L, s_X10_desk_bad (d := 5) hb, s_X11_desk_bad (d := 5) hb, hI0⟩
