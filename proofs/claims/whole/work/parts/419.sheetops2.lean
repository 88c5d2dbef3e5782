/-! ===== sheet, drop, item, all: both sides ===== -/
theorem zup_row {I J : Nat → Nat → Int32} {a s : Nat} {v : Int32} (h : ∀ j, J a j = if j = s then v else I a j) : J a = zup (I a) s v := funext h
theorem op_sheet (x y v : Int32) : zOp 126 205 [.int x, .int y, .int v] := by
  intro I L hI
  have hI0 := hI
  obtain ⟨hP, hC, hS, ⟨t, e, hB⟩, ⟨nl, hL⟩, ⟨nr, hR⟩, n, c, w, hD, hW, hX, hF⟩ := hI
  by_cases hb : ((0 ≤ x.toInt ∧ x.toInt ≤ 3) ∧ (0 ≤ y.toInt ∧ y.toInt ≤ 2)) ∧ v.toInt ≤ 16
  · by_cases hv : 0 ≤ v.toInt
    · obtain ⟨⟨h1, h2⟩, h3⟩ := hb
      obtain ⟨s, hs, rfl⟩ := znat h1.1 (n := 3) h1.2 (by decide)
      obtain ⟨l, hl, rfl⟩ := znat h2.1 (n := 2) h2.2 (by decide)
      obtain ⟨q, hq, rfl⟩ := znat hv (n := 16) h3 (by decide)
      obtain ⟨J, hJ⟩ : ∃ J, J = zseg (az_uI (az_uI (zseg (az_uI (az_uI I 87 s (nI l)) 88 s (nI q)) (90 + s) 0 (fun _ => 0) 16) 127 s (nI l)) 128 s (nI q)) 129 (16 * s) (fun _ => 0) 16 := ⟨_, rfl⟩
      have ff : ∀ b j, ¬ (b = 87 ∨ b = 88 ∨ b = 90 + s ∨ b = 127 ∨ b = 128 ∨ b = 129) → J b j = I b j := fun b j hz => by
        rw [hJ]; simp only [zseg_at, az_uI_at, true_and]
        rw [if_neg (by omega), if_neg (by omega), if_neg (by omega), if_neg (by omega), if_neg (by omega), if_neg (by omega)]
      have e87 : J 87 = zup (I 87) s (nI l) := funext fun k => by rw [hJ]; simp only [zseg_at, az_uI_at, zup, true_and]; rw [if_neg (by omega), if_neg (by omega), if_neg (by omega), if_neg (by omega), if_neg (by omega)]
      have e88 : J 88 = zup (I 88) s (nI q) := funext fun k => by rw [hJ]; simp only [zseg_at, az_uI_at, zup, true_and]; rw [if_neg (by omega), if_neg (by omega), if_neg (by omega), if_neg (by omega)]; simp
      have e127 : J 127 = zup (I 127) s (nI l) := funext fun k => by
        rw [hJ]; simp only [zseg_at, az_uI_at, zup, true_and]
        rw [if_neg (by omega), if_neg (by omega)]
        by_cases z : k = s
        · rw [if_pos (by omega), if_pos z]
        · rw [if_neg (by omega), if_neg (by omega), if_neg (by omega), if_neg (by omega), if_neg z]
      have e128 : J 128 = zup (I 128) s (nI q) := funext fun k => by
        rw [hJ]; simp only [zseg_at, az_uI_at, zup, true_and]
        rw [if_neg (by omega)]
        by_cases z : k = s
        · rw [if_pos (by omega), if_pos z]
        · rw [if_neg (by omega), if_neg (by omega), if_neg (by omega), if_neg (by omega), if_neg (by omega), if_neg z]
      have ei : ∀ s', s' < 4 → ∀ i, i < 16 → J (90 + s') i = if s' = s then 0 else I (90 + s') i := fun s' hs' i hi => by
        rw [hJ]; simp only [zseg_at, az_uI_at, true_and]
        rw [if_neg (by omega), if_neg (by omega), if_neg (by omega)]
        by_cases z : s' = s
        · rw [if_pos (by omega), if_pos z]
        · rw [if_neg (by omega), if_neg z, if_neg (by omega), if_neg (by omega)]
      have em : ∀ s', s' < 4 → ∀ i, i < 16 → J 129 (16 * s' + i) = if s' = s then 0 else I 129 (16 * s' + i) := fun s' hs' i hi => by
        rw [hJ]; simp only [zseg_at, az_uI_at, true_and]
        by_cases z : s' = s
        · rw [if_pos (by omega), if_pos z]
        · rw [if_neg (by omega), if_neg z, if_neg (by omega), if_neg (by omega), if_neg (by omega), if_neg (by omega), if_neg (by omega)]
      refine ⟨_, _, L, J, L, s_X10_sheet (d := 6) (by omega) h2 h3 hv, ?_, ?_⟩
      · rw [hJ]; exact s_X11_sheet (d := 6) (by omega) h2 h3 hv
      · have hSn : zvS J := by
          refine ⟨by rw [e87, e127, hS.1], by rw [e88, e128, hS.2.1], fun s' hs' => ?_⟩
          obtain ⟨k1, k2, k3⟩ := hS.2.2 s' hs'
          rw [e87, e88]
          refine ⟨?_, ?_, fun i hi => ?_⟩
          · by_cases z : s' = s
            · right; rw [z, zup_s]; exact ⟨l, by omega, rfl⟩
            · rw [zup_n z]; exact k1
          · by_cases z : s' = s
            · rw [z, zup_s]; exact ⟨q, hq, rfl⟩
            · rw [zup_n z]; exact k2
          · rw [ei s' hs' i hi, em s' hs' i hi, k3 i hi]
        exact ⟨(hP.fr (fun m hm => funext fun j => ff _ j (by omega)) (funext fun j => ff _ j (by omega))), (hC.fr (funext fun j => ff _ j (by omega)) (funext fun j => ff _ j (by omega)) (funext fun j => ff _ j (by omega))), (hSn), ⟨t, e, (hB.fr (ff _ _ (by omega)) (ff _ _ (by omega)) (ff _ _ (by omega)) (ff _ _ (by omega)) (funext fun j => ff _ j (by omega)) (funext fun j => ff _ j (by omega)) (funext fun j => ff _ j (by omega)) (funext fun j => ff _ j (by omega)) (funext fun j => ff _ j (by omega)) (fun k hk => funext fun j => ff _ j (by omega)))⟩, ⟨nl, (hL.fr (ff _ _ (by omega)) (ff _ _ (by omega)) (fun k h1 h2 => funext fun j => ff _ j (by omega)) (fun k h1 h2 => funext fun j => ff _ j (by omega)))⟩, ⟨nr, (hR.fr (ff _ _ (by omega)) (ff _ _ (by omega)) (funext fun j => ff _ j (by omega)) (funext fun j => ff _ j (by omega)) (funext fun j => ff _ j (by omega)) (funext fun j => ff _ j (by omega)))⟩, n, c, w, (hD.fr (ff _ _ (by omega)) (ff _ _ (by omega)) (ff _ _ (by omega)) (ff _ _ (by omega)) (fun k h1 h2 => funext fun j => ff _ j (by omega)) (fun k h1 h2 => funext fun j => ff _ j (by omega))), (hW.fr (ff _ _ (by omega)) (ff _ _ (by omega)) (fun k h1 h2 => funext fun j => ff _ j (by omega)) (fun k h1 h2 => funext fun j => ff _ j (by omega))), (hX.fr (funext fun j => ff _ j (by omega)) (funext fun j => ff _ j (by omega))), (hF.fr (fun a ha => funext fun j => ff _ j (by omega)) (funext fun j => ff _ j (by omega)))⟩
    · exact ⟨_, I, L, I, L, s_X10_sheet_neg (d := 6) hb.1 hb.2 hv, s_X11_sheet_neg (d := 6) hb.1 hb.2 hv, hI0⟩
  · exact ⟨_, I, L, I, L, s_X10_sheet_bad (d := 6) hb, s_X11_sheet_bad (d := 6) hb, hI0⟩
theorem op_drop (x : Int32) : zOp 127 206 [.int x] := by
  intro I L hI
  have hI0 := hI
  obtain ⟨hP, hC, hS, ⟨t, e, hB⟩, ⟨nl, hL⟩, ⟨nr, hR⟩, n, c, w, hD, hW, hX, hF⟩ := hI
  by_cases hb : 0 ≤ x.toInt ∧ x.toInt ≤ 3
  · obtain ⟨s, hs, rfl⟩ := znat hb.1 (n := 3) hb.2 (by decide)
    by_cases hl : I 87 s = -1
    · exact ⟨_, I, L, I, L, s_X10_drop_no (d := 6) (by omega) hl, s_X11_drop_no (d := 6) (by omega) (hS.1 ▸ hl), hI0⟩
    · obtain ⟨J, hJ⟩ : ∃ J, J = az_uI (az_uI I 87 s (-1)) 127 s (-1) := ⟨_, rfl⟩
      have ff : ∀ b j, ¬ (b = 87 ∨ b = 127) → J b j = I b j := fun b j hz => by
        rw [hJ]; simp only [az_uI_at]; rw [if_neg (by omega), if_neg (by omega)]
      have e87 : J 87 = zup (I 87) s (-1) := funext fun k => by rw [hJ]; simp [az_uI_at, zup]
      have e127 : J 127 = zup (I 127) s (-1) := funext fun k => by rw [hJ]; simp [az_uI_at, zup]
      have r88 : J 88 = I 88 := funext fun j => ff _ j (by omega)
      have r128 : J 128 = I 128 := funext fun j => ff _ j (by omega)
      have h0 : 0 ≤ I 127 s := by
        rw [← hS.1]
        rcases (hS.2.2 s (by omega)).1 with q | ⟨k, hk, q⟩
        · exact absurd q hl
        · rw [q]; exact nI_pos' (by omega)
      refine ⟨I 88 s, az_uI I 87 s (-1), L, J, L, s_X10_drop (d := 6) (by omega) hl, ?_, ?_⟩
      · have := s_X11_drop (d := 6) (I := az_uI I 87 s (-1)) (L := L) (s := s) (by omega) (by rw [zu_ne (by omega)]; exact h0)
        rw [zu_ne (show 128 ≠ 87 by omega), ← hS.2.1] at this
        rw [hJ]; exact this
      · have hSn : zvS J := by
          refine ⟨by rw [e87, e127, hS.1], by rw [r88, r128, hS.2.1], fun s' hs' => ?_⟩
          obtain ⟨k1, k2, k3⟩ := hS.2.2 s' hs'
          rw [e87, r88]
          refine ⟨?_, k2, fun i hi => ?_⟩
          · by_cases z : s' = s
            · left; rw [z, zup_s]
            · rw [zup_n z]; exact k1
          · rw [ff _ _ (by omega), ff _ _ (by omega)]; exact k3 i hi
        exact ⟨(hP.fr (fun m hm => funext fun j => ff _ j (by omega)) (funext fun j => ff _ j (by omega))), (hC.fr (funext fun j => ff _ j (by omega)) (funext fun j => ff _ j (by omega)) (funext fun j => ff _ j (by omega))), (hSn), ⟨t, e, (hB.fr (ff _ _ (by omega)) (ff _ _ (by omega)) (ff _ _ (by omega)) (ff _ _ (by omega)) (funext fun j => ff _ j (by omega)) (funext fun j => ff _ j (by omega)) (funext fun j => ff _ j (by omega)) (funext fun j => ff _ j (by omega)) (funext fun j => ff _ j (by omega)) (fun k hk => funext fun j => ff _ j (by omega)))⟩, ⟨nl, (hL.fr (ff _ _ (by omega)) (ff _ _ (by omega)) (fun k h1 h2 => funext fun j => ff _ j (by omega)) (fun k h1 h2 => funext fun j => ff _ j (by omega)))⟩, ⟨nr, (hR.fr (ff _ _ (by omega)) (ff _ _ (by omega)) (funext fun j => ff _ j (by omega)) (funext fun j => ff _ j (by omega)) (funext fun j => ff _ j (by omega)) (funext fun j => ff _ j (by omega)))⟩, n, c, w, (hD.fr (ff _ _ (by omega)) (ff _ _ (by omega)) (ff _ _ (by omega)) (ff _ _ (by omega)) (fun k h1 h2 => funext fun j => ff _ j (by omega)) (fun k h1 h2 => funext fun j => ff _ j (by omega))), (hW.fr (ff _ _ (by omega)) (ff _ _ (by omega)) (fun k h1 h2 => funext fun j => ff _ j (by omega)) (fun k h1 h2 => funext fun j => ff _ j (by omega))), (hX.fr (funext fun j => ff _ j (by omega)) (funext fun j => ff _ j (by omega))), (hF.fr (fun a ha => funext fun j => ff _ j (by omega)) (funext fun j => ff _ j (by omega)))⟩
  · exact ⟨_, I, L, I, L, s_X10_drop_bad (d := 6) hb, s_X11_drop_bad (d := 6) hb, hI0⟩
theorem op_item (x y f v : Int32) : zOp 128 208 [.int x, .int y, .int f, .int v] := by
  intro I L hI
  have hI0 := hI
  obtain ⟨hP, hC, hS, ⟨t, e, hB⟩, ⟨nl, hL⟩, ⟨nr, hR⟩, n, c, w, hD, hW, hX, hF⟩ := hI
  by_cases hb : (0 ≤ x.toInt ∧ x.toInt ≤ 3) ∧ (0 ≤ y.toInt ∧ y.toInt ≤ 2)
  · obtain ⟨h1, h2⟩ := hb
    obtain ⟨s, hs, rfl⟩ := znat h1.1 (n := 3) h1.2 (by decide)
    obtain ⟨l, hl, rfl⟩ := znat h2.1 (n := 2) h2.2 (by decide)
    obtain ⟨k1, ⟨z, hz, k2⟩, k3⟩ := hS.2.2 s (by omega)
    rcases zrf_c I s l f 1 with h0 | ⟨h0, h3⟩
    · obtain ⟨g1, g2, g3⟩ := zrf_0 h0
      rw [k2, show (nI z - 1).toInt = (z : Int) - 1 from pk_sub_toInt (b := 1) (by omega) (by decide)] at g3
      obtain ⟨i, hi, rfl⟩ := znatlt (n := 16) g2 (by omega) (by decide)
      obtain ⟨J, hJ⟩ : ∃ J, J = az_uI (az_uI I (90 + s) i (znar l v)) 129 (16 * s + i) (znar l v) := ⟨_, rfl⟩
      have ff : ∀ b j, ¬ (b = 90 + s ∨ b = 129) → J b j = I b j := fun b j hz => by
        rw [hJ]; simp only [az_uI_at]; rw [if_neg (by omega), if_neg (by omega)]
      refine ⟨1, az_uI I (90 + s) i (znar l v), L, J, L, s_X10_item (d := 5) (by omega) (by omega) hi h0, ?_, ?_⟩
      · rw [hJ]
        refine s_X11_item (d := 5) (by omega) (by omega) hi ?_
        have := s_X11_lacks (d := 6) (I := az_uI I (90 + s) i (znar l v)) (L := L) (s := s) (l := l) (f := nI i) (c := 1) (by omega) (by omega) (by rw [zu_ne (by omega), zu_ne (by omega), hS.1]) (by rw [zu_ne (by omega), zu_ne (by omega), hS.2.1]) (by rw [zu_ne (by omega)]; exact k1)
        rw [zrf_fr (I := I) (zu_ne (by omega)) (zu_ne (by omega)), h0] at this
        exact this
      · have hSn : zvS J := by
          refine ⟨?_, ?_, fun s' hs' => ?_⟩
          · rw [show J 87 = I 87 from funext fun j => ff _ j (by omega), show J 127 = I 127 from funext fun j => ff _ j (by omega)]; exact hS.1
          · rw [show J 88 = I 88 from funext fun j => ff _ j (by omega), show J 128 = I 128 from funext fun j => ff _ j (by omega)]; exact hS.2.1
          · obtain ⟨q1, q2, q3⟩ := hS.2.2 s' hs'
            rw [ff 87 _ (by omega), ff 88 _ (by omega)]
            refine ⟨q1, q2, fun i' hi' => ?_⟩
            rw [hJ, zu_ne (show 90 + s' ≠ 129 by omega), az_uI_at, az_uI_at, zu_ne (show 129 ≠ 90 + s by omega)]
            by_cases zz : s' = s ∧ i' = i
            · rw [if_pos (by omega), if_pos (by omega)]
            · rw [if_neg (by omega), if_neg (by omega)]; exact q3 i' hi'
        exact ⟨(hP.fr (fun m hm => funext fun j => ff _ j (by omega)) (funext fun j => ff _ j (by omega))), (hC.fr (funext fun j => ff _ j (by omega)) (funext fun j => ff _ j (by omega)) (funext fun j => ff _ j (by omega))), (hSn), ⟨t, e, (hB.fr (ff _ _ (by omega)) (ff _ _ (by omega)) (ff _ _ (by omega)) (ff _ _ (by omega)) (funext fun j => ff _ j (by omega)) (funext fun j => ff _ j (by omega)) (funext fun j => ff _ j (by omega)) (funext fun j => ff _ j (by omega)) (funext fun j => ff _ j (by omega)) (fun k hk => funext fun j => ff _ j (by omega)))⟩, ⟨nl, (hL.fr (ff _ _ (by omega)) (ff _ _ (by omega)) (fun k h1 h2 => funext fun j => ff _ j (by omega)) (fun k h1 h2 => funext fun j => ff _ j (by omega)))⟩, ⟨nr, (hR.fr (ff _ _ (by omega)) (ff _ _ (by omega)) (funext fun j => ff _ j (by omega)) (funext fun j => ff _ j (by omega)) (funext fun j => ff _ j (by omega)) (funext fun j => ff _ j (by omega)))⟩, n, c, w, (hD.fr (ff _ _ (by omega)) (ff _ _ (by omega)) (ff _ _ (by omega)) (ff _ _ (by omega)) (fun k h1 h2 => funext fun j => ff _ j (by omega)) (fun k h1 h2 => funext fun j => ff _ j (by omega))), (hW.fr (ff _ _ (by omega)) (ff _ _ (by omega)) (fun k h1 h2 => funext fun j => ff _ j (by omega)) (fun k h1 h2 => funext fun j => ff _ j (by omega))), (hX.fr (funext fun j => ff _ j (by omega)) (funext fun j => ff _ j (by omega))), (hF.fr (fun a ha => funext fun j => ff _ j (by omega)) (funext fun j => ff _ j (by omega)))⟩
    · refine ⟨zrf I s l f 1, I, L, I, L, s_X10_item_no (d := 5) (s_X8_refusal (by omega) (by omega)) h0, s_X11_item_no (d := 5) (by omega) (by omega) (s_X11_lacks (by omega) (by omega) (by rw [hS.1]) (by rw [hS.2.1]) k1) ?_, hI0⟩
      rw [Int32.le_iff_toInt_le]; rw [Int32.lt_iff_toInt_lt] at h3; simp at h3 ⊢; exact h3
  · exact ⟨_, I, L, I, L, s_X10_item_no (d := 5) (s_X8_refusal_bad (d := 6) hb) (by decide), s_X11_item_bad (d := 5) hb, hI0⟩
