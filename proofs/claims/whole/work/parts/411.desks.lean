/-! ===== desks and contracts of the class ===== -/
def zsum (f : Nat → Int32) : Nat → Int32
  | 0 => 0
  | n + 1 => zsum f n + f n
theorem zloop {P : Nat → Prop} (n : Nat) (hs : ∀ k, k < n → P (k + 1) → P k) (he : P n) : ∀ k, k ≤ n → P k := by
  intro k hk
  obtain ⟨j, rfl⟩ : ∃ j, n = k + j := ⟨n - k, by omega⟩
  clear hk
  induction j generalizing k with
  | zero => exact he
  | succ j ih => exact hs k (by omega) (ih (k + 1) (by rw [show k + 1 + j = k + (j + 1) by omega]; exact hs) (by rw [show k + 1 + j = k + (j + 1) by omega]; exact he))
theorem zin {k n : Nat} (h : k < n) (hn : n < 2 ^ 31) : az_in (nI k) n := by
  rw [az_in, nI_toInt (by omega)]; omega
section S
variable {d : Nat} {I : Nat → Nat → Int32} {L : Nat → Nat → Int64} {h : az_H}
def zss (I : Nat → Nat → Int32) (x m : Int32) (c : Nat) : Int32 := if I 53 c = m then (if I 51 c = x then I 54 c else if I 52 c = x then - I 54 c else 0) else 0
theorem s_X0_signedSize {x m : Int32} {k : Nat} (hk : k < 24) : zD (d + 1) 12 [.ref 49, .int (nI k), .int x, .int m] (130, az_Pf, I, L) (some (.int (zss I x m k))) (130, az_Pf, I, L) := by
  refine zD_of zm_X0_signedSize rfl ?_
  show az_W _ _ _ 0 [.ref 49, .int (nI k), .int x, .int m] [] _
  have hi := zin hk (by decide)
  have hc : (nI k).toNatClampNeg = k := nI_clamp (by omega)
  simp only [u_X0_signedSize_0, u_X0_signedSize_1, u_X0_signedSize_4, u_X0_signedSize_5, u_X0_signedSize_6, u_X0_signedSize_7, u_X0_signedSize_10, u_X0_signedSize_11, u_X0_signedSize_12, u_X0_signedSize_13, u_X0_signedSize_16, u_X0_signedSize_17, u_X0_signedSize_18, u_X0_signedSize_19, u_X0_signedSize_22, u_X0_signedSize_23, u_X0_signedSize_26, u_X0_signedSize_27, u_X0_signedSize_28, u_X0_signedSize_29, u_X0_signedSize_30, u_X0_signedSize_33, u_X0_signedSize_34, u_X0_signedSize_35, u_X0_signedSize_36, u_X0_signedSize_39, u_X0_signedSize_40, u_X0_signedSize_43, u_X0_signedSize_44, u_X0_signedSize_45, u_X0_signedSize_46, u_X0_signedSize_49, u_X0_signedSize_50, az_un_i, az_un_r, az_un_n, az_un_l, Option.toList_some, Option.toList_none, List.cons_append, List.nil_append, List.length_cons, List.length_nil, kn_51, kn_52, kn_53, kn_54, hi, hc, true_and]
  unfold zss
  (repeat' split) <;> simp_all
theorem s_X0_deskGain {x m : Int32} {n : Nat} (hn : I 49 7 = nI n) (hle : n ≤ 24) : zD (d + 2) 8 [.ref 49, .int x, .int m] (130, az_Pf, I, L) (some (.int (zsum (zss I x m) n))) (130, az_Pf, I, L) := by
  refine zD_of zm_X0_deskGain rfl ?_
  show az_W _ _ _ 0 [.ref 49, .int x, .int m, .null, .null] [] _
  simp only [u_X0_deskGain_0, u_X0_deskGain_1, u_X0_deskGain_2, u_X0_deskGain_3, u_X0_deskGain_7, u_X0_deskGain_8, u_X0_deskGain_11, u_X0_deskGain_14, u_X0_deskGain_15, u_X0_deskGain_16, u_X0_deskGain_18, u_X0_deskGain_19, u_X0_deskGain_20, u_X0_deskGain_23, u_X0_deskGain_24, u_X0_deskGain_25, u_X0_deskGain_28, u_X0_deskGain_31, u_X0_deskGain_32, az_un_i, az_un_r, az_un_n, az_un_l, Option.toList_some, Option.toList_none, List.cons_append, List.nil_append, List.length_cons, List.length_nil]
  refine zloop (P := fun k => az_W (zD (d + 1)) _ _ 5 [.ref 49, .int x, .int m, .int (zsum (zss I x m) k), .int (nI k)] [] _) n (fun k hk ih => ?_) ?_ 0 (Nat.zero_le _)
  · have h1 : ¬ nI n ≤ nI k := nI_ge hk (by omega)
    simp only [u_X0_deskGain_5]
    simp only [u_X0_deskGain_0, u_X0_deskGain_1, u_X0_deskGain_2, u_X0_deskGain_3, u_X0_deskGain_7, u_X0_deskGain_8, u_X0_deskGain_11, u_X0_deskGain_14, u_X0_deskGain_15, u_X0_deskGain_16, u_X0_deskGain_18, u_X0_deskGain_19, u_X0_deskGain_20, u_X0_deskGain_23, u_X0_deskGain_24, u_X0_deskGain_25, u_X0_deskGain_28, u_X0_deskGain_31, u_X0_deskGain_32, az_un_i, az_un_r, az_un_n, az_un_l, Option.toList_some, Option.toList_none, List.cons_append, List.nil_append, List.length_cons, List.length_nil, hn, h1, if_false, az_call (s_X0_signedSize (show k < 24 by omega))]
    exact ih
  · have h1 : nI n ≤ nI n := nI_le (Nat.le_refl _) (by omega)
    simp only [u_X0_deskGain_5]
    simp only [u_X0_deskGain_0, u_X0_deskGain_1, u_X0_deskGain_2, u_X0_deskGain_3, u_X0_deskGain_7, u_X0_deskGain_8, u_X0_deskGain_11, u_X0_deskGain_14, u_X0_deskGain_15, u_X0_deskGain_16, u_X0_deskGain_18, u_X0_deskGain_19, u_X0_deskGain_20, u_X0_deskGain_23, u_X0_deskGain_24, u_X0_deskGain_25, u_X0_deskGain_28, u_X0_deskGain_31, u_X0_deskGain_32, az_un_i, az_un_r, az_un_n, az_un_l, Option.toList_some, Option.toList_none, List.cons_append, List.nil_append, List.length_cons, List.length_nil, hn, h1, if_true]
    exact ⟨rfl, rfl⟩
end S
