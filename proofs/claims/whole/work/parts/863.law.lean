/-! ===== the law ===== -/
theorem lw_pick {M k : Nat} {xs : Nat → Int32} {R : az_R} {I : Nat → Nat → Int32} {L : Nat → Nat → Int64} (hk : 6 * k + 5 < M) (hM : M ≤ 3072) (hI : zInv I) (nx : ∀ I L, zInv I → az_W (zD 9) R (k_L_law M xs) 1714 [.ref 9003, .ref 0, .ref 97, .int (nI (6 * k))] [] (130, az_Pf, I, L)) (v : Int32) : az_W (zD 9) R (k_L_law M xs) 33 [.ref 9003, .ref 0, .ref 97, .int (nI (6 * k))] [.int v] (130, az_Pf, I, L) := by
  simp only [u_L_law_33, az_pick]
  by_cases g0 : v = 0
  · rw [if_pos g0]; exact lw_say hk hM hI nx
  rw [if_neg g0]
  by_cases g1 : v = 1
  · rw [if_pos g1]; exact lw_said hk hM hI nx
  rw [if_neg g1]
  by_cases g2 : v = 2
  · rw [if_pos g2]; exact lw_all hk hM hI nx
  rw [if_neg g2]
  by_cases g3 : v = 3
  · rw [if_pos g3]; exact lw_type hk hM hI nx
  rw [if_neg g3]
  by_cases g4 : v = 4
  · rw [if_pos g4]; exact lw_rules hk hM hI nx
  rw [if_neg g4]
  by_cases g5 : v = 5
  · rw [if_pos g5]; exact lw_rule hk hM hI nx
  rw [if_neg g5]
  by_cases g6 : v = 6
  · rw [if_pos g6]; exact lw_rate hk hM hI nx
  rw [if_neg g6]
  by_cases g7 : v = 7
  · rw [if_pos g7]; exact lw_thrown hk hM hI nx
  rw [if_neg g7]
  by_cases g8 : v = 8
  · rw [if_pos g8]; exact lw_reach hk hM hI nx
  rw [if_neg g8]
  by_cases g9 : v = 9
  · rw [if_pos g9]; exact lw_move hk hM hI nx
  rw [if_neg g9]
  by_cases g10 : v = 10
  · rw [if_pos g10]; exact lw_many hk hM hI nx
  rw [if_neg g10]
  by_cases g11 : v = 11
  · rw [if_pos g11]; exact lw_desk hk hM hI nx
  rw [if_neg g11]
  by_cases g12 : v = 12
  · rw [if_pos g12]; exact lw_contract hk hM hI nx
  rw [if_neg g12]
  by_cases g13 : v = 13
  · rw [if_pos g13]; exact lw_gain hk hM hI nx
  rw [if_neg g13]
  by_cases g14 : v = 14
  · rw [if_pos g14]; exact lw_paid hk hM hI nx
  rw [if_neg g14]
  by_cases g15 : v = 15
  · rw [if_pos g15]; exact lw_unlike hk hM hI nx
  rw [if_neg g15]
  by_cases g16 : v = 16
  · rw [if_pos g16]; exact lw_count hk hM hI nx
  rw [if_neg g16]
  by_cases g17 : v = 17
  · rw [if_pos g17]; exact lw_lent hk hM hI nx
  rw [if_neg g17]
  by_cases g18 : v = 18
  · rw [if_pos g18]; exact lw_truth hk hM hI nx
  rw [if_neg g18]
  by_cases g19 : v = 19
  · rw [if_pos g19]; exact lw_out hk hM hI nx
  rw [if_neg g19]
  by_cases g20 : v = 20
  · rw [if_pos g20]; exact lw_right hk hM hI nx
  rw [if_neg g20]
  by_cases g21 : v = 21
  · rw [if_pos g21]; exact lw_lost hk hM hI nx
  rw [if_neg g21]
  by_cases g22 : v = 22
  · rw [if_pos g22]; exact lw_lean hk hM hI nx
  rw [if_neg g22]
  by_cases g23 : v = 23
  · rw [if_pos g23]; exact lw_run hk hM hI nx
  rw [if_neg g23]
  by_cases g24 : v = 24
  · rw [if_pos g24]; exact lw_untrue hk hM hI nx
  rw [if_neg g24]
  by_cases g25 : v = 25
  · rw [if_pos g25]; exact lw_backed hk hM hI nx
  rw [if_neg g25]
  by_cases g26 : v = 26
  · rw [if_pos g26]; exact lw_word hk hM hI nx
  rw [if_neg g26]
  by_cases g27 : v = 27
  · rw [if_pos g27]; exact lw_wall hk hM hI nx
  rw [if_neg g27]
  by_cases g28 : v = 28
  · rw [if_pos g28]; exact lw_crossed hk hM hI nx
  rw [if_neg g28]
  by_cases g29 : v = 29
  · rw [if_pos g29]; exact lw_knew hk hM hI nx
  rw [if_neg g29]
  by_cases g30 : v = 30
  · rw [if_pos g30]; exact lw_way hk hM hI nx
  rw [if_neg g30]
  by_cases g31 : v = 31
  · rw [if_pos g31]; exact lw_owe hk hM hI nx
  rw [if_neg g31]
  by_cases g32 : v = 32
  · rw [if_pos g32]; exact lw_net hk hM hI nx
  rw [if_neg g32]
  by_cases g33 : v = 33
  · rw [if_pos g33]; exact lw_ringed hk hM hI nx
  rw [if_neg g33]
  by_cases g34 : v = 34
  · rw [if_pos g34]; exact lw_best hk hM hI nx
  rw [if_neg g34]
  by_cases g35 : v = 35
  · rw [if_pos g35]; exact lw_worst hk hM hI nx
  rw [if_neg g35]
  by_cases g36 : v = 36
  · rw [if_pos g36]; exact lw_sheet hk hM hI nx
  rw [if_neg g36]
  by_cases g37 : v = 37
  · rw [if_pos g37]; exact lw_drop hk hM hI nx
  rw [if_neg g37]
  by_cases g38 : v = 38
  · rw [if_pos g38]; exact lw_item hk hM hI nx
  rw [if_neg g38]
  exact nx I L hI
theorem lw_whole {M : Nat} {xs : Nat → Int32} (hM : M ≤ 3072) : az_W (zD 9) (fun r h => r = some (.int 1) ∧ h.1 = 130) (k_L_law M xs) 0 [.ref 9003, .null, .null, .null] [] (0, fun _ _ => none, fun _ _ => 0, fun _ _ => 0) := by
  obtain ⟨L1, c1⟩ := s_X10_init (d := 6) (I := fun _ _ => 0) (L := fun _ _ => 0) (fun _ _ => rfl)
  have c2 := s_X11_init (d := 8) (I := zI8 (zI4 (fun _ _ => 0))) (L := L1)
  rw [show zIm (zI8 (zI4 (fun _ _ => 0))) = zI0 from rfl] at c2
  simp only [u_L_law_0, u_L_law_3, u_L_law_3r, u_L_law_4, u_L_law_7, u_L_law_8, u_L_law_11, u_L_law_11r, u_L_law_12, u_L_law_15, u_L_law_16, u_L_law_17, az_un_i, az_un_r, az_un_n, az_un_l, Option.toList_some, Option.toList_none, List.cons_append, List.nil_append, List.length_cons, List.length_nil, Nat.reduceLeDiff, Nat.reduceAdd, Nat.zero_le, Nat.zero_add, and_true, true_and, zb_1, eq_self, az_call c1, az_call c2]
  refine zloop (P := fun k => ∀ I L, zInv I → az_W (zD 9) _ (k_L_law M xs) 18 [.ref 9003, .ref 0, .ref 97, .int (nI (6 * k))] [] (130, az_Pf, I, L)) (M / 6) (fun k hk ih I L hI => ?_) (fun I L hI => ?_) 0 (Nat.zero_le _) zI0 L1 zInv_0
  · have hk5 : 6 * k + 5 < M := by omega
    have h1 : ¬ (Int32.ofNat M - 6 : Int32) < nI (6 * k) := by
      show ¬ nI M - nI 6 < nI (6 * k)
      rw [pk_sub (by omega)]; exact nI_nlt (by omega) (by omega)
    simp only [u_L_law_18]
    simp only [u_L_law_19, u_L_law_20, u_L_law_21, u_L_law_23, u_L_law_24, u_L_law_27, u_L_law_28, u_L_law_29, u_L_law_30, u_L_law_32, az_un_i, az_un_r, az_un_n, az_un_l, Option.toList_some, Option.toList_none, List.cons_append, List.nil_append, List.length_cons, List.length_nil, Nat.reduceLeDiff, Nat.reduceAdd, Nat.zero_le, Nat.zero_add, and_true, true_and, zb_1, eq_self, h1, if_false, zinT (show 6 * k < M by omega) (by omega), zcl (show 6 * k < M by omega) (by omega)]
    refine lw_pick hk5 hM hI (fun I L hI => ?_) _
    simp only [u_L_law_1714, u_L_law_1717, az_un_i, az_un_r, az_un_n, az_un_l, Option.toList_some, Option.toList_none, List.cons_append, List.nil_append, List.length_cons, List.length_nil, Nat.reduceLeDiff, Nat.reduceAdd, Nat.zero_le, Nat.zero_add, and_true, true_and, zb_1, eq_self]
    rw [show nI (6 * k) + 6 = nI (6 * (k + 1)) from by rw [show (6 : Int32) = nI 6 from rfl, nI_add]; congr 1]
    exact ih I L hI
  · have h1 : (Int32.ofNat M - 6 : Int32) < nI (6 * (M / 6)) := by
      show nI M - nI 6 < nI (6 * (M / 6))
      rw [Int32.lt_iff_toInt_lt, pk_sub_toInt (by omega) (by omega), nI_toInt (by omega)]; omega
    simp only [u_L_law_18]
    simp only [u_L_law_19, u_L_law_20, u_L_law_21, u_L_law_23, u_L_law_24, u_L_law_1720, u_L_law_1721, az_un_i, az_un_r, az_un_n, az_un_l, Option.toList_some, Option.toList_none, List.cons_append, List.nil_append, List.length_cons, List.length_nil, Nat.reduceLeDiff, Nat.reduceAdd, Nat.zero_le, Nat.zero_add, and_true, true_and, zb_1, eq_self, h1, if_true, or_true]
