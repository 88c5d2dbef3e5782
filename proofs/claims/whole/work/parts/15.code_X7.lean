section
variable {C : az_C} {R : az_R} {ls st : List Value} {h : az_H} {n : Nat} {P : Nat → Nat → Option Nat} {I : Nat → Nat → Int32} {L : Nat → Nat → Int64}
variable {v0 v1 v2 v3 v4 v5 v6 v7 v8 v9 v10 v11 v12 : Value} {x y z : Int32} {p q : Int64} {a b : Nat} {M : Nat} {xs : Nat → Int32}
def k_X7_init : Nat → az_P := (az_br 13 (az_br 5 (az_br 1 (az_lf 0 (az_aload 0 1)) (az_br 4 (az_lf 1 (az_oin 4)) (az_lf 4 (az_aload 0 5)))) (az_br 9 (az_br 7 (az_lf 5 (az_const (.int 20) 7)) (az_lf 7 (az_newa 1 9))) (az_br 12 (az_lf 9 (az_putP 7 0 12)) (az_lf 12 (az_aload 0 13))))) (az_br 20 (az_br 15 (az_lf 13 (az_const (.int 20) 15)) (az_br 17 (az_lf 15 (az_newa 1 17)) (az_lf 17 (az_putP 7 1 20)))) (az_br 22 (az_br 21 (az_lf 20 (az_aload 0 21)) (az_lf 21 (az_const (.int 0) 22))) (az_br 25 (az_lf 22 (az_putI 7 2 25)) (az_lf 25 (az_ret))))))
theorem u_X7_init_0 : az_W C R k_X7_init 0 (.ref a :: ls) st h ↔ az_W C R k_X7_init 1 (.ref a :: ls) (.ref a :: st) h := ap_aload rfl rfl
theorem u_X7_init_1 (hl : st.length ≤ 4) : az_W C R k_X7_init 1 ls (.ref a :: st) h ↔ az_W C R k_X7_init 4 ls st h := ap_oin rfl hl
theorem u_X7_init_4 : az_W C R k_X7_init 4 (.ref a :: ls) st h ↔ az_W C R k_X7_init 5 (.ref a :: ls) (.ref a :: st) h := ap_aload rfl rfl
theorem u_X7_init_5 : az_W C R k_X7_init 5 ls st h ↔ az_W C R k_X7_init 7 ls (.int 20 :: st) h := ap_const rfl
theorem u_X7_init_7 : az_W C R k_X7_init 7 ls (.int 20 :: st) (61, P, I, L) ↔ az_W C R k_X7_init 9 ls (.ref 61 :: st) (62, P, I, L) := ap_newa rfl (by decide +kernel)
theorem u_X7_init_9 (hk : az_kn n a = (0, 7)) : az_W C R k_X7_init 9 ls (.ref b :: .ref a :: st) (n, P, I, L) ↔ az_W C R k_X7_init 12 ls st (n, az_uP P a 0 (some b), I, L) := ap_putP rfl hk
theorem u_X7_init_12 : az_W C R k_X7_init 12 (.ref a :: ls) st h ↔ az_W C R k_X7_init 13 (.ref a :: ls) (.ref a :: st) h := ap_aload rfl rfl
theorem u_X7_init_13 : az_W C R k_X7_init 13 ls st h ↔ az_W C R k_X7_init 15 ls (.int 20 :: st) h := ap_const rfl
theorem u_X7_init_15 : az_W C R k_X7_init 15 ls (.int 20 :: st) (62, P, I, L) ↔ az_W C R k_X7_init 17 ls (.ref 62 :: st) (63, P, I, L) := ap_newa rfl (by decide +kernel)
theorem u_X7_init_17 (hk : az_kn n a = (0, 7)) : az_W C R k_X7_init 17 ls (.ref b :: .ref a :: st) (n, P, I, L) ↔ az_W C R k_X7_init 20 ls st (n, az_uP P a 1 (some b), I, L) := ap_putP rfl hk
theorem u_X7_init_20 : az_W C R k_X7_init 20 (.ref a :: ls) st h ↔ az_W C R k_X7_init 21 (.ref a :: ls) (.ref a :: st) h := ap_aload rfl rfl
theorem u_X7_init_21 : az_W C R k_X7_init 21 ls st h ↔ az_W C R k_X7_init 22 ls (.int 0 :: st) h := ap_const rfl
theorem u_X7_init_22 (hk : az_kn n a = (0, 7)) : az_W C R k_X7_init 22 ls (.int x :: .ref a :: st) (n, P, I, L) ↔ az_W C R k_X7_init 25 ls st (n, P, az_uI I a 2 x, L) := ap_putI rfl hk
theorem u_X7_init_25 : az_W C R k_X7_init 25 ls [] h ↔ R none h := ap_ret rfl
def k_X7_runCount : Nat → az_P := (az_br 1 (az_lf 0 (az_aload 0 1)) (az_br 4 (az_lf 1 (az_getI 7 2 4)) (az_lf 4 (az_iret))))
theorem u_X7_runCount_0 : az_W C R k_X7_runCount 0 (.ref a :: ls) st h ↔ az_W C R k_X7_runCount 1 (.ref a :: ls) (.ref a :: st) h := ap_aload rfl rfl
theorem u_X7_runCount_1 : az_W C R k_X7_runCount 1 ls (.ref 60 :: st) (130, P, I, L) ↔ az_W C R k_X7_runCount 4 ls (.int (I 60 2) :: st) (130, P, I, L) := ap_getI rfl kn_60
theorem u_X7_runCount_4 : az_W C R k_X7_runCount 4 ls [.int x] h ↔ R (some (.int x)) h := ap_iret rfl
def k_X7_has : Nat → az_P := (az_br 9 (az_br 4 (az_br 1 (az_lf 0 (az_iload 1 1)) (az_lf 1 (az_iflt 16 4))) (az_br 5 (az_lf 4 (az_iload 1 5)) (az_br 6 (az_lf 5 (az_aload 0 6)) (az_lf 6 (az_getI 7 2 9))))) (az_br 13 (az_br 12 (az_lf 9 (az_icge 16 12)) (az_lf 12 (az_const (.int 1) 13))) (az_br 16 (az_lf 13 (az_goto 17)) (az_br 17 (az_lf 16 (az_const (.int 0) 17)) (az_lf 17 (az_zret))))))
theorem u_X7_has_0 : az_W C R k_X7_has 0 (v0 :: .int x :: ls) st h ↔ az_W C R k_X7_has 1 (v0 :: .int x :: ls) (.int x :: st) h := ap_iload rfl rfl
theorem u_X7_has_1 : az_W C R k_X7_has 1 ls (.int x :: st) h ↔ if x < 0 then az_W C R k_X7_has 16 ls st h else az_W C R k_X7_has 4 ls st h := ap_iflt rfl
theorem u_X7_has_4 : az_W C R k_X7_has 4 (v0 :: .int x :: ls) st h ↔ az_W C R k_X7_has 5 (v0 :: .int x :: ls) (.int x :: st) h := ap_iload rfl rfl
theorem u_X7_has_5 : az_W C R k_X7_has 5 (.ref a :: ls) st h ↔ az_W C R k_X7_has 6 (.ref a :: ls) (.ref a :: st) h := ap_aload rfl rfl
theorem u_X7_has_6 : az_W C R k_X7_has 6 ls (.ref 60 :: st) (130, P, I, L) ↔ az_W C R k_X7_has 9 ls (.int (I 60 2) :: st) (130, P, I, L) := ap_getI rfl kn_60
theorem u_X7_has_9 : az_W C R k_X7_has 9 ls (.int y :: .int x :: st) h ↔ if y ≤ x then az_W C R k_X7_has 16 ls st h else az_W C R k_X7_has 12 ls st h := ap_icge rfl
theorem u_X7_has_12 : az_W C R k_X7_has 12 ls st h ↔ az_W C R k_X7_has 13 ls (.int 1 :: st) h := ap_const rfl
theorem u_X7_has_13 : az_W C R k_X7_has 13 ls st h ↔ az_W C R k_X7_has 17 ls st h := ap_goto rfl
theorem u_X7_has_16 : az_W C R k_X7_has 16 ls st h ↔ az_W C R k_X7_has 17 ls (.int 0 :: st) h := ap_const rfl
theorem u_X7_has_17 : az_W C R k_X7_has 17 ls [.int x] h ↔ ((x = 0 ∨ x = 1) ∧ R (some (.int x)) h) := ap_zret rfl
def k_X7_morningOf : Nat → az_P := (az_br 4 (az_br 1 (az_lf 0 (az_aload 0 1)) (az_lf 1 (az_getP 7 0 4))) (az_br 5 (az_lf 4 (az_iload 1 5)) (az_br 6 (az_lf 5 (az_iald 6)) (az_lf 6 (az_iret)))))
theorem u_X7_morningOf_0 : az_W C R k_X7_morningOf 0 (.ref a :: ls) st h ↔ az_W C R k_X7_morningOf 1 (.ref a :: ls) (.ref a :: st) h := ap_aload rfl rfl
theorem u_X7_morningOf_1 : az_W C R k_X7_morningOf 1 ls (.ref 60 :: st) (130, az_Pf, I, L) ↔ az_W C R k_X7_morningOf 4 ls (.ref 61 :: st) (130, az_Pf, I, L) := ap_getP rfl kn_60 pf_60_0
theorem u_X7_morningOf_4 : az_W C R k_X7_morningOf 4 (v0 :: .int x :: ls) st h ↔ az_W C R k_X7_morningOf 5 (v0 :: .int x :: ls) (.int x :: st) h := ap_iload rfl rfl
theorem u_X7_morningOf_5 (hk : (az_kn 130 a).1 = 1) : az_W C R k_X7_morningOf 5 ls (.int x :: .ref a :: st) (130, P, I, L) ↔ (az_in x (az_kn 130 a).2 ∧ az_W C R k_X7_morningOf 6 ls (.int (I a x.toNatClampNeg) :: st) (130, P, I, L)) := ap_iald rfl (az_k1 hk)
theorem u_X7_morningOf_6 : az_W C R k_X7_morningOf 6 ls [.int x] h ↔ R (some (.int x)) h := ap_iret rfl
def k_X7_priceOf : Nat → az_P := (az_br 4 (az_br 1 (az_lf 0 (az_aload 0 1)) (az_lf 1 (az_getP 7 1 4))) (az_br 5 (az_lf 4 (az_iload 1 5)) (az_br 6 (az_lf 5 (az_iald 6)) (az_lf 6 (az_iret)))))
theorem u_X7_priceOf_0 : az_W C R k_X7_priceOf 0 (.ref a :: ls) st h ↔ az_W C R k_X7_priceOf 1 (.ref a :: ls) (.ref a :: st) h := ap_aload rfl rfl
theorem u_X7_priceOf_1 : az_W C R k_X7_priceOf 1 ls (.ref 60 :: st) (130, az_Pf, I, L) ↔ az_W C R k_X7_priceOf 4 ls (.ref 62 :: st) (130, az_Pf, I, L) := ap_getP rfl kn_60 pf_60_1
theorem u_X7_priceOf_4 : az_W C R k_X7_priceOf 4 (v0 :: .int x :: ls) st h ↔ az_W C R k_X7_priceOf 5 (v0 :: .int x :: ls) (.int x :: st) h := ap_iload rfl rfl
theorem u_X7_priceOf_5 (hk : (az_kn 130 a).1 = 1) : az_W C R k_X7_priceOf 5 ls (.int x :: .ref a :: st) (130, P, I, L) ↔ (az_in x (az_kn 130 a).2 ∧ az_W C R k_X7_priceOf 6 ls (.int (I a x.toNatClampNeg) :: st) (130, P, I, L)) := ap_iald rfl (az_k1 hk)
theorem u_X7_priceOf_6 : az_W C R k_X7_priceOf 6 ls [.int x] h ↔ R (some (.int x)) h := ap_iret rfl
def k_X7_give : Nat → az_P := (az_br 26 (az_br 13 (az_br 6 (az_br 1 (az_lf 0 (az_aload 0 1)) (az_br 4 (az_lf 1 (az_getI 7 2 4)) (az_lf 4 (az_const (.int 20) 6)))) (az_br 11 (az_br 9 (az_lf 6 (az_iclt 12 9)) (az_lf 9 (az_const (.int (-3)) 11))) (az_br 12 (az_lf 11 (az_iret)) (az_lf 12 (az_aload 0 13))))) (az_br 20 (az_br 16 (az_lf 13 (az_getP 7 0 16)) (az_br 17 (az_lf 16 (az_aload 0 17)) (az_lf 17 (az_getI 7 2 20)))) (az_br 22 (az_br 21 (az_lf 20 (az_iload 1 21)) (az_lf 21 (az_iast 22))) (az_br 23 (az_lf 22 (az_aload 0 23)) (az_lf 23 (az_getP 7 1 26)))))) (az_br 37 (az_br 31 (az_br 27 (az_lf 26 (az_aload 0 27)) (az_br 30 (az_lf 27 (az_getI 7 2 30)) (az_lf 30 (az_iload 2 31)))) (az_br 33 (az_br 32 (az_lf 31 (az_iast 32)) (az_lf 32 (az_aload 0 33))) (az_br 34 (az_lf 33 (az_dup 34)) (az_lf 34 (az_getI 7 2 37))))) (az_br 43 (az_br 39 (az_br 38 (az_lf 37 (az_const (.int 1) 38)) (az_lf 38 (az_ii (fun x y => x + y) 39))) (az_br 42 (az_lf 39 (az_putI 7 2 42)) (az_lf 42 (az_aload 0 43)))) (az_br 47 (az_br 46 (az_lf 43 (az_getI 7 2 46)) (az_lf 46 (az_const (.int 1) 47))) (az_br 48 (az_lf 47 (az_ii (fun x y => x - y) 48)) (az_lf 48 (az_iret)))))))
theorem u_X7_give_0 : az_W C R k_X7_give 0 (.ref a :: ls) st h ↔ az_W C R k_X7_give 1 (.ref a :: ls) (.ref a :: st) h := ap_aload rfl rfl
theorem u_X7_give_1 : az_W C R k_X7_give 1 ls (.ref 60 :: st) (130, P, I, L) ↔ az_W C R k_X7_give 4 ls (.int (I 60 2) :: st) (130, P, I, L) := ap_getI rfl kn_60
theorem u_X7_give_4 : az_W C R k_X7_give 4 ls st h ↔ az_W C R k_X7_give 6 ls (.int 20 :: st) h := ap_const rfl
theorem u_X7_give_6 : az_W C R k_X7_give 6 ls (.int y :: .int x :: st) h ↔ if x < y then az_W C R k_X7_give 12 ls st h else az_W C R k_X7_give 9 ls st h := ap_iclt rfl
theorem u_X7_give_9 : az_W C R k_X7_give 9 ls st h ↔ az_W C R k_X7_give 11 ls (.int (-3) :: st) h := ap_const rfl
theorem u_X7_give_11 : az_W C R k_X7_give 11 ls [.int x] h ↔ R (some (.int x)) h := ap_iret rfl
theorem u_X7_give_12 : az_W C R k_X7_give 12 (.ref a :: ls) st h ↔ az_W C R k_X7_give 13 (.ref a :: ls) (.ref a :: st) h := ap_aload rfl rfl
theorem u_X7_give_13 : az_W C R k_X7_give 13 ls (.ref 60 :: st) (130, az_Pf, I, L) ↔ az_W C R k_X7_give 16 ls (.ref 61 :: st) (130, az_Pf, I, L) := ap_getP rfl kn_60 pf_60_0
theorem u_X7_give_16 : az_W C R k_X7_give 16 (.ref a :: ls) st h ↔ az_W C R k_X7_give 17 (.ref a :: ls) (.ref a :: st) h := ap_aload rfl rfl
theorem u_X7_give_17 : az_W C R k_X7_give 17 ls (.ref 60 :: st) (130, P, I, L) ↔ az_W C R k_X7_give 20 ls (.int (I 60 2) :: st) (130, P, I, L) := ap_getI rfl kn_60
theorem u_X7_give_20 : az_W C R k_X7_give 20 (v0 :: .int x :: ls) st h ↔ az_W C R k_X7_give 21 (v0 :: .int x :: ls) (.int x :: st) h := ap_iload rfl rfl
theorem u_X7_give_21 (hk : (az_kn 130 a).1 = 1) : az_W C R k_X7_give 21 ls (.int y :: .int x :: .ref a :: st) (130, P, I, L) ↔ (az_in x (az_kn 130 a).2 ∧ az_W C R k_X7_give 22 ls st (130, P, az_uI I a x.toNatClampNeg y, L)) := ap_iast rfl (az_k1 hk)
theorem u_X7_give_22 : az_W C R k_X7_give 22 (.ref a :: ls) st h ↔ az_W C R k_X7_give 23 (.ref a :: ls) (.ref a :: st) h := ap_aload rfl rfl
theorem u_X7_give_23 : az_W C R k_X7_give 23 ls (.ref 60 :: st) (130, az_Pf, I, L) ↔ az_W C R k_X7_give 26 ls (.ref 62 :: st) (130, az_Pf, I, L) := ap_getP rfl kn_60 pf_60_1
theorem u_X7_give_26 : az_W C R k_X7_give 26 (.ref a :: ls) st h ↔ az_W C R k_X7_give 27 (.ref a :: ls) (.ref a :: st) h := ap_aload rfl rfl
theorem u_X7_give_27 : az_W C R k_X7_give 27 ls (.ref 60 :: st) (130, P, I, L) ↔ az_W C R k_X7_give 30 ls (.int (I 60 2) :: st) (130, P, I, L) := ap_getI rfl kn_60
theorem u_X7_give_30 : az_W C R k_X7_give 30 (v0 :: v1 :: .int x :: ls) st h ↔ az_W C R k_X7_give 31 (v0 :: v1 :: .int x :: ls) (.int x :: st) h := ap_iload rfl rfl
theorem u_X7_give_31 (hk : (az_kn 130 a).1 = 1) : az_W C R k_X7_give 31 ls (.int y :: .int x :: .ref a :: st) (130, P, I, L) ↔ (az_in x (az_kn 130 a).2 ∧ az_W C R k_X7_give 32 ls st (130, P, az_uI I a x.toNatClampNeg y, L)) := ap_iast rfl (az_k1 hk)
theorem u_X7_give_32 : az_W C R k_X7_give 32 (.ref a :: ls) st h ↔ az_W C R k_X7_give 33 (.ref a :: ls) (.ref a :: st) h := ap_aload rfl rfl
theorem u_X7_give_33 : az_W C R k_X7_give 33 ls (.int x :: st) h ↔ az_W C R k_X7_give 34 ls (.int x :: .int x :: st) h := ap_dupi rfl
theorem u_X7_give_33r : az_W C R k_X7_give 33 ls (.ref a :: st) h ↔ az_W C R k_X7_give 34 ls (.ref a :: .ref a :: st) h := ap_dupr rfl
theorem u_X7_give_34 : az_W C R k_X7_give 34 ls (.ref 60 :: st) (130, P, I, L) ↔ az_W C R k_X7_give 37 ls (.int (I 60 2) :: st) (130, P, I, L) := ap_getI rfl kn_60
theorem u_X7_give_37 : az_W C R k_X7_give 37 ls st h ↔ az_W C R k_X7_give 38 ls (.int 1 :: st) h := ap_const rfl
theorem u_X7_give_38 : az_W C R k_X7_give 38 ls (.int y :: .int x :: st) h ↔ az_W C R k_X7_give 39 ls (.int (x + y) :: st) h := ap_ii (f := fun x y => x + y) rfl
theorem u_X7_give_39 : az_W C R k_X7_give 39 ls (.int x :: .ref 60 :: st) (130, P, I, L) ↔ az_W C R k_X7_give 42 ls st (130, P, az_uI I 60 2 x, L) := ap_putI rfl kn_60
theorem u_X7_give_42 : az_W C R k_X7_give 42 (.ref a :: ls) st h ↔ az_W C R k_X7_give 43 (.ref a :: ls) (.ref a :: st) h := ap_aload rfl rfl
theorem u_X7_give_43 : az_W C R k_X7_give 43 ls (.ref 60 :: st) (130, P, I, L) ↔ az_W C R k_X7_give 46 ls (.int (I 60 2) :: st) (130, P, I, L) := ap_getI rfl kn_60
theorem u_X7_give_46 : az_W C R k_X7_give 46 ls st h ↔ az_W C R k_X7_give 47 ls (.int 1 :: st) h := ap_const rfl
theorem u_X7_give_47 : az_W C R k_X7_give 47 ls (.int y :: .int x :: st) h ↔ az_W C R k_X7_give 48 ls (.int (x - y) :: st) h := ap_ii (f := fun x y => x - y) rfl
theorem u_X7_give_48 : az_W C R k_X7_give 48 ls [.int x] h ↔ R (some (.int x)) h := ap_iret rfl
end
