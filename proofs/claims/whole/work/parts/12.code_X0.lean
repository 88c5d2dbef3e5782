section
variable {C : az_C} {R : az_R} {ls st : List Value} {h : az_H} {n : Nat} {P : Nat → Nat → Option Nat} {I : Nat → Nat → Int32} {L : Nat → Nat → Int64}
variable {v0 v1 v2 v3 v4 v5 v6 v7 v8 v9 v10 v11 v12 : Value} {x y z : Int32} {p q : Int64} {a b : Nat} {M : Nat} {xs : Nat → Int32}
def k_X0_init : Nat → az_P := (az_br 30 (az_br 14 (az_br 7 (az_br 4 (az_br 1 (az_lf 0 (az_aload 0 1)) (az_lf 1 (az_oin 4))) (az_br 5 (az_lf 4 (az_aload 0 5)) (az_lf 5 (az_const (.int 12) 7)))) (az_br 12 (az_br 9 (az_lf 7 (az_newa 1 9)) (az_lf 9 (az_putP 0 0 12))) (az_br 13 (az_lf 12 (az_aload 0 13)) (az_lf 13 (az_const (.int 0) 14))))) (az_br 22 (az_br 18 (az_br 17 (az_lf 14 (az_putI 0 1 17)) (az_lf 17 (az_aload 0 18))) (az_br 20 (az_lf 18 (az_const (.int 24) 20)) (az_lf 20 (az_newa 1 22)))) (az_br 26 (az_br 25 (az_lf 22 (az_putP 0 2 25)) (az_lf 25 (az_aload 0 26))) (az_br 28 (az_lf 26 (az_const (.int 24) 28)) (az_lf 28 (az_newa 1 30)))))) (az_br 46 (az_br 38 (az_br 34 (az_br 33 (az_lf 30 (az_putP 0 3 33)) (az_lf 33 (az_aload 0 34))) (az_br 36 (az_lf 34 (az_const (.int 24) 36)) (az_lf 36 (az_newa 1 38)))) (az_br 42 (az_br 41 (az_lf 38 (az_putP 0 4 41)) (az_lf 41 (az_aload 0 42))) (az_br 44 (az_lf 42 (az_const (.int 24) 44)) (az_lf 44 (az_newa 1 46))))) (az_br 54 (az_br 50 (az_br 49 (az_lf 46 (az_putP 0 5 49)) (az_lf 49 (az_aload 0 50))) (az_br 52 (az_lf 50 (az_const (.int 24) 52)) (az_lf 52 (az_newa 1 54)))) (az_br 58 (az_br 57 (az_lf 54 (az_putP 0 6 57)) (az_lf 57 (az_aload 0 58))) (az_br 59 (az_lf 58 (az_const (.int 0) 59)) (az_br 62 (az_lf 59 (az_putI 0 7 62)) (az_lf 62 (az_ret))))))))
theorem u_X0_init_0 : az_W C R k_X0_init 0 (.ref a :: ls) st h ↔ az_W C R k_X0_init 1 (.ref a :: ls) (.ref a :: st) h := ap_aload rfl rfl
theorem u_X0_init_1 (hl : st.length ≤ 4) : az_W C R k_X0_init 1 ls (.ref a :: st) h ↔ az_W C R k_X0_init 4 ls st h := ap_oin rfl hl
theorem u_X0_init_4 : az_W C R k_X0_init 4 (.ref a :: ls) st h ↔ az_W C R k_X0_init 5 (.ref a :: ls) (.ref a :: st) h := ap_aload rfl rfl
theorem u_X0_init_5 : az_W C R k_X0_init 5 ls st h ↔ az_W C R k_X0_init 7 ls (.int 12 :: st) h := ap_const rfl
theorem u_X0_init_7 : az_W C R k_X0_init 7 ls (.int 12 :: st) (50, P, I, L) ↔ az_W C R k_X0_init 9 ls (.ref 50 :: st) (51, P, I, L) := ap_newa rfl (by decide +kernel)
theorem u_X0_init_9 (hk : az_kn n a = (0, 0)) : az_W C R k_X0_init 9 ls (.ref b :: .ref a :: st) (n, P, I, L) ↔ az_W C R k_X0_init 12 ls st (n, az_uP P a 0 (some b), I, L) := ap_putP rfl hk
theorem u_X0_init_12 : az_W C R k_X0_init 12 (.ref a :: ls) st h ↔ az_W C R k_X0_init 13 (.ref a :: ls) (.ref a :: st) h := ap_aload rfl rfl
theorem u_X0_init_13 : az_W C R k_X0_init 13 ls st h ↔ az_W C R k_X0_init 14 ls (.int 0 :: st) h := ap_const rfl
theorem u_X0_init_14 (hk : az_kn n a = (0, 0)) : az_W C R k_X0_init 14 ls (.int x :: .ref a :: st) (n, P, I, L) ↔ az_W C R k_X0_init 17 ls st (n, P, az_uI I a 1 x, L) := ap_putI rfl hk
theorem u_X0_init_17 : az_W C R k_X0_init 17 (.ref a :: ls) st h ↔ az_W C R k_X0_init 18 (.ref a :: ls) (.ref a :: st) h := ap_aload rfl rfl
theorem u_X0_init_18 : az_W C R k_X0_init 18 ls st h ↔ az_W C R k_X0_init 20 ls (.int 24 :: st) h := ap_const rfl
theorem u_X0_init_20 : az_W C R k_X0_init 20 ls (.int 24 :: st) (51, P, I, L) ↔ az_W C R k_X0_init 22 ls (.ref 51 :: st) (52, P, I, L) := ap_newa rfl (by decide +kernel)
theorem u_X0_init_22 (hk : az_kn n a = (0, 0)) : az_W C R k_X0_init 22 ls (.ref b :: .ref a :: st) (n, P, I, L) ↔ az_W C R k_X0_init 25 ls st (n, az_uP P a 2 (some b), I, L) := ap_putP rfl hk
theorem u_X0_init_25 : az_W C R k_X0_init 25 (.ref a :: ls) st h ↔ az_W C R k_X0_init 26 (.ref a :: ls) (.ref a :: st) h := ap_aload rfl rfl
theorem u_X0_init_26 : az_W C R k_X0_init 26 ls st h ↔ az_W C R k_X0_init 28 ls (.int 24 :: st) h := ap_const rfl
theorem u_X0_init_28 : az_W C R k_X0_init 28 ls (.int 24 :: st) (52, P, I, L) ↔ az_W C R k_X0_init 30 ls (.ref 52 :: st) (53, P, I, L) := ap_newa rfl (by decide +kernel)
theorem u_X0_init_30 (hk : az_kn n a = (0, 0)) : az_W C R k_X0_init 30 ls (.ref b :: .ref a :: st) (n, P, I, L) ↔ az_W C R k_X0_init 33 ls st (n, az_uP P a 3 (some b), I, L) := ap_putP rfl hk
theorem u_X0_init_33 : az_W C R k_X0_init 33 (.ref a :: ls) st h ↔ az_W C R k_X0_init 34 (.ref a :: ls) (.ref a :: st) h := ap_aload rfl rfl
theorem u_X0_init_34 : az_W C R k_X0_init 34 ls st h ↔ az_W C R k_X0_init 36 ls (.int 24 :: st) h := ap_const rfl
theorem u_X0_init_36 : az_W C R k_X0_init 36 ls (.int 24 :: st) (53, P, I, L) ↔ az_W C R k_X0_init 38 ls (.ref 53 :: st) (54, P, I, L) := ap_newa rfl (by decide +kernel)
theorem u_X0_init_38 (hk : az_kn n a = (0, 0)) : az_W C R k_X0_init 38 ls (.ref b :: .ref a :: st) (n, P, I, L) ↔ az_W C R k_X0_init 41 ls st (n, az_uP P a 4 (some b), I, L) := ap_putP rfl hk
theorem u_X0_init_41 : az_W C R k_X0_init 41 (.ref a :: ls) st h ↔ az_W C R k_X0_init 42 (.ref a :: ls) (.ref a :: st) h := ap_aload rfl rfl
theorem u_X0_init_42 : az_W C R k_X0_init 42 ls st h ↔ az_W C R k_X0_init 44 ls (.int 24 :: st) h := ap_const rfl
theorem u_X0_init_44 : az_W C R k_X0_init 44 ls (.int 24 :: st) (54, P, I, L) ↔ az_W C R k_X0_init 46 ls (.ref 54 :: st) (55, P, I, L) := ap_newa rfl (by decide +kernel)
theorem u_X0_init_46 (hk : az_kn n a = (0, 0)) : az_W C R k_X0_init 46 ls (.ref b :: .ref a :: st) (n, P, I, L) ↔ az_W C R k_X0_init 49 ls st (n, az_uP P a 5 (some b), I, L) := ap_putP rfl hk
theorem u_X0_init_49 : az_W C R k_X0_init 49 (.ref a :: ls) st h ↔ az_W C R k_X0_init 50 (.ref a :: ls) (.ref a :: st) h := ap_aload rfl rfl
theorem u_X0_init_50 : az_W C R k_X0_init 50 ls st h ↔ az_W C R k_X0_init 52 ls (.int 24 :: st) h := ap_const rfl
theorem u_X0_init_52 : az_W C R k_X0_init 52 ls (.int 24 :: st) (55, P, I, L) ↔ az_W C R k_X0_init 54 ls (.ref 55 :: st) (56, P, I, L) := ap_newa rfl (by decide +kernel)
theorem u_X0_init_54 (hk : az_kn n a = (0, 0)) : az_W C R k_X0_init 54 ls (.ref b :: .ref a :: st) (n, P, I, L) ↔ az_W C R k_X0_init 57 ls st (n, az_uP P a 6 (some b), I, L) := ap_putP rfl hk
theorem u_X0_init_57 : az_W C R k_X0_init 57 (.ref a :: ls) st h ↔ az_W C R k_X0_init 58 (.ref a :: ls) (.ref a :: st) h := ap_aload rfl rfl
theorem u_X0_init_58 : az_W C R k_X0_init 58 ls st h ↔ az_W C R k_X0_init 59 ls (.int 0 :: st) h := ap_const rfl
theorem u_X0_init_59 (hk : az_kn n a = (0, 0)) : az_W C R k_X0_init 59 ls (.int x :: .ref a :: st) (n, P, I, L) ↔ az_W C R k_X0_init 62 ls st (n, P, az_uI I a 7 x, L) := ap_putI rfl hk
theorem u_X0_init_62 : az_W C R k_X0_init 62 ls [] h ↔ R none h := ap_ret rfl
def k_X0_deskCount : Nat → az_P := (az_br 1 (az_lf 0 (az_aload 0 1)) (az_br 4 (az_lf 1 (az_getI 0 1 4)) (az_lf 4 (az_iret))))
theorem u_X0_deskCount_0 : az_W C R k_X0_deskCount 0 (.ref a :: ls) st h ↔ az_W C R k_X0_deskCount 1 (.ref a :: ls) (.ref a :: st) h := ap_aload rfl rfl
theorem u_X0_deskCount_1 : az_W C R k_X0_deskCount 1 ls (.ref 49 :: st) (130, P, I, L) ↔ az_W C R k_X0_deskCount 4 ls (.int (I 49 1) :: st) (130, P, I, L) := ap_getI rfl kn_49
theorem u_X0_deskCount_4 : az_W C R k_X0_deskCount 4 ls [.int x] h ↔ R (some (.int x)) h := ap_iret rfl
def k_X0_contractCount : Nat → az_P := (az_br 1 (az_lf 0 (az_aload 0 1)) (az_br 4 (az_lf 1 (az_getI 0 7 4)) (az_lf 4 (az_iret))))
theorem u_X0_contractCount_0 : az_W C R k_X0_contractCount 0 (.ref a :: ls) st h ↔ az_W C R k_X0_contractCount 1 (.ref a :: ls) (.ref a :: st) h := ap_aload rfl rfl
theorem u_X0_contractCount_1 : az_W C R k_X0_contractCount 1 ls (.ref 49 :: st) (130, P, I, L) ↔ az_W C R k_X0_contractCount 4 ls (.int (I 49 7) :: st) (130, P, I, L) := ap_getI rfl kn_49
theorem u_X0_contractCount_4 : az_W C R k_X0_contractCount 4 ls [.int x] h ↔ R (some (.int x)) h := ap_iret rfl
def k_X0_has : Nat → az_P := (az_br 9 (az_br 4 (az_br 1 (az_lf 0 (az_iload 1 1)) (az_lf 1 (az_iflt 16 4))) (az_br 5 (az_lf 4 (az_iload 1 5)) (az_br 6 (az_lf 5 (az_aload 0 6)) (az_lf 6 (az_getI 0 1 9))))) (az_br 13 (az_br 12 (az_lf 9 (az_icge 16 12)) (az_lf 12 (az_const (.int 1) 13))) (az_br 16 (az_lf 13 (az_goto 17)) (az_br 17 (az_lf 16 (az_const (.int 0) 17)) (az_lf 17 (az_zret))))))
theorem u_X0_has_0 : az_W C R k_X0_has 0 (v0 :: .int x :: ls) st h ↔ az_W C R k_X0_has 1 (v0 :: .int x :: ls) (.int x :: st) h := ap_iload rfl rfl
theorem u_X0_has_1 : az_W C R k_X0_has 1 ls (.int x :: st) h ↔ if x < 0 then az_W C R k_X0_has 16 ls st h else az_W C R k_X0_has 4 ls st h := ap_iflt rfl
theorem u_X0_has_4 : az_W C R k_X0_has 4 (v0 :: .int x :: ls) st h ↔ az_W C R k_X0_has 5 (v0 :: .int x :: ls) (.int x :: st) h := ap_iload rfl rfl
theorem u_X0_has_5 : az_W C R k_X0_has 5 (.ref a :: ls) st h ↔ az_W C R k_X0_has 6 (.ref a :: ls) (.ref a :: st) h := ap_aload rfl rfl
theorem u_X0_has_6 : az_W C R k_X0_has 6 ls (.ref 49 :: st) (130, P, I, L) ↔ az_W C R k_X0_has 9 ls (.int (I 49 1) :: st) (130, P, I, L) := ap_getI rfl kn_49
theorem u_X0_has_9 : az_W C R k_X0_has 9 ls (.int y :: .int x :: st) h ↔ if y ≤ x then az_W C R k_X0_has 16 ls st h else az_W C R k_X0_has 12 ls st h := ap_icge rfl
theorem u_X0_has_12 : az_W C R k_X0_has 12 ls st h ↔ az_W C R k_X0_has 13 ls (.int 1 :: st) h := ap_const rfl
theorem u_X0_has_13 : az_W C R k_X0_has 13 ls st h ↔ az_W C R k_X0_has 17 ls st h := ap_goto rfl
theorem u_X0_has_16 : az_W C R k_X0_has 16 ls st h ↔ az_W C R k_X0_has 17 ls (.int 0 :: st) h := ap_const rfl
theorem u_X0_has_17 : az_W C R k_X0_has 17 ls [.int x] h ↔ ((x = 0 ∨ x = 1) ∧ R (some (.int x)) h) := ap_zret rfl
def k_X0_areTwo : Nat → az_P := (az_br 13 (az_br 5 (az_br 1 (az_lf 0 (az_aload 0 1)) (az_br 2 (az_lf 1 (az_iload 1 2)) (az_lf 2 (az_ivv 3 1 0 5)))) (az_br 9 (az_br 8 (az_lf 5 (az_ifeq 25 8)) (az_lf 8 (az_aload 0 9))) (az_br 10 (az_lf 9 (az_iload 2 10)) (az_lf 10 (az_ivv 3 1 0 13))))) (az_br 21 (az_br 17 (az_br 16 (az_lf 13 (az_ifeq 25 16)) (az_lf 16 (az_iload 1 17))) (az_br 18 (az_lf 17 (az_iload 2 18)) (az_lf 18 (az_iceq 25 21)))) (az_br 25 (az_br 22 (az_lf 21 (az_const (.int 1) 22)) (az_lf 22 (az_goto 26))) (az_br 26 (az_lf 25 (az_const (.int 0) 26)) (az_lf 26 (az_zret))))))
theorem u_X0_areTwo_0 : az_W C R k_X0_areTwo 0 (.ref a :: ls) st h ↔ az_W C R k_X0_areTwo 1 (.ref a :: ls) (.ref a :: st) h := ap_aload rfl rfl
theorem u_X0_areTwo_1 : az_W C R k_X0_areTwo 1 (v0 :: .int x :: ls) st h ↔ az_W C R k_X0_areTwo 2 (v0 :: .int x :: ls) (.int x :: st) h := ap_iload rfl rfl
theorem u_X0_areTwo_2 (hl : st.length ≤ 4) : az_W C R k_X0_areTwo 2 ls (v1 :: .ref 49 :: st) (130, P, I, L) ↔ az_F C R (az_W C R k_X0_areTwo) (130, P, I, L) (az_cl 3 [.ref 49, v1] 5 ls st) := ap_ivv rfl rfl kn_49 hl
theorem u_X0_areTwo_5 : az_W C R k_X0_areTwo 5 ls (.int x :: st) h ↔ if x = 0 then az_W C R k_X0_areTwo 25 ls st h else az_W C R k_X0_areTwo 8 ls st h := ap_ifeq rfl
theorem u_X0_areTwo_8 : az_W C R k_X0_areTwo 8 (.ref a :: ls) st h ↔ az_W C R k_X0_areTwo 9 (.ref a :: ls) (.ref a :: st) h := ap_aload rfl rfl
theorem u_X0_areTwo_9 : az_W C R k_X0_areTwo 9 (v0 :: v1 :: .int x :: ls) st h ↔ az_W C R k_X0_areTwo 10 (v0 :: v1 :: .int x :: ls) (.int x :: st) h := ap_iload rfl rfl
theorem u_X0_areTwo_10 (hl : st.length ≤ 4) : az_W C R k_X0_areTwo 10 ls (v1 :: .ref 49 :: st) (130, P, I, L) ↔ az_F C R (az_W C R k_X0_areTwo) (130, P, I, L) (az_cl 3 [.ref 49, v1] 13 ls st) := ap_ivv rfl rfl kn_49 hl
theorem u_X0_areTwo_13 : az_W C R k_X0_areTwo 13 ls (.int x :: st) h ↔ if x = 0 then az_W C R k_X0_areTwo 25 ls st h else az_W C R k_X0_areTwo 16 ls st h := ap_ifeq rfl
theorem u_X0_areTwo_16 : az_W C R k_X0_areTwo 16 (v0 :: .int x :: ls) st h ↔ az_W C R k_X0_areTwo 17 (v0 :: .int x :: ls) (.int x :: st) h := ap_iload rfl rfl
theorem u_X0_areTwo_17 : az_W C R k_X0_areTwo 17 (v0 :: v1 :: .int x :: ls) st h ↔ az_W C R k_X0_areTwo 18 (v0 :: v1 :: .int x :: ls) (.int x :: st) h := ap_iload rfl rfl
theorem u_X0_areTwo_18 : az_W C R k_X0_areTwo 18 ls (.int y :: .int x :: st) h ↔ if x = y then az_W C R k_X0_areTwo 25 ls st h else az_W C R k_X0_areTwo 21 ls st h := ap_iceq rfl
theorem u_X0_areTwo_21 : az_W C R k_X0_areTwo 21 ls st h ↔ az_W C R k_X0_areTwo 22 ls (.int 1 :: st) h := ap_const rfl
theorem u_X0_areTwo_22 : az_W C R k_X0_areTwo 22 ls st h ↔ az_W C R k_X0_areTwo 26 ls st h := ap_goto rfl
theorem u_X0_areTwo_25 : az_W C R k_X0_areTwo 25 ls st h ↔ az_W C R k_X0_areTwo 26 ls (.int 0 :: st) h := ap_const rfl
theorem u_X0_areTwo_26 : az_W C R k_X0_areTwo 26 ls [.int x] h ↔ ((x = 0 ∨ x = 1) ∧ R (some (.int x)) h) := ap_zret rfl
def k_X0_houseOf : Nat → az_P := (az_br 4 (az_br 1 (az_lf 0 (az_aload 0 1)) (az_lf 1 (az_getP 0 0 4))) (az_br 5 (az_lf 4 (az_iload 1 5)) (az_br 6 (az_lf 5 (az_iald 6)) (az_lf 6 (az_iret)))))
theorem u_X0_houseOf_0 : az_W C R k_X0_houseOf 0 (.ref a :: ls) st h ↔ az_W C R k_X0_houseOf 1 (.ref a :: ls) (.ref a :: st) h := ap_aload rfl rfl
theorem u_X0_houseOf_1 : az_W C R k_X0_houseOf 1 ls (.ref 49 :: st) (130, az_Pf, I, L) ↔ az_W C R k_X0_houseOf 4 ls (.ref 50 :: st) (130, az_Pf, I, L) := ap_getP rfl kn_49 pf_49_0
theorem u_X0_houseOf_4 : az_W C R k_X0_houseOf 4 (v0 :: .int x :: ls) st h ↔ az_W C R k_X0_houseOf 5 (v0 :: .int x :: ls) (.int x :: st) h := ap_iload rfl rfl
theorem u_X0_houseOf_5 (hk : (az_kn 130 a).1 = 1) : az_W C R k_X0_houseOf 5 ls (.int x :: .ref a :: st) (130, P, I, L) ↔ (az_in x (az_kn 130 a).2 ∧ az_W C R k_X0_houseOf 6 ls (.int (I a x.toNatClampNeg) :: st) (130, P, I, L)) := ap_iald rfl (az_k1 hk)
theorem u_X0_houseOf_6 : az_W C R k_X0_houseOf 6 ls [.int x] h ↔ R (some (.int x)) h := ap_iret rfl
def k_X0_open : Nat → az_P := (az_br 21 (az_br 11 (az_br 4 (az_br 1 (az_lf 0 (az_aload 0 1)) (az_lf 1 (az_getI 0 1 4))) (az_br 6 (az_lf 4 (az_const (.int 12) 6)) (az_br 9 (az_lf 6 (az_iclt 12 9)) (az_lf 9 (az_const (.int (-3)) 11))))) (az_br 16 (az_br 12 (az_lf 11 (az_iret)) (az_br 13 (az_lf 12 (az_aload 0 13)) (az_lf 13 (az_getP 0 0 16)))) (az_br 17 (az_lf 16 (az_aload 0 17)) (az_br 20 (az_lf 17 (az_getI 0 1 20)) (az_lf 20 (az_iload 1 21)))))) (az_br 29 (az_br 24 (az_br 22 (az_lf 21 (az_iast 22)) (az_br 23 (az_lf 22 (az_aload 0 23)) (az_lf 23 (az_dup 24)))) (az_br 27 (az_lf 24 (az_getI 0 1 27)) (az_br 28 (az_lf 27 (az_const (.int 1) 28)) (az_lf 28 (az_ii (fun x y => x + y) 29))))) (az_br 36 (az_br 32 (az_lf 29 (az_putI 0 1 32)) (az_br 33 (az_lf 32 (az_aload 0 33)) (az_lf 33 (az_getI 0 1 36)))) (az_br 37 (az_lf 36 (az_const (.int 1) 37)) (az_br 38 (az_lf 37 (az_ii (fun x y => x - y) 38)) (az_lf 38 (az_iret)))))))
theorem u_X0_open_0 : az_W C R k_X0_open 0 (.ref a :: ls) st h ↔ az_W C R k_X0_open 1 (.ref a :: ls) (.ref a :: st) h := ap_aload rfl rfl
theorem u_X0_open_1 : az_W C R k_X0_open 1 ls (.ref 49 :: st) (130, P, I, L) ↔ az_W C R k_X0_open 4 ls (.int (I 49 1) :: st) (130, P, I, L) := ap_getI rfl kn_49
theorem u_X0_open_4 : az_W C R k_X0_open 4 ls st h ↔ az_W C R k_X0_open 6 ls (.int 12 :: st) h := ap_const rfl
theorem u_X0_open_6 : az_W C R k_X0_open 6 ls (.int y :: .int x :: st) h ↔ if x < y then az_W C R k_X0_open 12 ls st h else az_W C R k_X0_open 9 ls st h := ap_iclt rfl
theorem u_X0_open_9 : az_W C R k_X0_open 9 ls st h ↔ az_W C R k_X0_open 11 ls (.int (-3) :: st) h := ap_const rfl
theorem u_X0_open_11 : az_W C R k_X0_open 11 ls [.int x] h ↔ R (some (.int x)) h := ap_iret rfl
theorem u_X0_open_12 : az_W C R k_X0_open 12 (.ref a :: ls) st h ↔ az_W C R k_X0_open 13 (.ref a :: ls) (.ref a :: st) h := ap_aload rfl rfl
theorem u_X0_open_13 : az_W C R k_X0_open 13 ls (.ref 49 :: st) (130, az_Pf, I, L) ↔ az_W C R k_X0_open 16 ls (.ref 50 :: st) (130, az_Pf, I, L) := ap_getP rfl kn_49 pf_49_0
theorem u_X0_open_16 : az_W C R k_X0_open 16 (.ref a :: ls) st h ↔ az_W C R k_X0_open 17 (.ref a :: ls) (.ref a :: st) h := ap_aload rfl rfl
theorem u_X0_open_17 : az_W C R k_X0_open 17 ls (.ref 49 :: st) (130, P, I, L) ↔ az_W C R k_X0_open 20 ls (.int (I 49 1) :: st) (130, P, I, L) := ap_getI rfl kn_49
theorem u_X0_open_20 : az_W C R k_X0_open 20 (v0 :: .int x :: ls) st h ↔ az_W C R k_X0_open 21 (v0 :: .int x :: ls) (.int x :: st) h := ap_iload rfl rfl
theorem u_X0_open_21 (hk : (az_kn 130 a).1 = 1) : az_W C R k_X0_open 21 ls (.int y :: .int x :: .ref a :: st) (130, P, I, L) ↔ (az_in x (az_kn 130 a).2 ∧ az_W C R k_X0_open 22 ls st (130, P, az_uI I a x.toNatClampNeg y, L)) := ap_iast rfl (az_k1 hk)
theorem u_X0_open_22 : az_W C R k_X0_open 22 (.ref a :: ls) st h ↔ az_W C R k_X0_open 23 (.ref a :: ls) (.ref a :: st) h := ap_aload rfl rfl
theorem u_X0_open_23 : az_W C R k_X0_open 23 ls (.int x :: st) h ↔ az_W C R k_X0_open 24 ls (.int x :: .int x :: st) h := ap_dupi rfl
theorem u_X0_open_23r : az_W C R k_X0_open 23 ls (.ref a :: st) h ↔ az_W C R k_X0_open 24 ls (.ref a :: .ref a :: st) h := ap_dupr rfl
theorem u_X0_open_24 : az_W C R k_X0_open 24 ls (.ref 49 :: st) (130, P, I, L) ↔ az_W C R k_X0_open 27 ls (.int (I 49 1) :: st) (130, P, I, L) := ap_getI rfl kn_49
theorem u_X0_open_27 : az_W C R k_X0_open 27 ls st h ↔ az_W C R k_X0_open 28 ls (.int 1 :: st) h := ap_const rfl
theorem u_X0_open_28 : az_W C R k_X0_open 28 ls (.int y :: .int x :: st) h ↔ az_W C R k_X0_open 29 ls (.int (x + y) :: st) h := ap_ii (f := fun x y => x + y) rfl
theorem u_X0_open_29 : az_W C R k_X0_open 29 ls (.int x :: .ref 49 :: st) (130, P, I, L) ↔ az_W C R k_X0_open 32 ls st (130, P, az_uI I 49 1 x, L) := ap_putI rfl kn_49
theorem u_X0_open_32 : az_W C R k_X0_open 32 (.ref a :: ls) st h ↔ az_W C R k_X0_open 33 (.ref a :: ls) (.ref a :: st) h := ap_aload rfl rfl
theorem u_X0_open_33 : az_W C R k_X0_open 33 ls (.ref 49 :: st) (130, P, I, L) ↔ az_W C R k_X0_open 36 ls (.int (I 49 1) :: st) (130, P, I, L) := ap_getI rfl kn_49
theorem u_X0_open_36 : az_W C R k_X0_open 36 ls st h ↔ az_W C R k_X0_open 37 ls (.int 1 :: st) h := ap_const rfl
theorem u_X0_open_37 : az_W C R k_X0_open 37 ls (.int y :: .int x :: st) h ↔ az_W C R k_X0_open 38 ls (.int (x - y) :: st) h := ap_ii (f := fun x y => x - y) rfl
theorem u_X0_open_38 : az_W C R k_X0_open 38 ls [.int x] h ↔ R (some (.int x)) h := ap_iret rfl
def k_X0_sign : Nat → az_P := (az_br 41 (az_br 21 (az_br 11 (az_br 4 (az_br 1 (az_lf 0 (az_aload 0 1)) (az_lf 1 (az_getI 0 7 4))) (az_br 6 (az_lf 4 (az_const (.int 24) 6)) (az_br 9 (az_lf 6 (az_iclt 12 9)) (az_lf 9 (az_const (.int (-3)) 11))))) (az_br 16 (az_br 12 (az_lf 11 (az_iret)) (az_br 13 (az_lf 12 (az_aload 0 13)) (az_lf 13 (az_getP 0 2 16)))) (az_br 17 (az_lf 16 (az_aload 0 17)) (az_br 20 (az_lf 17 (az_getI 0 7 20)) (az_lf 20 (az_iload 1 21)))))) (az_br 31 (az_br 26 (az_br 22 (az_lf 21 (az_iast 22)) (az_br 23 (az_lf 22 (az_aload 0 23)) (az_lf 23 (az_getP 0 3 26)))) (az_br 27 (az_lf 26 (az_aload 0 27)) (az_br 30 (az_lf 27 (az_getI 0 7 30)) (az_lf 30 (az_iload 2 31))))) (az_br 36 (az_br 32 (az_lf 31 (az_iast 32)) (az_br 33 (az_lf 32 (az_aload 0 33)) (az_lf 33 (az_getP 0 4 36)))) (az_br 37 (az_lf 36 (az_aload 0 37)) (az_br 40 (az_lf 37 (az_getI 0 7 40)) (az_lf 40 (az_iload 3 41))))))) (az_br 63 (az_br 52 (az_br 46 (az_br 42 (az_lf 41 (az_iast 42)) (az_br 43 (az_lf 42 (az_aload 0 43)) (az_lf 43 (az_getP 0 5 46)))) (az_br 47 (az_lf 46 (az_aload 0 47)) (az_br 50 (az_lf 47 (az_getI 0 7 50)) (az_lf 50 (az_iload 4 52))))) (az_br 57 (az_br 53 (az_lf 52 (az_iast 53)) (az_br 54 (az_lf 53 (az_aload 0 54)) (az_lf 54 (az_getP 0 6 57)))) (az_br 58 (az_lf 57 (az_aload 0 58)) (az_br 61 (az_lf 58 (az_getI 0 7 61)) (az_lf 61 (az_iload 5 63)))))) (az_br 71 (az_br 66 (az_br 64 (az_lf 63 (az_iast 64)) (az_br 65 (az_lf 64 (az_aload 0 65)) (az_lf 65 (az_dup 66)))) (az_br 69 (az_lf 66 (az_getI 0 7 69)) (az_br 70 (az_lf 69 (az_const (.int 1) 70)) (az_lf 70 (az_ii (fun x y => x + y) 71))))) (az_br 78 (az_br 74 (az_lf 71 (az_putI 0 7 74)) (az_br 75 (az_lf 74 (az_aload 0 75)) (az_lf 75 (az_getI 0 7 78)))) (az_br 79 (az_lf 78 (az_const (.int 1) 79)) (az_br 80 (az_lf 79 (az_ii (fun x y => x - y) 80)) (az_lf 80 (az_iret))))))))
theorem u_X0_sign_0 : az_W C R k_X0_sign 0 (.ref a :: ls) st h ↔ az_W C R k_X0_sign 1 (.ref a :: ls) (.ref a :: st) h := ap_aload rfl rfl
theorem u_X0_sign_1 : az_W C R k_X0_sign 1 ls (.ref 49 :: st) (130, P, I, L) ↔ az_W C R k_X0_sign 4 ls (.int (I 49 7) :: st) (130, P, I, L) := ap_getI rfl kn_49
theorem u_X0_sign_4 : az_W C R k_X0_sign 4 ls st h ↔ az_W C R k_X0_sign 6 ls (.int 24 :: st) h := ap_const rfl
theorem u_X0_sign_6 : az_W C R k_X0_sign 6 ls (.int y :: .int x :: st) h ↔ if x < y then az_W C R k_X0_sign 12 ls st h else az_W C R k_X0_sign 9 ls st h := ap_iclt rfl
theorem u_X0_sign_9 : az_W C R k_X0_sign 9 ls st h ↔ az_W C R k_X0_sign 11 ls (.int (-3) :: st) h := ap_const rfl
theorem u_X0_sign_11 : az_W C R k_X0_sign 11 ls [.int x] h ↔ R (some (.int x)) h := ap_iret rfl
theorem u_X0_sign_12 : az_W C R k_X0_sign 12 (.ref a :: ls) st h ↔ az_W C R k_X0_sign 13 (.ref a :: ls) (.ref a :: st) h := ap_aload rfl rfl
theorem u_X0_sign_13 : az_W C R k_X0_sign 13 ls (.ref 49 :: st) (130, az_Pf, I, L) ↔ az_W C R k_X0_sign 16 ls (.ref 51 :: st) (130, az_Pf, I, L) := ap_getP rfl kn_49 pf_49_2
theorem u_X0_sign_16 : az_W C R k_X0_sign 16 (.ref a :: ls) st h ↔ az_W C R k_X0_sign 17 (.ref a :: ls) (.ref a :: st) h := ap_aload rfl rfl
theorem u_X0_sign_17 : az_W C R k_X0_sign 17 ls (.ref 49 :: st) (130, P, I, L) ↔ az_W C R k_X0_sign 20 ls (.int (I 49 7) :: st) (130, P, I, L) := ap_getI rfl kn_49
theorem u_X0_sign_20 : az_W C R k_X0_sign 20 (v0 :: .int x :: ls) st h ↔ az_W C R k_X0_sign 21 (v0 :: .int x :: ls) (.int x :: st) h := ap_iload rfl rfl
theorem u_X0_sign_21 (hk : (az_kn 130 a).1 = 1) : az_W C R k_X0_sign 21 ls (.int y :: .int x :: .ref a :: st) (130, P, I, L) ↔ (az_in x (az_kn 130 a).2 ∧ az_W C R k_X0_sign 22 ls st (130, P, az_uI I a x.toNatClampNeg y, L)) := ap_iast rfl (az_k1 hk)
theorem u_X0_sign_22 : az_W C R k_X0_sign 22 (.ref a :: ls) st h ↔ az_W C R k_X0_sign 23 (.ref a :: ls) (.ref a :: st) h := ap_aload rfl rfl
theorem u_X0_sign_23 : az_W C R k_X0_sign 23 ls (.ref 49 :: st) (130, az_Pf, I, L) ↔ az_W C R k_X0_sign 26 ls (.ref 52 :: st) (130, az_Pf, I, L) := ap_getP rfl kn_49 pf_49_3
theorem u_X0_sign_26 : az_W C R k_X0_sign 26 (.ref a :: ls) st h ↔ az_W C R k_X0_sign 27 (.ref a :: ls) (.ref a :: st) h := ap_aload rfl rfl
theorem u_X0_sign_27 : az_W C R k_X0_sign 27 ls (.ref 49 :: st) (130, P, I, L) ↔ az_W C R k_X0_sign 30 ls (.int (I 49 7) :: st) (130, P, I, L) := ap_getI rfl kn_49
theorem u_X0_sign_30 : az_W C R k_X0_sign 30 (v0 :: v1 :: .int x :: ls) st h ↔ az_W C R k_X0_sign 31 (v0 :: v1 :: .int x :: ls) (.int x :: st) h := ap_iload rfl rfl
theorem u_X0_sign_31 (hk : (az_kn 130 a).1 = 1) : az_W C R k_X0_sign 31 ls (.int y :: .int x :: .ref a :: st) (130, P, I, L) ↔ (az_in x (az_kn 130 a).2 ∧ az_W C R k_X0_sign 32 ls st (130, P, az_uI I a x.toNatClampNeg y, L)) := ap_iast rfl (az_k1 hk)
theorem u_X0_sign_32 : az_W C R k_X0_sign 32 (.ref a :: ls) st h ↔ az_W C R k_X0_sign 33 (.ref a :: ls) (.ref a :: st) h := ap_aload rfl rfl
theorem u_X0_sign_33 : az_W C R k_X0_sign 33 ls (.ref 49 :: st) (130, az_Pf, I, L) ↔ az_W C R k_X0_sign 36 ls (.ref 53 :: st) (130, az_Pf, I, L) := ap_getP rfl kn_49 pf_49_4
theorem u_X0_sign_36 : az_W C R k_X0_sign 36 (.ref a :: ls) st h ↔ az_W C R k_X0_sign 37 (.ref a :: ls) (.ref a :: st) h := ap_aload rfl rfl
theorem u_X0_sign_37 : az_W C R k_X0_sign 37 ls (.ref 49 :: st) (130, P, I, L) ↔ az_W C R k_X0_sign 40 ls (.int (I 49 7) :: st) (130, P, I, L) := ap_getI rfl kn_49
theorem u_X0_sign_40 : az_W C R k_X0_sign 40 (v0 :: v1 :: v2 :: .int x :: ls) st h ↔ az_W C R k_X0_sign 41 (v0 :: v1 :: v2 :: .int x :: ls) (.int x :: st) h := ap_iload rfl rfl
theorem u_X0_sign_41 (hk : (az_kn 130 a).1 = 1) : az_W C R k_X0_sign 41 ls (.int y :: .int x :: .ref a :: st) (130, P, I, L) ↔ (az_in x (az_kn 130 a).2 ∧ az_W C R k_X0_sign 42 ls st (130, P, az_uI I a x.toNatClampNeg y, L)) := ap_iast rfl (az_k1 hk)
theorem u_X0_sign_42 : az_W C R k_X0_sign 42 (.ref a :: ls) st h ↔ az_W C R k_X0_sign 43 (.ref a :: ls) (.ref a :: st) h := ap_aload rfl rfl
theorem u_X0_sign_43 : az_W C R k_X0_sign 43 ls (.ref 49 :: st) (130, az_Pf, I, L) ↔ az_W C R k_X0_sign 46 ls (.ref 54 :: st) (130, az_Pf, I, L) := ap_getP rfl kn_49 pf_49_5
theorem u_X0_sign_46 : az_W C R k_X0_sign 46 (.ref a :: ls) st h ↔ az_W C R k_X0_sign 47 (.ref a :: ls) (.ref a :: st) h := ap_aload rfl rfl
theorem u_X0_sign_47 : az_W C R k_X0_sign 47 ls (.ref 49 :: st) (130, P, I, L) ↔ az_W C R k_X0_sign 50 ls (.int (I 49 7) :: st) (130, P, I, L) := ap_getI rfl kn_49
theorem u_X0_sign_50 : az_W C R k_X0_sign 50 (v0 :: v1 :: v2 :: v3 :: .int x :: ls) st h ↔ az_W C R k_X0_sign 52 (v0 :: v1 :: v2 :: v3 :: .int x :: ls) (.int x :: st) h := ap_iload rfl rfl
theorem u_X0_sign_52 (hk : (az_kn 130 a).1 = 1) : az_W C R k_X0_sign 52 ls (.int y :: .int x :: .ref a :: st) (130, P, I, L) ↔ (az_in x (az_kn 130 a).2 ∧ az_W C R k_X0_sign 53 ls st (130, P, az_uI I a x.toNatClampNeg y, L)) := ap_iast rfl (az_k1 hk)
theorem u_X0_sign_53 : az_W C R k_X0_sign 53 (.ref a :: ls) st h ↔ az_W C R k_X0_sign 54 (.ref a :: ls) (.ref a :: st) h := ap_aload rfl rfl
theorem u_X0_sign_54 : az_W C R k_X0_sign 54 ls (.ref 49 :: st) (130, az_Pf, I, L) ↔ az_W C R k_X0_sign 57 ls (.ref 55 :: st) (130, az_Pf, I, L) := ap_getP rfl kn_49 pf_49_6
theorem u_X0_sign_57 : az_W C R k_X0_sign 57 (.ref a :: ls) st h ↔ az_W C R k_X0_sign 58 (.ref a :: ls) (.ref a :: st) h := ap_aload rfl rfl
theorem u_X0_sign_58 : az_W C R k_X0_sign 58 ls (.ref 49 :: st) (130, P, I, L) ↔ az_W C R k_X0_sign 61 ls (.int (I 49 7) :: st) (130, P, I, L) := ap_getI rfl kn_49
theorem u_X0_sign_61 : az_W C R k_X0_sign 61 (v0 :: v1 :: v2 :: v3 :: v4 :: .int x :: ls) st h ↔ az_W C R k_X0_sign 63 (v0 :: v1 :: v2 :: v3 :: v4 :: .int x :: ls) (.int x :: st) h := ap_iload rfl rfl
theorem u_X0_sign_63 (hk : (az_kn 130 a).1 = 1) : az_W C R k_X0_sign 63 ls (.int y :: .int x :: .ref a :: st) (130, P, I, L) ↔ (az_in x (az_kn 130 a).2 ∧ az_W C R k_X0_sign 64 ls st (130, P, az_uI I a x.toNatClampNeg y, L)) := ap_iast rfl (az_k1 hk)
theorem u_X0_sign_64 : az_W C R k_X0_sign 64 (.ref a :: ls) st h ↔ az_W C R k_X0_sign 65 (.ref a :: ls) (.ref a :: st) h := ap_aload rfl rfl
theorem u_X0_sign_65 : az_W C R k_X0_sign 65 ls (.int x :: st) h ↔ az_W C R k_X0_sign 66 ls (.int x :: .int x :: st) h := ap_dupi rfl
theorem u_X0_sign_65r : az_W C R k_X0_sign 65 ls (.ref a :: st) h ↔ az_W C R k_X0_sign 66 ls (.ref a :: .ref a :: st) h := ap_dupr rfl
theorem u_X0_sign_66 : az_W C R k_X0_sign 66 ls (.ref 49 :: st) (130, P, I, L) ↔ az_W C R k_X0_sign 69 ls (.int (I 49 7) :: st) (130, P, I, L) := ap_getI rfl kn_49
theorem u_X0_sign_69 : az_W C R k_X0_sign 69 ls st h ↔ az_W C R k_X0_sign 70 ls (.int 1 :: st) h := ap_const rfl
theorem u_X0_sign_70 : az_W C R k_X0_sign 70 ls (.int y :: .int x :: st) h ↔ az_W C R k_X0_sign 71 ls (.int (x + y) :: st) h := ap_ii (f := fun x y => x + y) rfl
theorem u_X0_sign_71 : az_W C R k_X0_sign 71 ls (.int x :: .ref 49 :: st) (130, P, I, L) ↔ az_W C R k_X0_sign 74 ls st (130, P, az_uI I 49 7 x, L) := ap_putI rfl kn_49
theorem u_X0_sign_74 : az_W C R k_X0_sign 74 (.ref a :: ls) st h ↔ az_W C R k_X0_sign 75 (.ref a :: ls) (.ref a :: st) h := ap_aload rfl rfl
theorem u_X0_sign_75 : az_W C R k_X0_sign 75 ls (.ref 49 :: st) (130, P, I, L) ↔ az_W C R k_X0_sign 78 ls (.int (I 49 7) :: st) (130, P, I, L) := ap_getI rfl kn_49
theorem u_X0_sign_78 : az_W C R k_X0_sign 78 ls st h ↔ az_W C R k_X0_sign 79 ls (.int 1 :: st) h := ap_const rfl
theorem u_X0_sign_79 : az_W C R k_X0_sign 79 ls (.int y :: .int x :: st) h ↔ az_W C R k_X0_sign 80 ls (.int (x - y) :: st) h := ap_ii (f := fun x y => x - y) rfl
theorem u_X0_sign_80 : az_W C R k_X0_sign 80 ls [.int x] h ↔ R (some (.int x)) h := ap_iret rfl
def k_X0_deskGain : Nat → az_P := (az_br 16 (az_br 7 (az_br 2 (az_br 1 (az_lf 0 (az_const (.int 0) 1)) (az_lf 1 (az_istore 3 2))) (az_br 3 (az_lf 2 (az_const (.int 0) 3)) (az_br 5 (az_lf 3 (az_istore 4 5)) (az_lf 5 (az_iload 4 7))))) (az_br 11 (az_br 8 (az_lf 7 (az_aload 0 8)) (az_lf 8 (az_getI 0 7 11))) (az_br 14 (az_lf 11 (az_icge 31 14)) (az_br 15 (az_lf 14 (az_iload 3 15)) (az_lf 15 (az_aload 0 16)))))) (az_br 24 (az_br 19 (az_br 18 (az_lf 16 (az_iload 4 18)) (az_lf 18 (az_iload 1 19))) (az_br 20 (az_lf 19 (az_iload 2 20)) (az_br 23 (az_lf 20 (az_ivv 12 3 0 23)) (az_lf 23 (az_ii (fun x y => x + y) 24))))) (az_br 28 (az_br 25 (az_lf 24 (az_istore 3 25)) (az_lf 25 (az_iinc 4 1 28))) (az_br 31 (az_lf 28 (az_goto 5)) (az_br 32 (az_lf 31 (az_iload 3 32)) (az_lf 32 (az_iret)))))))
theorem u_X0_deskGain_0 : az_W C R k_X0_deskGain 0 ls st h ↔ az_W C R k_X0_deskGain 1 ls (.int 0 :: st) h := ap_const rfl
theorem u_X0_deskGain_1 : az_W C R k_X0_deskGain 1 (v0 :: v1 :: v2 :: v3 :: ls) (.int x :: st) h ↔ az_W C R k_X0_deskGain 2 (v0 :: v1 :: az_un v2 :: .int x :: ls) st h := ap_istore rfl rfl
theorem u_X0_deskGain_2 : az_W C R k_X0_deskGain 2 ls st h ↔ az_W C R k_X0_deskGain 3 ls (.int 0 :: st) h := ap_const rfl
theorem u_X0_deskGain_3 : az_W C R k_X0_deskGain 3 (v0 :: v1 :: v2 :: v3 :: v4 :: ls) (.int x :: st) h ↔ az_W C R k_X0_deskGain 5 (v0 :: v1 :: v2 :: az_un v3 :: .int x :: ls) st h := ap_istore rfl rfl
theorem u_X0_deskGain_5 : az_W C R k_X0_deskGain 5 (v0 :: v1 :: v2 :: v3 :: .int x :: ls) st h ↔ az_W C R k_X0_deskGain 7 (v0 :: v1 :: v2 :: v3 :: .int x :: ls) (.int x :: st) h := ap_iload rfl rfl
theorem u_X0_deskGain_7 : az_W C R k_X0_deskGain 7 (.ref a :: ls) st h ↔ az_W C R k_X0_deskGain 8 (.ref a :: ls) (.ref a :: st) h := ap_aload rfl rfl
theorem u_X0_deskGain_8 : az_W C R k_X0_deskGain 8 ls (.ref 49 :: st) (130, P, I, L) ↔ az_W C R k_X0_deskGain 11 ls (.int (I 49 7) :: st) (130, P, I, L) := ap_getI rfl kn_49
theorem u_X0_deskGain_11 : az_W C R k_X0_deskGain 11 ls (.int y :: .int x :: st) h ↔ if y ≤ x then az_W C R k_X0_deskGain 31 ls st h else az_W C R k_X0_deskGain 14 ls st h := ap_icge rfl
theorem u_X0_deskGain_14 : az_W C R k_X0_deskGain 14 (v0 :: v1 :: v2 :: .int x :: ls) st h ↔ az_W C R k_X0_deskGain 15 (v0 :: v1 :: v2 :: .int x :: ls) (.int x :: st) h := ap_iload rfl rfl
theorem u_X0_deskGain_15 : az_W C R k_X0_deskGain 15 (.ref a :: ls) st h ↔ az_W C R k_X0_deskGain 16 (.ref a :: ls) (.ref a :: st) h := ap_aload rfl rfl
theorem u_X0_deskGain_16 : az_W C R k_X0_deskGain 16 (v0 :: v1 :: v2 :: v3 :: .int x :: ls) st h ↔ az_W C R k_X0_deskGain 18 (v0 :: v1 :: v2 :: v3 :: .int x :: ls) (.int x :: st) h := ap_iload rfl rfl
theorem u_X0_deskGain_18 : az_W C R k_X0_deskGain 18 (v0 :: .int x :: ls) st h ↔ az_W C R k_X0_deskGain 19 (v0 :: .int x :: ls) (.int x :: st) h := ap_iload rfl rfl
theorem u_X0_deskGain_19 : az_W C R k_X0_deskGain 19 (v0 :: v1 :: .int x :: ls) st h ↔ az_W C R k_X0_deskGain 20 (v0 :: v1 :: .int x :: ls) (.int x :: st) h := ap_iload rfl rfl
theorem u_X0_deskGain_20 (hl : st.length ≤ 4) : az_W C R k_X0_deskGain 20 ls (v3 :: v2 :: v1 :: .ref 49 :: st) (130, P, I, L) ↔ az_F C R (az_W C R k_X0_deskGain) (130, P, I, L) (az_cl 12 [.ref 49, v1, v2, v3] 23 ls st) := ap_ivv rfl rfl kn_49 hl
theorem u_X0_deskGain_23 : az_W C R k_X0_deskGain 23 ls (.int y :: .int x :: st) h ↔ az_W C R k_X0_deskGain 24 ls (.int (x + y) :: st) h := ap_ii (f := fun x y => x + y) rfl
theorem u_X0_deskGain_24 : az_W C R k_X0_deskGain 24 (v0 :: v1 :: v2 :: v3 :: ls) (.int x :: st) h ↔ az_W C R k_X0_deskGain 25 (v0 :: v1 :: az_un v2 :: .int x :: ls) st h := ap_istore rfl rfl
theorem u_X0_deskGain_25 : az_W C R k_X0_deskGain 25 (v0 :: v1 :: v2 :: v3 :: .int x :: ls) st h ↔ az_W C R k_X0_deskGain 28 (v0 :: v1 :: v2 :: az_un v3 :: .int (x + 1) :: ls) st h := ap_iinc rfl rfl rfl
theorem u_X0_deskGain_28 : az_W C R k_X0_deskGain 28 ls st h ↔ az_W C R k_X0_deskGain 5 ls st h := ap_goto rfl
theorem u_X0_deskGain_31 : az_W C R k_X0_deskGain 31 (v0 :: v1 :: v2 :: .int x :: ls) st h ↔ az_W C R k_X0_deskGain 32 (v0 :: v1 :: v2 :: .int x :: ls) (.int x :: st) h := ap_iload rfl rfl
theorem u_X0_deskGain_32 : az_W C R k_X0_deskGain 32 ls [.int x] h ↔ R (some (.int x)) h := ap_iret rfl
def k_X0_houseGain : Nat → az_P := (az_br 48 (az_br 22 (az_br 8 (az_br 3 (az_br 1 (az_lf 0 (az_const (.int 0) 1)) (az_br 2 (az_lf 1 (az_istore 3 2)) (az_lf 2 (az_const (.int 0) 3)))) (az_br 5 (az_lf 3 (az_istore 4 5)) (az_br 7 (az_lf 5 (az_iload 4 7)) (az_lf 7 (az_aload 0 8))))) (az_br 15 (az_br 11 (az_lf 8 (az_getI 0 7 11)) (az_br 14 (az_lf 11 (az_icge 91 14)) (az_lf 14 (az_aload 0 15)))) (az_br 20 (az_br 18 (az_lf 15 (az_getP 0 4 18)) (az_lf 18 (az_iload 4 20))) (az_br 21 (az_lf 20 (az_iald 21)) (az_lf 21 (az_iload 2 22)))))) (az_br 36 (az_br 27 (az_br 25 (az_lf 22 (az_icne 85 25)) (az_br 26 (az_lf 25 (az_iload 3 26)) (az_lf 26 (az_aload 0 27)))) (az_br 31 (az_br 30 (az_lf 27 (az_getP 0 0 30)) (az_lf 30 (az_aload 0 31))) (az_br 34 (az_lf 31 (az_getP 0 2 34)) (az_lf 34 (az_iload 4 36))))) (az_br 39 (az_br 37 (az_lf 36 (az_iald 37)) (az_br 38 (az_lf 37 (az_iald 38)) (az_lf 38 (az_iload 1 39)))) (az_br 43 (az_br 42 (az_lf 39 (az_icne 52 42)) (az_lf 42 (az_aload 0 43))) (az_br 46 (az_lf 43 (az_getP 0 5 46)) (az_lf 46 (az_iload 4 48))))))) (az_br 68 (az_br 56 (az_br 53 (az_br 49 (az_lf 48 (az_iald 49)) (az_br 52 (az_lf 49 (az_goto 53)) (az_lf 52 (az_const (.int 0) 53)))) (az_br 54 (az_lf 53 (az_ii (fun x y => x + y) 54)) (az_br 55 (az_lf 54 (az_istore 3 55)) (az_lf 55 (az_iload 3 56))))) (az_br 61 (az_br 57 (az_lf 56 (az_aload 0 57)) (az_br 60 (az_lf 57 (az_getP 0 0 60)) (az_lf 60 (az_aload 0 61)))) (az_br 66 (az_br 64 (az_lf 61 (az_getP 0 3 64)) (az_lf 64 (az_iload 4 66))) (az_br 67 (az_lf 66 (az_iald 67)) (az_lf 67 (az_iald 68)))))) (az_br 82 (az_br 73 (az_br 69 (az_lf 68 (az_iload 1 69)) (az_br 72 (az_lf 69 (az_icne 82 72)) (az_lf 72 (az_aload 0 73)))) (az_br 78 (az_br 76 (az_lf 73 (az_getP 0 5 76)) (az_lf 76 (az_iload 4 78))) (az_br 79 (az_lf 78 (az_iald 79)) (az_lf 79 (az_goto 83))))) (az_br 85 (az_br 83 (az_lf 82 (az_const (.int 0) 83)) (az_br 84 (az_lf 83 (az_ii (fun x y => x - y) 84)) (az_lf 84 (az_istore 3 85)))) (az_br 91 (az_br 88 (az_lf 85 (az_iinc 4 1 88)) (az_lf 88 (az_goto 5))) (az_br 92 (az_lf 91 (az_iload 3 92)) (az_lf 92 (az_iret))))))))
theorem u_X0_houseGain_0 : az_W C R k_X0_houseGain 0 ls st h ↔ az_W C R k_X0_houseGain 1 ls (.int 0 :: st) h := ap_const rfl
theorem u_X0_houseGain_1 : az_W C R k_X0_houseGain 1 (v0 :: v1 :: v2 :: v3 :: ls) (.int x :: st) h ↔ az_W C R k_X0_houseGain 2 (v0 :: v1 :: az_un v2 :: .int x :: ls) st h := ap_istore rfl rfl
theorem u_X0_houseGain_2 : az_W C R k_X0_houseGain 2 ls st h ↔ az_W C R k_X0_houseGain 3 ls (.int 0 :: st) h := ap_const rfl
theorem u_X0_houseGain_3 : az_W C R k_X0_houseGain 3 (v0 :: v1 :: v2 :: v3 :: v4 :: ls) (.int x :: st) h ↔ az_W C R k_X0_houseGain 5 (v0 :: v1 :: v2 :: az_un v3 :: .int x :: ls) st h := ap_istore rfl rfl
theorem u_X0_houseGain_5 : az_W C R k_X0_houseGain 5 (v0 :: v1 :: v2 :: v3 :: .int x :: ls) st h ↔ az_W C R k_X0_houseGain 7 (v0 :: v1 :: v2 :: v3 :: .int x :: ls) (.int x :: st) h := ap_iload rfl rfl
theorem u_X0_houseGain_7 : az_W C R k_X0_houseGain 7 (.ref a :: ls) st h ↔ az_W C R k_X0_houseGain 8 (.ref a :: ls) (.ref a :: st) h := ap_aload rfl rfl
theorem u_X0_houseGain_8 : az_W C R k_X0_houseGain 8 ls (.ref 49 :: st) (130, P, I, L) ↔ az_W C R k_X0_houseGain 11 ls (.int (I 49 7) :: st) (130, P, I, L) := ap_getI rfl kn_49
theorem u_X0_houseGain_11 : az_W C R k_X0_houseGain 11 ls (.int y :: .int x :: st) h ↔ if y ≤ x then az_W C R k_X0_houseGain 91 ls st h else az_W C R k_X0_houseGain 14 ls st h := ap_icge rfl
theorem u_X0_houseGain_14 : az_W C R k_X0_houseGain 14 (.ref a :: ls) st h ↔ az_W C R k_X0_houseGain 15 (.ref a :: ls) (.ref a :: st) h := ap_aload rfl rfl
theorem u_X0_houseGain_15 : az_W C R k_X0_houseGain 15 ls (.ref 49 :: st) (130, az_Pf, I, L) ↔ az_W C R k_X0_houseGain 18 ls (.ref 53 :: st) (130, az_Pf, I, L) := ap_getP rfl kn_49 pf_49_4
theorem u_X0_houseGain_18 : az_W C R k_X0_houseGain 18 (v0 :: v1 :: v2 :: v3 :: .int x :: ls) st h ↔ az_W C R k_X0_houseGain 20 (v0 :: v1 :: v2 :: v3 :: .int x :: ls) (.int x :: st) h := ap_iload rfl rfl
theorem u_X0_houseGain_20 (hk : (az_kn 130 a).1 = 1) : az_W C R k_X0_houseGain 20 ls (.int x :: .ref a :: st) (130, P, I, L) ↔ (az_in x (az_kn 130 a).2 ∧ az_W C R k_X0_houseGain 21 ls (.int (I a x.toNatClampNeg) :: st) (130, P, I, L)) := ap_iald rfl (az_k1 hk)
theorem u_X0_houseGain_21 : az_W C R k_X0_houseGain 21 (v0 :: v1 :: .int x :: ls) st h ↔ az_W C R k_X0_houseGain 22 (v0 :: v1 :: .int x :: ls) (.int x :: st) h := ap_iload rfl rfl
theorem u_X0_houseGain_22 : az_W C R k_X0_houseGain 22 ls (.int y :: .int x :: st) h ↔ if x = y then az_W C R k_X0_houseGain 25 ls st h else az_W C R k_X0_houseGain 85 ls st h := ap_icne rfl
theorem u_X0_houseGain_25 : az_W C R k_X0_houseGain 25 (v0 :: v1 :: v2 :: .int x :: ls) st h ↔ az_W C R k_X0_houseGain 26 (v0 :: v1 :: v2 :: .int x :: ls) (.int x :: st) h := ap_iload rfl rfl
theorem u_X0_houseGain_26 : az_W C R k_X0_houseGain 26 (.ref a :: ls) st h ↔ az_W C R k_X0_houseGain 27 (.ref a :: ls) (.ref a :: st) h := ap_aload rfl rfl
theorem u_X0_houseGain_27 : az_W C R k_X0_houseGain 27 ls (.ref 49 :: st) (130, az_Pf, I, L) ↔ az_W C R k_X0_houseGain 30 ls (.ref 50 :: st) (130, az_Pf, I, L) := ap_getP rfl kn_49 pf_49_0
theorem u_X0_houseGain_30 : az_W C R k_X0_houseGain 30 (.ref a :: ls) st h ↔ az_W C R k_X0_houseGain 31 (.ref a :: ls) (.ref a :: st) h := ap_aload rfl rfl
theorem u_X0_houseGain_31 : az_W C R k_X0_houseGain 31 ls (.ref 49 :: st) (130, az_Pf, I, L) ↔ az_W C R k_X0_houseGain 34 ls (.ref 51 :: st) (130, az_Pf, I, L) := ap_getP rfl kn_49 pf_49_2
theorem u_X0_houseGain_34 : az_W C R k_X0_houseGain 34 (v0 :: v1 :: v2 :: v3 :: .int x :: ls) st h ↔ az_W C R k_X0_houseGain 36 (v0 :: v1 :: v2 :: v3 :: .int x :: ls) (.int x :: st) h := ap_iload rfl rfl
theorem u_X0_houseGain_36 (hk : (az_kn 130 a).1 = 1) : az_W C R k_X0_houseGain 36 ls (.int x :: .ref a :: st) (130, P, I, L) ↔ (az_in x (az_kn 130 a).2 ∧ az_W C R k_X0_houseGain 37 ls (.int (I a x.toNatClampNeg) :: st) (130, P, I, L)) := ap_iald rfl (az_k1 hk)
theorem u_X0_houseGain_37 (hk : (az_kn 130 a).1 = 1) : az_W C R k_X0_houseGain 37 ls (.int x :: .ref a :: st) (130, P, I, L) ↔ (az_in x (az_kn 130 a).2 ∧ az_W C R k_X0_houseGain 38 ls (.int (I a x.toNatClampNeg) :: st) (130, P, I, L)) := ap_iald rfl (az_k1 hk)
theorem u_X0_houseGain_38 : az_W C R k_X0_houseGain 38 (v0 :: .int x :: ls) st h ↔ az_W C R k_X0_houseGain 39 (v0 :: .int x :: ls) (.int x :: st) h := ap_iload rfl rfl
theorem u_X0_houseGain_39 : az_W C R k_X0_houseGain 39 ls (.int y :: .int x :: st) h ↔ if x = y then az_W C R k_X0_houseGain 42 ls st h else az_W C R k_X0_houseGain 52 ls st h := ap_icne rfl
theorem u_X0_houseGain_42 : az_W C R k_X0_houseGain 42 (.ref a :: ls) st h ↔ az_W C R k_X0_houseGain 43 (.ref a :: ls) (.ref a :: st) h := ap_aload rfl rfl
theorem u_X0_houseGain_43 : az_W C R k_X0_houseGain 43 ls (.ref 49 :: st) (130, az_Pf, I, L) ↔ az_W C R k_X0_houseGain 46 ls (.ref 54 :: st) (130, az_Pf, I, L) := ap_getP rfl kn_49 pf_49_5
theorem u_X0_houseGain_46 : az_W C R k_X0_houseGain 46 (v0 :: v1 :: v2 :: v3 :: .int x :: ls) st h ↔ az_W C R k_X0_houseGain 48 (v0 :: v1 :: v2 :: v3 :: .int x :: ls) (.int x :: st) h := ap_iload rfl rfl
theorem u_X0_houseGain_48 (hk : (az_kn 130 a).1 = 1) : az_W C R k_X0_houseGain 48 ls (.int x :: .ref a :: st) (130, P, I, L) ↔ (az_in x (az_kn 130 a).2 ∧ az_W C R k_X0_houseGain 49 ls (.int (I a x.toNatClampNeg) :: st) (130, P, I, L)) := ap_iald rfl (az_k1 hk)
theorem u_X0_houseGain_49 : az_W C R k_X0_houseGain 49 ls st h ↔ az_W C R k_X0_houseGain 53 ls st h := ap_goto rfl
theorem u_X0_houseGain_52 : az_W C R k_X0_houseGain 52 ls st h ↔ az_W C R k_X0_houseGain 53 ls (.int 0 :: st) h := ap_const rfl
theorem u_X0_houseGain_53 : az_W C R k_X0_houseGain 53 ls (.int y :: .int x :: st) h ↔ az_W C R k_X0_houseGain 54 ls (.int (x + y) :: st) h := ap_ii (f := fun x y => x + y) rfl
theorem u_X0_houseGain_54 : az_W C R k_X0_houseGain 54 (v0 :: v1 :: v2 :: v3 :: ls) (.int x :: st) h ↔ az_W C R k_X0_houseGain 55 (v0 :: v1 :: az_un v2 :: .int x :: ls) st h := ap_istore rfl rfl
theorem u_X0_houseGain_55 : az_W C R k_X0_houseGain 55 (v0 :: v1 :: v2 :: .int x :: ls) st h ↔ az_W C R k_X0_houseGain 56 (v0 :: v1 :: v2 :: .int x :: ls) (.int x :: st) h := ap_iload rfl rfl
theorem u_X0_houseGain_56 : az_W C R k_X0_houseGain 56 (.ref a :: ls) st h ↔ az_W C R k_X0_houseGain 57 (.ref a :: ls) (.ref a :: st) h := ap_aload rfl rfl
theorem u_X0_houseGain_57 : az_W C R k_X0_houseGain 57 ls (.ref 49 :: st) (130, az_Pf, I, L) ↔ az_W C R k_X0_houseGain 60 ls (.ref 50 :: st) (130, az_Pf, I, L) := ap_getP rfl kn_49 pf_49_0
theorem u_X0_houseGain_60 : az_W C R k_X0_houseGain 60 (.ref a :: ls) st h ↔ az_W C R k_X0_houseGain 61 (.ref a :: ls) (.ref a :: st) h := ap_aload rfl rfl
theorem u_X0_houseGain_61 : az_W C R k_X0_houseGain 61 ls (.ref 49 :: st) (130, az_Pf, I, L) ↔ az_W C R k_X0_houseGain 64 ls (.ref 52 :: st) (130, az_Pf, I, L) := ap_getP rfl kn_49 pf_49_3
theorem u_X0_houseGain_64 : az_W C R k_X0_houseGain 64 (v0 :: v1 :: v2 :: v3 :: .int x :: ls) st h ↔ az_W C R k_X0_houseGain 66 (v0 :: v1 :: v2 :: v3 :: .int x :: ls) (.int x :: st) h := ap_iload rfl rfl
theorem u_X0_houseGain_66 (hk : (az_kn 130 a).1 = 1) : az_W C R k_X0_houseGain 66 ls (.int x :: .ref a :: st) (130, P, I, L) ↔ (az_in x (az_kn 130 a).2 ∧ az_W C R k_X0_houseGain 67 ls (.int (I a x.toNatClampNeg) :: st) (130, P, I, L)) := ap_iald rfl (az_k1 hk)
theorem u_X0_houseGain_67 (hk : (az_kn 130 a).1 = 1) : az_W C R k_X0_houseGain 67 ls (.int x :: .ref a :: st) (130, P, I, L) ↔ (az_in x (az_kn 130 a).2 ∧ az_W C R k_X0_houseGain 68 ls (.int (I a x.toNatClampNeg) :: st) (130, P, I, L)) := ap_iald rfl (az_k1 hk)
theorem u_X0_houseGain_68 : az_W C R k_X0_houseGain 68 (v0 :: .int x :: ls) st h ↔ az_W C R k_X0_houseGain 69 (v0 :: .int x :: ls) (.int x :: st) h := ap_iload rfl rfl
theorem u_X0_houseGain_69 : az_W C R k_X0_houseGain 69 ls (.int y :: .int x :: st) h ↔ if x = y then az_W C R k_X0_houseGain 72 ls st h else az_W C R k_X0_houseGain 82 ls st h := ap_icne rfl
theorem u_X0_houseGain_72 : az_W C R k_X0_houseGain 72 (.ref a :: ls) st h ↔ az_W C R k_X0_houseGain 73 (.ref a :: ls) (.ref a :: st) h := ap_aload rfl rfl
theorem u_X0_houseGain_73 : az_W C R k_X0_houseGain 73 ls (.ref 49 :: st) (130, az_Pf, I, L) ↔ az_W C R k_X0_houseGain 76 ls (.ref 54 :: st) (130, az_Pf, I, L) := ap_getP rfl kn_49 pf_49_5
theorem u_X0_houseGain_76 : az_W C R k_X0_houseGain 76 (v0 :: v1 :: v2 :: v3 :: .int x :: ls) st h ↔ az_W C R k_X0_houseGain 78 (v0 :: v1 :: v2 :: v3 :: .int x :: ls) (.int x :: st) h := ap_iload rfl rfl
theorem u_X0_houseGain_78 (hk : (az_kn 130 a).1 = 1) : az_W C R k_X0_houseGain 78 ls (.int x :: .ref a :: st) (130, P, I, L) ↔ (az_in x (az_kn 130 a).2 ∧ az_W C R k_X0_houseGain 79 ls (.int (I a x.toNatClampNeg) :: st) (130, P, I, L)) := ap_iald rfl (az_k1 hk)
theorem u_X0_houseGain_79 : az_W C R k_X0_houseGain 79 ls st h ↔ az_W C R k_X0_houseGain 83 ls st h := ap_goto rfl
theorem u_X0_houseGain_82 : az_W C R k_X0_houseGain 82 ls st h ↔ az_W C R k_X0_houseGain 83 ls (.int 0 :: st) h := ap_const rfl
theorem u_X0_houseGain_83 : az_W C R k_X0_houseGain 83 ls (.int y :: .int x :: st) h ↔ az_W C R k_X0_houseGain 84 ls (.int (x - y) :: st) h := ap_ii (f := fun x y => x - y) rfl
theorem u_X0_houseGain_84 : az_W C R k_X0_houseGain 84 (v0 :: v1 :: v2 :: v3 :: ls) (.int x :: st) h ↔ az_W C R k_X0_houseGain 85 (v0 :: v1 :: az_un v2 :: .int x :: ls) st h := ap_istore rfl rfl
theorem u_X0_houseGain_85 : az_W C R k_X0_houseGain 85 (v0 :: v1 :: v2 :: v3 :: .int x :: ls) st h ↔ az_W C R k_X0_houseGain 88 (v0 :: v1 :: v2 :: az_un v3 :: .int (x + 1) :: ls) st h := ap_iinc rfl rfl rfl
theorem u_X0_houseGain_88 : az_W C R k_X0_houseGain 88 ls st h ↔ az_W C R k_X0_houseGain 5 ls st h := ap_goto rfl
theorem u_X0_houseGain_91 : az_W C R k_X0_houseGain 91 (v0 :: v1 :: v2 :: .int x :: ls) st h ↔ az_W C R k_X0_houseGain 92 (v0 :: v1 :: v2 :: .int x :: ls) (.int x :: st) h := ap_iload rfl rfl
theorem u_X0_houseGain_92 : az_W C R k_X0_houseGain 92 ls [.int x] h ↔ R (some (.int x)) h := ap_iret rfl
def k_X0_strikeSum : Nat → az_P := (az_br 19 (az_br 8 (az_br 3 (az_br 1 (az_lf 0 (az_const (.int 0) 1)) (az_br 2 (az_lf 1 (az_istore 3 2)) (az_lf 2 (az_const (.int 0) 3)))) (az_br 5 (az_lf 3 (az_istore 4 5)) (az_br 7 (az_lf 5 (az_iload 4 7)) (az_lf 7 (az_aload 0 8))))) (az_br 15 (az_br 11 (az_lf 8 (az_getI 0 7 11)) (az_br 14 (az_lf 11 (az_icge 39 14)) (az_lf 14 (az_iload 3 15)))) (az_br 16 (az_lf 15 (az_aload 0 16)) (az_br 18 (az_lf 16 (az_iload 4 18)) (az_lf 18 (az_iload 1 19)))))) (az_br 30 (az_br 24 (az_br 20 (az_lf 19 (az_iload 2 20)) (az_br 23 (az_lf 20 (az_ivv 12 3 0 23)) (az_lf 23 (az_aload 0 24)))) (az_br 27 (az_lf 24 (az_getP 0 6 27)) (az_br 29 (az_lf 27 (az_iload 4 29)) (az_lf 29 (az_iald 30))))) (az_br 33 (az_br 31 (az_lf 30 (az_ii (fun x y => x * y) 31)) (az_br 32 (az_lf 31 (az_ii (fun x y => x + y) 32)) (az_lf 32 (az_istore 3 33)))) (az_br 39 (az_br 36 (az_lf 33 (az_iinc 4 1 36)) (az_lf 36 (az_goto 5))) (az_br 40 (az_lf 39 (az_iload 3 40)) (az_lf 40 (az_iret)))))))
theorem u_X0_strikeSum_0 : az_W C R k_X0_strikeSum 0 ls st h ↔ az_W C R k_X0_strikeSum 1 ls (.int 0 :: st) h := ap_const rfl
theorem u_X0_strikeSum_1 : az_W C R k_X0_strikeSum 1 (v0 :: v1 :: v2 :: v3 :: ls) (.int x :: st) h ↔ az_W C R k_X0_strikeSum 2 (v0 :: v1 :: az_un v2 :: .int x :: ls) st h := ap_istore rfl rfl
theorem u_X0_strikeSum_2 : az_W C R k_X0_strikeSum 2 ls st h ↔ az_W C R k_X0_strikeSum 3 ls (.int 0 :: st) h := ap_const rfl
theorem u_X0_strikeSum_3 : az_W C R k_X0_strikeSum 3 (v0 :: v1 :: v2 :: v3 :: v4 :: ls) (.int x :: st) h ↔ az_W C R k_X0_strikeSum 5 (v0 :: v1 :: v2 :: az_un v3 :: .int x :: ls) st h := ap_istore rfl rfl
theorem u_X0_strikeSum_5 : az_W C R k_X0_strikeSum 5 (v0 :: v1 :: v2 :: v3 :: .int x :: ls) st h ↔ az_W C R k_X0_strikeSum 7 (v0 :: v1 :: v2 :: v3 :: .int x :: ls) (.int x :: st) h := ap_iload rfl rfl
theorem u_X0_strikeSum_7 : az_W C R k_X0_strikeSum 7 (.ref a :: ls) st h ↔ az_W C R k_X0_strikeSum 8 (.ref a :: ls) (.ref a :: st) h := ap_aload rfl rfl
theorem u_X0_strikeSum_8 : az_W C R k_X0_strikeSum 8 ls (.ref 49 :: st) (130, P, I, L) ↔ az_W C R k_X0_strikeSum 11 ls (.int (I 49 7) :: st) (130, P, I, L) := ap_getI rfl kn_49
theorem u_X0_strikeSum_11 : az_W C R k_X0_strikeSum 11 ls (.int y :: .int x :: st) h ↔ if y ≤ x then az_W C R k_X0_strikeSum 39 ls st h else az_W C R k_X0_strikeSum 14 ls st h := ap_icge rfl
theorem u_X0_strikeSum_14 : az_W C R k_X0_strikeSum 14 (v0 :: v1 :: v2 :: .int x :: ls) st h ↔ az_W C R k_X0_strikeSum 15 (v0 :: v1 :: v2 :: .int x :: ls) (.int x :: st) h := ap_iload rfl rfl
theorem u_X0_strikeSum_15 : az_W C R k_X0_strikeSum 15 (.ref a :: ls) st h ↔ az_W C R k_X0_strikeSum 16 (.ref a :: ls) (.ref a :: st) h := ap_aload rfl rfl
theorem u_X0_strikeSum_16 : az_W C R k_X0_strikeSum 16 (v0 :: v1 :: v2 :: v3 :: .int x :: ls) st h ↔ az_W C R k_X0_strikeSum 18 (v0 :: v1 :: v2 :: v3 :: .int x :: ls) (.int x :: st) h := ap_iload rfl rfl
theorem u_X0_strikeSum_18 : az_W C R k_X0_strikeSum 18 (v0 :: .int x :: ls) st h ↔ az_W C R k_X0_strikeSum 19 (v0 :: .int x :: ls) (.int x :: st) h := ap_iload rfl rfl
theorem u_X0_strikeSum_19 : az_W C R k_X0_strikeSum 19 (v0 :: v1 :: .int x :: ls) st h ↔ az_W C R k_X0_strikeSum 20 (v0 :: v1 :: .int x :: ls) (.int x :: st) h := ap_iload rfl rfl
theorem u_X0_strikeSum_20 (hl : st.length ≤ 4) : az_W C R k_X0_strikeSum 20 ls (v3 :: v2 :: v1 :: .ref 49 :: st) (130, P, I, L) ↔ az_F C R (az_W C R k_X0_strikeSum) (130, P, I, L) (az_cl 12 [.ref 49, v1, v2, v3] 23 ls st) := ap_ivv rfl rfl kn_49 hl
theorem u_X0_strikeSum_23 : az_W C R k_X0_strikeSum 23 (.ref a :: ls) st h ↔ az_W C R k_X0_strikeSum 24 (.ref a :: ls) (.ref a :: st) h := ap_aload rfl rfl
theorem u_X0_strikeSum_24 : az_W C R k_X0_strikeSum 24 ls (.ref 49 :: st) (130, az_Pf, I, L) ↔ az_W C R k_X0_strikeSum 27 ls (.ref 55 :: st) (130, az_Pf, I, L) := ap_getP rfl kn_49 pf_49_6
theorem u_X0_strikeSum_27 : az_W C R k_X0_strikeSum 27 (v0 :: v1 :: v2 :: v3 :: .int x :: ls) st h ↔ az_W C R k_X0_strikeSum 29 (v0 :: v1 :: v2 :: v3 :: .int x :: ls) (.int x :: st) h := ap_iload rfl rfl
theorem u_X0_strikeSum_29 (hk : (az_kn 130 a).1 = 1) : az_W C R k_X0_strikeSum 29 ls (.int x :: .ref a :: st) (130, P, I, L) ↔ (az_in x (az_kn 130 a).2 ∧ az_W C R k_X0_strikeSum 30 ls (.int (I a x.toNatClampNeg) :: st) (130, P, I, L)) := ap_iald rfl (az_k1 hk)
theorem u_X0_strikeSum_30 : az_W C R k_X0_strikeSum 30 ls (.int y :: .int x :: st) h ↔ az_W C R k_X0_strikeSum 31 ls (.int (x * y) :: st) h := ap_ii (f := fun x y => x * y) rfl
theorem u_X0_strikeSum_31 : az_W C R k_X0_strikeSum 31 ls (.int y :: .int x :: st) h ↔ az_W C R k_X0_strikeSum 32 ls (.int (x + y) :: st) h := ap_ii (f := fun x y => x + y) rfl
theorem u_X0_strikeSum_32 : az_W C R k_X0_strikeSum 32 (v0 :: v1 :: v2 :: v3 :: ls) (.int x :: st) h ↔ az_W C R k_X0_strikeSum 33 (v0 :: v1 :: az_un v2 :: .int x :: ls) st h := ap_istore rfl rfl
theorem u_X0_strikeSum_33 : az_W C R k_X0_strikeSum 33 (v0 :: v1 :: v2 :: v3 :: .int x :: ls) st h ↔ az_W C R k_X0_strikeSum 36 (v0 :: v1 :: v2 :: az_un v3 :: .int (x + 1) :: ls) st h := ap_iinc rfl rfl rfl
theorem u_X0_strikeSum_36 : az_W C R k_X0_strikeSum 36 ls st h ↔ az_W C R k_X0_strikeSum 5 ls st h := ap_goto rfl
theorem u_X0_strikeSum_39 : az_W C R k_X0_strikeSum 39 (v0 :: v1 :: v2 :: .int x :: ls) st h ↔ az_W C R k_X0_strikeSum 40 (v0 :: v1 :: v2 :: .int x :: ls) (.int x :: st) h := ap_iload rfl rfl
theorem u_X0_strikeSum_40 : az_W C R k_X0_strikeSum 40 ls [.int x] h ↔ R (some (.int x)) h := ap_iret rfl
def k_X0_housesGaining : Nat → az_P := (az_br 25 (az_br 11 (az_br 3 (az_br 1 (az_lf 0 (az_const (.int 0) 1)) (az_br 2 (az_lf 1 (az_istore 3 2)) (az_lf 2 (az_const (.int 0) 3)))) (az_br 7 (az_br 5 (az_lf 3 (az_istore 4 5)) (az_lf 5 (az_iload 4 7))) (az_br 8 (az_lf 7 (az_aload 0 8)) (az_lf 8 (az_getI 0 1 11))))) (az_br 17 (az_br 14 (az_lf 11 (az_icge 46 14)) (az_br 15 (az_lf 14 (az_aload 0 15)) (az_lf 15 (az_iload 4 17)))) (az_br 21 (az_br 18 (az_lf 17 (az_iload 1 18)) (az_lf 18 (az_ivv 8 2 0 21))) (az_br 24 (az_lf 21 (az_ivs 211 1 24)) (az_lf 24 (az_iload 2 25)))))) (az_br 37 (az_br 30 (az_br 28 (az_lf 25 (az_icne 40 28)) (az_br 29 (az_lf 28 (az_iload 3 29)) (az_lf 29 (az_const (.int 1) 30)))) (az_br 34 (az_br 31 (az_lf 30 (az_aload 0 31)) (az_lf 31 (az_getP 0 0 34))) (az_br 36 (az_lf 34 (az_iload 4 36)) (az_lf 36 (az_iald 37))))) (az_br 40 (az_br 38 (az_lf 37 (az_ii (fun x y => x <<< (y &&& 31)) 38)) (az_br 39 (az_lf 38 (az_ii (fun x y => x ||| y) 39)) (az_lf 39 (az_istore 3 40)))) (az_br 46 (az_br 43 (az_lf 40 (az_iinc 4 1 43)) (az_lf 43 (az_goto 5))) (az_br 47 (az_lf 46 (az_iload 3 47)) (az_lf 47 (az_iret)))))))
theorem u_X0_housesGaining_0 : az_W C R k_X0_housesGaining 0 ls st h ↔ az_W C R k_X0_housesGaining 1 ls (.int 0 :: st) h := ap_const rfl
theorem u_X0_housesGaining_1 : az_W C R k_X0_housesGaining 1 (v0 :: v1 :: v2 :: v3 :: ls) (.int x :: st) h ↔ az_W C R k_X0_housesGaining 2 (v0 :: v1 :: az_un v2 :: .int x :: ls) st h := ap_istore rfl rfl
theorem u_X0_housesGaining_2 : az_W C R k_X0_housesGaining 2 ls st h ↔ az_W C R k_X0_housesGaining 3 ls (.int 0 :: st) h := ap_const rfl
theorem u_X0_housesGaining_3 : az_W C R k_X0_housesGaining 3 (v0 :: v1 :: v2 :: v3 :: v4 :: ls) (.int x :: st) h ↔ az_W C R k_X0_housesGaining 5 (v0 :: v1 :: v2 :: az_un v3 :: .int x :: ls) st h := ap_istore rfl rfl
theorem u_X0_housesGaining_5 : az_W C R k_X0_housesGaining 5 (v0 :: v1 :: v2 :: v3 :: .int x :: ls) st h ↔ az_W C R k_X0_housesGaining 7 (v0 :: v1 :: v2 :: v3 :: .int x :: ls) (.int x :: st) h := ap_iload rfl rfl
theorem u_X0_housesGaining_7 : az_W C R k_X0_housesGaining 7 (.ref a :: ls) st h ↔ az_W C R k_X0_housesGaining 8 (.ref a :: ls) (.ref a :: st) h := ap_aload rfl rfl
theorem u_X0_housesGaining_8 : az_W C R k_X0_housesGaining 8 ls (.ref 49 :: st) (130, P, I, L) ↔ az_W C R k_X0_housesGaining 11 ls (.int (I 49 1) :: st) (130, P, I, L) := ap_getI rfl kn_49
theorem u_X0_housesGaining_11 : az_W C R k_X0_housesGaining 11 ls (.int y :: .int x :: st) h ↔ if y ≤ x then az_W C R k_X0_housesGaining 46 ls st h else az_W C R k_X0_housesGaining 14 ls st h := ap_icge rfl
theorem u_X0_housesGaining_14 : az_W C R k_X0_housesGaining 14 (.ref a :: ls) st h ↔ az_W C R k_X0_housesGaining 15 (.ref a :: ls) (.ref a :: st) h := ap_aload rfl rfl
theorem u_X0_housesGaining_15 : az_W C R k_X0_housesGaining 15 (v0 :: v1 :: v2 :: v3 :: .int x :: ls) st h ↔ az_W C R k_X0_housesGaining 17 (v0 :: v1 :: v2 :: v3 :: .int x :: ls) (.int x :: st) h := ap_iload rfl rfl
theorem u_X0_housesGaining_17 : az_W C R k_X0_housesGaining 17 (v0 :: .int x :: ls) st h ↔ az_W C R k_X0_housesGaining 18 (v0 :: .int x :: ls) (.int x :: st) h := ap_iload rfl rfl
theorem u_X0_housesGaining_18 (hl : st.length ≤ 4) : az_W C R k_X0_housesGaining 18 ls (v2 :: v1 :: .ref 49 :: st) (130, P, I, L) ↔ az_F C R (az_W C R k_X0_housesGaining) (130, P, I, L) (az_cl 8 [.ref 49, v1, v2] 21 ls st) := ap_ivv rfl rfl kn_49 hl
theorem u_X0_housesGaining_21 (hl : st.length ≤ 4) : az_W C R k_X0_housesGaining 21 ls (v1 :: st) h ↔ az_F C R (az_W C R k_X0_housesGaining) h (az_cl 211 [v1] 24 ls st) := ap_ivs rfl rfl hl
theorem u_X0_housesGaining_24 : az_W C R k_X0_housesGaining 24 (v0 :: v1 :: .int x :: ls) st h ↔ az_W C R k_X0_housesGaining 25 (v0 :: v1 :: .int x :: ls) (.int x :: st) h := ap_iload rfl rfl
theorem u_X0_housesGaining_25 : az_W C R k_X0_housesGaining 25 ls (.int y :: .int x :: st) h ↔ if x = y then az_W C R k_X0_housesGaining 28 ls st h else az_W C R k_X0_housesGaining 40 ls st h := ap_icne rfl
theorem u_X0_housesGaining_28 : az_W C R k_X0_housesGaining 28 (v0 :: v1 :: v2 :: .int x :: ls) st h ↔ az_W C R k_X0_housesGaining 29 (v0 :: v1 :: v2 :: .int x :: ls) (.int x :: st) h := ap_iload rfl rfl
theorem u_X0_housesGaining_29 : az_W C R k_X0_housesGaining 29 ls st h ↔ az_W C R k_X0_housesGaining 30 ls (.int 1 :: st) h := ap_const rfl
theorem u_X0_housesGaining_30 : az_W C R k_X0_housesGaining 30 (.ref a :: ls) st h ↔ az_W C R k_X0_housesGaining 31 (.ref a :: ls) (.ref a :: st) h := ap_aload rfl rfl
theorem u_X0_housesGaining_31 : az_W C R k_X0_housesGaining 31 ls (.ref 49 :: st) (130, az_Pf, I, L) ↔ az_W C R k_X0_housesGaining 34 ls (.ref 50 :: st) (130, az_Pf, I, L) := ap_getP rfl kn_49 pf_49_0
theorem u_X0_housesGaining_34 : az_W C R k_X0_housesGaining 34 (v0 :: v1 :: v2 :: v3 :: .int x :: ls) st h ↔ az_W C R k_X0_housesGaining 36 (v0 :: v1 :: v2 :: v3 :: .int x :: ls) (.int x :: st) h := ap_iload rfl rfl
theorem u_X0_housesGaining_36 (hk : (az_kn 130 a).1 = 1) : az_W C R k_X0_housesGaining 36 ls (.int x :: .ref a :: st) (130, P, I, L) ↔ (az_in x (az_kn 130 a).2 ∧ az_W C R k_X0_housesGaining 37 ls (.int (I a x.toNatClampNeg) :: st) (130, P, I, L)) := ap_iald rfl (az_k1 hk)
theorem u_X0_housesGaining_37 : az_W C R k_X0_housesGaining 37 ls (.int y :: .int x :: st) h ↔ az_W C R k_X0_housesGaining 38 ls (.int (x <<< (y &&& 31)) :: st) h := ap_ii (f := fun x y => x <<< (y &&& 31)) rfl
theorem u_X0_housesGaining_38 : az_W C R k_X0_housesGaining 38 ls (.int y :: .int x :: st) h ↔ az_W C R k_X0_housesGaining 39 ls (.int (x ||| y) :: st) h := ap_ii (f := fun x y => x ||| y) rfl
theorem u_X0_housesGaining_39 : az_W C R k_X0_housesGaining 39 (v0 :: v1 :: v2 :: v3 :: ls) (.int x :: st) h ↔ az_W C R k_X0_housesGaining 40 (v0 :: v1 :: az_un v2 :: .int x :: ls) st h := ap_istore rfl rfl
theorem u_X0_housesGaining_40 : az_W C R k_X0_housesGaining 40 (v0 :: v1 :: v2 :: v3 :: .int x :: ls) st h ↔ az_W C R k_X0_housesGaining 43 (v0 :: v1 :: v2 :: az_un v3 :: .int (x + 1) :: ls) st h := ap_iinc rfl rfl rfl
theorem u_X0_housesGaining_43 : az_W C R k_X0_housesGaining 43 ls st h ↔ az_W C R k_X0_housesGaining 5 ls st h := ap_goto rfl
theorem u_X0_housesGaining_46 : az_W C R k_X0_housesGaining 46 (v0 :: v1 :: v2 :: .int x :: ls) st h ↔ az_W C R k_X0_housesGaining 47 (v0 :: v1 :: v2 :: .int x :: ls) (.int x :: st) h := ap_iload rfl rfl
theorem u_X0_housesGaining_47 : az_W C R k_X0_housesGaining 47 ls [.int x] h ↔ R (some (.int x)) h := ap_iret rfl
def k_X0_signedSize : Nat → az_P := (az_br 26 (az_br 12 (az_br 6 (az_br 4 (az_br 1 (az_lf 0 (az_aload 0 1)) (az_lf 1 (az_getP 0 4 4))) (az_br 5 (az_lf 4 (az_iload 1 5)) (az_lf 5 (az_iald 6)))) (az_br 10 (az_br 7 (az_lf 6 (az_iload 3 7)) (az_lf 7 (az_iceq 12 10))) (az_br 11 (az_lf 10 (az_const (.int 0) 11)) (az_lf 11 (az_iret))))) (az_br 18 (az_br 16 (az_br 13 (az_lf 12 (az_aload 0 13)) (az_lf 13 (az_getP 0 2 16))) (az_br 17 (az_lf 16 (az_iload 1 17)) (az_lf 17 (az_iald 18)))) (az_br 22 (az_br 19 (az_lf 18 (az_iload 2 19)) (az_lf 19 (az_icne 29 22))) (az_br 23 (az_lf 22 (az_aload 0 23)) (az_lf 23 (az_getP 0 5 26)))))) (az_br 36 (az_br 30 (az_br 28 (az_br 27 (az_lf 26 (az_iload 1 27)) (az_lf 27 (az_iald 28))) (az_br 29 (az_lf 28 (az_iret)) (az_lf 29 (az_aload 0 30)))) (az_br 34 (az_br 33 (az_lf 30 (az_getP 0 3 33)) (az_lf 33 (az_iload 1 34))) (az_br 35 (az_lf 34 (az_iald 35)) (az_lf 35 (az_iload 2 36))))) (az_br 44 (az_br 40 (az_br 39 (az_lf 36 (az_icne 49 39)) (az_lf 39 (az_aload 0 40))) (az_br 43 (az_lf 40 (az_getP 0 5 43)) (az_lf 43 (az_iload 1 44)))) (az_br 46 (az_br 45 (az_lf 44 (az_iald 45)) (az_lf 45 (az_i (fun x => -x) 46))) (az_br 49 (az_lf 46 (az_goto 50)) (az_br 50 (az_lf 49 (az_const (.int 0) 50)) (az_lf 50 (az_iret))))))))
theorem u_X0_signedSize_0 : az_W C R k_X0_signedSize 0 (.ref a :: ls) st h ↔ az_W C R k_X0_signedSize 1 (.ref a :: ls) (.ref a :: st) h := ap_aload rfl rfl
theorem u_X0_signedSize_1 : az_W C R k_X0_signedSize 1 ls (.ref 49 :: st) (130, az_Pf, I, L) ↔ az_W C R k_X0_signedSize 4 ls (.ref 53 :: st) (130, az_Pf, I, L) := ap_getP rfl kn_49 pf_49_4
theorem u_X0_signedSize_4 : az_W C R k_X0_signedSize 4 (v0 :: .int x :: ls) st h ↔ az_W C R k_X0_signedSize 5 (v0 :: .int x :: ls) (.int x :: st) h := ap_iload rfl rfl
theorem u_X0_signedSize_5 (hk : (az_kn 130 a).1 = 1) : az_W C R k_X0_signedSize 5 ls (.int x :: .ref a :: st) (130, P, I, L) ↔ (az_in x (az_kn 130 a).2 ∧ az_W C R k_X0_signedSize 6 ls (.int (I a x.toNatClampNeg) :: st) (130, P, I, L)) := ap_iald rfl (az_k1 hk)
theorem u_X0_signedSize_6 : az_W C R k_X0_signedSize 6 (v0 :: v1 :: v2 :: .int x :: ls) st h ↔ az_W C R k_X0_signedSize 7 (v0 :: v1 :: v2 :: .int x :: ls) (.int x :: st) h := ap_iload rfl rfl
theorem u_X0_signedSize_7 : az_W C R k_X0_signedSize 7 ls (.int y :: .int x :: st) h ↔ if x = y then az_W C R k_X0_signedSize 12 ls st h else az_W C R k_X0_signedSize 10 ls st h := ap_iceq rfl
theorem u_X0_signedSize_10 : az_W C R k_X0_signedSize 10 ls st h ↔ az_W C R k_X0_signedSize 11 ls (.int 0 :: st) h := ap_const rfl
theorem u_X0_signedSize_11 : az_W C R k_X0_signedSize 11 ls [.int x] h ↔ R (some (.int x)) h := ap_iret rfl
theorem u_X0_signedSize_12 : az_W C R k_X0_signedSize 12 (.ref a :: ls) st h ↔ az_W C R k_X0_signedSize 13 (.ref a :: ls) (.ref a :: st) h := ap_aload rfl rfl
theorem u_X0_signedSize_13 : az_W C R k_X0_signedSize 13 ls (.ref 49 :: st) (130, az_Pf, I, L) ↔ az_W C R k_X0_signedSize 16 ls (.ref 51 :: st) (130, az_Pf, I, L) := ap_getP rfl kn_49 pf_49_2
theorem u_X0_signedSize_16 : az_W C R k_X0_signedSize 16 (v0 :: .int x :: ls) st h ↔ az_W C R k_X0_signedSize 17 (v0 :: .int x :: ls) (.int x :: st) h := ap_iload rfl rfl
theorem u_X0_signedSize_17 (hk : (az_kn 130 a).1 = 1) : az_W C R k_X0_signedSize 17 ls (.int x :: .ref a :: st) (130, P, I, L) ↔ (az_in x (az_kn 130 a).2 ∧ az_W C R k_X0_signedSize 18 ls (.int (I a x.toNatClampNeg) :: st) (130, P, I, L)) := ap_iald rfl (az_k1 hk)
theorem u_X0_signedSize_18 : az_W C R k_X0_signedSize 18 (v0 :: v1 :: .int x :: ls) st h ↔ az_W C R k_X0_signedSize 19 (v0 :: v1 :: .int x :: ls) (.int x :: st) h := ap_iload rfl rfl
theorem u_X0_signedSize_19 : az_W C R k_X0_signedSize 19 ls (.int y :: .int x :: st) h ↔ if x = y then az_W C R k_X0_signedSize 22 ls st h else az_W C R k_X0_signedSize 29 ls st h := ap_icne rfl
theorem u_X0_signedSize_22 : az_W C R k_X0_signedSize 22 (.ref a :: ls) st h ↔ az_W C R k_X0_signedSize 23 (.ref a :: ls) (.ref a :: st) h := ap_aload rfl rfl
theorem u_X0_signedSize_23 : az_W C R k_X0_signedSize 23 ls (.ref 49 :: st) (130, az_Pf, I, L) ↔ az_W C R k_X0_signedSize 26 ls (.ref 54 :: st) (130, az_Pf, I, L) := ap_getP rfl kn_49 pf_49_5
theorem u_X0_signedSize_26 : az_W C R k_X0_signedSize 26 (v0 :: .int x :: ls) st h ↔ az_W C R k_X0_signedSize 27 (v0 :: .int x :: ls) (.int x :: st) h := ap_iload rfl rfl
theorem u_X0_signedSize_27 (hk : (az_kn 130 a).1 = 1) : az_W C R k_X0_signedSize 27 ls (.int x :: .ref a :: st) (130, P, I, L) ↔ (az_in x (az_kn 130 a).2 ∧ az_W C R k_X0_signedSize 28 ls (.int (I a x.toNatClampNeg) :: st) (130, P, I, L)) := ap_iald rfl (az_k1 hk)
theorem u_X0_signedSize_28 : az_W C R k_X0_signedSize 28 ls [.int x] h ↔ R (some (.int x)) h := ap_iret rfl
theorem u_X0_signedSize_29 : az_W C R k_X0_signedSize 29 (.ref a :: ls) st h ↔ az_W C R k_X0_signedSize 30 (.ref a :: ls) (.ref a :: st) h := ap_aload rfl rfl
theorem u_X0_signedSize_30 : az_W C R k_X0_signedSize 30 ls (.ref 49 :: st) (130, az_Pf, I, L) ↔ az_W C R k_X0_signedSize 33 ls (.ref 52 :: st) (130, az_Pf, I, L) := ap_getP rfl kn_49 pf_49_3
theorem u_X0_signedSize_33 : az_W C R k_X0_signedSize 33 (v0 :: .int x :: ls) st h ↔ az_W C R k_X0_signedSize 34 (v0 :: .int x :: ls) (.int x :: st) h := ap_iload rfl rfl
theorem u_X0_signedSize_34 (hk : (az_kn 130 a).1 = 1) : az_W C R k_X0_signedSize 34 ls (.int x :: .ref a :: st) (130, P, I, L) ↔ (az_in x (az_kn 130 a).2 ∧ az_W C R k_X0_signedSize 35 ls (.int (I a x.toNatClampNeg) :: st) (130, P, I, L)) := ap_iald rfl (az_k1 hk)
theorem u_X0_signedSize_35 : az_W C R k_X0_signedSize 35 (v0 :: v1 :: .int x :: ls) st h ↔ az_W C R k_X0_signedSize 36 (v0 :: v1 :: .int x :: ls) (.int x :: st) h := ap_iload rfl rfl
theorem u_X0_signedSize_36 : az_W C R k_X0_signedSize 36 ls (.int y :: .int x :: st) h ↔ if x = y then az_W C R k_X0_signedSize 39 ls st h else az_W C R k_X0_signedSize 49 ls st h := ap_icne rfl
theorem u_X0_signedSize_39 : az_W C R k_X0_signedSize 39 (.ref a :: ls) st h ↔ az_W C R k_X0_signedSize 40 (.ref a :: ls) (.ref a :: st) h := ap_aload rfl rfl
theorem u_X0_signedSize_40 : az_W C R k_X0_signedSize 40 ls (.ref 49 :: st) (130, az_Pf, I, L) ↔ az_W C R k_X0_signedSize 43 ls (.ref 54 :: st) (130, az_Pf, I, L) := ap_getP rfl kn_49 pf_49_5
theorem u_X0_signedSize_43 : az_W C R k_X0_signedSize 43 (v0 :: .int x :: ls) st h ↔ az_W C R k_X0_signedSize 44 (v0 :: .int x :: ls) (.int x :: st) h := ap_iload rfl rfl
theorem u_X0_signedSize_44 (hk : (az_kn 130 a).1 = 1) : az_W C R k_X0_signedSize 44 ls (.int x :: .ref a :: st) (130, P, I, L) ↔ (az_in x (az_kn 130 a).2 ∧ az_W C R k_X0_signedSize 45 ls (.int (I a x.toNatClampNeg) :: st) (130, P, I, L)) := ap_iald rfl (az_k1 hk)
theorem u_X0_signedSize_45 : az_W C R k_X0_signedSize 45 ls (.int x :: st) h ↔ az_W C R k_X0_signedSize 46 ls (.int (-x) :: st) h := ap_i (f := fun x => -x) rfl
theorem u_X0_signedSize_46 : az_W C R k_X0_signedSize 46 ls st h ↔ az_W C R k_X0_signedSize 50 ls st h := ap_goto rfl
theorem u_X0_signedSize_49 : az_W C R k_X0_signedSize 49 ls st h ↔ az_W C R k_X0_signedSize 50 ls (.int 0 :: st) h := ap_const rfl
theorem u_X0_signedSize_50 : az_W C R k_X0_signedSize 50 ls [.int x] h ↔ R (some (.int x)) h := ap_iret rfl
end
