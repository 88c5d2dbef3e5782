section
variable {C : az_C} {R : az_R} {ls st : List Value} {h : az_H} {n : Nat} {P : Nat → Nat → Option Nat} {I : Nat → Nat → Int32} {L : Nat → Nat → Int64}
variable {v0 v1 v2 v3 v4 v5 v6 v7 v8 v9 v10 v11 v12 : Value} {x y z : Int32} {p q : Int64} {a b : Nat} {M : Nat} {xs : Nat → Int32}
def k_X3_init : Nat → az_P := (az_br 23 (az_br 12 (az_br 5 (az_br 1 (az_lf 0 (az_aload 0 1)) (az_br 4 (az_lf 1 (az_oin 4)) (az_lf 4 (az_aload 0 5)))) (az_br 7 (az_lf 5 (az_const (.int 60) 7)) (az_br 9 (az_lf 7 (az_newa 1 9)) (az_lf 9 (az_putP 3 0 12))))) (az_br 17 (az_br 13 (az_lf 12 (az_aload 0 13)) (az_br 15 (az_lf 13 (az_const (.int 60) 15)) (az_lf 15 (az_newa 1 17)))) (az_br 20 (az_lf 17 (az_putP 3 1 20)) (az_br 21 (az_lf 20 (az_aload 0 21)) (az_lf 21 (az_const (.int 60) 23)))))) (az_br 34 (az_br 29 (az_br 25 (az_lf 23 (az_newa 1 25)) (az_br 28 (az_lf 25 (az_putP 3 2 28)) (az_lf 28 (az_aload 0 29)))) (az_br 30 (az_lf 29 (az_const (.int 0) 30)) (az_br 33 (az_lf 30 (az_putI 3 3 33)) (az_lf 33 (az_aload 0 34))))) (az_br 39 (az_br 35 (az_lf 34 (az_const (.int 0) 35)) (az_br 38 (az_lf 35 (az_putI 3 4 38)) (az_lf 38 (az_aload 0 39)))) (az_br 40 (az_lf 39 (az_const (.int 0) 40)) (az_br 43 (az_lf 40 (az_putI 3 5 43)) (az_lf 43 (az_ret)))))))
theorem u_X3_init_0 : az_W C R k_X3_init 0 (.ref a :: ls) st h ↔ az_W C R k_X3_init 1 (.ref a :: ls) (.ref a :: st) h := ap_aload rfl rfl
theorem u_X3_init_1 (hl : st.length ≤ 4) : az_W C R k_X3_init 1 ls (.ref a :: st) h ↔ az_W C R k_X3_init 4 ls st h := ap_oin rfl hl
theorem u_X3_init_4 : az_W C R k_X3_init 4 (.ref a :: ls) st h ↔ az_W C R k_X3_init 5 (.ref a :: ls) (.ref a :: st) h := ap_aload rfl rfl
theorem u_X3_init_5 : az_W C R k_X3_init 5 ls st h ↔ az_W C R k_X3_init 7 ls (.int 60 :: st) h := ap_const rfl
theorem u_X3_init_7 : az_W C R k_X3_init 7 ls (.int 60 :: st) (57, P, I, L) ↔ az_W C R k_X3_init 9 ls (.ref 57 :: st) (58, P, I, L) := ap_newa rfl (by decide +kernel)
theorem u_X3_init_9 (hk : az_kn n a = (0, 3)) : az_W C R k_X3_init 9 ls (.ref b :: .ref a :: st) (n, P, I, L) ↔ az_W C R k_X3_init 12 ls st (n, az_uP P a 0 (some b), I, L) := ap_putP rfl hk
theorem u_X3_init_12 : az_W C R k_X3_init 12 (.ref a :: ls) st h ↔ az_W C R k_X3_init 13 (.ref a :: ls) (.ref a :: st) h := ap_aload rfl rfl
theorem u_X3_init_13 : az_W C R k_X3_init 13 ls st h ↔ az_W C R k_X3_init 15 ls (.int 60 :: st) h := ap_const rfl
theorem u_X3_init_15 : az_W C R k_X3_init 15 ls (.int 60 :: st) (58, P, I, L) ↔ az_W C R k_X3_init 17 ls (.ref 58 :: st) (59, P, I, L) := ap_newa rfl (by decide +kernel)
theorem u_X3_init_17 (hk : az_kn n a = (0, 3)) : az_W C R k_X3_init 17 ls (.ref b :: .ref a :: st) (n, P, I, L) ↔ az_W C R k_X3_init 20 ls st (n, az_uP P a 1 (some b), I, L) := ap_putP rfl hk
theorem u_X3_init_20 : az_W C R k_X3_init 20 (.ref a :: ls) st h ↔ az_W C R k_X3_init 21 (.ref a :: ls) (.ref a :: st) h := ap_aload rfl rfl
theorem u_X3_init_21 : az_W C R k_X3_init 21 ls st h ↔ az_W C R k_X3_init 23 ls (.int 60 :: st) h := ap_const rfl
theorem u_X3_init_23 : az_W C R k_X3_init 23 ls (.int 60 :: st) (59, P, I, L) ↔ az_W C R k_X3_init 25 ls (.ref 59 :: st) (60, P, I, L) := ap_newa rfl (by decide +kernel)
theorem u_X3_init_25 (hk : az_kn n a = (0, 3)) : az_W C R k_X3_init 25 ls (.ref b :: .ref a :: st) (n, P, I, L) ↔ az_W C R k_X3_init 28 ls st (n, az_uP P a 2 (some b), I, L) := ap_putP rfl hk
theorem u_X3_init_28 : az_W C R k_X3_init 28 (.ref a :: ls) st h ↔ az_W C R k_X3_init 29 (.ref a :: ls) (.ref a :: st) h := ap_aload rfl rfl
theorem u_X3_init_29 : az_W C R k_X3_init 29 ls st h ↔ az_W C R k_X3_init 30 ls (.int 0 :: st) h := ap_const rfl
theorem u_X3_init_30 (hk : az_kn n a = (0, 3)) : az_W C R k_X3_init 30 ls (.int x :: .ref a :: st) (n, P, I, L) ↔ az_W C R k_X3_init 33 ls st (n, P, az_uI I a 3 x, L) := ap_putI rfl hk
theorem u_X3_init_33 : az_W C R k_X3_init 33 (.ref a :: ls) st h ↔ az_W C R k_X3_init 34 (.ref a :: ls) (.ref a :: st) h := ap_aload rfl rfl
theorem u_X3_init_34 : az_W C R k_X3_init 34 ls st h ↔ az_W C R k_X3_init 35 ls (.int 0 :: st) h := ap_const rfl
theorem u_X3_init_35 (hk : az_kn n a = (0, 3)) : az_W C R k_X3_init 35 ls (.int x :: .ref a :: st) (n, P, I, L) ↔ az_W C R k_X3_init 38 ls st (n, P, az_uI I a 4 x, L) := ap_putI rfl hk
theorem u_X3_init_38 : az_W C R k_X3_init 38 (.ref a :: ls) st h ↔ az_W C R k_X3_init 39 (.ref a :: ls) (.ref a :: st) h := ap_aload rfl rfl
theorem u_X3_init_39 : az_W C R k_X3_init 39 ls st h ↔ az_W C R k_X3_init 40 ls (.int 0 :: st) h := ap_const rfl
theorem u_X3_init_40 (hk : az_kn n a = (0, 3)) : az_W C R k_X3_init 40 ls (.int x :: .ref a :: st) (n, P, I, L) ↔ az_W C R k_X3_init 43 ls st (n, P, az_uI I a 5 x, L) := ap_putI rfl hk
theorem u_X3_init_43 : az_W C R k_X3_init 43 ls [] h ↔ R none h := ap_ret rfl
def k_X3_rowCount : Nat → az_P := (az_br 1 (az_lf 0 (az_aload 0 1)) (az_br 4 (az_lf 1 (az_getI 3 3 4)) (az_lf 4 (az_iret))))
theorem u_X3_rowCount_0 : az_W C R k_X3_rowCount 0 (.ref a :: ls) st h ↔ az_W C R k_X3_rowCount 1 (.ref a :: ls) (.ref a :: st) h := ap_aload rfl rfl
theorem u_X3_rowCount_1 : az_W C R k_X3_rowCount 1 ls (.ref 56 :: st) (130, P, I, L) ↔ az_W C R k_X3_rowCount 4 ls (.int (I 56 3) :: st) (130, P, I, L) := ap_getI rfl kn_56
theorem u_X3_rowCount_4 : az_W C R k_X3_rowCount 4 ls [.int x] h ↔ R (some (.int x)) h := ap_iret rfl
def k_X3_lowEnd : Nat → az_P := (az_br 1 (az_lf 0 (az_aload 0 1)) (az_br 4 (az_lf 1 (az_getI 3 4 4)) (az_lf 4 (az_iret))))
theorem u_X3_lowEnd_0 : az_W C R k_X3_lowEnd 0 (.ref a :: ls) st h ↔ az_W C R k_X3_lowEnd 1 (.ref a :: ls) (.ref a :: st) h := ap_aload rfl rfl
theorem u_X3_lowEnd_1 : az_W C R k_X3_lowEnd 1 ls (.ref 56 :: st) (130, P, I, L) ↔ az_W C R k_X3_lowEnd 4 ls (.int (I 56 4) :: st) (130, P, I, L) := ap_getI rfl kn_56
theorem u_X3_lowEnd_4 : az_W C R k_X3_lowEnd 4 ls [.int x] h ↔ R (some (.int x)) h := ap_iret rfl
def k_X3_highEnd : Nat → az_P := (az_br 1 (az_lf 0 (az_aload 0 1)) (az_br 4 (az_lf 1 (az_getI 3 5 4)) (az_lf 4 (az_iret))))
theorem u_X3_highEnd_0 : az_W C R k_X3_highEnd 0 (.ref a :: ls) st h ↔ az_W C R k_X3_highEnd 1 (.ref a :: ls) (.ref a :: st) h := ap_aload rfl rfl
theorem u_X3_highEnd_1 : az_W C R k_X3_highEnd 1 ls (.ref 56 :: st) (130, P, I, L) ↔ az_W C R k_X3_highEnd 4 ls (.int (I 56 5) :: st) (130, P, I, L) := ap_getI rfl kn_56
theorem u_X3_highEnd_4 : az_W C R k_X3_highEnd 4 ls [.int x] h ↔ R (some (.int x)) h := ap_iret rfl
def k_X3_lend : Nat → az_P := (az_br 31 (az_br 16 (az_br 9 (az_br 4 (az_br 1 (az_lf 0 (az_aload 0 1)) (az_lf 1 (az_getI 3 3 4))) (az_br 6 (az_lf 4 (az_const (.int 60) 6)) (az_lf 6 (az_iclt 12 9)))) (az_br 12 (az_br 11 (az_lf 9 (az_const (.int (-3)) 11)) (az_lf 11 (az_iret))) (az_br 13 (az_lf 12 (az_aload 0 13)) (az_lf 13 (az_getP 3 0 16))))) (az_br 22 (az_br 20 (az_br 17 (az_lf 16 (az_aload 0 17)) (az_lf 17 (az_getI 3 3 20))) (az_br 21 (az_lf 20 (az_iload 1 21)) (az_lf 21 (az_iast 22)))) (az_br 26 (az_br 23 (az_lf 22 (az_aload 0 23)) (az_lf 23 (az_getP 3 1 26))) (az_br 27 (az_lf 26 (az_aload 0 27)) (az_br 30 (az_lf 27 (az_getI 3 3 30)) (az_lf 30 (az_iload 2 31))))))) (az_br 44 (az_br 37 (az_br 33 (az_br 32 (az_lf 31 (az_iast 32)) (az_lf 32 (az_aload 0 33))) (az_br 36 (az_lf 33 (az_getP 3 2 36)) (az_lf 36 (az_aload 0 37)))) (az_br 41 (az_br 40 (az_lf 37 (az_getI 3 3 40)) (az_lf 40 (az_iload 3 41))) (az_br 42 (az_lf 41 (az_iast 42)) (az_br 43 (az_lf 42 (az_aload 0 43)) (az_lf 43 (az_dup 44)))))) (az_br 52 (az_br 48 (az_br 47 (az_lf 44 (az_getI 3 3 47)) (az_lf 47 (az_const (.int 1) 48))) (az_br 49 (az_lf 48 (az_ii (fun x y => x + y) 49)) (az_lf 49 (az_putI 3 3 52)))) (az_br 56 (az_br 53 (az_lf 52 (az_aload 0 53)) (az_lf 53 (az_getI 3 3 56))) (az_br 57 (az_lf 56 (az_const (.int 1) 57)) (az_br 58 (az_lf 57 (az_ii (fun x y => x - y) 58)) (az_lf 58 (az_iret))))))))
theorem u_X3_lend_0 : az_W C R k_X3_lend 0 (.ref a :: ls) st h ↔ az_W C R k_X3_lend 1 (.ref a :: ls) (.ref a :: st) h := ap_aload rfl rfl
theorem u_X3_lend_1 : az_W C R k_X3_lend 1 ls (.ref 56 :: st) (130, P, I, L) ↔ az_W C R k_X3_lend 4 ls (.int (I 56 3) :: st) (130, P, I, L) := ap_getI rfl kn_56
theorem u_X3_lend_4 : az_W C R k_X3_lend 4 ls st h ↔ az_W C R k_X3_lend 6 ls (.int 60 :: st) h := ap_const rfl
theorem u_X3_lend_6 : az_W C R k_X3_lend 6 ls (.int y :: .int x :: st) h ↔ if x < y then az_W C R k_X3_lend 12 ls st h else az_W C R k_X3_lend 9 ls st h := ap_iclt rfl
theorem u_X3_lend_9 : az_W C R k_X3_lend 9 ls st h ↔ az_W C R k_X3_lend 11 ls (.int (-3) :: st) h := ap_const rfl
theorem u_X3_lend_11 : az_W C R k_X3_lend 11 ls [.int x] h ↔ R (some (.int x)) h := ap_iret rfl
theorem u_X3_lend_12 : az_W C R k_X3_lend 12 (.ref a :: ls) st h ↔ az_W C R k_X3_lend 13 (.ref a :: ls) (.ref a :: st) h := ap_aload rfl rfl
theorem u_X3_lend_13 : az_W C R k_X3_lend 13 ls (.ref 56 :: st) (130, az_Pf, I, L) ↔ az_W C R k_X3_lend 16 ls (.ref 57 :: st) (130, az_Pf, I, L) := ap_getP rfl kn_56 pf_56_0
theorem u_X3_lend_16 : az_W C R k_X3_lend 16 (.ref a :: ls) st h ↔ az_W C R k_X3_lend 17 (.ref a :: ls) (.ref a :: st) h := ap_aload rfl rfl
theorem u_X3_lend_17 : az_W C R k_X3_lend 17 ls (.ref 56 :: st) (130, P, I, L) ↔ az_W C R k_X3_lend 20 ls (.int (I 56 3) :: st) (130, P, I, L) := ap_getI rfl kn_56
theorem u_X3_lend_20 : az_W C R k_X3_lend 20 (v0 :: .int x :: ls) st h ↔ az_W C R k_X3_lend 21 (v0 :: .int x :: ls) (.int x :: st) h := ap_iload rfl rfl
theorem u_X3_lend_21 (hk : (az_kn 130 a).1 = 1) : az_W C R k_X3_lend 21 ls (.int y :: .int x :: .ref a :: st) (130, P, I, L) ↔ (az_in x (az_kn 130 a).2 ∧ az_W C R k_X3_lend 22 ls st (130, P, az_uI I a x.toNatClampNeg y, L)) := ap_iast rfl (az_k1 hk)
theorem u_X3_lend_22 : az_W C R k_X3_lend 22 (.ref a :: ls) st h ↔ az_W C R k_X3_lend 23 (.ref a :: ls) (.ref a :: st) h := ap_aload rfl rfl
theorem u_X3_lend_23 : az_W C R k_X3_lend 23 ls (.ref 56 :: st) (130, az_Pf, I, L) ↔ az_W C R k_X3_lend 26 ls (.ref 58 :: st) (130, az_Pf, I, L) := ap_getP rfl kn_56 pf_56_1
theorem u_X3_lend_26 : az_W C R k_X3_lend 26 (.ref a :: ls) st h ↔ az_W C R k_X3_lend 27 (.ref a :: ls) (.ref a :: st) h := ap_aload rfl rfl
theorem u_X3_lend_27 : az_W C R k_X3_lend 27 ls (.ref 56 :: st) (130, P, I, L) ↔ az_W C R k_X3_lend 30 ls (.int (I 56 3) :: st) (130, P, I, L) := ap_getI rfl kn_56
theorem u_X3_lend_30 : az_W C R k_X3_lend 30 (v0 :: v1 :: .int x :: ls) st h ↔ az_W C R k_X3_lend 31 (v0 :: v1 :: .int x :: ls) (.int x :: st) h := ap_iload rfl rfl
theorem u_X3_lend_31 (hk : (az_kn 130 a).1 = 1) : az_W C R k_X3_lend 31 ls (.int y :: .int x :: .ref a :: st) (130, P, I, L) ↔ (az_in x (az_kn 130 a).2 ∧ az_W C R k_X3_lend 32 ls st (130, P, az_uI I a x.toNatClampNeg y, L)) := ap_iast rfl (az_k1 hk)
theorem u_X3_lend_32 : az_W C R k_X3_lend 32 (.ref a :: ls) st h ↔ az_W C R k_X3_lend 33 (.ref a :: ls) (.ref a :: st) h := ap_aload rfl rfl
theorem u_X3_lend_33 : az_W C R k_X3_lend 33 ls (.ref 56 :: st) (130, az_Pf, I, L) ↔ az_W C R k_X3_lend 36 ls (.ref 59 :: st) (130, az_Pf, I, L) := ap_getP rfl kn_56 pf_56_2
theorem u_X3_lend_36 : az_W C R k_X3_lend 36 (.ref a :: ls) st h ↔ az_W C R k_X3_lend 37 (.ref a :: ls) (.ref a :: st) h := ap_aload rfl rfl
theorem u_X3_lend_37 : az_W C R k_X3_lend 37 ls (.ref 56 :: st) (130, P, I, L) ↔ az_W C R k_X3_lend 40 ls (.int (I 56 3) :: st) (130, P, I, L) := ap_getI rfl kn_56
theorem u_X3_lend_40 : az_W C R k_X3_lend 40 (v0 :: v1 :: v2 :: .int x :: ls) st h ↔ az_W C R k_X3_lend 41 (v0 :: v1 :: v2 :: .int x :: ls) (.int x :: st) h := ap_iload rfl rfl
theorem u_X3_lend_41 (hk : (az_kn 130 a).1 = 1) : az_W C R k_X3_lend 41 ls (.int y :: .int x :: .ref a :: st) (130, P, I, L) ↔ (az_in x (az_kn 130 a).2 ∧ az_W C R k_X3_lend 42 ls st (130, P, az_uI I a x.toNatClampNeg y, L)) := ap_iast rfl (az_k1 hk)
theorem u_X3_lend_42 : az_W C R k_X3_lend 42 (.ref a :: ls) st h ↔ az_W C R k_X3_lend 43 (.ref a :: ls) (.ref a :: st) h := ap_aload rfl rfl
theorem u_X3_lend_43 : az_W C R k_X3_lend 43 ls (.int x :: st) h ↔ az_W C R k_X3_lend 44 ls (.int x :: .int x :: st) h := ap_dupi rfl
theorem u_X3_lend_43r : az_W C R k_X3_lend 43 ls (.ref a :: st) h ↔ az_W C R k_X3_lend 44 ls (.ref a :: .ref a :: st) h := ap_dupr rfl
theorem u_X3_lend_44 : az_W C R k_X3_lend 44 ls (.ref 56 :: st) (130, P, I, L) ↔ az_W C R k_X3_lend 47 ls (.int (I 56 3) :: st) (130, P, I, L) := ap_getI rfl kn_56
theorem u_X3_lend_47 : az_W C R k_X3_lend 47 ls st h ↔ az_W C R k_X3_lend 48 ls (.int 1 :: st) h := ap_const rfl
theorem u_X3_lend_48 : az_W C R k_X3_lend 48 ls (.int y :: .int x :: st) h ↔ az_W C R k_X3_lend 49 ls (.int (x + y) :: st) h := ap_ii (f := fun x y => x + y) rfl
theorem u_X3_lend_49 : az_W C R k_X3_lend 49 ls (.int x :: .ref 56 :: st) (130, P, I, L) ↔ az_W C R k_X3_lend 52 ls st (130, P, az_uI I 56 3 x, L) := ap_putI rfl kn_56
theorem u_X3_lend_52 : az_W C R k_X3_lend 52 (.ref a :: ls) st h ↔ az_W C R k_X3_lend 53 (.ref a :: ls) (.ref a :: st) h := ap_aload rfl rfl
theorem u_X3_lend_53 : az_W C R k_X3_lend 53 ls (.ref 56 :: st) (130, P, I, L) ↔ az_W C R k_X3_lend 56 ls (.int (I 56 3) :: st) (130, P, I, L) := ap_getI rfl kn_56
theorem u_X3_lend_56 : az_W C R k_X3_lend 56 ls st h ↔ az_W C R k_X3_lend 57 ls (.int 1 :: st) h := ap_const rfl
theorem u_X3_lend_57 : az_W C R k_X3_lend 57 ls (.int y :: .int x :: st) h ↔ az_W C R k_X3_lend 58 ls (.int (x - y) :: st) h := ap_ii (f := fun x y => x - y) rfl
theorem u_X3_lend_58 : az_W C R k_X3_lend 58 ls [.int x] h ↔ R (some (.int x)) h := ap_iret rfl
def k_X3_findTrue : Nat → az_P := (az_br 24 (az_br 12 (az_br 4 (az_br 2 (az_br 1 (az_lf 0 (az_aload 0 1)) (az_lf 1 (az_const (.int 1) 2))) (az_br 3 (az_lf 2 (az_iload 1 3)) (az_lf 3 (az_ii (fun x y => x <<< (y &&& 31)) 4)))) (az_br 8 (az_br 5 (az_lf 4 (az_iload 2 5)) (az_lf 5 (az_ivv 33 2 3 8))) (az_br 11 (az_lf 8 (az_ifeq 13 11)) (az_lf 11 (az_const (.int 1) 12))))) (az_br 18 (az_br 14 (az_br 13 (az_lf 12 (az_zret)) (az_lf 13 (az_aload 0 14))) (az_br 15 (az_lf 14 (az_iload 2 15)) (az_lf 15 (az_ivv 32 1 3 18)))) (az_br 22 (az_br 21 (az_lf 18 (az_ifne 23 21)) (az_lf 21 (az_const (.int 0) 22))) (az_br 23 (az_lf 22 (az_zret)) (az_lf 23 (az_aload 0 24)))))) (az_br 38 (az_br 30 (az_br 28 (az_br 25 (az_lf 24 (az_aload 0 25)) (az_lf 25 (az_getI 3 4 28))) (az_br 29 (az_lf 28 (az_iload 3 29)) (az_lf 29 (az_ii (fun x y => x - y) 30)))) (az_br 34 (az_br 31 (az_lf 30 (az_const (.int 0) 31)) (az_lf 31 (az_iim (fun x y => if x < y then y else x) 34))) (az_br 37 (az_lf 34 (az_putI 3 4 37)) (az_lf 37 (az_aload 0 38))))) (az_br 44 (az_br 42 (az_br 39 (az_lf 38 (az_aload 0 39)) (az_lf 39 (az_getI 3 5 42))) (az_br 43 (az_lf 42 (az_iload 3 43)) (az_lf 43 (az_ii (fun x y => x + y) 44)))) (az_br 50 (az_br 47 (az_lf 44 (az_const (.int 999) 47)) (az_lf 47 (az_iim (fun x y => if y < x then y else x) 50))) (az_br 53 (az_lf 50 (az_putI 3 5 53)) (az_br 54 (az_lf 53 (az_const (.int 1) 54)) (az_lf 54 (az_zret))))))))
theorem u_X3_findTrue_0 : az_W C R k_X3_findTrue 0 (.ref a :: ls) st h ↔ az_W C R k_X3_findTrue 1 (.ref a :: ls) (.ref a :: st) h := ap_aload rfl rfl
theorem u_X3_findTrue_1 : az_W C R k_X3_findTrue 1 ls st h ↔ az_W C R k_X3_findTrue 2 ls (.int 1 :: st) h := ap_const rfl
theorem u_X3_findTrue_2 : az_W C R k_X3_findTrue 2 (v0 :: .int x :: ls) st h ↔ az_W C R k_X3_findTrue 3 (v0 :: .int x :: ls) (.int x :: st) h := ap_iload rfl rfl
theorem u_X3_findTrue_3 : az_W C R k_X3_findTrue 3 ls (.int y :: .int x :: st) h ↔ az_W C R k_X3_findTrue 4 ls (.int (x <<< (y &&& 31)) :: st) h := ap_ii (f := fun x y => x <<< (y &&& 31)) rfl
theorem u_X3_findTrue_4 : az_W C R k_X3_findTrue 4 (v0 :: v1 :: .int x :: ls) st h ↔ az_W C R k_X3_findTrue 5 (v0 :: v1 :: .int x :: ls) (.int x :: st) h := ap_iload rfl rfl
theorem u_X3_findTrue_5 (hl : st.length ≤ 4) : az_W C R k_X3_findTrue 5 ls (v2 :: v1 :: .ref 56 :: st) (130, P, I, L) ↔ az_F C R (az_W C R k_X3_findTrue) (130, P, I, L) (az_cl 33 [.ref 56, v1, v2] 8 ls st) := ap_ivv rfl rfl kn_56 hl
theorem u_X3_findTrue_8 : az_W C R k_X3_findTrue 8 ls (.int x :: st) h ↔ if x = 0 then az_W C R k_X3_findTrue 13 ls st h else az_W C R k_X3_findTrue 11 ls st h := ap_ifeq rfl
theorem u_X3_findTrue_11 : az_W C R k_X3_findTrue 11 ls st h ↔ az_W C R k_X3_findTrue 12 ls (.int 1 :: st) h := ap_const rfl
theorem u_X3_findTrue_12 : az_W C R k_X3_findTrue 12 ls [.int x] h ↔ ((x = 0 ∨ x = 1) ∧ R (some (.int x)) h) := ap_zret rfl
theorem u_X3_findTrue_13 : az_W C R k_X3_findTrue 13 (.ref a :: ls) st h ↔ az_W C R k_X3_findTrue 14 (.ref a :: ls) (.ref a :: st) h := ap_aload rfl rfl
theorem u_X3_findTrue_14 : az_W C R k_X3_findTrue 14 (v0 :: v1 :: .int x :: ls) st h ↔ az_W C R k_X3_findTrue 15 (v0 :: v1 :: .int x :: ls) (.int x :: st) h := ap_iload rfl rfl
theorem u_X3_findTrue_15 (hl : st.length ≤ 4) : az_W C R k_X3_findTrue 15 ls (v1 :: .ref 56 :: st) (130, P, I, L) ↔ az_F C R (az_W C R k_X3_findTrue) (130, P, I, L) (az_cl 32 [.ref 56, v1] 18 ls st) := ap_ivv rfl rfl kn_56 hl
theorem u_X3_findTrue_18 : az_W C R k_X3_findTrue 18 ls (.int x :: st) h ↔ if x = 0 then az_W C R k_X3_findTrue 21 ls st h else az_W C R k_X3_findTrue 23 ls st h := ap_ifne rfl
theorem u_X3_findTrue_21 : az_W C R k_X3_findTrue 21 ls st h ↔ az_W C R k_X3_findTrue 22 ls (.int 0 :: st) h := ap_const rfl
theorem u_X3_findTrue_22 : az_W C R k_X3_findTrue 22 ls [.int x] h ↔ ((x = 0 ∨ x = 1) ∧ R (some (.int x)) h) := ap_zret rfl
theorem u_X3_findTrue_23 : az_W C R k_X3_findTrue 23 (.ref a :: ls) st h ↔ az_W C R k_X3_findTrue 24 (.ref a :: ls) (.ref a :: st) h := ap_aload rfl rfl
theorem u_X3_findTrue_24 : az_W C R k_X3_findTrue 24 (.ref a :: ls) st h ↔ az_W C R k_X3_findTrue 25 (.ref a :: ls) (.ref a :: st) h := ap_aload rfl rfl
theorem u_X3_findTrue_25 : az_W C R k_X3_findTrue 25 ls (.ref 56 :: st) (130, P, I, L) ↔ az_W C R k_X3_findTrue 28 ls (.int (I 56 4) :: st) (130, P, I, L) := ap_getI rfl kn_56
theorem u_X3_findTrue_28 : az_W C R k_X3_findTrue 28 (v0 :: v1 :: v2 :: .int x :: ls) st h ↔ az_W C R k_X3_findTrue 29 (v0 :: v1 :: v2 :: .int x :: ls) (.int x :: st) h := ap_iload rfl rfl
theorem u_X3_findTrue_29 : az_W C R k_X3_findTrue 29 ls (.int y :: .int x :: st) h ↔ az_W C R k_X3_findTrue 30 ls (.int (x - y) :: st) h := ap_ii (f := fun x y => x - y) rfl
theorem u_X3_findTrue_30 : az_W C R k_X3_findTrue 30 ls st h ↔ az_W C R k_X3_findTrue 31 ls (.int 0 :: st) h := ap_const rfl
theorem u_X3_findTrue_31 (hl : st.length ≤ 4) : az_W C R k_X3_findTrue 31 ls (.int y :: .int x :: st) h ↔ az_W C R k_X3_findTrue 34 ls (.int (if x < y then y else x) :: st) h := ap_iim (f := fun x y => if x < y then y else x) rfl hl
theorem u_X3_findTrue_34 : az_W C R k_X3_findTrue 34 ls (.int x :: .ref 56 :: st) (130, P, I, L) ↔ az_W C R k_X3_findTrue 37 ls st (130, P, az_uI I 56 4 x, L) := ap_putI rfl kn_56
theorem u_X3_findTrue_37 : az_W C R k_X3_findTrue 37 (.ref a :: ls) st h ↔ az_W C R k_X3_findTrue 38 (.ref a :: ls) (.ref a :: st) h := ap_aload rfl rfl
theorem u_X3_findTrue_38 : az_W C R k_X3_findTrue 38 (.ref a :: ls) st h ↔ az_W C R k_X3_findTrue 39 (.ref a :: ls) (.ref a :: st) h := ap_aload rfl rfl
theorem u_X3_findTrue_39 : az_W C R k_X3_findTrue 39 ls (.ref 56 :: st) (130, P, I, L) ↔ az_W C R k_X3_findTrue 42 ls (.int (I 56 5) :: st) (130, P, I, L) := ap_getI rfl kn_56
theorem u_X3_findTrue_42 : az_W C R k_X3_findTrue 42 (v0 :: v1 :: v2 :: .int x :: ls) st h ↔ az_W C R k_X3_findTrue 43 (v0 :: v1 :: v2 :: .int x :: ls) (.int x :: st) h := ap_iload rfl rfl
theorem u_X3_findTrue_43 : az_W C R k_X3_findTrue 43 ls (.int y :: .int x :: st) h ↔ az_W C R k_X3_findTrue 44 ls (.int (x + y) :: st) h := ap_ii (f := fun x y => x + y) rfl
theorem u_X3_findTrue_44 : az_W C R k_X3_findTrue 44 ls st h ↔ az_W C R k_X3_findTrue 47 ls (.int 999 :: st) h := ap_const rfl
theorem u_X3_findTrue_47 (hl : st.length ≤ 4) : az_W C R k_X3_findTrue 47 ls (.int y :: .int x :: st) h ↔ az_W C R k_X3_findTrue 50 ls (.int (if y < x then y else x) :: st) h := ap_iim (f := fun x y => if y < x then y else x) rfl hl
theorem u_X3_findTrue_50 : az_W C R k_X3_findTrue 50 ls (.int x :: .ref 56 :: st) (130, P, I, L) ↔ az_W C R k_X3_findTrue 53 ls st (130, P, az_uI I 56 5 x, L) := ap_putI rfl kn_56
theorem u_X3_findTrue_53 : az_W C R k_X3_findTrue 53 ls st h ↔ az_W C R k_X3_findTrue 54 ls (.int 1 :: st) h := ap_const rfl
theorem u_X3_findTrue_54 : az_W C R k_X3_findTrue 54 ls [.int x] h ↔ ((x = 0 ∨ x = 1) ∧ R (some (.int x)) h) := ap_zret rfl
def k_X3_findAll : Nat → az_P := (az_br 4 (az_br 1 (az_lf 0 (az_aload 0 1)) (az_lf 1 (az_const (.int 255) 4))) (az_br 5 (az_lf 4 (az_iload 1 5)) (az_br 8 (az_lf 5 (az_ivv 33 2 3 8)) (az_lf 8 (az_zret)))))
theorem u_X3_findAll_0 : az_W C R k_X3_findAll 0 (.ref a :: ls) st h ↔ az_W C R k_X3_findAll 1 (.ref a :: ls) (.ref a :: st) h := ap_aload rfl rfl
theorem u_X3_findAll_1 : az_W C R k_X3_findAll 1 ls st h ↔ az_W C R k_X3_findAll 4 ls (.int 255 :: st) h := ap_const rfl
theorem u_X3_findAll_4 : az_W C R k_X3_findAll 4 (v0 :: .int x :: ls) st h ↔ az_W C R k_X3_findAll 5 (v0 :: .int x :: ls) (.int x :: st) h := ap_iload rfl rfl
theorem u_X3_findAll_5 (hl : st.length ≤ 4) : az_W C R k_X3_findAll 5 ls (v2 :: v1 :: .ref 56 :: st) (130, P, I, L) ↔ az_F C R (az_W C R k_X3_findAll) (130, P, I, L) (az_cl 33 [.ref 56, v1, v2] 8 ls st) := ap_ivv rfl rfl kn_56 hl
theorem u_X3_findAll_8 : az_W C R k_X3_findAll 8 ls [.int x] h ↔ ((x = 0 ∨ x = 1) ∧ R (some (.int x)) h) := ap_zret rfl
def k_X3_findSpan : Nat → az_P := (az_br 46 (az_br 26 (az_br 13 (az_br 7 (az_br 1 (az_lf 0 (az_aload 0 1)) (az_br 4 (az_lf 1 (az_const (.int 1000) 4)) (az_lf 4 (az_putI 3 4 7)))) (az_br 9 (az_br 8 (az_lf 7 (az_aload 0 8)) (az_lf 8 (az_const (.int (-1)) 9))) (az_br 12 (az_lf 9 (az_putI 3 5 12)) (az_lf 12 (az_const (.int 0) 13))))) (az_br 16 (az_br 14 (az_lf 13 (az_istore 3 14)) (az_br 15 (az_lf 14 (az_iload 3 15)) (az_lf 15 (az_aload 0 16)))) (az_br 22 (az_br 19 (az_lf 16 (az_getI 3 3 19)) (az_lf 19 (az_icge 86 22))) (az_br 23 (az_lf 22 (az_aload 0 23)) (az_lf 23 (az_getP 3 1 26)))))) (az_br 37 (az_br 29 (az_br 27 (az_lf 26 (az_iload 3 27)) (az_br 28 (az_lf 27 (az_iald 28)) (az_lf 28 (az_iload 2 29)))) (az_br 33 (az_br 32 (az_lf 29 (az_icne 80 32)) (az_lf 32 (az_iload 1 33))) (az_br 34 (az_lf 33 (az_aload 0 34)) (az_lf 34 (az_getP 3 0 37))))) (az_br 40 (az_br 38 (az_lf 37 (az_iload 3 38)) (az_br 39 (az_lf 38 (az_iald 39)) (az_lf 39 (az_ii (fun x y => x >>> (y &&& 31)) 40)))) (az_br 42 (az_br 41 (az_lf 40 (az_const (.int 1) 41)) (az_lf 41 (az_ii (fun x y => x &&& y) 42))) (az_br 43 (az_lf 42 (az_const (.int 1) 43)) (az_lf 43 (az_icne 80 46))))))) (az_br 72 (az_br 57 (az_br 51 (az_br 47 (az_lf 46 (az_aload 0 47)) (az_br 48 (az_lf 47 (az_aload 0 48)) (az_lf 48 (az_getI 3 4 51)))) (az_br 55 (az_br 52 (az_lf 51 (az_aload 0 52)) (az_lf 52 (az_getP 3 2 55))) (az_br 56 (az_lf 55 (az_iload 3 56)) (az_lf 56 (az_iald 57))))) (az_br 64 (az_br 60 (az_lf 57 (az_iim (fun x y => if y < x then y else x) 60)) (az_br 63 (az_lf 60 (az_putI 3 4 63)) (az_lf 63 (az_aload 0 64)))) (az_br 68 (az_br 65 (az_lf 64 (az_aload 0 65)) (az_lf 65 (az_getI 3 5 68))) (az_br 69 (az_lf 68 (az_aload 0 69)) (az_lf 69 (az_getP 3 2 72)))))) (az_br 87 (az_br 77 (az_br 73 (az_lf 72 (az_iload 3 73)) (az_br 74 (az_lf 73 (az_iald 74)) (az_lf 74 (az_iim (fun x y => if x < y then y else x) 77)))) (az_br 83 (az_br 80 (az_lf 77 (az_putI 3 5 80)) (az_lf 80 (az_iinc 3 1 83))) (az_br 86 (az_lf 83 (az_goto 14)) (az_lf 86 (az_aload 0 87))))) (az_br 97 (az_br 91 (az_br 90 (az_lf 87 (az_getI 3 4 90)) (az_lf 90 (az_aload 0 91))) (az_br 94 (az_lf 91 (az_getI 3 5 94)) (az_lf 94 (az_icgt 101 97)))) (az_br 101 (az_br 98 (az_lf 97 (az_const (.int 1) 98)) (az_lf 98 (az_goto 102))) (az_br 102 (az_lf 101 (az_const (.int 0) 102)) (az_lf 102 (az_zret))))))))
theorem u_X3_findSpan_0 : az_W C R k_X3_findSpan 0 (.ref a :: ls) st h ↔ az_W C R k_X3_findSpan 1 (.ref a :: ls) (.ref a :: st) h := ap_aload rfl rfl
theorem u_X3_findSpan_1 : az_W C R k_X3_findSpan 1 ls st h ↔ az_W C R k_X3_findSpan 4 ls (.int 1000 :: st) h := ap_const rfl
theorem u_X3_findSpan_4 : az_W C R k_X3_findSpan 4 ls (.int x :: .ref 56 :: st) (130, P, I, L) ↔ az_W C R k_X3_findSpan 7 ls st (130, P, az_uI I 56 4 x, L) := ap_putI rfl kn_56
theorem u_X3_findSpan_7 : az_W C R k_X3_findSpan 7 (.ref a :: ls) st h ↔ az_W C R k_X3_findSpan 8 (.ref a :: ls) (.ref a :: st) h := ap_aload rfl rfl
theorem u_X3_findSpan_8 : az_W C R k_X3_findSpan 8 ls st h ↔ az_W C R k_X3_findSpan 9 ls (.int (-1) :: st) h := ap_const rfl
theorem u_X3_findSpan_9 : az_W C R k_X3_findSpan 9 ls (.int x :: .ref 56 :: st) (130, P, I, L) ↔ az_W C R k_X3_findSpan 12 ls st (130, P, az_uI I 56 5 x, L) := ap_putI rfl kn_56
theorem u_X3_findSpan_12 : az_W C R k_X3_findSpan 12 ls st h ↔ az_W C R k_X3_findSpan 13 ls (.int 0 :: st) h := ap_const rfl
theorem u_X3_findSpan_13 : az_W C R k_X3_findSpan 13 (v0 :: v1 :: v2 :: v3 :: ls) (.int x :: st) h ↔ az_W C R k_X3_findSpan 14 (v0 :: v1 :: az_un v2 :: .int x :: ls) st h := ap_istore rfl rfl
theorem u_X3_findSpan_14 : az_W C R k_X3_findSpan 14 (v0 :: v1 :: v2 :: .int x :: ls) st h ↔ az_W C R k_X3_findSpan 15 (v0 :: v1 :: v2 :: .int x :: ls) (.int x :: st) h := ap_iload rfl rfl
theorem u_X3_findSpan_15 : az_W C R k_X3_findSpan 15 (.ref a :: ls) st h ↔ az_W C R k_X3_findSpan 16 (.ref a :: ls) (.ref a :: st) h := ap_aload rfl rfl
theorem u_X3_findSpan_16 : az_W C R k_X3_findSpan 16 ls (.ref 56 :: st) (130, P, I, L) ↔ az_W C R k_X3_findSpan 19 ls (.int (I 56 3) :: st) (130, P, I, L) := ap_getI rfl kn_56
theorem u_X3_findSpan_19 : az_W C R k_X3_findSpan 19 ls (.int y :: .int x :: st) h ↔ if y ≤ x then az_W C R k_X3_findSpan 86 ls st h else az_W C R k_X3_findSpan 22 ls st h := ap_icge rfl
theorem u_X3_findSpan_22 : az_W C R k_X3_findSpan 22 (.ref a :: ls) st h ↔ az_W C R k_X3_findSpan 23 (.ref a :: ls) (.ref a :: st) h := ap_aload rfl rfl
theorem u_X3_findSpan_23 : az_W C R k_X3_findSpan 23 ls (.ref 56 :: st) (130, az_Pf, I, L) ↔ az_W C R k_X3_findSpan 26 ls (.ref 58 :: st) (130, az_Pf, I, L) := ap_getP rfl kn_56 pf_56_1
theorem u_X3_findSpan_26 : az_W C R k_X3_findSpan 26 (v0 :: v1 :: v2 :: .int x :: ls) st h ↔ az_W C R k_X3_findSpan 27 (v0 :: v1 :: v2 :: .int x :: ls) (.int x :: st) h := ap_iload rfl rfl
theorem u_X3_findSpan_27 (hk : (az_kn 130 a).1 = 1) : az_W C R k_X3_findSpan 27 ls (.int x :: .ref a :: st) (130, P, I, L) ↔ (az_in x (az_kn 130 a).2 ∧ az_W C R k_X3_findSpan 28 ls (.int (I a x.toNatClampNeg) :: st) (130, P, I, L)) := ap_iald rfl (az_k1 hk)
theorem u_X3_findSpan_28 : az_W C R k_X3_findSpan 28 (v0 :: v1 :: .int x :: ls) st h ↔ az_W C R k_X3_findSpan 29 (v0 :: v1 :: .int x :: ls) (.int x :: st) h := ap_iload rfl rfl
theorem u_X3_findSpan_29 : az_W C R k_X3_findSpan 29 ls (.int y :: .int x :: st) h ↔ if x = y then az_W C R k_X3_findSpan 32 ls st h else az_W C R k_X3_findSpan 80 ls st h := ap_icne rfl
theorem u_X3_findSpan_32 : az_W C R k_X3_findSpan 32 (v0 :: .int x :: ls) st h ↔ az_W C R k_X3_findSpan 33 (v0 :: .int x :: ls) (.int x :: st) h := ap_iload rfl rfl
theorem u_X3_findSpan_33 : az_W C R k_X3_findSpan 33 (.ref a :: ls) st h ↔ az_W C R k_X3_findSpan 34 (.ref a :: ls) (.ref a :: st) h := ap_aload rfl rfl
theorem u_X3_findSpan_34 : az_W C R k_X3_findSpan 34 ls (.ref 56 :: st) (130, az_Pf, I, L) ↔ az_W C R k_X3_findSpan 37 ls (.ref 57 :: st) (130, az_Pf, I, L) := ap_getP rfl kn_56 pf_56_0
theorem u_X3_findSpan_37 : az_W C R k_X3_findSpan 37 (v0 :: v1 :: v2 :: .int x :: ls) st h ↔ az_W C R k_X3_findSpan 38 (v0 :: v1 :: v2 :: .int x :: ls) (.int x :: st) h := ap_iload rfl rfl
theorem u_X3_findSpan_38 (hk : (az_kn 130 a).1 = 1) : az_W C R k_X3_findSpan 38 ls (.int x :: .ref a :: st) (130, P, I, L) ↔ (az_in x (az_kn 130 a).2 ∧ az_W C R k_X3_findSpan 39 ls (.int (I a x.toNatClampNeg) :: st) (130, P, I, L)) := ap_iald rfl (az_k1 hk)
theorem u_X3_findSpan_39 : az_W C R k_X3_findSpan 39 ls (.int y :: .int x :: st) h ↔ az_W C R k_X3_findSpan 40 ls (.int (x >>> (y &&& 31)) :: st) h := ap_ii (f := fun x y => x >>> (y &&& 31)) rfl
theorem u_X3_findSpan_40 : az_W C R k_X3_findSpan 40 ls st h ↔ az_W C R k_X3_findSpan 41 ls (.int 1 :: st) h := ap_const rfl
theorem u_X3_findSpan_41 : az_W C R k_X3_findSpan 41 ls (.int y :: .int x :: st) h ↔ az_W C R k_X3_findSpan 42 ls (.int (x &&& y) :: st) h := ap_ii (f := fun x y => x &&& y) rfl
theorem u_X3_findSpan_42 : az_W C R k_X3_findSpan 42 ls st h ↔ az_W C R k_X3_findSpan 43 ls (.int 1 :: st) h := ap_const rfl
theorem u_X3_findSpan_43 : az_W C R k_X3_findSpan 43 ls (.int y :: .int x :: st) h ↔ if x = y then az_W C R k_X3_findSpan 46 ls st h else az_W C R k_X3_findSpan 80 ls st h := ap_icne rfl
theorem u_X3_findSpan_46 : az_W C R k_X3_findSpan 46 (.ref a :: ls) st h ↔ az_W C R k_X3_findSpan 47 (.ref a :: ls) (.ref a :: st) h := ap_aload rfl rfl
theorem u_X3_findSpan_47 : az_W C R k_X3_findSpan 47 (.ref a :: ls) st h ↔ az_W C R k_X3_findSpan 48 (.ref a :: ls) (.ref a :: st) h := ap_aload rfl rfl
theorem u_X3_findSpan_48 : az_W C R k_X3_findSpan 48 ls (.ref 56 :: st) (130, P, I, L) ↔ az_W C R k_X3_findSpan 51 ls (.int (I 56 4) :: st) (130, P, I, L) := ap_getI rfl kn_56
theorem u_X3_findSpan_51 : az_W C R k_X3_findSpan 51 (.ref a :: ls) st h ↔ az_W C R k_X3_findSpan 52 (.ref a :: ls) (.ref a :: st) h := ap_aload rfl rfl
theorem u_X3_findSpan_52 : az_W C R k_X3_findSpan 52 ls (.ref 56 :: st) (130, az_Pf, I, L) ↔ az_W C R k_X3_findSpan 55 ls (.ref 59 :: st) (130, az_Pf, I, L) := ap_getP rfl kn_56 pf_56_2
theorem u_X3_findSpan_55 : az_W C R k_X3_findSpan 55 (v0 :: v1 :: v2 :: .int x :: ls) st h ↔ az_W C R k_X3_findSpan 56 (v0 :: v1 :: v2 :: .int x :: ls) (.int x :: st) h := ap_iload rfl rfl
theorem u_X3_findSpan_56 (hk : (az_kn 130 a).1 = 1) : az_W C R k_X3_findSpan 56 ls (.int x :: .ref a :: st) (130, P, I, L) ↔ (az_in x (az_kn 130 a).2 ∧ az_W C R k_X3_findSpan 57 ls (.int (I a x.toNatClampNeg) :: st) (130, P, I, L)) := ap_iald rfl (az_k1 hk)
theorem u_X3_findSpan_57 (hl : st.length ≤ 4) : az_W C R k_X3_findSpan 57 ls (.int y :: .int x :: st) h ↔ az_W C R k_X3_findSpan 60 ls (.int (if y < x then y else x) :: st) h := ap_iim (f := fun x y => if y < x then y else x) rfl hl
theorem u_X3_findSpan_60 : az_W C R k_X3_findSpan 60 ls (.int x :: .ref 56 :: st) (130, P, I, L) ↔ az_W C R k_X3_findSpan 63 ls st (130, P, az_uI I 56 4 x, L) := ap_putI rfl kn_56
theorem u_X3_findSpan_63 : az_W C R k_X3_findSpan 63 (.ref a :: ls) st h ↔ az_W C R k_X3_findSpan 64 (.ref a :: ls) (.ref a :: st) h := ap_aload rfl rfl
theorem u_X3_findSpan_64 : az_W C R k_X3_findSpan 64 (.ref a :: ls) st h ↔ az_W C R k_X3_findSpan 65 (.ref a :: ls) (.ref a :: st) h := ap_aload rfl rfl
theorem u_X3_findSpan_65 : az_W C R k_X3_findSpan 65 ls (.ref 56 :: st) (130, P, I, L) ↔ az_W C R k_X3_findSpan 68 ls (.int (I 56 5) :: st) (130, P, I, L) := ap_getI rfl kn_56
theorem u_X3_findSpan_68 : az_W C R k_X3_findSpan 68 (.ref a :: ls) st h ↔ az_W C R k_X3_findSpan 69 (.ref a :: ls) (.ref a :: st) h := ap_aload rfl rfl
theorem u_X3_findSpan_69 : az_W C R k_X3_findSpan 69 ls (.ref 56 :: st) (130, az_Pf, I, L) ↔ az_W C R k_X3_findSpan 72 ls (.ref 59 :: st) (130, az_Pf, I, L) := ap_getP rfl kn_56 pf_56_2
theorem u_X3_findSpan_72 : az_W C R k_X3_findSpan 72 (v0 :: v1 :: v2 :: .int x :: ls) st h ↔ az_W C R k_X3_findSpan 73 (v0 :: v1 :: v2 :: .int x :: ls) (.int x :: st) h := ap_iload rfl rfl
theorem u_X3_findSpan_73 (hk : (az_kn 130 a).1 = 1) : az_W C R k_X3_findSpan 73 ls (.int x :: .ref a :: st) (130, P, I, L) ↔ (az_in x (az_kn 130 a).2 ∧ az_W C R k_X3_findSpan 74 ls (.int (I a x.toNatClampNeg) :: st) (130, P, I, L)) := ap_iald rfl (az_k1 hk)
theorem u_X3_findSpan_74 (hl : st.length ≤ 4) : az_W C R k_X3_findSpan 74 ls (.int y :: .int x :: st) h ↔ az_W C R k_X3_findSpan 77 ls (.int (if x < y then y else x) :: st) h := ap_iim (f := fun x y => if x < y then y else x) rfl hl
theorem u_X3_findSpan_77 : az_W C R k_X3_findSpan 77 ls (.int x :: .ref 56 :: st) (130, P, I, L) ↔ az_W C R k_X3_findSpan 80 ls st (130, P, az_uI I 56 5 x, L) := ap_putI rfl kn_56
theorem u_X3_findSpan_80 : az_W C R k_X3_findSpan 80 (v0 :: v1 :: v2 :: .int x :: ls) st h ↔ az_W C R k_X3_findSpan 83 (v0 :: v1 :: az_un v2 :: .int (x + 1) :: ls) st h := ap_iinc rfl rfl rfl
theorem u_X3_findSpan_83 : az_W C R k_X3_findSpan 83 ls st h ↔ az_W C R k_X3_findSpan 14 ls st h := ap_goto rfl
theorem u_X3_findSpan_86 : az_W C R k_X3_findSpan 86 (.ref a :: ls) st h ↔ az_W C R k_X3_findSpan 87 (.ref a :: ls) (.ref a :: st) h := ap_aload rfl rfl
theorem u_X3_findSpan_87 : az_W C R k_X3_findSpan 87 ls (.ref 56 :: st) (130, P, I, L) ↔ az_W C R k_X3_findSpan 90 ls (.int (I 56 4) :: st) (130, P, I, L) := ap_getI rfl kn_56
theorem u_X3_findSpan_90 : az_W C R k_X3_findSpan 90 (.ref a :: ls) st h ↔ az_W C R k_X3_findSpan 91 (.ref a :: ls) (.ref a :: st) h := ap_aload rfl rfl
theorem u_X3_findSpan_91 : az_W C R k_X3_findSpan 91 ls (.ref 56 :: st) (130, P, I, L) ↔ az_W C R k_X3_findSpan 94 ls (.int (I 56 5) :: st) (130, P, I, L) := ap_getI rfl kn_56
theorem u_X3_findSpan_94 : az_W C R k_X3_findSpan 94 ls (.int y :: .int x :: st) h ↔ if y < x then az_W C R k_X3_findSpan 101 ls st h else az_W C R k_X3_findSpan 97 ls st h := ap_icgt rfl
theorem u_X3_findSpan_97 : az_W C R k_X3_findSpan 97 ls st h ↔ az_W C R k_X3_findSpan 98 ls (.int 1 :: st) h := ap_const rfl
theorem u_X3_findSpan_98 : az_W C R k_X3_findSpan 98 ls st h ↔ az_W C R k_X3_findSpan 102 ls st h := ap_goto rfl
theorem u_X3_findSpan_101 : az_W C R k_X3_findSpan 101 ls st h ↔ az_W C R k_X3_findSpan 102 ls (.int 0 :: st) h := ap_const rfl
theorem u_X3_findSpan_102 : az_W C R k_X3_findSpan 102 ls [.int x] h ↔ ((x = 0 ∨ x = 1) ∧ R (some (.int x)) h) := ap_zret rfl
end
