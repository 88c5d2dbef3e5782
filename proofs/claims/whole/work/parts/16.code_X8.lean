section
variable {C : az_C} {R : az_R} {ls st : List Value} {h : az_H} {n : Nat} {P : Nat → Nat → Option Nat} {I : Nat → Nat → Int32} {L : Nat → Nat → Int64}
variable {v0 v1 v2 v3 v4 v5 v6 v7 v8 v9 v10 v11 v12 : Value} {x y z : Int32} {p q : Int64} {a b : Nat} {M : Nat} {xs : Nat → Int32}
def k_X8_init : Nat → az_P := (az_br 26 (az_br 12 (az_br 5 (az_br 1 (az_lf 0 (az_aload 0 1)) (az_br 4 (az_lf 1 (az_oin 4)) (az_lf 4 (az_aload 0 5)))) (az_br 8 (az_br 6 (az_lf 5 (az_const (.int 4) 6)) (az_lf 6 (az_newa 1 8))) (az_br 11 (az_lf 8 (az_putP 8 0 11)) (az_lf 11 (az_aload 0 12))))) (az_br 18 (az_br 13 (az_lf 12 (az_const (.int 4) 13)) (az_br 15 (az_lf 13 (az_newa 1 15)) (az_lf 15 (az_putP 8 1 18)))) (az_br 20 (az_br 19 (az_lf 18 (az_aload 0 19)) (az_lf 19 (az_const (.int 4) 20))) (az_br 22 (az_lf 20 (az_const (.int 16) 22)) (az_lf 22 (az_mna 26)))))) (az_br 37 (az_br 31 (az_br 29 (az_lf 26 (az_putP 8 2 29)) (az_br 30 (az_lf 29 (az_const (.int 0) 30)) (az_lf 30 (az_istore 1 31)))) (az_br 33 (az_br 32 (az_lf 31 (az_iload 1 32)) (az_lf 32 (az_const (.int 4) 33))) (az_br 36 (az_lf 33 (az_icge 49 36)) (az_lf 36 (az_aload 0 37))))) (az_br 42 (az_br 40 (az_lf 37 (az_getP 8 0 40)) (az_br 41 (az_lf 40 (az_iload 1 41)) (az_lf 41 (az_const (.int (-1)) 42)))) (az_br 46 (az_br 43 (az_lf 42 (az_iast 43)) (az_lf 43 (az_iinc 1 1 46))) (az_br 49 (az_lf 46 (az_goto 31)) (az_lf 49 (az_ret)))))))
theorem u_X8_init_0 : az_W C R k_X8_init 0 (.ref a :: ls) st h ↔ az_W C R k_X8_init 1 (.ref a :: ls) (.ref a :: st) h := ap_aload rfl rfl
theorem u_X8_init_1 (hl : st.length ≤ 4) : az_W C R k_X8_init 1 ls (.ref a :: st) h ↔ az_W C R k_X8_init 4 ls st h := ap_oin rfl hl
theorem u_X8_init_4 : az_W C R k_X8_init 4 (.ref a :: ls) st h ↔ az_W C R k_X8_init 5 (.ref a :: ls) (.ref a :: st) h := ap_aload rfl rfl
theorem u_X8_init_5 : az_W C R k_X8_init 5 ls st h ↔ az_W C R k_X8_init 6 ls (.int 4 :: st) h := ap_const rfl
theorem u_X8_init_6 : az_W C R k_X8_init 6 ls (.int 4 :: st) (87, P, I, L) ↔ az_W C R k_X8_init 8 ls (.ref 87 :: st) (88, P, I, L) := ap_newa rfl (by decide +kernel)
theorem u_X8_init_8 (hk : az_kn n a = (0, 8)) : az_W C R k_X8_init 8 ls (.ref b :: .ref a :: st) (n, P, I, L) ↔ az_W C R k_X8_init 11 ls st (n, az_uP P a 0 (some b), I, L) := ap_putP rfl hk
theorem u_X8_init_11 : az_W C R k_X8_init 11 (.ref a :: ls) st h ↔ az_W C R k_X8_init 12 (.ref a :: ls) (.ref a :: st) h := ap_aload rfl rfl
theorem u_X8_init_12 : az_W C R k_X8_init 12 ls st h ↔ az_W C R k_X8_init 13 ls (.int 4 :: st) h := ap_const rfl
theorem u_X8_init_13 : az_W C R k_X8_init 13 ls (.int 4 :: st) (88, P, I, L) ↔ az_W C R k_X8_init 15 ls (.ref 88 :: st) (89, P, I, L) := ap_newa rfl (by decide +kernel)
theorem u_X8_init_15 (hk : az_kn n a = (0, 8)) : az_W C R k_X8_init 15 ls (.ref b :: .ref a :: st) (n, P, I, L) ↔ az_W C R k_X8_init 18 ls st (n, az_uP P a 1 (some b), I, L) := ap_putP rfl hk
theorem u_X8_init_18 : az_W C R k_X8_init 18 (.ref a :: ls) st h ↔ az_W C R k_X8_init 19 (.ref a :: ls) (.ref a :: st) h := ap_aload rfl rfl
theorem u_X8_init_19 : az_W C R k_X8_init 19 ls st h ↔ az_W C R k_X8_init 20 ls (.int 4 :: st) h := ap_const rfl
theorem u_X8_init_20 : az_W C R k_X8_init 20 ls st h ↔ az_W C R k_X8_init 22 ls (.int 16 :: st) h := ap_const rfl
theorem u_X8_init_22 : az_W C R k_X8_init 22 ls (.int 16 :: .int 4 :: st) (89, P, I, L) ↔ az_W C R k_X8_init 26 ls (.ref 89 :: st) (94, az_uR P 89 4, I, L) := ap_mna rfl (by decide +kernel)
theorem u_X8_init_26 (hk : az_kn n a = (0, 8)) : az_W C R k_X8_init 26 ls (.ref b :: .ref a :: st) (n, P, I, L) ↔ az_W C R k_X8_init 29 ls st (n, az_uP P a 2 (some b), I, L) := ap_putP rfl hk
theorem u_X8_init_29 : az_W C R k_X8_init 29 ls st h ↔ az_W C R k_X8_init 30 ls (.int 0 :: st) h := ap_const rfl
theorem u_X8_init_30 : az_W C R k_X8_init 30 (v0 :: v1 :: ls) (.int x :: st) h ↔ az_W C R k_X8_init 31 (az_un v0 :: .int x :: ls) st h := ap_istore rfl rfl
theorem u_X8_init_31 : az_W C R k_X8_init 31 (v0 :: .int x :: ls) st h ↔ az_W C R k_X8_init 32 (v0 :: .int x :: ls) (.int x :: st) h := ap_iload rfl rfl
theorem u_X8_init_32 : az_W C R k_X8_init 32 ls st h ↔ az_W C R k_X8_init 33 ls (.int 4 :: st) h := ap_const rfl
theorem u_X8_init_33 : az_W C R k_X8_init 33 ls (.int y :: .int x :: st) h ↔ if y ≤ x then az_W C R k_X8_init 49 ls st h else az_W C R k_X8_init 36 ls st h := ap_icge rfl
theorem u_X8_init_36 : az_W C R k_X8_init 36 (.ref a :: ls) st h ↔ az_W C R k_X8_init 37 (.ref a :: ls) (.ref a :: st) h := ap_aload rfl rfl
theorem u_X8_init_37 (hk : az_kn n a = (0, 8)) (hp : P a 0 = some b) : az_W C R k_X8_init 37 ls (.ref a :: st) (n, P, I, L) ↔ az_W C R k_X8_init 40 ls (.ref b :: st) (n, P, I, L) := ap_getP rfl hk hp
theorem u_X8_init_40 : az_W C R k_X8_init 40 (v0 :: .int x :: ls) st h ↔ az_W C R k_X8_init 41 (v0 :: .int x :: ls) (.int x :: st) h := ap_iload rfl rfl
theorem u_X8_init_41 : az_W C R k_X8_init 41 ls st h ↔ az_W C R k_X8_init 42 ls (.int (-1) :: st) h := ap_const rfl
theorem u_X8_init_42 (hk : (az_kn n a).1 = 1) : az_W C R k_X8_init 42 ls (.int y :: .int x :: .ref a :: st) (n, P, I, L) ↔ (az_in x (az_kn n a).2 ∧ az_W C R k_X8_init 43 ls st (n, P, az_uI I a x.toNatClampNeg y, L)) := ap_iast rfl (az_k1 hk)
theorem u_X8_init_43 : az_W C R k_X8_init 43 (v0 :: .int x :: ls) st h ↔ az_W C R k_X8_init 46 (az_un v0 :: .int (x + 1) :: ls) st h := ap_iinc rfl rfl rfl
theorem u_X8_init_46 : az_W C R k_X8_init 46 ls st h ↔ az_W C R k_X8_init 31 ls st h := ap_goto rfl
theorem u_X8_init_49 : az_W C R k_X8_init 49 ls [] h ↔ R none h := ap_ret rfl
def k_X8_isNamed : Nat → az_P := (az_br 13 (az_br 5 (az_br 1 (az_lf 0 (az_iload 0 1)) (az_br 4 (az_lf 1 (az_iflt 22 4)) (az_lf 4 (az_iload 0 5)))) (az_br 9 (az_br 6 (az_lf 5 (az_const (.int 4) 6)) (az_lf 6 (az_icge 22 9))) (az_br 10 (az_lf 9 (az_iload 1 10)) (az_lf 10 (az_iflt 22 13))))) (az_br 18 (az_br 14 (az_lf 13 (az_iload 1 14)) (az_br 15 (az_lf 14 (az_const (.int 3) 15)) (az_lf 15 (az_icge 22 18)))) (az_br 22 (az_br 19 (az_lf 18 (az_const (.int 1) 19)) (az_lf 19 (az_goto 23))) (az_br 23 (az_lf 22 (az_const (.int 0) 23)) (az_lf 23 (az_zret))))))
theorem u_X8_isNamed_0 : az_W C R k_X8_isNamed 0 (.int x :: ls) st h ↔ az_W C R k_X8_isNamed 1 (.int x :: ls) (.int x :: st) h := ap_iload rfl rfl
theorem u_X8_isNamed_1 : az_W C R k_X8_isNamed 1 ls (.int x :: st) h ↔ if x < 0 then az_W C R k_X8_isNamed 22 ls st h else az_W C R k_X8_isNamed 4 ls st h := ap_iflt rfl
theorem u_X8_isNamed_4 : az_W C R k_X8_isNamed 4 (.int x :: ls) st h ↔ az_W C R k_X8_isNamed 5 (.int x :: ls) (.int x :: st) h := ap_iload rfl rfl
theorem u_X8_isNamed_5 : az_W C R k_X8_isNamed 5 ls st h ↔ az_W C R k_X8_isNamed 6 ls (.int 4 :: st) h := ap_const rfl
theorem u_X8_isNamed_6 : az_W C R k_X8_isNamed 6 ls (.int y :: .int x :: st) h ↔ if y ≤ x then az_W C R k_X8_isNamed 22 ls st h else az_W C R k_X8_isNamed 9 ls st h := ap_icge rfl
theorem u_X8_isNamed_9 : az_W C R k_X8_isNamed 9 (v0 :: .int x :: ls) st h ↔ az_W C R k_X8_isNamed 10 (v0 :: .int x :: ls) (.int x :: st) h := ap_iload rfl rfl
theorem u_X8_isNamed_10 : az_W C R k_X8_isNamed 10 ls (.int x :: st) h ↔ if x < 0 then az_W C R k_X8_isNamed 22 ls st h else az_W C R k_X8_isNamed 13 ls st h := ap_iflt rfl
theorem u_X8_isNamed_13 : az_W C R k_X8_isNamed 13 (v0 :: .int x :: ls) st h ↔ az_W C R k_X8_isNamed 14 (v0 :: .int x :: ls) (.int x :: st) h := ap_iload rfl rfl
theorem u_X8_isNamed_14 : az_W C R k_X8_isNamed 14 ls st h ↔ az_W C R k_X8_isNamed 15 ls (.int 3 :: st) h := ap_const rfl
theorem u_X8_isNamed_15 : az_W C R k_X8_isNamed 15 ls (.int y :: .int x :: st) h ↔ if y ≤ x then az_W C R k_X8_isNamed 22 ls st h else az_W C R k_X8_isNamed 18 ls st h := ap_icge rfl
theorem u_X8_isNamed_18 : az_W C R k_X8_isNamed 18 ls st h ↔ az_W C R k_X8_isNamed 19 ls (.int 1 :: st) h := ap_const rfl
theorem u_X8_isNamed_19 : az_W C R k_X8_isNamed 19 ls st h ↔ az_W C R k_X8_isNamed 23 ls st h := ap_goto rfl
theorem u_X8_isNamed_22 : az_W C R k_X8_isNamed 22 ls st h ↔ az_W C R k_X8_isNamed 23 ls (.int 0 :: st) h := ap_const rfl
theorem u_X8_isNamed_23 : az_W C R k_X8_isNamed 23 ls [.int x] h ↔ ((x = 0 ∨ x = 1) ∧ R (some (.int x)) h) := ap_zret rfl
def k_X8_refusal : Nat → az_P := (az_br 29 (az_br 15 (az_br 8 (az_br 2 (az_br 1 (az_lf 0 (az_iload 1 1)) (az_lf 1 (az_iload 2 2))) (az_br 5 (az_lf 2 (az_ivs 73 2 5)) (az_lf 5 (az_ifne 10 8)))) (az_br 10 (az_br 9 (az_lf 8 (az_const (.int (-1)) 9)) (az_lf 9 (az_iret))) (az_br 11 (az_lf 10 (az_aload 0 11)) (az_br 14 (az_lf 11 (az_getP 8 0 14)) (az_lf 14 (az_iload 1 15)))))) (az_br 22 (az_br 17 (az_br 16 (az_lf 15 (az_iald 16)) (az_lf 16 (az_const (.int (-1)) 17))) (az_br 20 (az_lf 17 (az_icne 23 20)) (az_lf 20 (az_const (.int (-11)) 22)))) (az_br 24 (az_br 23 (az_lf 22 (az_iret)) (az_lf 23 (az_aload 0 24))) (az_br 27 (az_lf 24 (az_getP 8 0 27)) (az_br 28 (az_lf 27 (az_iload 1 28)) (az_lf 28 (az_iald 29))))))) (az_br 45 (az_br 36 (az_br 33 (az_br 30 (az_lf 29 (az_iload 2 30)) (az_lf 30 (az_iceq 36 33))) (az_br 35 (az_lf 33 (az_const (.int (-12)) 35)) (az_lf 35 (az_iret)))) (az_br 40 (az_br 37 (az_lf 36 (az_iload 3 37)) (az_lf 37 (az_iflt 53 40))) (az_br 41 (az_lf 40 (az_iload 3 41)) (az_br 42 (az_lf 41 (az_aload 0 42)) (az_lf 42 (az_getP 8 1 45)))))) (az_br 50 (az_br 47 (az_br 46 (az_lf 45 (az_iload 1 46)) (az_lf 46 (az_iald 47))) (az_br 49 (az_lf 47 (az_iload 4 49)) (az_lf 49 (az_ii (fun x y => x - y) 50)))) (az_br 55 (az_br 53 (az_lf 50 (az_icle 58 53)) (az_lf 53 (az_const (.int (-13)) 55))) (az_br 58 (az_lf 55 (az_goto 59)) (az_br 59 (az_lf 58 (az_const (.int 0) 59)) (az_lf 59 (az_iret))))))))
theorem u_X8_refusal_0 : az_W C R k_X8_refusal 0 (v0 :: .int x :: ls) st h ↔ az_W C R k_X8_refusal 1 (v0 :: .int x :: ls) (.int x :: st) h := ap_iload rfl rfl
theorem u_X8_refusal_1 : az_W C R k_X8_refusal 1 (v0 :: v1 :: .int x :: ls) st h ↔ az_W C R k_X8_refusal 2 (v0 :: v1 :: .int x :: ls) (.int x :: st) h := ap_iload rfl rfl
theorem u_X8_refusal_2 (hl : st.length ≤ 4) : az_W C R k_X8_refusal 2 ls (v2 :: v1 :: st) h ↔ az_F C R (az_W C R k_X8_refusal) h (az_cl 73 [v1, v2] 5 ls st) := ap_ivs rfl rfl hl
theorem u_X8_refusal_5 : az_W C R k_X8_refusal 5 ls (.int x :: st) h ↔ if x = 0 then az_W C R k_X8_refusal 8 ls st h else az_W C R k_X8_refusal 10 ls st h := ap_ifne rfl
theorem u_X8_refusal_8 : az_W C R k_X8_refusal 8 ls st h ↔ az_W C R k_X8_refusal 9 ls (.int (-1) :: st) h := ap_const rfl
theorem u_X8_refusal_9 : az_W C R k_X8_refusal 9 ls [.int x] h ↔ R (some (.int x)) h := ap_iret rfl
theorem u_X8_refusal_10 : az_W C R k_X8_refusal 10 (.ref a :: ls) st h ↔ az_W C R k_X8_refusal 11 (.ref a :: ls) (.ref a :: st) h := ap_aload rfl rfl
theorem u_X8_refusal_11 : az_W C R k_X8_refusal 11 ls (.ref 86 :: st) (130, az_Pf, I, L) ↔ az_W C R k_X8_refusal 14 ls (.ref 87 :: st) (130, az_Pf, I, L) := ap_getP rfl kn_86 pf_86_0
theorem u_X8_refusal_14 : az_W C R k_X8_refusal 14 (v0 :: .int x :: ls) st h ↔ az_W C R k_X8_refusal 15 (v0 :: .int x :: ls) (.int x :: st) h := ap_iload rfl rfl
theorem u_X8_refusal_15 (hk : (az_kn 130 a).1 = 1) : az_W C R k_X8_refusal 15 ls (.int x :: .ref a :: st) (130, P, I, L) ↔ (az_in x (az_kn 130 a).2 ∧ az_W C R k_X8_refusal 16 ls (.int (I a x.toNatClampNeg) :: st) (130, P, I, L)) := ap_iald rfl (az_k1 hk)
theorem u_X8_refusal_16 : az_W C R k_X8_refusal 16 ls st h ↔ az_W C R k_X8_refusal 17 ls (.int (-1) :: st) h := ap_const rfl
theorem u_X8_refusal_17 : az_W C R k_X8_refusal 17 ls (.int y :: .int x :: st) h ↔ if x = y then az_W C R k_X8_refusal 20 ls st h else az_W C R k_X8_refusal 23 ls st h := ap_icne rfl
theorem u_X8_refusal_20 : az_W C R k_X8_refusal 20 ls st h ↔ az_W C R k_X8_refusal 22 ls (.int (-11) :: st) h := ap_const rfl
theorem u_X8_refusal_22 : az_W C R k_X8_refusal 22 ls [.int x] h ↔ R (some (.int x)) h := ap_iret rfl
theorem u_X8_refusal_23 : az_W C R k_X8_refusal 23 (.ref a :: ls) st h ↔ az_W C R k_X8_refusal 24 (.ref a :: ls) (.ref a :: st) h := ap_aload rfl rfl
theorem u_X8_refusal_24 : az_W C R k_X8_refusal 24 ls (.ref 86 :: st) (130, az_Pf, I, L) ↔ az_W C R k_X8_refusal 27 ls (.ref 87 :: st) (130, az_Pf, I, L) := ap_getP rfl kn_86 pf_86_0
theorem u_X8_refusal_27 : az_W C R k_X8_refusal 27 (v0 :: .int x :: ls) st h ↔ az_W C R k_X8_refusal 28 (v0 :: .int x :: ls) (.int x :: st) h := ap_iload rfl rfl
theorem u_X8_refusal_28 (hk : (az_kn 130 a).1 = 1) : az_W C R k_X8_refusal 28 ls (.int x :: .ref a :: st) (130, P, I, L) ↔ (az_in x (az_kn 130 a).2 ∧ az_W C R k_X8_refusal 29 ls (.int (I a x.toNatClampNeg) :: st) (130, P, I, L)) := ap_iald rfl (az_k1 hk)
theorem u_X8_refusal_29 : az_W C R k_X8_refusal 29 (v0 :: v1 :: .int x :: ls) st h ↔ az_W C R k_X8_refusal 30 (v0 :: v1 :: .int x :: ls) (.int x :: st) h := ap_iload rfl rfl
theorem u_X8_refusal_30 : az_W C R k_X8_refusal 30 ls (.int y :: .int x :: st) h ↔ if x = y then az_W C R k_X8_refusal 36 ls st h else az_W C R k_X8_refusal 33 ls st h := ap_iceq rfl
theorem u_X8_refusal_33 : az_W C R k_X8_refusal 33 ls st h ↔ az_W C R k_X8_refusal 35 ls (.int (-12) :: st) h := ap_const rfl
theorem u_X8_refusal_35 : az_W C R k_X8_refusal 35 ls [.int x] h ↔ R (some (.int x)) h := ap_iret rfl
theorem u_X8_refusal_36 : az_W C R k_X8_refusal 36 (v0 :: v1 :: v2 :: .int x :: ls) st h ↔ az_W C R k_X8_refusal 37 (v0 :: v1 :: v2 :: .int x :: ls) (.int x :: st) h := ap_iload rfl rfl
theorem u_X8_refusal_37 : az_W C R k_X8_refusal 37 ls (.int x :: st) h ↔ if x < 0 then az_W C R k_X8_refusal 53 ls st h else az_W C R k_X8_refusal 40 ls st h := ap_iflt rfl
theorem u_X8_refusal_40 : az_W C R k_X8_refusal 40 (v0 :: v1 :: v2 :: .int x :: ls) st h ↔ az_W C R k_X8_refusal 41 (v0 :: v1 :: v2 :: .int x :: ls) (.int x :: st) h := ap_iload rfl rfl
theorem u_X8_refusal_41 : az_W C R k_X8_refusal 41 (.ref a :: ls) st h ↔ az_W C R k_X8_refusal 42 (.ref a :: ls) (.ref a :: st) h := ap_aload rfl rfl
theorem u_X8_refusal_42 : az_W C R k_X8_refusal 42 ls (.ref 86 :: st) (130, az_Pf, I, L) ↔ az_W C R k_X8_refusal 45 ls (.ref 88 :: st) (130, az_Pf, I, L) := ap_getP rfl kn_86 pf_86_1
theorem u_X8_refusal_45 : az_W C R k_X8_refusal 45 (v0 :: .int x :: ls) st h ↔ az_W C R k_X8_refusal 46 (v0 :: .int x :: ls) (.int x :: st) h := ap_iload rfl rfl
theorem u_X8_refusal_46 (hk : (az_kn 130 a).1 = 1) : az_W C R k_X8_refusal 46 ls (.int x :: .ref a :: st) (130, P, I, L) ↔ (az_in x (az_kn 130 a).2 ∧ az_W C R k_X8_refusal 47 ls (.int (I a x.toNatClampNeg) :: st) (130, P, I, L)) := ap_iald rfl (az_k1 hk)
theorem u_X8_refusal_47 : az_W C R k_X8_refusal 47 (v0 :: v1 :: v2 :: v3 :: .int x :: ls) st h ↔ az_W C R k_X8_refusal 49 (v0 :: v1 :: v2 :: v3 :: .int x :: ls) (.int x :: st) h := ap_iload rfl rfl
theorem u_X8_refusal_49 : az_W C R k_X8_refusal 49 ls (.int y :: .int x :: st) h ↔ az_W C R k_X8_refusal 50 ls (.int (x - y) :: st) h := ap_ii (f := fun x y => x - y) rfl
theorem u_X8_refusal_50 : az_W C R k_X8_refusal 50 ls (.int y :: .int x :: st) h ↔ if x ≤ y then az_W C R k_X8_refusal 58 ls st h else az_W C R k_X8_refusal 53 ls st h := ap_icle rfl
theorem u_X8_refusal_53 : az_W C R k_X8_refusal 53 ls st h ↔ az_W C R k_X8_refusal 55 ls (.int (-13) :: st) h := ap_const rfl
theorem u_X8_refusal_55 : az_W C R k_X8_refusal 55 ls st h ↔ az_W C R k_X8_refusal 59 ls st h := ap_goto rfl
theorem u_X8_refusal_58 : az_W C R k_X8_refusal 58 ls st h ↔ az_W C R k_X8_refusal 59 ls (.int 0 :: st) h := ap_const rfl
theorem u_X8_refusal_59 : az_W C R k_X8_refusal 59 ls [.int x] h ↔ R (some (.int x)) h := ap_iret rfl
def k_X8_renew : Nat → az_P := (az_br 17 (az_br 8 (az_br 5 (az_br 1 (az_lf 0 (az_aload 0 1)) (az_br 4 (az_lf 1 (az_getP 8 0 4)) (az_lf 4 (az_iload 1 5)))) (az_br 6 (az_lf 5 (az_iload 2 6)) (az_br 7 (az_lf 6 (az_iast 7)) (az_lf 7 (az_aload 0 8))))) (az_br 13 (az_br 11 (az_lf 8 (az_getP 8 1 11)) (az_br 12 (az_lf 11 (az_iload 1 12)) (az_lf 12 (az_iload 3 13)))) (az_br 14 (az_lf 13 (az_iast 14)) (az_br 15 (az_lf 14 (az_const (.int 0) 15)) (az_lf 15 (az_istore 4 17)))))) (az_br 29 (az_br 24 (az_br 19 (az_lf 17 (az_iload 4 19)) (az_br 21 (az_lf 19 (az_const (.int 16) 21)) (az_lf 21 (az_icge 40 24)))) (az_br 25 (az_lf 24 (az_aload 0 25)) (az_br 28 (az_lf 25 (az_getP 8 2 28)) (az_lf 28 (az_iload 1 29))))) (az_br 33 (az_br 30 (az_lf 29 (az_aald 30)) (az_br 32 (az_lf 30 (az_iload 4 32)) (az_lf 32 (az_const (.int 0) 33)))) (az_br 37 (az_br 34 (az_lf 33 (az_iast 34)) (az_lf 34 (az_iinc 4 1 37))) (az_br 40 (az_lf 37 (az_goto 17)) (az_lf 40 (az_ret)))))))
theorem u_X8_renew_0 : az_W C R k_X8_renew 0 (.ref a :: ls) st h ↔ az_W C R k_X8_renew 1 (.ref a :: ls) (.ref a :: st) h := ap_aload rfl rfl
theorem u_X8_renew_1 : az_W C R k_X8_renew 1 ls (.ref 86 :: st) (130, az_Pf, I, L) ↔ az_W C R k_X8_renew 4 ls (.ref 87 :: st) (130, az_Pf, I, L) := ap_getP rfl kn_86 pf_86_0
theorem u_X8_renew_4 : az_W C R k_X8_renew 4 (v0 :: .int x :: ls) st h ↔ az_W C R k_X8_renew 5 (v0 :: .int x :: ls) (.int x :: st) h := ap_iload rfl rfl
theorem u_X8_renew_5 : az_W C R k_X8_renew 5 (v0 :: v1 :: .int x :: ls) st h ↔ az_W C R k_X8_renew 6 (v0 :: v1 :: .int x :: ls) (.int x :: st) h := ap_iload rfl rfl
theorem u_X8_renew_6 (hk : (az_kn 130 a).1 = 1) : az_W C R k_X8_renew 6 ls (.int y :: .int x :: .ref a :: st) (130, P, I, L) ↔ (az_in x (az_kn 130 a).2 ∧ az_W C R k_X8_renew 7 ls st (130, P, az_uI I a x.toNatClampNeg y, L)) := ap_iast rfl (az_k1 hk)
theorem u_X8_renew_7 : az_W C R k_X8_renew 7 (.ref a :: ls) st h ↔ az_W C R k_X8_renew 8 (.ref a :: ls) (.ref a :: st) h := ap_aload rfl rfl
theorem u_X8_renew_8 : az_W C R k_X8_renew 8 ls (.ref 86 :: st) (130, az_Pf, I, L) ↔ az_W C R k_X8_renew 11 ls (.ref 88 :: st) (130, az_Pf, I, L) := ap_getP rfl kn_86 pf_86_1
theorem u_X8_renew_11 : az_W C R k_X8_renew 11 (v0 :: .int x :: ls) st h ↔ az_W C R k_X8_renew 12 (v0 :: .int x :: ls) (.int x :: st) h := ap_iload rfl rfl
theorem u_X8_renew_12 : az_W C R k_X8_renew 12 (v0 :: v1 :: v2 :: .int x :: ls) st h ↔ az_W C R k_X8_renew 13 (v0 :: v1 :: v2 :: .int x :: ls) (.int x :: st) h := ap_iload rfl rfl
theorem u_X8_renew_13 (hk : (az_kn 130 a).1 = 1) : az_W C R k_X8_renew 13 ls (.int y :: .int x :: .ref a :: st) (130, P, I, L) ↔ (az_in x (az_kn 130 a).2 ∧ az_W C R k_X8_renew 14 ls st (130, P, az_uI I a x.toNatClampNeg y, L)) := ap_iast rfl (az_k1 hk)
theorem u_X8_renew_14 : az_W C R k_X8_renew 14 ls st h ↔ az_W C R k_X8_renew 15 ls (.int 0 :: st) h := ap_const rfl
theorem u_X8_renew_15 : az_W C R k_X8_renew 15 (v0 :: v1 :: v2 :: v3 :: v4 :: ls) (.int x :: st) h ↔ az_W C R k_X8_renew 17 (v0 :: v1 :: v2 :: az_un v3 :: .int x :: ls) st h := ap_istore rfl rfl
theorem u_X8_renew_17 : az_W C R k_X8_renew 17 (v0 :: v1 :: v2 :: v3 :: .int x :: ls) st h ↔ az_W C R k_X8_renew 19 (v0 :: v1 :: v2 :: v3 :: .int x :: ls) (.int x :: st) h := ap_iload rfl rfl
theorem u_X8_renew_19 : az_W C R k_X8_renew 19 ls st h ↔ az_W C R k_X8_renew 21 ls (.int 16 :: st) h := ap_const rfl
theorem u_X8_renew_21 : az_W C R k_X8_renew 21 ls (.int y :: .int x :: st) h ↔ if y ≤ x then az_W C R k_X8_renew 40 ls st h else az_W C R k_X8_renew 24 ls st h := ap_icge rfl
theorem u_X8_renew_24 : az_W C R k_X8_renew 24 (.ref a :: ls) st h ↔ az_W C R k_X8_renew 25 (.ref a :: ls) (.ref a :: st) h := ap_aload rfl rfl
theorem u_X8_renew_25 : az_W C R k_X8_renew 25 ls (.ref 86 :: st) (130, az_Pf, I, L) ↔ az_W C R k_X8_renew 28 ls (.ref 89 :: st) (130, az_Pf, I, L) := ap_getP rfl kn_86 pf_86_2
theorem u_X8_renew_28 : az_W C R k_X8_renew 28 (v0 :: .int x :: ls) st h ↔ az_W C R k_X8_renew 29 (v0 :: .int x :: ls) (.int x :: st) h := ap_iload rfl rfl
theorem u_X8_renew_29 (hk : (az_kn 130 a).1 = 3) : az_W C R k_X8_renew 29 ls (.int x :: .ref a :: st) (130, P, I, L) ↔ (az_in x (az_kn 130 a).2 ∧ ∃ b, P a x.toNatClampNeg = some b ∧ az_W C R k_X8_renew 30 ls (.ref b :: st) (130, P, I, L)) := ap_aald rfl (az_k1 hk)
theorem u_X8_renew_30 : az_W C R k_X8_renew 30 (v0 :: v1 :: v2 :: v3 :: .int x :: ls) st h ↔ az_W C R k_X8_renew 32 (v0 :: v1 :: v2 :: v3 :: .int x :: ls) (.int x :: st) h := ap_iload rfl rfl
theorem u_X8_renew_32 : az_W C R k_X8_renew 32 ls st h ↔ az_W C R k_X8_renew 33 ls (.int 0 :: st) h := ap_const rfl
theorem u_X8_renew_33 (hk : (az_kn 130 a).1 = 1) : az_W C R k_X8_renew 33 ls (.int y :: .int x :: .ref a :: st) (130, P, I, L) ↔ (az_in x (az_kn 130 a).2 ∧ az_W C R k_X8_renew 34 ls st (130, P, az_uI I a x.toNatClampNeg y, L)) := ap_iast rfl (az_k1 hk)
theorem u_X8_renew_34 : az_W C R k_X8_renew 34 (v0 :: v1 :: v2 :: v3 :: .int x :: ls) st h ↔ az_W C R k_X8_renew 37 (v0 :: v1 :: v2 :: az_un v3 :: .int (x + 1) :: ls) st h := ap_iinc rfl rfl rfl
theorem u_X8_renew_37 : az_W C R k_X8_renew 37 ls st h ↔ az_W C R k_X8_renew 17 ls st h := ap_goto rfl
theorem u_X8_renew_40 : az_W C R k_X8_renew 40 ls [] h ↔ R none h := ap_ret rfl
def k_X8_clear : Nat → az_P := (az_br 14 (az_br 6 (az_br 4 (az_br 1 (az_lf 0 (az_aload 0 1)) (az_lf 1 (az_getP 8 0 4))) (az_br 5 (az_lf 4 (az_iload 1 5)) (az_lf 5 (az_iald 6)))) (az_br 10 (az_br 7 (az_lf 6 (az_const (.int (-1)) 7)) (az_lf 7 (az_icne 13 10))) (az_br 12 (az_lf 10 (az_const (.int (-11)) 12)) (az_br 13 (az_lf 12 (az_iret)) (az_lf 13 (az_aload 0 14)))))) (az_br 20 (az_br 18 (az_br 17 (az_lf 14 (az_getP 8 0 17)) (az_lf 17 (az_iload 1 18))) (az_br 19 (az_lf 18 (az_const (.int (-1)) 19)) (az_lf 19 (az_iast 20)))) (az_br 24 (az_br 21 (az_lf 20 (az_aload 0 21)) (az_lf 21 (az_getP 8 1 24))) (az_br 25 (az_lf 24 (az_iload 1 25)) (az_br 26 (az_lf 25 (az_iald 26)) (az_lf 26 (az_iret)))))))
theorem u_X8_clear_0 : az_W C R k_X8_clear 0 (.ref a :: ls) st h ↔ az_W C R k_X8_clear 1 (.ref a :: ls) (.ref a :: st) h := ap_aload rfl rfl
theorem u_X8_clear_1 : az_W C R k_X8_clear 1 ls (.ref 86 :: st) (130, az_Pf, I, L) ↔ az_W C R k_X8_clear 4 ls (.ref 87 :: st) (130, az_Pf, I, L) := ap_getP rfl kn_86 pf_86_0
theorem u_X8_clear_4 : az_W C R k_X8_clear 4 (v0 :: .int x :: ls) st h ↔ az_W C R k_X8_clear 5 (v0 :: .int x :: ls) (.int x :: st) h := ap_iload rfl rfl
theorem u_X8_clear_5 (hk : (az_kn 130 a).1 = 1) : az_W C R k_X8_clear 5 ls (.int x :: .ref a :: st) (130, P, I, L) ↔ (az_in x (az_kn 130 a).2 ∧ az_W C R k_X8_clear 6 ls (.int (I a x.toNatClampNeg) :: st) (130, P, I, L)) := ap_iald rfl (az_k1 hk)
theorem u_X8_clear_6 : az_W C R k_X8_clear 6 ls st h ↔ az_W C R k_X8_clear 7 ls (.int (-1) :: st) h := ap_const rfl
theorem u_X8_clear_7 : az_W C R k_X8_clear 7 ls (.int y :: .int x :: st) h ↔ if x = y then az_W C R k_X8_clear 10 ls st h else az_W C R k_X8_clear 13 ls st h := ap_icne rfl
theorem u_X8_clear_10 : az_W C R k_X8_clear 10 ls st h ↔ az_W C R k_X8_clear 12 ls (.int (-11) :: st) h := ap_const rfl
theorem u_X8_clear_12 : az_W C R k_X8_clear 12 ls [.int x] h ↔ R (some (.int x)) h := ap_iret rfl
theorem u_X8_clear_13 : az_W C R k_X8_clear 13 (.ref a :: ls) st h ↔ az_W C R k_X8_clear 14 (.ref a :: ls) (.ref a :: st) h := ap_aload rfl rfl
theorem u_X8_clear_14 : az_W C R k_X8_clear 14 ls (.ref 86 :: st) (130, az_Pf, I, L) ↔ az_W C R k_X8_clear 17 ls (.ref 87 :: st) (130, az_Pf, I, L) := ap_getP rfl kn_86 pf_86_0
theorem u_X8_clear_17 : az_W C R k_X8_clear 17 (v0 :: .int x :: ls) st h ↔ az_W C R k_X8_clear 18 (v0 :: .int x :: ls) (.int x :: st) h := ap_iload rfl rfl
theorem u_X8_clear_18 : az_W C R k_X8_clear 18 ls st h ↔ az_W C R k_X8_clear 19 ls (.int (-1) :: st) h := ap_const rfl
theorem u_X8_clear_19 (hk : (az_kn 130 a).1 = 1) : az_W C R k_X8_clear 19 ls (.int y :: .int x :: .ref a :: st) (130, P, I, L) ↔ (az_in x (az_kn 130 a).2 ∧ az_W C R k_X8_clear 20 ls st (130, P, az_uI I a x.toNatClampNeg y, L)) := ap_iast rfl (az_k1 hk)
theorem u_X8_clear_20 : az_W C R k_X8_clear 20 (.ref a :: ls) st h ↔ az_W C R k_X8_clear 21 (.ref a :: ls) (.ref a :: st) h := ap_aload rfl rfl
theorem u_X8_clear_21 : az_W C R k_X8_clear 21 ls (.ref 86 :: st) (130, az_Pf, I, L) ↔ az_W C R k_X8_clear 24 ls (.ref 88 :: st) (130, az_Pf, I, L) := ap_getP rfl kn_86 pf_86_1
theorem u_X8_clear_24 : az_W C R k_X8_clear 24 (v0 :: .int x :: ls) st h ↔ az_W C R k_X8_clear 25 (v0 :: .int x :: ls) (.int x :: st) h := ap_iload rfl rfl
theorem u_X8_clear_25 (hk : (az_kn 130 a).1 = 1) : az_W C R k_X8_clear 25 ls (.int x :: .ref a :: st) (130, P, I, L) ↔ (az_in x (az_kn 130 a).2 ∧ az_W C R k_X8_clear 26 ls (.int (I a x.toNatClampNeg) :: st) (130, P, I, L)) := ap_iald rfl (az_k1 hk)
theorem u_X8_clear_26 : az_W C R k_X8_clear 26 ls [.int x] h ↔ R (some (.int x)) h := ap_iret rfl
def k_X8_read : Nat → az_P := (az_br 5 (az_br 1 (az_lf 0 (az_aload 0 1)) (az_br 4 (az_lf 1 (az_getP 8 2 4)) (az_lf 4 (az_iload 1 5)))) (az_br 7 (az_br 6 (az_lf 5 (az_aald 6)) (az_lf 6 (az_iload 2 7))) (az_br 8 (az_lf 7 (az_iald 8)) (az_lf 8 (az_iret)))))
theorem u_X8_read_0 : az_W C R k_X8_read 0 (.ref a :: ls) st h ↔ az_W C R k_X8_read 1 (.ref a :: ls) (.ref a :: st) h := ap_aload rfl rfl
theorem u_X8_read_1 : az_W C R k_X8_read 1 ls (.ref 86 :: st) (130, az_Pf, I, L) ↔ az_W C R k_X8_read 4 ls (.ref 89 :: st) (130, az_Pf, I, L) := ap_getP rfl kn_86 pf_86_2
theorem u_X8_read_4 : az_W C R k_X8_read 4 (v0 :: .int x :: ls) st h ↔ az_W C R k_X8_read 5 (v0 :: .int x :: ls) (.int x :: st) h := ap_iload rfl rfl
theorem u_X8_read_5 (hk : (az_kn 130 a).1 = 3) : az_W C R k_X8_read 5 ls (.int x :: .ref a :: st) (130, P, I, L) ↔ (az_in x (az_kn 130 a).2 ∧ ∃ b, P a x.toNatClampNeg = some b ∧ az_W C R k_X8_read 6 ls (.ref b :: st) (130, P, I, L)) := ap_aald rfl (az_k1 hk)
theorem u_X8_read_6 : az_W C R k_X8_read 6 (v0 :: v1 :: .int x :: ls) st h ↔ az_W C R k_X8_read 7 (v0 :: v1 :: .int x :: ls) (.int x :: st) h := ap_iload rfl rfl
theorem u_X8_read_7 (hk : (az_kn 130 a).1 = 1) : az_W C R k_X8_read 7 ls (.int x :: .ref a :: st) (130, P, I, L) ↔ (az_in x (az_kn 130 a).2 ∧ az_W C R k_X8_read 8 ls (.int (I a x.toNatClampNeg) :: st) (130, P, I, L)) := ap_iald rfl (az_k1 hk)
theorem u_X8_read_8 : az_W C R k_X8_read 8 ls [.int x] h ↔ R (some (.int x)) h := ap_iret rfl
def k_X8_write : Nat → az_P := (az_br 8 (az_br 5 (az_br 1 (az_lf 0 (az_aload 0 1)) (az_br 4 (az_lf 1 (az_getP 8 2 4)) (az_lf 4 (az_iload 1 5)))) (az_br 6 (az_lf 5 (az_aald 6)) (az_br 7 (az_lf 6 (az_iload 2 7)) (az_lf 7 (az_aload 0 8))))) (az_br 13 (az_br 11 (az_lf 8 (az_getP 8 0 11)) (az_br 12 (az_lf 11 (az_iload 1 12)) (az_lf 12 (az_iald 13)))) (az_br 17 (az_br 14 (az_lf 13 (az_iload 3 14)) (az_lf 14 (az_ivs 79 2 17))) (az_br 18 (az_lf 17 (az_iast 18)) (az_lf 18 (az_ret))))))
theorem u_X8_write_0 : az_W C R k_X8_write 0 (.ref a :: ls) st h ↔ az_W C R k_X8_write 1 (.ref a :: ls) (.ref a :: st) h := ap_aload rfl rfl
theorem u_X8_write_1 : az_W C R k_X8_write 1 ls (.ref 86 :: st) (130, az_Pf, I, L) ↔ az_W C R k_X8_write 4 ls (.ref 89 :: st) (130, az_Pf, I, L) := ap_getP rfl kn_86 pf_86_2
theorem u_X8_write_4 : az_W C R k_X8_write 4 (v0 :: .int x :: ls) st h ↔ az_W C R k_X8_write 5 (v0 :: .int x :: ls) (.int x :: st) h := ap_iload rfl rfl
theorem u_X8_write_5 (hk : (az_kn 130 a).1 = 3) : az_W C R k_X8_write 5 ls (.int x :: .ref a :: st) (130, P, I, L) ↔ (az_in x (az_kn 130 a).2 ∧ ∃ b, P a x.toNatClampNeg = some b ∧ az_W C R k_X8_write 6 ls (.ref b :: st) (130, P, I, L)) := ap_aald rfl (az_k1 hk)
theorem u_X8_write_6 : az_W C R k_X8_write 6 (v0 :: v1 :: .int x :: ls) st h ↔ az_W C R k_X8_write 7 (v0 :: v1 :: .int x :: ls) (.int x :: st) h := ap_iload rfl rfl
theorem u_X8_write_7 : az_W C R k_X8_write 7 (.ref a :: ls) st h ↔ az_W C R k_X8_write 8 (.ref a :: ls) (.ref a :: st) h := ap_aload rfl rfl
theorem u_X8_write_8 : az_W C R k_X8_write 8 ls (.ref 86 :: st) (130, az_Pf, I, L) ↔ az_W C R k_X8_write 11 ls (.ref 87 :: st) (130, az_Pf, I, L) := ap_getP rfl kn_86 pf_86_0
theorem u_X8_write_11 : az_W C R k_X8_write 11 (v0 :: .int x :: ls) st h ↔ az_W C R k_X8_write 12 (v0 :: .int x :: ls) (.int x :: st) h := ap_iload rfl rfl
theorem u_X8_write_12 (hk : (az_kn 130 a).1 = 1) : az_W C R k_X8_write 12 ls (.int x :: .ref a :: st) (130, P, I, L) ↔ (az_in x (az_kn 130 a).2 ∧ az_W C R k_X8_write 13 ls (.int (I a x.toNatClampNeg) :: st) (130, P, I, L)) := ap_iald rfl (az_k1 hk)
theorem u_X8_write_13 : az_W C R k_X8_write 13 (v0 :: v1 :: v2 :: .int x :: ls) st h ↔ az_W C R k_X8_write 14 (v0 :: v1 :: v2 :: .int x :: ls) (.int x :: st) h := ap_iload rfl rfl
theorem u_X8_write_14 (hl : st.length ≤ 4) : az_W C R k_X8_write 14 ls (v2 :: v1 :: st) h ↔ az_F C R (az_W C R k_X8_write) h (az_cl 79 [v1, v2] 17 ls st) := ap_ivs rfl rfl hl
theorem u_X8_write_17 (hk : (az_kn 130 a).1 = 1) : az_W C R k_X8_write 17 ls (.int y :: .int x :: .ref a :: st) (130, P, I, L) ↔ (az_in x (az_kn 130 a).2 ∧ az_W C R k_X8_write 18 ls st (130, P, az_uI I a x.toNatClampNeg y, L)) := ap_iast rfl (az_k1 hk)
theorem u_X8_write_18 : az_W C R k_X8_write 18 ls [] h ↔ R none h := ap_ret rfl
def k_X8_narrowed : Nat → az_P := (az_br 8 (az_br 5 (az_br 1 (az_lf 0 (az_iload 0 1)) (az_br 4 (az_lf 1 (az_ifne 7 4)) (az_lf 4 (az_iload 1 5)))) (az_br 6 (az_lf 5 (az_i (fun x => x.toInt8.toInt32) 6)) (az_br 7 (az_lf 6 (az_iret)) (az_lf 7 (az_iload 0 8))))) (az_br 13 (az_br 9 (az_lf 8 (az_const (.int 1) 9)) (az_br 12 (az_lf 9 (az_icne 17 12)) (az_lf 12 (az_iload 1 13)))) (az_br 17 (az_br 14 (az_lf 13 (az_i (fun x => x.toInt16.toInt32) 14)) (az_lf 14 (az_goto 18))) (az_br 18 (az_lf 17 (az_iload 1 18)) (az_lf 18 (az_iret))))))
theorem u_X8_narrowed_0 : az_W C R k_X8_narrowed 0 (.int x :: ls) st h ↔ az_W C R k_X8_narrowed 1 (.int x :: ls) (.int x :: st) h := ap_iload rfl rfl
theorem u_X8_narrowed_1 : az_W C R k_X8_narrowed 1 ls (.int x :: st) h ↔ if x = 0 then az_W C R k_X8_narrowed 4 ls st h else az_W C R k_X8_narrowed 7 ls st h := ap_ifne rfl
theorem u_X8_narrowed_4 : az_W C R k_X8_narrowed 4 (v0 :: .int x :: ls) st h ↔ az_W C R k_X8_narrowed 5 (v0 :: .int x :: ls) (.int x :: st) h := ap_iload rfl rfl
theorem u_X8_narrowed_5 : az_W C R k_X8_narrowed 5 ls (.int x :: st) h ↔ az_W C R k_X8_narrowed 6 ls (.int (x.toInt8.toInt32) :: st) h := ap_i (f := fun x => x.toInt8.toInt32) rfl
theorem u_X8_narrowed_6 : az_W C R k_X8_narrowed 6 ls [.int x] h ↔ R (some (.int x)) h := ap_iret rfl
theorem u_X8_narrowed_7 : az_W C R k_X8_narrowed 7 (.int x :: ls) st h ↔ az_W C R k_X8_narrowed 8 (.int x :: ls) (.int x :: st) h := ap_iload rfl rfl
theorem u_X8_narrowed_8 : az_W C R k_X8_narrowed 8 ls st h ↔ az_W C R k_X8_narrowed 9 ls (.int 1 :: st) h := ap_const rfl
theorem u_X8_narrowed_9 : az_W C R k_X8_narrowed 9 ls (.int y :: .int x :: st) h ↔ if x = y then az_W C R k_X8_narrowed 12 ls st h else az_W C R k_X8_narrowed 17 ls st h := ap_icne rfl
theorem u_X8_narrowed_12 : az_W C R k_X8_narrowed 12 (v0 :: .int x :: ls) st h ↔ az_W C R k_X8_narrowed 13 (v0 :: .int x :: ls) (.int x :: st) h := ap_iload rfl rfl
theorem u_X8_narrowed_13 : az_W C R k_X8_narrowed 13 ls (.int x :: st) h ↔ az_W C R k_X8_narrowed 14 ls (.int (x.toInt16.toInt32) :: st) h := ap_i (f := fun x => x.toInt16.toInt32) rfl
theorem u_X8_narrowed_14 : az_W C R k_X8_narrowed 14 ls st h ↔ az_W C R k_X8_narrowed 18 ls st h := ap_goto rfl
theorem u_X8_narrowed_17 : az_W C R k_X8_narrowed 17 (v0 :: .int x :: ls) st h ↔ az_W C R k_X8_narrowed 18 (v0 :: .int x :: ls) (.int x :: st) h := ap_iload rfl rfl
theorem u_X8_narrowed_18 : az_W C R k_X8_narrowed 18 ls [.int x] h ↔ R (some (.int x)) h := ap_iret rfl
end
