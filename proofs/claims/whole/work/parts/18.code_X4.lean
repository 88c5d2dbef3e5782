section
variable {C : az_C} {R : az_R} {ls st : List Value} {h : az_H} {n : Nat} {P : Nat → Nat → Option Nat} {I : Nat → Nat → Int32} {L : Nat → Nat → Int64}
variable {v0 v1 v2 v3 v4 v5 v6 v7 v8 v9 v10 v11 v12 : Value} {x y z : Int32} {p q : Int64} {a b : Nat} {M : Nat} {xs : Nat → Int32}
def k_X4_init : Nat → az_P := (az_br 34 (az_br 19 (az_br 7 (az_br 4 (az_br 1 (az_lf 0 (az_aload 0 1)) (az_lf 1 (az_oin 4))) (az_br 5 (az_lf 4 (az_aload 0 5)) (az_lf 5 (az_const (.int 30) 7)))) (az_br 13 (az_br 9 (az_lf 7 (az_const (.int 8) 9)) (az_lf 9 (az_mna 13))) (az_br 16 (az_lf 13 (az_putP 4 0 16)) (az_br 17 (az_lf 16 (az_aload 0 17)) (az_lf 17 (az_const (.int 8) 19)))))) (az_br 26 (az_br 24 (az_br 21 (az_lf 19 (az_newa 1 21)) (az_lf 21 (az_putP 4 1 24))) (az_br 25 (az_lf 24 (az_aload 0 25)) (az_lf 25 (az_const (.int 0) 26)))) (az_br 30 (az_br 29 (az_lf 26 (az_putI 4 2 29)) (az_lf 29 (az_const (.int 0) 30))) (az_br 31 (az_lf 30 (az_istore 1 31)) (az_br 32 (az_lf 31 (az_iload 1 32)) (az_lf 32 (az_const (.int 30) 34))))))) (az_br 50 (az_br 40 (az_br 38 (az_br 37 (az_lf 34 (az_icge 66 37)) (az_lf 37 (az_const (.int 0) 38))) (az_br 39 (az_lf 38 (az_istore 2 39)) (az_lf 39 (az_iload 2 40)))) (az_br 45 (az_br 42 (az_lf 40 (az_const (.int 8) 42)) (az_lf 42 (az_icge 60 45))) (az_br 46 (az_lf 45 (az_aload 0 46)) (az_br 49 (az_lf 46 (az_getP 4 0 49)) (az_lf 49 (az_iload 1 50)))))) (az_br 54 (az_br 52 (az_br 51 (az_lf 50 (az_aald 51)) (az_lf 51 (az_iload 2 52))) (az_br 53 (az_lf 52 (az_const (.int (-1)) 53)) (az_lf 53 (az_iast 54)))) (az_br 60 (az_br 57 (az_lf 54 (az_iinc 2 1 57)) (az_lf 57 (az_goto 39))) (az_br 63 (az_lf 60 (az_iinc 1 1 63)) (az_br 66 (az_lf 63 (az_goto 31)) (az_lf 66 (az_ret))))))))
theorem u_X4_init_0 : az_W C R k_X4_init 0 (.ref a :: ls) st h ↔ az_W C R k_X4_init 1 (.ref a :: ls) (.ref a :: st) h := ap_aload rfl rfl
theorem u_X4_init_1 (hl : st.length ≤ 4) : az_W C R k_X4_init 1 ls (.ref a :: st) h ↔ az_W C R k_X4_init 4 ls st h := ap_oin rfl hl
theorem u_X4_init_4 : az_W C R k_X4_init 4 (.ref a :: ls) st h ↔ az_W C R k_X4_init 5 (.ref a :: ls) (.ref a :: st) h := ap_aload rfl rfl
theorem u_X4_init_5 : az_W C R k_X4_init 5 ls st h ↔ az_W C R k_X4_init 7 ls (.int 30 :: st) h := ap_const rfl
theorem u_X4_init_7 : az_W C R k_X4_init 7 ls st h ↔ az_W C R k_X4_init 9 ls (.int 8 :: st) h := ap_const rfl
theorem u_X4_init_9 : az_W C R k_X4_init 9 ls (.int 8 :: .int 30 :: st) (3, P, I, L) ↔ az_W C R k_X4_init 13 ls (.ref 3 :: st) (34, az_uR P 3 30, I, L) := ap_mna rfl (by decide +kernel)
theorem u_X4_init_13 (hk : az_kn n a = (0, 4)) : az_W C R k_X4_init 13 ls (.ref b :: .ref a :: st) (n, P, I, L) ↔ az_W C R k_X4_init 16 ls st (n, az_uP P a 0 (some b), I, L) := ap_putP rfl hk
theorem u_X4_init_16 : az_W C R k_X4_init 16 (.ref a :: ls) st h ↔ az_W C R k_X4_init 17 (.ref a :: ls) (.ref a :: st) h := ap_aload rfl rfl
theorem u_X4_init_17 : az_W C R k_X4_init 17 ls st h ↔ az_W C R k_X4_init 19 ls (.int 8 :: st) h := ap_const rfl
theorem u_X4_init_19 : az_W C R k_X4_init 19 ls (.int 8 :: st) (34, P, I, L) ↔ az_W C R k_X4_init 21 ls (.ref 34 :: st) (35, P, I, L) := ap_newa rfl (by decide +kernel)
theorem u_X4_init_21 (hk : az_kn n a = (0, 4)) : az_W C R k_X4_init 21 ls (.ref b :: .ref a :: st) (n, P, I, L) ↔ az_W C R k_X4_init 24 ls st (n, az_uP P a 1 (some b), I, L) := ap_putP rfl hk
theorem u_X4_init_24 : az_W C R k_X4_init 24 (.ref a :: ls) st h ↔ az_W C R k_X4_init 25 (.ref a :: ls) (.ref a :: st) h := ap_aload rfl rfl
theorem u_X4_init_25 : az_W C R k_X4_init 25 ls st h ↔ az_W C R k_X4_init 26 ls (.int 0 :: st) h := ap_const rfl
theorem u_X4_init_26 (hk : az_kn n a = (0, 4)) : az_W C R k_X4_init 26 ls (.int x :: .ref a :: st) (n, P, I, L) ↔ az_W C R k_X4_init 29 ls st (n, P, az_uI I a 2 x, L) := ap_putI rfl hk
theorem u_X4_init_29 : az_W C R k_X4_init 29 ls st h ↔ az_W C R k_X4_init 30 ls (.int 0 :: st) h := ap_const rfl
theorem u_X4_init_30 : az_W C R k_X4_init 30 (v0 :: v1 :: ls) (.int x :: st) h ↔ az_W C R k_X4_init 31 (az_un v0 :: .int x :: ls) st h := ap_istore rfl rfl
theorem u_X4_init_31 : az_W C R k_X4_init 31 (v0 :: .int x :: ls) st h ↔ az_W C R k_X4_init 32 (v0 :: .int x :: ls) (.int x :: st) h := ap_iload rfl rfl
theorem u_X4_init_32 : az_W C R k_X4_init 32 ls st h ↔ az_W C R k_X4_init 34 ls (.int 30 :: st) h := ap_const rfl
theorem u_X4_init_34 : az_W C R k_X4_init 34 ls (.int y :: .int x :: st) h ↔ if y ≤ x then az_W C R k_X4_init 66 ls st h else az_W C R k_X4_init 37 ls st h := ap_icge rfl
theorem u_X4_init_37 : az_W C R k_X4_init 37 ls st h ↔ az_W C R k_X4_init 38 ls (.int 0 :: st) h := ap_const rfl
theorem u_X4_init_38 : az_W C R k_X4_init 38 (v0 :: v1 :: v2 :: ls) (.int x :: st) h ↔ az_W C R k_X4_init 39 (v0 :: az_un v1 :: .int x :: ls) st h := ap_istore rfl rfl
theorem u_X4_init_39 : az_W C R k_X4_init 39 (v0 :: v1 :: .int x :: ls) st h ↔ az_W C R k_X4_init 40 (v0 :: v1 :: .int x :: ls) (.int x :: st) h := ap_iload rfl rfl
theorem u_X4_init_40 : az_W C R k_X4_init 40 ls st h ↔ az_W C R k_X4_init 42 ls (.int 8 :: st) h := ap_const rfl
theorem u_X4_init_42 : az_W C R k_X4_init 42 ls (.int y :: .int x :: st) h ↔ if y ≤ x then az_W C R k_X4_init 60 ls st h else az_W C R k_X4_init 45 ls st h := ap_icge rfl
theorem u_X4_init_45 : az_W C R k_X4_init 45 (.ref a :: ls) st h ↔ az_W C R k_X4_init 46 (.ref a :: ls) (.ref a :: st) h := ap_aload rfl rfl
theorem u_X4_init_46 (hk : az_kn n a = (0, 4)) (hp : P a 0 = some b) : az_W C R k_X4_init 46 ls (.ref a :: st) (n, P, I, L) ↔ az_W C R k_X4_init 49 ls (.ref b :: st) (n, P, I, L) := ap_getP rfl hk hp
theorem u_X4_init_49 : az_W C R k_X4_init 49 (v0 :: .int x :: ls) st h ↔ az_W C R k_X4_init 50 (v0 :: .int x :: ls) (.int x :: st) h := ap_iload rfl rfl
theorem u_X4_init_50 (hk : (az_kn n a).1 = 3) : az_W C R k_X4_init 50 ls (.int x :: .ref a :: st) (n, P, I, L) ↔ (az_in x (az_kn n a).2 ∧ ∃ b, P a x.toNatClampNeg = some b ∧ az_W C R k_X4_init 51 ls (.ref b :: st) (n, P, I, L)) := ap_aald rfl (az_k1 hk)
theorem u_X4_init_51 : az_W C R k_X4_init 51 (v0 :: v1 :: .int x :: ls) st h ↔ az_W C R k_X4_init 52 (v0 :: v1 :: .int x :: ls) (.int x :: st) h := ap_iload rfl rfl
theorem u_X4_init_52 : az_W C R k_X4_init 52 ls st h ↔ az_W C R k_X4_init 53 ls (.int (-1) :: st) h := ap_const rfl
theorem u_X4_init_53 (hk : (az_kn n a).1 = 1) : az_W C R k_X4_init 53 ls (.int y :: .int x :: .ref a :: st) (n, P, I, L) ↔ (az_in x (az_kn n a).2 ∧ az_W C R k_X4_init 54 ls st (n, P, az_uI I a x.toNatClampNeg y, L)) := ap_iast rfl (az_k1 hk)
theorem u_X4_init_54 : az_W C R k_X4_init 54 (v0 :: v1 :: .int x :: ls) st h ↔ az_W C R k_X4_init 57 (v0 :: az_un v1 :: .int (x + 1) :: ls) st h := ap_iinc rfl rfl rfl
theorem u_X4_init_57 : az_W C R k_X4_init 57 ls st h ↔ az_W C R k_X4_init 39 ls st h := ap_goto rfl
theorem u_X4_init_60 : az_W C R k_X4_init 60 (v0 :: .int x :: ls) st h ↔ az_W C R k_X4_init 63 (az_un v0 :: .int (x + 1) :: ls) st h := ap_iinc rfl rfl rfl
theorem u_X4_init_63 : az_W C R k_X4_init 63 ls st h ↔ az_W C R k_X4_init 31 ls st h := ap_goto rfl
theorem u_X4_init_66 : az_W C R k_X4_init 66 ls [] h ↔ R none h := ap_ret rfl
def k_X4_heard : Nat → az_P := (az_br 5 (az_br 1 (az_lf 0 (az_aload 0 1)) (az_br 4 (az_lf 1 (az_getP 4 0 4)) (az_lf 4 (az_iload 2 5)))) (az_br 7 (az_br 6 (az_lf 5 (az_aald 6)) (az_lf 6 (az_iload 1 7))) (az_br 8 (az_lf 7 (az_iald 8)) (az_lf 8 (az_iret)))))
theorem u_X4_heard_0 : az_W C R k_X4_heard 0 (.ref a :: ls) st h ↔ az_W C R k_X4_heard 1 (.ref a :: ls) (.ref a :: st) h := ap_aload rfl rfl
theorem u_X4_heard_1 : az_W C R k_X4_heard 1 ls (.ref 2 :: st) (130, az_Pf, I, L) ↔ az_W C R k_X4_heard 4 ls (.ref 3 :: st) (130, az_Pf, I, L) := ap_getP rfl kn_2 pf_2_0
theorem u_X4_heard_4 : az_W C R k_X4_heard 4 (v0 :: v1 :: .int x :: ls) st h ↔ az_W C R k_X4_heard 5 (v0 :: v1 :: .int x :: ls) (.int x :: st) h := ap_iload rfl rfl
theorem u_X4_heard_5 (hk : (az_kn 130 a).1 = 3) : az_W C R k_X4_heard 5 ls (.int x :: .ref a :: st) (130, P, I, L) ↔ (az_in x (az_kn 130 a).2 ∧ ∃ b, P a x.toNatClampNeg = some b ∧ az_W C R k_X4_heard 6 ls (.ref b :: st) (130, P, I, L)) := ap_aald rfl (az_k1 hk)
theorem u_X4_heard_6 : az_W C R k_X4_heard 6 (v0 :: .int x :: ls) st h ↔ az_W C R k_X4_heard 7 (v0 :: .int x :: ls) (.int x :: st) h := ap_iload rfl rfl
theorem u_X4_heard_7 (hk : (az_kn 130 a).1 = 1) : az_W C R k_X4_heard 7 ls (.int x :: .ref a :: st) (130, P, I, L) ↔ (az_in x (az_kn 130 a).2 ∧ az_W C R k_X4_heard 8 ls (.int (I a x.toNatClampNeg) :: st) (130, P, I, L)) := ap_iald rfl (az_k1 hk)
theorem u_X4_heard_8 : az_W C R k_X4_heard 8 ls [.int x] h ↔ R (some (.int x)) h := ap_iret rfl
def k_X4_hear : Nat → az_P := (az_br 6 (az_br 4 (az_br 1 (az_lf 0 (az_aload 0 1)) (az_lf 1 (az_getP 4 0 4))) (az_br 5 (az_lf 4 (az_iload 2 5)) (az_lf 5 (az_aald 6)))) (az_br 8 (az_br 7 (az_lf 6 (az_iload 1 7)) (az_lf 7 (az_iload 3 8))) (az_br 9 (az_lf 8 (az_iast 9)) (az_lf 9 (az_ret)))))
theorem u_X4_hear_0 : az_W C R k_X4_hear 0 (.ref a :: ls) st h ↔ az_W C R k_X4_hear 1 (.ref a :: ls) (.ref a :: st) h := ap_aload rfl rfl
theorem u_X4_hear_1 : az_W C R k_X4_hear 1 ls (.ref 2 :: st) (130, az_Pf, I, L) ↔ az_W C R k_X4_hear 4 ls (.ref 3 :: st) (130, az_Pf, I, L) := ap_getP rfl kn_2 pf_2_0
theorem u_X4_hear_4 : az_W C R k_X4_hear 4 (v0 :: v1 :: .int x :: ls) st h ↔ az_W C R k_X4_hear 5 (v0 :: v1 :: .int x :: ls) (.int x :: st) h := ap_iload rfl rfl
theorem u_X4_hear_5 (hk : (az_kn 130 a).1 = 3) : az_W C R k_X4_hear 5 ls (.int x :: .ref a :: st) (130, P, I, L) ↔ (az_in x (az_kn 130 a).2 ∧ ∃ b, P a x.toNatClampNeg = some b ∧ az_W C R k_X4_hear 6 ls (.ref b :: st) (130, P, I, L)) := ap_aald rfl (az_k1 hk)
theorem u_X4_hear_6 : az_W C R k_X4_hear 6 (v0 :: .int x :: ls) st h ↔ az_W C R k_X4_hear 7 (v0 :: .int x :: ls) (.int x :: st) h := ap_iload rfl rfl
theorem u_X4_hear_7 : az_W C R k_X4_hear 7 (v0 :: v1 :: v2 :: .int x :: ls) st h ↔ az_W C R k_X4_hear 8 (v0 :: v1 :: v2 :: .int x :: ls) (.int x :: st) h := ap_iload rfl rfl
theorem u_X4_hear_8 (hk : (az_kn 130 a).1 = 1) : az_W C R k_X4_hear 8 ls (.int y :: .int x :: .ref a :: st) (130, P, I, L) ↔ (az_in x (az_kn 130 a).2 ∧ az_W C R k_X4_hear 9 ls st (130, P, az_uI I a x.toNatClampNeg y, L)) := ap_iast rfl (az_k1 hk)
theorem u_X4_hear_9 : az_W C R k_X4_hear 9 ls [] h ↔ R none h := ap_ret rfl
def k_X4_rowOf : Nat → az_P := (az_br 4 (az_br 1 (az_lf 0 (az_aload 0 1)) (az_lf 1 (az_getP 4 0 4))) (az_br 5 (az_lf 4 (az_iload 1 5)) (az_br 6 (az_lf 5 (az_aald 6)) (az_lf 6 (az_aret)))))
theorem u_X4_rowOf_0 : az_W C R k_X4_rowOf 0 (.ref a :: ls) st h ↔ az_W C R k_X4_rowOf 1 (.ref a :: ls) (.ref a :: st) h := ap_aload rfl rfl
theorem u_X4_rowOf_1 : az_W C R k_X4_rowOf 1 ls (.ref 2 :: st) (130, az_Pf, I, L) ↔ az_W C R k_X4_rowOf 4 ls (.ref 3 :: st) (130, az_Pf, I, L) := ap_getP rfl kn_2 pf_2_0
theorem u_X4_rowOf_4 : az_W C R k_X4_rowOf 4 (v0 :: .int x :: ls) st h ↔ az_W C R k_X4_rowOf 5 (v0 :: .int x :: ls) (.int x :: st) h := ap_iload rfl rfl
theorem u_X4_rowOf_5 (hk : (az_kn 130 a).1 = 3) : az_W C R k_X4_rowOf 5 ls (.int x :: .ref a :: st) (130, P, I, L) ↔ (az_in x (az_kn 130 a).2 ∧ ∃ b, P a x.toNatClampNeg = some b ∧ az_W C R k_X4_rowOf 6 ls (.ref b :: st) (130, P, I, L)) := ap_aald rfl (az_k1 hk)
theorem u_X4_rowOf_6 : az_W C R k_X4_rowOf 6 ls [.ref a] h ↔ R (some (.ref a)) h := ap_aret rfl
def k_X4_findMean : Nat → az_P := (az_br 37 (az_br 16 (az_br 9 (az_br 2 (az_br 1 (az_lf 0 (az_aload 0 1)) (az_lf 1 (az_aload 1 2))) (az_br 5 (az_lf 2 (az_ivv 39 1 4 5)) (az_br 6 (az_lf 5 (az_aload 0 6)) (az_lf 6 (az_getI 4 2 9))))) (az_br 12 (az_br 10 (az_lf 9 (az_const (.int 2) 10)) (az_br 11 (az_lf 10 (az_iload 2 11)) (az_lf 11 (az_ii (fun x y => x * y) 12)))) (az_br 13 (az_lf 12 (az_ii (fun x y => x - y) 13)) (az_br 15 (az_lf 13 (az_istore 5 15)) (az_lf 15 (az_aload 0 16)))))) (az_br 29 (az_br 23 (az_br 19 (az_lf 16 (az_getI 4 2 19)) (az_br 20 (az_lf 19 (az_iload 3 20)) (az_lf 20 (az_iclt 29 23)))) (az_br 25 (az_lf 23 (az_iload 5 25)) (az_br 26 (az_lf 25 (az_const (.int 1) 26)) (az_lf 26 (az_icge 31 29))))) (az_br 32 (az_br 30 (az_lf 29 (az_const (.int 0) 30)) (az_br 31 (az_lf 30 (az_zret)) (az_lf 31 (az_const (.int 0) 32)))) (az_br 34 (az_lf 32 (az_istore 6 34)) (az_br 35 (az_lf 34 (az_iload 2 35)) (az_lf 35 (az_istore 7 37))))))) (az_br 57 (az_br 48 (az_br 42 (az_br 39 (az_lf 37 (az_iload 7 39)) (az_br 40 (az_lf 39 (az_iload 2 40)) (az_lf 40 (az_iload 5 42)))) (az_br 43 (az_lf 42 (az_ii (fun x y => x + y) 43)) (az_br 46 (az_lf 43 (az_icge 66 46)) (az_lf 46 (az_iload 6 48))))) (az_br 53 (az_br 49 (az_lf 48 (az_aload 1 49)) (az_br 50 (az_lf 49 (az_aload 0 50)) (az_lf 50 (az_getP 4 1 53)))) (az_br 55 (az_lf 53 (az_iload 7 55)) (az_br 56 (az_lf 55 (az_iald 56)) (az_lf 56 (az_iald 57)))))) (az_br 70 (az_br 63 (az_br 58 (az_lf 57 (az_ii (fun x y => x + y) 58)) (az_br 60 (az_lf 58 (az_istore 6 60)) (az_lf 60 (az_iinc 7 1 63)))) (az_br 66 (az_lf 63 (az_goto 37)) (az_br 68 (az_lf 66 (az_aload 4 68)) (az_lf 68 (az_iload 6 70))))) (az_br 74 (az_br 71 (az_lf 70 (az_i2l 71)) (az_br 73 (az_lf 71 (az_iload 5 73)) (az_lf 73 (az_i2l 74)))) (az_br 77 (az_lf 74 (az_ivv 19 2 2 77)) (az_br 78 (az_lf 77 (az_const (.int 1) 78)) (az_lf 78 (az_zret))))))))
theorem u_X4_findMean_0 : az_W C R k_X4_findMean 0 (.ref a :: ls) st h ↔ az_W C R k_X4_findMean 1 (.ref a :: ls) (.ref a :: st) h := ap_aload rfl rfl
theorem u_X4_findMean_1 : az_W C R k_X4_findMean 1 (v0 :: .ref a :: ls) st h ↔ az_W C R k_X4_findMean 2 (v0 :: .ref a :: ls) (.ref a :: st) h := ap_aload rfl rfl
theorem u_X4_findMean_2 (hl : st.length ≤ 4) : az_W C R k_X4_findMean 2 ls (v1 :: .ref 2 :: st) (130, P, I, L) ↔ az_F C R (az_W C R k_X4_findMean) (130, P, I, L) (az_cl 39 [.ref 2, v1] 5 ls st) := ap_ivv rfl rfl kn_2 hl
theorem u_X4_findMean_5 : az_W C R k_X4_findMean 5 (.ref a :: ls) st h ↔ az_W C R k_X4_findMean 6 (.ref a :: ls) (.ref a :: st) h := ap_aload rfl rfl
theorem u_X4_findMean_6 : az_W C R k_X4_findMean 6 ls (.ref 2 :: st) (130, P, I, L) ↔ az_W C R k_X4_findMean 9 ls (.int (I 2 2) :: st) (130, P, I, L) := ap_getI rfl kn_2
theorem u_X4_findMean_9 : az_W C R k_X4_findMean 9 ls st h ↔ az_W C R k_X4_findMean 10 ls (.int 2 :: st) h := ap_const rfl
theorem u_X4_findMean_10 : az_W C R k_X4_findMean 10 (v0 :: v1 :: .int x :: ls) st h ↔ az_W C R k_X4_findMean 11 (v0 :: v1 :: .int x :: ls) (.int x :: st) h := ap_iload rfl rfl
theorem u_X4_findMean_11 : az_W C R k_X4_findMean 11 ls (.int y :: .int x :: st) h ↔ az_W C R k_X4_findMean 12 ls (.int (x * y) :: st) h := ap_ii (f := fun x y => x * y) rfl
theorem u_X4_findMean_12 : az_W C R k_X4_findMean 12 ls (.int y :: .int x :: st) h ↔ az_W C R k_X4_findMean 13 ls (.int (x - y) :: st) h := ap_ii (f := fun x y => x - y) rfl
theorem u_X4_findMean_13 : az_W C R k_X4_findMean 13 (v0 :: v1 :: v2 :: v3 :: v4 :: v5 :: ls) (.int x :: st) h ↔ az_W C R k_X4_findMean 15 (v0 :: v1 :: v2 :: v3 :: az_un v4 :: .int x :: ls) st h := ap_istore rfl rfl
theorem u_X4_findMean_15 : az_W C R k_X4_findMean 15 (.ref a :: ls) st h ↔ az_W C R k_X4_findMean 16 (.ref a :: ls) (.ref a :: st) h := ap_aload rfl rfl
theorem u_X4_findMean_16 : az_W C R k_X4_findMean 16 ls (.ref 2 :: st) (130, P, I, L) ↔ az_W C R k_X4_findMean 19 ls (.int (I 2 2) :: st) (130, P, I, L) := ap_getI rfl kn_2
theorem u_X4_findMean_19 : az_W C R k_X4_findMean 19 (v0 :: v1 :: v2 :: .int x :: ls) st h ↔ az_W C R k_X4_findMean 20 (v0 :: v1 :: v2 :: .int x :: ls) (.int x :: st) h := ap_iload rfl rfl
theorem u_X4_findMean_20 : az_W C R k_X4_findMean 20 ls (.int y :: .int x :: st) h ↔ if x < y then az_W C R k_X4_findMean 29 ls st h else az_W C R k_X4_findMean 23 ls st h := ap_iclt rfl
theorem u_X4_findMean_23 : az_W C R k_X4_findMean 23 (v0 :: v1 :: v2 :: v3 :: v4 :: .int x :: ls) st h ↔ az_W C R k_X4_findMean 25 (v0 :: v1 :: v2 :: v3 :: v4 :: .int x :: ls) (.int x :: st) h := ap_iload rfl rfl
theorem u_X4_findMean_25 : az_W C R k_X4_findMean 25 ls st h ↔ az_W C R k_X4_findMean 26 ls (.int 1 :: st) h := ap_const rfl
theorem u_X4_findMean_26 : az_W C R k_X4_findMean 26 ls (.int y :: .int x :: st) h ↔ if y ≤ x then az_W C R k_X4_findMean 31 ls st h else az_W C R k_X4_findMean 29 ls st h := ap_icge rfl
theorem u_X4_findMean_29 : az_W C R k_X4_findMean 29 ls st h ↔ az_W C R k_X4_findMean 30 ls (.int 0 :: st) h := ap_const rfl
theorem u_X4_findMean_30 : az_W C R k_X4_findMean 30 ls [.int x] h ↔ ((x = 0 ∨ x = 1) ∧ R (some (.int x)) h) := ap_zret rfl
theorem u_X4_findMean_31 : az_W C R k_X4_findMean 31 ls st h ↔ az_W C R k_X4_findMean 32 ls (.int 0 :: st) h := ap_const rfl
theorem u_X4_findMean_32 : az_W C R k_X4_findMean 32 (v0 :: v1 :: v2 :: v3 :: v4 :: v5 :: v6 :: ls) (.int x :: st) h ↔ az_W C R k_X4_findMean 34 (v0 :: v1 :: v2 :: v3 :: v4 :: az_un v5 :: .int x :: ls) st h := ap_istore rfl rfl
theorem u_X4_findMean_34 : az_W C R k_X4_findMean 34 (v0 :: v1 :: .int x :: ls) st h ↔ az_W C R k_X4_findMean 35 (v0 :: v1 :: .int x :: ls) (.int x :: st) h := ap_iload rfl rfl
theorem u_X4_findMean_35 : az_W C R k_X4_findMean 35 (v0 :: v1 :: v2 :: v3 :: v4 :: v5 :: v6 :: v7 :: ls) (.int x :: st) h ↔ az_W C R k_X4_findMean 37 (v0 :: v1 :: v2 :: v3 :: v4 :: v5 :: az_un v6 :: .int x :: ls) st h := ap_istore rfl rfl
theorem u_X4_findMean_37 : az_W C R k_X4_findMean 37 (v0 :: v1 :: v2 :: v3 :: v4 :: v5 :: v6 :: .int x :: ls) st h ↔ az_W C R k_X4_findMean 39 (v0 :: v1 :: v2 :: v3 :: v4 :: v5 :: v6 :: .int x :: ls) (.int x :: st) h := ap_iload rfl rfl
theorem u_X4_findMean_39 : az_W C R k_X4_findMean 39 (v0 :: v1 :: .int x :: ls) st h ↔ az_W C R k_X4_findMean 40 (v0 :: v1 :: .int x :: ls) (.int x :: st) h := ap_iload rfl rfl
theorem u_X4_findMean_40 : az_W C R k_X4_findMean 40 (v0 :: v1 :: v2 :: v3 :: v4 :: .int x :: ls) st h ↔ az_W C R k_X4_findMean 42 (v0 :: v1 :: v2 :: v3 :: v4 :: .int x :: ls) (.int x :: st) h := ap_iload rfl rfl
theorem u_X4_findMean_42 : az_W C R k_X4_findMean 42 ls (.int y :: .int x :: st) h ↔ az_W C R k_X4_findMean 43 ls (.int (x + y) :: st) h := ap_ii (f := fun x y => x + y) rfl
theorem u_X4_findMean_43 : az_W C R k_X4_findMean 43 ls (.int y :: .int x :: st) h ↔ if y ≤ x then az_W C R k_X4_findMean 66 ls st h else az_W C R k_X4_findMean 46 ls st h := ap_icge rfl
theorem u_X4_findMean_46 : az_W C R k_X4_findMean 46 (v0 :: v1 :: v2 :: v3 :: v4 :: v5 :: .int x :: ls) st h ↔ az_W C R k_X4_findMean 48 (v0 :: v1 :: v2 :: v3 :: v4 :: v5 :: .int x :: ls) (.int x :: st) h := ap_iload rfl rfl
theorem u_X4_findMean_48 : az_W C R k_X4_findMean 48 (v0 :: .ref a :: ls) st h ↔ az_W C R k_X4_findMean 49 (v0 :: .ref a :: ls) (.ref a :: st) h := ap_aload rfl rfl
theorem u_X4_findMean_49 : az_W C R k_X4_findMean 49 (.ref a :: ls) st h ↔ az_W C R k_X4_findMean 50 (.ref a :: ls) (.ref a :: st) h := ap_aload rfl rfl
theorem u_X4_findMean_50 : az_W C R k_X4_findMean 50 ls (.ref 2 :: st) (130, az_Pf, I, L) ↔ az_W C R k_X4_findMean 53 ls (.ref 34 :: st) (130, az_Pf, I, L) := ap_getP rfl kn_2 pf_2_1
theorem u_X4_findMean_53 : az_W C R k_X4_findMean 53 (v0 :: v1 :: v2 :: v3 :: v4 :: v5 :: v6 :: .int x :: ls) st h ↔ az_W C R k_X4_findMean 55 (v0 :: v1 :: v2 :: v3 :: v4 :: v5 :: v6 :: .int x :: ls) (.int x :: st) h := ap_iload rfl rfl
theorem u_X4_findMean_55 (hk : (az_kn 130 a).1 = 1) : az_W C R k_X4_findMean 55 ls (.int x :: .ref a :: st) (130, P, I, L) ↔ (az_in x (az_kn 130 a).2 ∧ az_W C R k_X4_findMean 56 ls (.int (I a x.toNatClampNeg) :: st) (130, P, I, L)) := ap_iald rfl (az_k1 hk)
theorem u_X4_findMean_56 (hk : (az_kn 130 a).1 = 1) : az_W C R k_X4_findMean 56 ls (.int x :: .ref a :: st) (130, P, I, L) ↔ (az_in x (az_kn 130 a).2 ∧ az_W C R k_X4_findMean 57 ls (.int (I a x.toNatClampNeg) :: st) (130, P, I, L)) := ap_iald rfl (az_k1 hk)
theorem u_X4_findMean_57 : az_W C R k_X4_findMean 57 ls (.int y :: .int x :: st) h ↔ az_W C R k_X4_findMean 58 ls (.int (x + y) :: st) h := ap_ii (f := fun x y => x + y) rfl
theorem u_X4_findMean_58 : az_W C R k_X4_findMean 58 (v0 :: v1 :: v2 :: v3 :: v4 :: v5 :: v6 :: ls) (.int x :: st) h ↔ az_W C R k_X4_findMean 60 (v0 :: v1 :: v2 :: v3 :: v4 :: az_un v5 :: .int x :: ls) st h := ap_istore rfl rfl
theorem u_X4_findMean_60 : az_W C R k_X4_findMean 60 (v0 :: v1 :: v2 :: v3 :: v4 :: v5 :: v6 :: .int x :: ls) st h ↔ az_W C R k_X4_findMean 63 (v0 :: v1 :: v2 :: v3 :: v4 :: v5 :: az_un v6 :: .int (x + 1) :: ls) st h := ap_iinc rfl rfl rfl
theorem u_X4_findMean_63 : az_W C R k_X4_findMean 63 ls st h ↔ az_W C R k_X4_findMean 37 ls st h := ap_goto rfl
theorem u_X4_findMean_66 : az_W C R k_X4_findMean 66 (v0 :: v1 :: v2 :: v3 :: .ref a :: ls) st h ↔ az_W C R k_X4_findMean 68 (v0 :: v1 :: v2 :: v3 :: .ref a :: ls) (.ref a :: st) h := ap_aload rfl rfl
theorem u_X4_findMean_68 : az_W C R k_X4_findMean 68 (v0 :: v1 :: v2 :: v3 :: v4 :: v5 :: .int x :: ls) st h ↔ az_W C R k_X4_findMean 70 (v0 :: v1 :: v2 :: v3 :: v4 :: v5 :: .int x :: ls) (.int x :: st) h := ap_iload rfl rfl
theorem u_X4_findMean_70 : az_W C R k_X4_findMean 70 ls (.int x :: st) h ↔ az_W C R k_X4_findMean 71 ls (.long x.toInt64 :: st) h := ap_i2l rfl
theorem u_X4_findMean_71 : az_W C R k_X4_findMean 71 (v0 :: v1 :: v2 :: v3 :: v4 :: .int x :: ls) st h ↔ az_W C R k_X4_findMean 73 (v0 :: v1 :: v2 :: v3 :: v4 :: .int x :: ls) (.int x :: st) h := ap_iload rfl rfl
theorem u_X4_findMean_73 : az_W C R k_X4_findMean 73 ls (.int x :: st) h ↔ az_W C R k_X4_findMean 74 ls (.long x.toInt64 :: st) h := ap_i2l rfl
theorem u_X4_findMean_74 (hk : az_kn 130 a = (0, 2)) (hl : st.length ≤ 4) : az_W C R k_X4_findMean 74 ls (v2 :: v1 :: .ref a :: st) (130, P, I, L) ↔ az_F C R (az_W C R k_X4_findMean) (130, P, I, L) (az_cl 19 [.ref a, v1, v2] 77 ls st) := ap_ivv rfl rfl hk hl
theorem u_X4_findMean_77 : az_W C R k_X4_findMean 77 ls st h ↔ az_W C R k_X4_findMean 78 ls (.int 1 :: st) h := ap_const rfl
theorem u_X4_findMean_78 : az_W C R k_X4_findMean 78 ls [.int x] h ↔ ((x = 0 ∨ x = 1) ∧ R (some (.int x)) h) := ap_zret rfl
def k_X4_sort : Nat → az_P := (az_br 15 (az_br 7 (az_br 2 (az_br 1 (az_lf 0 (az_aload 0 1)) (az_lf 1 (az_const (.int 0) 2))) (az_br 5 (az_lf 2 (az_putI 4 2 5)) (az_br 6 (az_lf 5 (az_const (.int 0) 6)) (az_lf 6 (az_istore 2 7))))) (az_br 10 (az_br 8 (az_lf 7 (az_iload 2 8)) (az_lf 8 (az_const (.int 8) 10))) (az_br 13 (az_lf 10 (az_icge 32 13)) (az_br 14 (az_lf 13 (az_aload 1 14)) (az_lf 14 (az_iload 2 15)))))) (az_br 22 (az_br 17 (az_br 16 (az_lf 15 (az_iald 16)) (az_lf 16 (az_const (.int (-1)) 17))) (az_br 20 (az_lf 17 (az_iceq 26 20)) (az_br 21 (az_lf 20 (az_aload 0 21)) (az_lf 21 (az_aload 1 22))))) (az_br 26 (az_br 23 (az_lf 22 (az_iload 2 23)) (az_lf 23 (az_ivv 40 2 4 26))) (az_br 29 (az_lf 26 (az_iinc 2 1 29)) (az_br 32 (az_lf 29 (az_goto 7)) (az_lf 32 (az_ret)))))))
theorem u_X4_sort_0 : az_W C R k_X4_sort 0 (.ref a :: ls) st h ↔ az_W C R k_X4_sort 1 (.ref a :: ls) (.ref a :: st) h := ap_aload rfl rfl
theorem u_X4_sort_1 : az_W C R k_X4_sort 1 ls st h ↔ az_W C R k_X4_sort 2 ls (.int 0 :: st) h := ap_const rfl
theorem u_X4_sort_2 : az_W C R k_X4_sort 2 ls (.int x :: .ref 2 :: st) (130, P, I, L) ↔ az_W C R k_X4_sort 5 ls st (130, P, az_uI I 2 2 x, L) := ap_putI rfl kn_2
theorem u_X4_sort_5 : az_W C R k_X4_sort 5 ls st h ↔ az_W C R k_X4_sort 6 ls (.int 0 :: st) h := ap_const rfl
theorem u_X4_sort_6 : az_W C R k_X4_sort 6 (v0 :: v1 :: v2 :: ls) (.int x :: st) h ↔ az_W C R k_X4_sort 7 (v0 :: az_un v1 :: .int x :: ls) st h := ap_istore rfl rfl
theorem u_X4_sort_7 : az_W C R k_X4_sort 7 (v0 :: v1 :: .int x :: ls) st h ↔ az_W C R k_X4_sort 8 (v0 :: v1 :: .int x :: ls) (.int x :: st) h := ap_iload rfl rfl
theorem u_X4_sort_8 : az_W C R k_X4_sort 8 ls st h ↔ az_W C R k_X4_sort 10 ls (.int 8 :: st) h := ap_const rfl
theorem u_X4_sort_10 : az_W C R k_X4_sort 10 ls (.int y :: .int x :: st) h ↔ if y ≤ x then az_W C R k_X4_sort 32 ls st h else az_W C R k_X4_sort 13 ls st h := ap_icge rfl
theorem u_X4_sort_13 : az_W C R k_X4_sort 13 (v0 :: .ref a :: ls) st h ↔ az_W C R k_X4_sort 14 (v0 :: .ref a :: ls) (.ref a :: st) h := ap_aload rfl rfl
theorem u_X4_sort_14 : az_W C R k_X4_sort 14 (v0 :: v1 :: .int x :: ls) st h ↔ az_W C R k_X4_sort 15 (v0 :: v1 :: .int x :: ls) (.int x :: st) h := ap_iload rfl rfl
theorem u_X4_sort_15 (hk : (az_kn 130 a).1 = 1) : az_W C R k_X4_sort 15 ls (.int x :: .ref a :: st) (130, P, I, L) ↔ (az_in x (az_kn 130 a).2 ∧ az_W C R k_X4_sort 16 ls (.int (I a x.toNatClampNeg) :: st) (130, P, I, L)) := ap_iald rfl (az_k1 hk)
theorem u_X4_sort_16 : az_W C R k_X4_sort 16 ls st h ↔ az_W C R k_X4_sort 17 ls (.int (-1) :: st) h := ap_const rfl
theorem u_X4_sort_17 : az_W C R k_X4_sort 17 ls (.int y :: .int x :: st) h ↔ if x = y then az_W C R k_X4_sort 26 ls st h else az_W C R k_X4_sort 20 ls st h := ap_iceq rfl
theorem u_X4_sort_20 : az_W C R k_X4_sort 20 (.ref a :: ls) st h ↔ az_W C R k_X4_sort 21 (.ref a :: ls) (.ref a :: st) h := ap_aload rfl rfl
theorem u_X4_sort_21 : az_W C R k_X4_sort 21 (v0 :: .ref a :: ls) st h ↔ az_W C R k_X4_sort 22 (v0 :: .ref a :: ls) (.ref a :: st) h := ap_aload rfl rfl
theorem u_X4_sort_22 : az_W C R k_X4_sort 22 (v0 :: v1 :: .int x :: ls) st h ↔ az_W C R k_X4_sort 23 (v0 :: v1 :: .int x :: ls) (.int x :: st) h := ap_iload rfl rfl
theorem u_X4_sort_23 (hl : st.length ≤ 4) : az_W C R k_X4_sort 23 ls (v2 :: v1 :: .ref 2 :: st) (130, P, I, L) ↔ az_F C R (az_W C R k_X4_sort) (130, P, I, L) (az_cl 40 [.ref 2, v1, v2] 26 ls st) := ap_ivv rfl rfl kn_2 hl
theorem u_X4_sort_26 : az_W C R k_X4_sort 26 (v0 :: v1 :: .int x :: ls) st h ↔ az_W C R k_X4_sort 29 (v0 :: az_un v1 :: .int (x + 1) :: ls) st h := ap_iinc rfl rfl rfl
theorem u_X4_sort_29 : az_W C R k_X4_sort 29 ls st h ↔ az_W C R k_X4_sort 7 ls st h := ap_goto rfl
theorem u_X4_sort_32 : az_W C R k_X4_sort 32 ls [] h ↔ R none h := ap_ret rfl
def k_X4_insert : Nat → az_P := (az_br 30 (az_br 16 (az_br 9 (az_br 4 (az_br 1 (az_lf 0 (az_aload 0 1)) (az_lf 1 (az_getI 4 2 4))) (az_br 5 (az_lf 4 (az_istore 3 5)) (az_br 6 (az_lf 5 (az_iload 3 6)) (az_lf 6 (az_ifle 45 9))))) (az_br 11 (az_br 10 (az_lf 9 (az_aload 1 10)) (az_lf 10 (az_aload 0 11))) (az_br 14 (az_lf 11 (az_getP 4 1 14)) (az_br 15 (az_lf 14 (az_iload 3 15)) (az_lf 15 (az_const (.int 1) 16)))))) (az_br 21 (az_br 18 (az_br 17 (az_lf 16 (az_ii (fun x y => x - y) 17)) (az_lf 17 (az_iald 18))) (az_br 19 (az_lf 18 (az_iald 19)) (az_br 20 (az_lf 19 (az_aload 1 20)) (az_lf 20 (az_iload 2 21))))) (az_br 25 (az_br 22 (az_lf 21 (az_iald 22)) (az_lf 22 (az_icle 45 25))) (az_br 26 (az_lf 25 (az_aload 0 26)) (az_br 29 (az_lf 26 (az_getP 4 1 29)) (az_lf 29 (az_iload 3 30))))))) (az_br 46 (az_br 37 (az_br 34 (az_br 31 (az_lf 30 (az_aload 0 31)) (az_lf 31 (az_getP 4 1 34))) (az_br 35 (az_lf 34 (az_iload 3 35)) (az_br 36 (az_lf 35 (az_const (.int 1) 36)) (az_lf 36 (az_ii (fun x y => x - y) 37))))) (az_br 39 (az_br 38 (az_lf 37 (az_iald 38)) (az_lf 38 (az_iast 39))) (az_br 42 (az_lf 39 (az_iinc 3 (-1) 42)) (az_br 45 (az_lf 42 (az_goto 5)) (az_lf 45 (az_aload 0 46)))))) (az_br 53 (az_br 50 (az_br 49 (az_lf 46 (az_getP 4 1 49)) (az_lf 49 (az_iload 3 50))) (az_br 51 (az_lf 50 (az_iload 2 51)) (az_br 52 (az_lf 51 (az_iast 52)) (az_lf 52 (az_aload 0 53))))) (az_br 58 (az_br 54 (az_lf 53 (az_dup 54)) (az_br 57 (az_lf 54 (az_getI 4 2 57)) (az_lf 57 (az_const (.int 1) 58)))) (az_br 59 (az_lf 58 (az_ii (fun x y => x + y) 59)) (az_br 62 (az_lf 59 (az_putI 4 2 62)) (az_lf 62 (az_ret))))))))
theorem u_X4_insert_0 : az_W C R k_X4_insert 0 (.ref a :: ls) st h ↔ az_W C R k_X4_insert 1 (.ref a :: ls) (.ref a :: st) h := ap_aload rfl rfl
theorem u_X4_insert_1 : az_W C R k_X4_insert 1 ls (.ref 2 :: st) (130, P, I, L) ↔ az_W C R k_X4_insert 4 ls (.int (I 2 2) :: st) (130, P, I, L) := ap_getI rfl kn_2
theorem u_X4_insert_4 : az_W C R k_X4_insert 4 (v0 :: v1 :: v2 :: v3 :: ls) (.int x :: st) h ↔ az_W C R k_X4_insert 5 (v0 :: v1 :: az_un v2 :: .int x :: ls) st h := ap_istore rfl rfl
theorem u_X4_insert_5 : az_W C R k_X4_insert 5 (v0 :: v1 :: v2 :: .int x :: ls) st h ↔ az_W C R k_X4_insert 6 (v0 :: v1 :: v2 :: .int x :: ls) (.int x :: st) h := ap_iload rfl rfl
theorem u_X4_insert_6 : az_W C R k_X4_insert 6 ls (.int x :: st) h ↔ if x ≤ 0 then az_W C R k_X4_insert 45 ls st h else az_W C R k_X4_insert 9 ls st h := ap_ifle rfl
theorem u_X4_insert_9 : az_W C R k_X4_insert 9 (v0 :: .ref a :: ls) st h ↔ az_W C R k_X4_insert 10 (v0 :: .ref a :: ls) (.ref a :: st) h := ap_aload rfl rfl
theorem u_X4_insert_10 : az_W C R k_X4_insert 10 (.ref a :: ls) st h ↔ az_W C R k_X4_insert 11 (.ref a :: ls) (.ref a :: st) h := ap_aload rfl rfl
theorem u_X4_insert_11 : az_W C R k_X4_insert 11 ls (.ref 2 :: st) (130, az_Pf, I, L) ↔ az_W C R k_X4_insert 14 ls (.ref 34 :: st) (130, az_Pf, I, L) := ap_getP rfl kn_2 pf_2_1
theorem u_X4_insert_14 : az_W C R k_X4_insert 14 (v0 :: v1 :: v2 :: .int x :: ls) st h ↔ az_W C R k_X4_insert 15 (v0 :: v1 :: v2 :: .int x :: ls) (.int x :: st) h := ap_iload rfl rfl
theorem u_X4_insert_15 : az_W C R k_X4_insert 15 ls st h ↔ az_W C R k_X4_insert 16 ls (.int 1 :: st) h := ap_const rfl
theorem u_X4_insert_16 : az_W C R k_X4_insert 16 ls (.int y :: .int x :: st) h ↔ az_W C R k_X4_insert 17 ls (.int (x - y) :: st) h := ap_ii (f := fun x y => x - y) rfl
theorem u_X4_insert_17 (hk : (az_kn 130 a).1 = 1) : az_W C R k_X4_insert 17 ls (.int x :: .ref a :: st) (130, P, I, L) ↔ (az_in x (az_kn 130 a).2 ∧ az_W C R k_X4_insert 18 ls (.int (I a x.toNatClampNeg) :: st) (130, P, I, L)) := ap_iald rfl (az_k1 hk)
theorem u_X4_insert_18 (hk : (az_kn 130 a).1 = 1) : az_W C R k_X4_insert 18 ls (.int x :: .ref a :: st) (130, P, I, L) ↔ (az_in x (az_kn 130 a).2 ∧ az_W C R k_X4_insert 19 ls (.int (I a x.toNatClampNeg) :: st) (130, P, I, L)) := ap_iald rfl (az_k1 hk)
theorem u_X4_insert_19 : az_W C R k_X4_insert 19 (v0 :: .ref a :: ls) st h ↔ az_W C R k_X4_insert 20 (v0 :: .ref a :: ls) (.ref a :: st) h := ap_aload rfl rfl
theorem u_X4_insert_20 : az_W C R k_X4_insert 20 (v0 :: v1 :: .int x :: ls) st h ↔ az_W C R k_X4_insert 21 (v0 :: v1 :: .int x :: ls) (.int x :: st) h := ap_iload rfl rfl
theorem u_X4_insert_21 (hk : (az_kn 130 a).1 = 1) : az_W C R k_X4_insert 21 ls (.int x :: .ref a :: st) (130, P, I, L) ↔ (az_in x (az_kn 130 a).2 ∧ az_W C R k_X4_insert 22 ls (.int (I a x.toNatClampNeg) :: st) (130, P, I, L)) := ap_iald rfl (az_k1 hk)
theorem u_X4_insert_22 : az_W C R k_X4_insert 22 ls (.int y :: .int x :: st) h ↔ if x ≤ y then az_W C R k_X4_insert 45 ls st h else az_W C R k_X4_insert 25 ls st h := ap_icle rfl
theorem u_X4_insert_25 : az_W C R k_X4_insert 25 (.ref a :: ls) st h ↔ az_W C R k_X4_insert 26 (.ref a :: ls) (.ref a :: st) h := ap_aload rfl rfl
theorem u_X4_insert_26 : az_W C R k_X4_insert 26 ls (.ref 2 :: st) (130, az_Pf, I, L) ↔ az_W C R k_X4_insert 29 ls (.ref 34 :: st) (130, az_Pf, I, L) := ap_getP rfl kn_2 pf_2_1
theorem u_X4_insert_29 : az_W C R k_X4_insert 29 (v0 :: v1 :: v2 :: .int x :: ls) st h ↔ az_W C R k_X4_insert 30 (v0 :: v1 :: v2 :: .int x :: ls) (.int x :: st) h := ap_iload rfl rfl
theorem u_X4_insert_30 : az_W C R k_X4_insert 30 (.ref a :: ls) st h ↔ az_W C R k_X4_insert 31 (.ref a :: ls) (.ref a :: st) h := ap_aload rfl rfl
theorem u_X4_insert_31 : az_W C R k_X4_insert 31 ls (.ref 2 :: st) (130, az_Pf, I, L) ↔ az_W C R k_X4_insert 34 ls (.ref 34 :: st) (130, az_Pf, I, L) := ap_getP rfl kn_2 pf_2_1
theorem u_X4_insert_34 : az_W C R k_X4_insert 34 (v0 :: v1 :: v2 :: .int x :: ls) st h ↔ az_W C R k_X4_insert 35 (v0 :: v1 :: v2 :: .int x :: ls) (.int x :: st) h := ap_iload rfl rfl
theorem u_X4_insert_35 : az_W C R k_X4_insert 35 ls st h ↔ az_W C R k_X4_insert 36 ls (.int 1 :: st) h := ap_const rfl
theorem u_X4_insert_36 : az_W C R k_X4_insert 36 ls (.int y :: .int x :: st) h ↔ az_W C R k_X4_insert 37 ls (.int (x - y) :: st) h := ap_ii (f := fun x y => x - y) rfl
theorem u_X4_insert_37 (hk : (az_kn 130 a).1 = 1) : az_W C R k_X4_insert 37 ls (.int x :: .ref a :: st) (130, P, I, L) ↔ (az_in x (az_kn 130 a).2 ∧ az_W C R k_X4_insert 38 ls (.int (I a x.toNatClampNeg) :: st) (130, P, I, L)) := ap_iald rfl (az_k1 hk)
theorem u_X4_insert_38 (hk : (az_kn 130 a).1 = 1) : az_W C R k_X4_insert 38 ls (.int y :: .int x :: .ref a :: st) (130, P, I, L) ↔ (az_in x (az_kn 130 a).2 ∧ az_W C R k_X4_insert 39 ls st (130, P, az_uI I a x.toNatClampNeg y, L)) := ap_iast rfl (az_k1 hk)
theorem u_X4_insert_39 : az_W C R k_X4_insert 39 (v0 :: v1 :: v2 :: .int x :: ls) st h ↔ az_W C R k_X4_insert 42 (v0 :: v1 :: az_un v2 :: .int (x + (-1)) :: ls) st h := ap_iinc rfl rfl rfl
theorem u_X4_insert_42 : az_W C R k_X4_insert 42 ls st h ↔ az_W C R k_X4_insert 5 ls st h := ap_goto rfl
theorem u_X4_insert_45 : az_W C R k_X4_insert 45 (.ref a :: ls) st h ↔ az_W C R k_X4_insert 46 (.ref a :: ls) (.ref a :: st) h := ap_aload rfl rfl
theorem u_X4_insert_46 : az_W C R k_X4_insert 46 ls (.ref 2 :: st) (130, az_Pf, I, L) ↔ az_W C R k_X4_insert 49 ls (.ref 34 :: st) (130, az_Pf, I, L) := ap_getP rfl kn_2 pf_2_1
theorem u_X4_insert_49 : az_W C R k_X4_insert 49 (v0 :: v1 :: v2 :: .int x :: ls) st h ↔ az_W C R k_X4_insert 50 (v0 :: v1 :: v2 :: .int x :: ls) (.int x :: st) h := ap_iload rfl rfl
theorem u_X4_insert_50 : az_W C R k_X4_insert 50 (v0 :: v1 :: .int x :: ls) st h ↔ az_W C R k_X4_insert 51 (v0 :: v1 :: .int x :: ls) (.int x :: st) h := ap_iload rfl rfl
theorem u_X4_insert_51 (hk : (az_kn 130 a).1 = 1) : az_W C R k_X4_insert 51 ls (.int y :: .int x :: .ref a :: st) (130, P, I, L) ↔ (az_in x (az_kn 130 a).2 ∧ az_W C R k_X4_insert 52 ls st (130, P, az_uI I a x.toNatClampNeg y, L)) := ap_iast rfl (az_k1 hk)
theorem u_X4_insert_52 : az_W C R k_X4_insert 52 (.ref a :: ls) st h ↔ az_W C R k_X4_insert 53 (.ref a :: ls) (.ref a :: st) h := ap_aload rfl rfl
theorem u_X4_insert_53 : az_W C R k_X4_insert 53 ls (.int x :: st) h ↔ az_W C R k_X4_insert 54 ls (.int x :: .int x :: st) h := ap_dupi rfl
theorem u_X4_insert_53r : az_W C R k_X4_insert 53 ls (.ref a :: st) h ↔ az_W C R k_X4_insert 54 ls (.ref a :: .ref a :: st) h := ap_dupr rfl
theorem u_X4_insert_54 : az_W C R k_X4_insert 54 ls (.ref 2 :: st) (130, P, I, L) ↔ az_W C R k_X4_insert 57 ls (.int (I 2 2) :: st) (130, P, I, L) := ap_getI rfl kn_2
theorem u_X4_insert_57 : az_W C R k_X4_insert 57 ls st h ↔ az_W C R k_X4_insert 58 ls (.int 1 :: st) h := ap_const rfl
theorem u_X4_insert_58 : az_W C R k_X4_insert 58 ls (.int y :: .int x :: st) h ↔ az_W C R k_X4_insert 59 ls (.int (x + y) :: st) h := ap_ii (f := fun x y => x + y) rfl
theorem u_X4_insert_59 : az_W C R k_X4_insert 59 ls (.int x :: .ref 2 :: st) (130, P, I, L) ↔ az_W C R k_X4_insert 62 ls st (130, P, az_uI I 2 2 x, L) := ap_putI rfl kn_2
theorem u_X4_insert_62 : az_W C R k_X4_insert 62 ls [] h ↔ R none h := ap_ret rfl
def k_X4_sideOf : Nat → az_P := (az_br 27 (az_br 12 (az_br 4 (az_br 2 (az_br 1 (az_lf 0 (az_const (.int 0) 1)) (az_lf 1 (az_istore 3 2))) (az_br 3 (az_lf 2 (az_iload 3 3)) (az_lf 3 (az_iload 2 4)))) (az_br 8 (az_br 7 (az_lf 4 (az_icge 52 7)) (az_lf 7 (az_iload 3 8))) (az_br 9 (az_lf 8 (az_aload 0 9)) (az_lf 9 (az_getI 4 2 12))))) (az_br 20 (az_br 16 (az_br 15 (az_lf 12 (az_icge 52 15)) (az_lf 15 (az_aload 0 16))) (az_br 19 (az_lf 16 (az_getP 4 1 19)) (az_lf 19 (az_iload 3 20)))) (az_br 22 (az_br 21 (az_lf 20 (az_iald 21)) (az_lf 21 (az_iload 1 22))) (az_br 25 (az_lf 22 (az_icne 27 25)) (az_br 26 (az_lf 25 (az_const (.int (-1)) 26)) (az_lf 26 (az_iret))))))) (az_br 39 (az_br 35 (az_br 31 (az_br 28 (az_lf 27 (az_aload 0 28)) (az_lf 28 (az_getP 4 1 31))) (az_br 32 (az_lf 31 (az_aload 0 32)) (az_lf 32 (az_getI 4 2 35)))) (az_br 37 (az_br 36 (az_lf 35 (az_const (.int 1) 36)) (az_lf 36 (az_ii (fun x y => x - y) 37))) (az_br 38 (az_lf 37 (az_iload 3 38)) (az_lf 38 (az_ii (fun x y => x - y) 39))))) (az_br 45 (az_br 41 (az_br 40 (az_lf 39 (az_iald 40)) (az_lf 40 (az_iload 1 41))) (az_br 44 (az_lf 41 (az_icne 46 44)) (az_lf 44 (az_const (.int 1) 45)))) (az_br 49 (az_br 46 (az_lf 45 (az_iret)) (az_lf 46 (az_iinc 3 1 49))) (az_br 52 (az_lf 49 (az_goto 2)) (az_br 53 (az_lf 52 (az_const (.int 0) 53)) (az_lf 53 (az_iret))))))))
theorem u_X4_sideOf_0 : az_W C R k_X4_sideOf 0 ls st h ↔ az_W C R k_X4_sideOf 1 ls (.int 0 :: st) h := ap_const rfl
theorem u_X4_sideOf_1 : az_W C R k_X4_sideOf 1 (v0 :: v1 :: v2 :: v3 :: ls) (.int x :: st) h ↔ az_W C R k_X4_sideOf 2 (v0 :: v1 :: az_un v2 :: .int x :: ls) st h := ap_istore rfl rfl
theorem u_X4_sideOf_2 : az_W C R k_X4_sideOf 2 (v0 :: v1 :: v2 :: .int x :: ls) st h ↔ az_W C R k_X4_sideOf 3 (v0 :: v1 :: v2 :: .int x :: ls) (.int x :: st) h := ap_iload rfl rfl
theorem u_X4_sideOf_3 : az_W C R k_X4_sideOf 3 (v0 :: v1 :: .int x :: ls) st h ↔ az_W C R k_X4_sideOf 4 (v0 :: v1 :: .int x :: ls) (.int x :: st) h := ap_iload rfl rfl
theorem u_X4_sideOf_4 : az_W C R k_X4_sideOf 4 ls (.int y :: .int x :: st) h ↔ if y ≤ x then az_W C R k_X4_sideOf 52 ls st h else az_W C R k_X4_sideOf 7 ls st h := ap_icge rfl
theorem u_X4_sideOf_7 : az_W C R k_X4_sideOf 7 (v0 :: v1 :: v2 :: .int x :: ls) st h ↔ az_W C R k_X4_sideOf 8 (v0 :: v1 :: v2 :: .int x :: ls) (.int x :: st) h := ap_iload rfl rfl
theorem u_X4_sideOf_8 : az_W C R k_X4_sideOf 8 (.ref a :: ls) st h ↔ az_W C R k_X4_sideOf 9 (.ref a :: ls) (.ref a :: st) h := ap_aload rfl rfl
theorem u_X4_sideOf_9 : az_W C R k_X4_sideOf 9 ls (.ref 2 :: st) (130, P, I, L) ↔ az_W C R k_X4_sideOf 12 ls (.int (I 2 2) :: st) (130, P, I, L) := ap_getI rfl kn_2
theorem u_X4_sideOf_12 : az_W C R k_X4_sideOf 12 ls (.int y :: .int x :: st) h ↔ if y ≤ x then az_W C R k_X4_sideOf 52 ls st h else az_W C R k_X4_sideOf 15 ls st h := ap_icge rfl
theorem u_X4_sideOf_15 : az_W C R k_X4_sideOf 15 (.ref a :: ls) st h ↔ az_W C R k_X4_sideOf 16 (.ref a :: ls) (.ref a :: st) h := ap_aload rfl rfl
theorem u_X4_sideOf_16 : az_W C R k_X4_sideOf 16 ls (.ref 2 :: st) (130, az_Pf, I, L) ↔ az_W C R k_X4_sideOf 19 ls (.ref 34 :: st) (130, az_Pf, I, L) := ap_getP rfl kn_2 pf_2_1
theorem u_X4_sideOf_19 : az_W C R k_X4_sideOf 19 (v0 :: v1 :: v2 :: .int x :: ls) st h ↔ az_W C R k_X4_sideOf 20 (v0 :: v1 :: v2 :: .int x :: ls) (.int x :: st) h := ap_iload rfl rfl
theorem u_X4_sideOf_20 (hk : (az_kn 130 a).1 = 1) : az_W C R k_X4_sideOf 20 ls (.int x :: .ref a :: st) (130, P, I, L) ↔ (az_in x (az_kn 130 a).2 ∧ az_W C R k_X4_sideOf 21 ls (.int (I a x.toNatClampNeg) :: st) (130, P, I, L)) := ap_iald rfl (az_k1 hk)
theorem u_X4_sideOf_21 : az_W C R k_X4_sideOf 21 (v0 :: .int x :: ls) st h ↔ az_W C R k_X4_sideOf 22 (v0 :: .int x :: ls) (.int x :: st) h := ap_iload rfl rfl
theorem u_X4_sideOf_22 : az_W C R k_X4_sideOf 22 ls (.int y :: .int x :: st) h ↔ if x = y then az_W C R k_X4_sideOf 25 ls st h else az_W C R k_X4_sideOf 27 ls st h := ap_icne rfl
theorem u_X4_sideOf_25 : az_W C R k_X4_sideOf 25 ls st h ↔ az_W C R k_X4_sideOf 26 ls (.int (-1) :: st) h := ap_const rfl
theorem u_X4_sideOf_26 : az_W C R k_X4_sideOf 26 ls [.int x] h ↔ R (some (.int x)) h := ap_iret rfl
theorem u_X4_sideOf_27 : az_W C R k_X4_sideOf 27 (.ref a :: ls) st h ↔ az_W C R k_X4_sideOf 28 (.ref a :: ls) (.ref a :: st) h := ap_aload rfl rfl
theorem u_X4_sideOf_28 : az_W C R k_X4_sideOf 28 ls (.ref 2 :: st) (130, az_Pf, I, L) ↔ az_W C R k_X4_sideOf 31 ls (.ref 34 :: st) (130, az_Pf, I, L) := ap_getP rfl kn_2 pf_2_1
theorem u_X4_sideOf_31 : az_W C R k_X4_sideOf 31 (.ref a :: ls) st h ↔ az_W C R k_X4_sideOf 32 (.ref a :: ls) (.ref a :: st) h := ap_aload rfl rfl
theorem u_X4_sideOf_32 : az_W C R k_X4_sideOf 32 ls (.ref 2 :: st) (130, P, I, L) ↔ az_W C R k_X4_sideOf 35 ls (.int (I 2 2) :: st) (130, P, I, L) := ap_getI rfl kn_2
theorem u_X4_sideOf_35 : az_W C R k_X4_sideOf 35 ls st h ↔ az_W C R k_X4_sideOf 36 ls (.int 1 :: st) h := ap_const rfl
theorem u_X4_sideOf_36 : az_W C R k_X4_sideOf 36 ls (.int y :: .int x :: st) h ↔ az_W C R k_X4_sideOf 37 ls (.int (x - y) :: st) h := ap_ii (f := fun x y => x - y) rfl
theorem u_X4_sideOf_37 : az_W C R k_X4_sideOf 37 (v0 :: v1 :: v2 :: .int x :: ls) st h ↔ az_W C R k_X4_sideOf 38 (v0 :: v1 :: v2 :: .int x :: ls) (.int x :: st) h := ap_iload rfl rfl
theorem u_X4_sideOf_38 : az_W C R k_X4_sideOf 38 ls (.int y :: .int x :: st) h ↔ az_W C R k_X4_sideOf 39 ls (.int (x - y) :: st) h := ap_ii (f := fun x y => x - y) rfl
theorem u_X4_sideOf_39 (hk : (az_kn 130 a).1 = 1) : az_W C R k_X4_sideOf 39 ls (.int x :: .ref a :: st) (130, P, I, L) ↔ (az_in x (az_kn 130 a).2 ∧ az_W C R k_X4_sideOf 40 ls (.int (I a x.toNatClampNeg) :: st) (130, P, I, L)) := ap_iald rfl (az_k1 hk)
theorem u_X4_sideOf_40 : az_W C R k_X4_sideOf 40 (v0 :: .int x :: ls) st h ↔ az_W C R k_X4_sideOf 41 (v0 :: .int x :: ls) (.int x :: st) h := ap_iload rfl rfl
theorem u_X4_sideOf_41 : az_W C R k_X4_sideOf 41 ls (.int y :: .int x :: st) h ↔ if x = y then az_W C R k_X4_sideOf 44 ls st h else az_W C R k_X4_sideOf 46 ls st h := ap_icne rfl
theorem u_X4_sideOf_44 : az_W C R k_X4_sideOf 44 ls st h ↔ az_W C R k_X4_sideOf 45 ls (.int 1 :: st) h := ap_const rfl
theorem u_X4_sideOf_45 : az_W C R k_X4_sideOf 45 ls [.int x] h ↔ R (some (.int x)) h := ap_iret rfl
theorem u_X4_sideOf_46 : az_W C R k_X4_sideOf 46 (v0 :: v1 :: v2 :: .int x :: ls) st h ↔ az_W C R k_X4_sideOf 49 (v0 :: v1 :: az_un v2 :: .int (x + 1) :: ls) st h := ap_iinc rfl rfl rfl
theorem u_X4_sideOf_49 : az_W C R k_X4_sideOf 49 ls st h ↔ az_W C R k_X4_sideOf 2 ls st h := ap_goto rfl
theorem u_X4_sideOf_52 : az_W C R k_X4_sideOf 52 ls st h ↔ az_W C R k_X4_sideOf 53 ls (.int 0 :: st) h := ap_const rfl
theorem u_X4_sideOf_53 : az_W C R k_X4_sideOf 53 ls [.int x] h ↔ R (some (.int x)) h := ap_iret rfl
def k_X4_farthest : Nat → az_P := (az_br 31 (az_br 14 (az_br 5 (az_br 2 (az_br 1 (az_lf 0 (az_const (.int 0) 1)) (az_lf 1 (az_istore 3 2))) (az_br 3 (az_lf 2 (az_const (.int 0) 3)) (az_lf 3 (az_istore 4 5)))) (az_br 8 (az_br 7 (az_lf 5 (az_iload 4 7)) (az_lf 7 (az_iload 1 8))) (az_br 11 (az_lf 8 (az_icge 59 11)) (az_br 13 (az_lf 11 (az_iload 4 13)) (az_lf 13 (az_aload 0 14)))))) (az_br 22 (az_br 20 (az_br 17 (az_lf 14 (az_getI 4 2 17)) (az_lf 17 (az_icge 59 20))) (az_br 21 (az_lf 20 (az_iload 3 21)) (az_lf 21 (az_const (.int 1) 22)))) (az_br 26 (az_br 23 (az_lf 22 (az_iload 2 23)) (az_lf 23 (az_ifne 43 26))) (az_br 27 (az_lf 26 (az_aload 0 27)) (az_br 30 (az_lf 27 (az_getP 4 1 30)) (az_lf 30 (az_aload 0 31))))))) (az_br 47 (az_br 38 (az_br 35 (az_br 34 (az_lf 31 (az_getI 4 2 34)) (az_lf 34 (az_const (.int 1) 35))) (az_br 36 (az_lf 35 (az_ii (fun x y => x - y) 36)) (az_lf 36 (az_iload 4 38)))) (az_br 40 (az_br 39 (az_lf 38 (az_ii (fun x y => x - y) 39)) (az_lf 39 (az_iald 40))) (az_br 43 (az_lf 40 (az_goto 50)) (az_br 44 (az_lf 43 (az_aload 0 44)) (az_lf 44 (az_getP 4 1 47)))))) (az_br 52 (az_br 50 (az_br 49 (az_lf 47 (az_iload 4 49)) (az_lf 49 (az_iald 50))) (az_br 51 (az_lf 50 (az_ii (fun x y => x <<< (y &&& 31)) 51)) (az_lf 51 (az_ii (fun x y => x ||| y) 52)))) (az_br 56 (az_br 53 (az_lf 52 (az_istore 3 53)) (az_lf 53 (az_iinc 4 1 56))) (az_br 59 (az_lf 56 (az_goto 5)) (az_br 60 (az_lf 59 (az_iload 3 60)) (az_lf 60 (az_iret))))))))
theorem u_X4_farthest_0 : az_W C R k_X4_farthest 0 ls st h ↔ az_W C R k_X4_farthest 1 ls (.int 0 :: st) h := ap_const rfl
theorem u_X4_farthest_1 : az_W C R k_X4_farthest 1 (v0 :: v1 :: v2 :: v3 :: ls) (.int x :: st) h ↔ az_W C R k_X4_farthest 2 (v0 :: v1 :: az_un v2 :: .int x :: ls) st h := ap_istore rfl rfl
theorem u_X4_farthest_2 : az_W C R k_X4_farthest 2 ls st h ↔ az_W C R k_X4_farthest 3 ls (.int 0 :: st) h := ap_const rfl
theorem u_X4_farthest_3 : az_W C R k_X4_farthest 3 (v0 :: v1 :: v2 :: v3 :: v4 :: ls) (.int x :: st) h ↔ az_W C R k_X4_farthest 5 (v0 :: v1 :: v2 :: az_un v3 :: .int x :: ls) st h := ap_istore rfl rfl
theorem u_X4_farthest_5 : az_W C R k_X4_farthest 5 (v0 :: v1 :: v2 :: v3 :: .int x :: ls) st h ↔ az_W C R k_X4_farthest 7 (v0 :: v1 :: v2 :: v3 :: .int x :: ls) (.int x :: st) h := ap_iload rfl rfl
theorem u_X4_farthest_7 : az_W C R k_X4_farthest 7 (v0 :: .int x :: ls) st h ↔ az_W C R k_X4_farthest 8 (v0 :: .int x :: ls) (.int x :: st) h := ap_iload rfl rfl
theorem u_X4_farthest_8 : az_W C R k_X4_farthest 8 ls (.int y :: .int x :: st) h ↔ if y ≤ x then az_W C R k_X4_farthest 59 ls st h else az_W C R k_X4_farthest 11 ls st h := ap_icge rfl
theorem u_X4_farthest_11 : az_W C R k_X4_farthest 11 (v0 :: v1 :: v2 :: v3 :: .int x :: ls) st h ↔ az_W C R k_X4_farthest 13 (v0 :: v1 :: v2 :: v3 :: .int x :: ls) (.int x :: st) h := ap_iload rfl rfl
theorem u_X4_farthest_13 : az_W C R k_X4_farthest 13 (.ref a :: ls) st h ↔ az_W C R k_X4_farthest 14 (.ref a :: ls) (.ref a :: st) h := ap_aload rfl rfl
theorem u_X4_farthest_14 : az_W C R k_X4_farthest 14 ls (.ref 2 :: st) (130, P, I, L) ↔ az_W C R k_X4_farthest 17 ls (.int (I 2 2) :: st) (130, P, I, L) := ap_getI rfl kn_2
theorem u_X4_farthest_17 : az_W C R k_X4_farthest 17 ls (.int y :: .int x :: st) h ↔ if y ≤ x then az_W C R k_X4_farthest 59 ls st h else az_W C R k_X4_farthest 20 ls st h := ap_icge rfl
theorem u_X4_farthest_20 : az_W C R k_X4_farthest 20 (v0 :: v1 :: v2 :: .int x :: ls) st h ↔ az_W C R k_X4_farthest 21 (v0 :: v1 :: v2 :: .int x :: ls) (.int x :: st) h := ap_iload rfl rfl
theorem u_X4_farthest_21 : az_W C R k_X4_farthest 21 ls st h ↔ az_W C R k_X4_farthest 22 ls (.int 1 :: st) h := ap_const rfl
theorem u_X4_farthest_22 : az_W C R k_X4_farthest 22 (v0 :: v1 :: .int x :: ls) st h ↔ az_W C R k_X4_farthest 23 (v0 :: v1 :: .int x :: ls) (.int x :: st) h := ap_iload rfl rfl
theorem u_X4_farthest_23 : az_W C R k_X4_farthest 23 ls (.int x :: st) h ↔ if x = 0 then az_W C R k_X4_farthest 26 ls st h else az_W C R k_X4_farthest 43 ls st h := ap_ifne rfl
theorem u_X4_farthest_26 : az_W C R k_X4_farthest 26 (.ref a :: ls) st h ↔ az_W C R k_X4_farthest 27 (.ref a :: ls) (.ref a :: st) h := ap_aload rfl rfl
theorem u_X4_farthest_27 : az_W C R k_X4_farthest 27 ls (.ref 2 :: st) (130, az_Pf, I, L) ↔ az_W C R k_X4_farthest 30 ls (.ref 34 :: st) (130, az_Pf, I, L) := ap_getP rfl kn_2 pf_2_1
theorem u_X4_farthest_30 : az_W C R k_X4_farthest 30 (.ref a :: ls) st h ↔ az_W C R k_X4_farthest 31 (.ref a :: ls) (.ref a :: st) h := ap_aload rfl rfl
theorem u_X4_farthest_31 : az_W C R k_X4_farthest 31 ls (.ref 2 :: st) (130, P, I, L) ↔ az_W C R k_X4_farthest 34 ls (.int (I 2 2) :: st) (130, P, I, L) := ap_getI rfl kn_2
theorem u_X4_farthest_34 : az_W C R k_X4_farthest 34 ls st h ↔ az_W C R k_X4_farthest 35 ls (.int 1 :: st) h := ap_const rfl
theorem u_X4_farthest_35 : az_W C R k_X4_farthest 35 ls (.int y :: .int x :: st) h ↔ az_W C R k_X4_farthest 36 ls (.int (x - y) :: st) h := ap_ii (f := fun x y => x - y) rfl
theorem u_X4_farthest_36 : az_W C R k_X4_farthest 36 (v0 :: v1 :: v2 :: v3 :: .int x :: ls) st h ↔ az_W C R k_X4_farthest 38 (v0 :: v1 :: v2 :: v3 :: .int x :: ls) (.int x :: st) h := ap_iload rfl rfl
theorem u_X4_farthest_38 : az_W C R k_X4_farthest 38 ls (.int y :: .int x :: st) h ↔ az_W C R k_X4_farthest 39 ls (.int (x - y) :: st) h := ap_ii (f := fun x y => x - y) rfl
theorem u_X4_farthest_39 (hk : (az_kn 130 a).1 = 1) : az_W C R k_X4_farthest 39 ls (.int x :: .ref a :: st) (130, P, I, L) ↔ (az_in x (az_kn 130 a).2 ∧ az_W C R k_X4_farthest 40 ls (.int (I a x.toNatClampNeg) :: st) (130, P, I, L)) := ap_iald rfl (az_k1 hk)
theorem u_X4_farthest_40 : az_W C R k_X4_farthest 40 ls st h ↔ az_W C R k_X4_farthest 50 ls st h := ap_goto rfl
theorem u_X4_farthest_43 : az_W C R k_X4_farthest 43 (.ref a :: ls) st h ↔ az_W C R k_X4_farthest 44 (.ref a :: ls) (.ref a :: st) h := ap_aload rfl rfl
theorem u_X4_farthest_44 : az_W C R k_X4_farthest 44 ls (.ref 2 :: st) (130, az_Pf, I, L) ↔ az_W C R k_X4_farthest 47 ls (.ref 34 :: st) (130, az_Pf, I, L) := ap_getP rfl kn_2 pf_2_1
theorem u_X4_farthest_47 : az_W C R k_X4_farthest 47 (v0 :: v1 :: v2 :: v3 :: .int x :: ls) st h ↔ az_W C R k_X4_farthest 49 (v0 :: v1 :: v2 :: v3 :: .int x :: ls) (.int x :: st) h := ap_iload rfl rfl
theorem u_X4_farthest_49 (hk : (az_kn 130 a).1 = 1) : az_W C R k_X4_farthest 49 ls (.int x :: .ref a :: st) (130, P, I, L) ↔ (az_in x (az_kn 130 a).2 ∧ az_W C R k_X4_farthest 50 ls (.int (I a x.toNatClampNeg) :: st) (130, P, I, L)) := ap_iald rfl (az_k1 hk)
theorem u_X4_farthest_50 : az_W C R k_X4_farthest 50 ls (.int y :: .int x :: st) h ↔ az_W C R k_X4_farthest 51 ls (.int (x <<< (y &&& 31)) :: st) h := ap_ii (f := fun x y => x <<< (y &&& 31)) rfl
theorem u_X4_farthest_51 : az_W C R k_X4_farthest 51 ls (.int y :: .int x :: st) h ↔ az_W C R k_X4_farthest 52 ls (.int (x ||| y) :: st) h := ap_ii (f := fun x y => x ||| y) rfl
theorem u_X4_farthest_52 : az_W C R k_X4_farthest 52 (v0 :: v1 :: v2 :: v3 :: ls) (.int x :: st) h ↔ az_W C R k_X4_farthest 53 (v0 :: v1 :: az_un v2 :: .int x :: ls) st h := ap_istore rfl rfl
theorem u_X4_farthest_53 : az_W C R k_X4_farthest 53 (v0 :: v1 :: v2 :: v3 :: .int x :: ls) st h ↔ az_W C R k_X4_farthest 56 (v0 :: v1 :: v2 :: az_un v3 :: .int (x + 1) :: ls) st h := ap_iinc rfl rfl rfl
theorem u_X4_farthest_56 : az_W C R k_X4_farthest 56 ls st h ↔ az_W C R k_X4_farthest 5 ls st h := ap_goto rfl
theorem u_X4_farthest_59 : az_W C R k_X4_farthest 59 (v0 :: v1 :: v2 :: .int x :: ls) st h ↔ az_W C R k_X4_farthest 60 (v0 :: v1 :: v2 :: .int x :: ls) (.int x :: st) h := ap_iload rfl rfl
theorem u_X4_farthest_60 : az_W C R k_X4_farthest 60 ls [.int x] h ↔ R (some (.int x)) h := ap_iret rfl
end
