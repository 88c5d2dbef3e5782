section
variable {C : az_C} {R : az_R} {ls st : List Value} {h : az_H} {n : Nat} {P : Nat → Nat → Option Nat} {I : Nat → Nat → Int32} {L : Nat → Nat → Int64}
variable {v0 v1 v2 v3 v4 v5 v6 v7 v8 v9 v10 v11 v12 : Value} {x y z : Int32} {p q : Int64} {a b : Nat} {M : Nat} {xs : Nat → Int32}
def k_X11_gainOf : Nat → az_P := (az_br 52 (az_br 26 (az_br 12 (az_br 4 (az_br 1 (az_lf 0 (az_const (.int 0) 1)) (az_br 3 (az_lf 1 (az_istore 4 3)) (az_lf 3 (az_const (.int 0) 4)))) (az_br 8 (az_br 6 (az_lf 4 (az_istore 5 6)) (az_lf 6 (az_iload 5 8))) (az_br 9 (az_lf 8 (az_aload 0 9)) (az_lf 9 (az_getI 11 19 12))))) (az_br 19 (az_br 15 (az_lf 12 (az_icge 102 15)) (az_br 16 (az_lf 15 (az_aload 0 16)) (az_lf 16 (az_getP 11 22 19)))) (az_br 22 (az_br 21 (az_lf 19 (az_iload 5 21)) (az_lf 21 (az_iald 22))) (az_br 23 (az_lf 22 (az_iload 2 23)) (az_lf 23 (az_icne 96 26)))))) (az_br 38 (az_br 31 (az_br 27 (az_lf 26 (az_iload 3 27)) (az_br 30 (az_lf 27 (az_ifeq 48 30)) (az_lf 30 (az_aload 0 31)))) (az_br 36 (az_br 34 (az_lf 31 (az_getP 11 23 34)) (az_lf 34 (az_iload 5 36))) (az_br 37 (az_lf 36 (az_iald 37)) (az_lf 37 (az_aload 0 38))))) (az_br 44 (az_br 41 (az_lf 38 (az_getP 11 24 41)) (az_br 43 (az_lf 41 (az_iload 5 43)) (az_lf 43 (az_iald 44)))) (az_br 48 (az_br 45 (az_lf 44 (az_ii (fun x y => x * y) 45)) (az_lf 45 (az_goto 55))) (az_br 49 (az_lf 48 (az_aload 0 49)) (az_lf 49 (az_getP 11 23 52))))))) (az_br 79 (az_br 65 (az_br 57 (az_br 54 (az_lf 52 (az_iload 5 54)) (az_br 55 (az_lf 54 (az_iald 55)) (az_lf 55 (az_istore 6 57)))) (az_br 60 (az_br 59 (az_lf 57 (az_iload 4 59)) (az_lf 59 (az_aload 0 60))) (az_br 63 (az_lf 60 (az_getP 11 20 63)) (az_lf 63 (az_iload 5 65))))) (az_br 70 (az_br 66 (az_lf 65 (az_iald 66)) (az_br 67 (az_lf 66 (az_iload 1 67)) (az_lf 67 (az_icne 75 70)))) (az_br 75 (az_br 72 (az_lf 70 (az_iload 6 72)) (az_lf 72 (az_goto 93))) (az_br 76 (az_lf 75 (az_aload 0 76)) (az_lf 76 (az_getP 11 21 79)))))) (az_br 92 (az_br 83 (az_br 81 (az_lf 79 (az_iload 5 81)) (az_br 82 (az_lf 81 (az_iald 82)) (az_lf 82 (az_iload 1 83)))) (az_br 88 (az_br 86 (az_lf 83 (az_icne 92 86)) (az_lf 86 (az_iload 6 88))) (az_br 89 (az_lf 88 (az_i (fun x => -x) 89)) (az_lf 89 (az_goto 93))))) (az_br 96 (az_br 93 (az_lf 92 (az_const (.int 0) 93)) (az_br 94 (az_lf 93 (az_ii (fun x y => x + y) 94)) (az_lf 94 (az_istore 4 96)))) (az_br 102 (az_br 99 (az_lf 96 (az_iinc 5 1 99)) (az_lf 99 (az_goto 6))) (az_br 104 (az_lf 102 (az_iload 4 104)) (az_lf 104 (az_iret))))))))
theorem u_X11_gainOf_0 : az_W C R k_X11_gainOf 0 ls st h ↔ az_W C R k_X11_gainOf 1 ls (.int 0 :: st) h := ap_const rfl
theorem u_X11_gainOf_1 : az_W C R k_X11_gainOf 1 (v0 :: v1 :: v2 :: v3 :: v4 :: ls) (.int x :: st) h ↔ az_W C R k_X11_gainOf 3 (v0 :: v1 :: v2 :: az_un v3 :: .int x :: ls) st h := ap_istore rfl rfl
theorem u_X11_gainOf_3 : az_W C R k_X11_gainOf 3 ls st h ↔ az_W C R k_X11_gainOf 4 ls (.int 0 :: st) h := ap_const rfl
theorem u_X11_gainOf_4 : az_W C R k_X11_gainOf 4 (v0 :: v1 :: v2 :: v3 :: v4 :: v5 :: ls) (.int x :: st) h ↔ az_W C R k_X11_gainOf 6 (v0 :: v1 :: v2 :: v3 :: az_un v4 :: .int x :: ls) st h := ap_istore rfl rfl
theorem u_X11_gainOf_6 : az_W C R k_X11_gainOf 6 (v0 :: v1 :: v2 :: v3 :: v4 :: .int x :: ls) st h ↔ az_W C R k_X11_gainOf 8 (v0 :: v1 :: v2 :: v3 :: v4 :: .int x :: ls) (.int x :: st) h := ap_iload rfl rfl
theorem u_X11_gainOf_8 : az_W C R k_X11_gainOf 8 (.ref a :: ls) st h ↔ az_W C R k_X11_gainOf 9 (.ref a :: ls) (.ref a :: st) h := ap_aload rfl rfl
theorem u_X11_gainOf_9 : az_W C R k_X11_gainOf 9 ls (.ref 97 :: st) (130, P, I, L) ↔ az_W C R k_X11_gainOf 12 ls (.int (I 97 19) :: st) (130, P, I, L) := ap_getI rfl kn_97
theorem u_X11_gainOf_12 : az_W C R k_X11_gainOf 12 ls (.int y :: .int x :: st) h ↔ if y ≤ x then az_W C R k_X11_gainOf 102 ls st h else az_W C R k_X11_gainOf 15 ls st h := ap_icge rfl
theorem u_X11_gainOf_15 : az_W C R k_X11_gainOf 15 (.ref a :: ls) st h ↔ az_W C R k_X11_gainOf 16 (.ref a :: ls) (.ref a :: st) h := ap_aload rfl rfl
theorem u_X11_gainOf_16 : az_W C R k_X11_gainOf 16 ls (.ref 97 :: st) (130, az_Pf, I, L) ↔ az_W C R k_X11_gainOf 19 ls (.ref 111 :: st) (130, az_Pf, I, L) := ap_getP rfl kn_97 pf_97_22
theorem u_X11_gainOf_19 : az_W C R k_X11_gainOf 19 (v0 :: v1 :: v2 :: v3 :: v4 :: .int x :: ls) st h ↔ az_W C R k_X11_gainOf 21 (v0 :: v1 :: v2 :: v3 :: v4 :: .int x :: ls) (.int x :: st) h := ap_iload rfl rfl
theorem u_X11_gainOf_21 (hk : (az_kn 130 a).1 = 1) : az_W C R k_X11_gainOf 21 ls (.int x :: .ref a :: st) (130, P, I, L) ↔ (az_in x (az_kn 130 a).2 ∧ az_W C R k_X11_gainOf 22 ls (.int (I a x.toNatClampNeg) :: st) (130, P, I, L)) := ap_iald rfl (az_k1 hk)
theorem u_X11_gainOf_22 : az_W C R k_X11_gainOf 22 (v0 :: v1 :: .int x :: ls) st h ↔ az_W C R k_X11_gainOf 23 (v0 :: v1 :: .int x :: ls) (.int x :: st) h := ap_iload rfl rfl
theorem u_X11_gainOf_23 : az_W C R k_X11_gainOf 23 ls (.int y :: .int x :: st) h ↔ if x = y then az_W C R k_X11_gainOf 26 ls st h else az_W C R k_X11_gainOf 96 ls st h := ap_icne rfl
theorem u_X11_gainOf_26 : az_W C R k_X11_gainOf 26 (v0 :: v1 :: v2 :: .int x :: ls) st h ↔ az_W C R k_X11_gainOf 27 (v0 :: v1 :: v2 :: .int x :: ls) (.int x :: st) h := ap_iload rfl rfl
theorem u_X11_gainOf_27 : az_W C R k_X11_gainOf 27 ls (.int x :: st) h ↔ if x = 0 then az_W C R k_X11_gainOf 48 ls st h else az_W C R k_X11_gainOf 30 ls st h := ap_ifeq rfl
theorem u_X11_gainOf_30 : az_W C R k_X11_gainOf 30 (.ref a :: ls) st h ↔ az_W C R k_X11_gainOf 31 (.ref a :: ls) (.ref a :: st) h := ap_aload rfl rfl
theorem u_X11_gainOf_31 : az_W C R k_X11_gainOf 31 ls (.ref 97 :: st) (130, az_Pf, I, L) ↔ az_W C R k_X11_gainOf 34 ls (.ref 112 :: st) (130, az_Pf, I, L) := ap_getP rfl kn_97 pf_97_23
theorem u_X11_gainOf_34 : az_W C R k_X11_gainOf 34 (v0 :: v1 :: v2 :: v3 :: v4 :: .int x :: ls) st h ↔ az_W C R k_X11_gainOf 36 (v0 :: v1 :: v2 :: v3 :: v4 :: .int x :: ls) (.int x :: st) h := ap_iload rfl rfl
theorem u_X11_gainOf_36 (hk : (az_kn 130 a).1 = 1) : az_W C R k_X11_gainOf 36 ls (.int x :: .ref a :: st) (130, P, I, L) ↔ (az_in x (az_kn 130 a).2 ∧ az_W C R k_X11_gainOf 37 ls (.int (I a x.toNatClampNeg) :: st) (130, P, I, L)) := ap_iald rfl (az_k1 hk)
theorem u_X11_gainOf_37 : az_W C R k_X11_gainOf 37 (.ref a :: ls) st h ↔ az_W C R k_X11_gainOf 38 (.ref a :: ls) (.ref a :: st) h := ap_aload rfl rfl
theorem u_X11_gainOf_38 : az_W C R k_X11_gainOf 38 ls (.ref 97 :: st) (130, az_Pf, I, L) ↔ az_W C R k_X11_gainOf 41 ls (.ref 113 :: st) (130, az_Pf, I, L) := ap_getP rfl kn_97 pf_97_24
theorem u_X11_gainOf_41 : az_W C R k_X11_gainOf 41 (v0 :: v1 :: v2 :: v3 :: v4 :: .int x :: ls) st h ↔ az_W C R k_X11_gainOf 43 (v0 :: v1 :: v2 :: v3 :: v4 :: .int x :: ls) (.int x :: st) h := ap_iload rfl rfl
theorem u_X11_gainOf_43 (hk : (az_kn 130 a).1 = 1) : az_W C R k_X11_gainOf 43 ls (.int x :: .ref a :: st) (130, P, I, L) ↔ (az_in x (az_kn 130 a).2 ∧ az_W C R k_X11_gainOf 44 ls (.int (I a x.toNatClampNeg) :: st) (130, P, I, L)) := ap_iald rfl (az_k1 hk)
theorem u_X11_gainOf_44 : az_W C R k_X11_gainOf 44 ls (.int y :: .int x :: st) h ↔ az_W C R k_X11_gainOf 45 ls (.int (x * y) :: st) h := ap_ii (f := fun x y => x * y) rfl
theorem u_X11_gainOf_45 : az_W C R k_X11_gainOf 45 ls st h ↔ az_W C R k_X11_gainOf 55 ls st h := ap_goto rfl
theorem u_X11_gainOf_48 : az_W C R k_X11_gainOf 48 (.ref a :: ls) st h ↔ az_W C R k_X11_gainOf 49 (.ref a :: ls) (.ref a :: st) h := ap_aload rfl rfl
theorem u_X11_gainOf_49 : az_W C R k_X11_gainOf 49 ls (.ref 97 :: st) (130, az_Pf, I, L) ↔ az_W C R k_X11_gainOf 52 ls (.ref 112 :: st) (130, az_Pf, I, L) := ap_getP rfl kn_97 pf_97_23
theorem u_X11_gainOf_52 : az_W C R k_X11_gainOf 52 (v0 :: v1 :: v2 :: v3 :: v4 :: .int x :: ls) st h ↔ az_W C R k_X11_gainOf 54 (v0 :: v1 :: v2 :: v3 :: v4 :: .int x :: ls) (.int x :: st) h := ap_iload rfl rfl
theorem u_X11_gainOf_54 (hk : (az_kn 130 a).1 = 1) : az_W C R k_X11_gainOf 54 ls (.int x :: .ref a :: st) (130, P, I, L) ↔ (az_in x (az_kn 130 a).2 ∧ az_W C R k_X11_gainOf 55 ls (.int (I a x.toNatClampNeg) :: st) (130, P, I, L)) := ap_iald rfl (az_k1 hk)
theorem u_X11_gainOf_55 : az_W C R k_X11_gainOf 55 (v0 :: v1 :: v2 :: v3 :: v4 :: v5 :: v6 :: ls) (.int x :: st) h ↔ az_W C R k_X11_gainOf 57 (v0 :: v1 :: v2 :: v3 :: v4 :: az_un v5 :: .int x :: ls) st h := ap_istore rfl rfl
theorem u_X11_gainOf_57 : az_W C R k_X11_gainOf 57 (v0 :: v1 :: v2 :: v3 :: .int x :: ls) st h ↔ az_W C R k_X11_gainOf 59 (v0 :: v1 :: v2 :: v3 :: .int x :: ls) (.int x :: st) h := ap_iload rfl rfl
theorem u_X11_gainOf_59 : az_W C R k_X11_gainOf 59 (.ref a :: ls) st h ↔ az_W C R k_X11_gainOf 60 (.ref a :: ls) (.ref a :: st) h := ap_aload rfl rfl
theorem u_X11_gainOf_60 : az_W C R k_X11_gainOf 60 ls (.ref 97 :: st) (130, az_Pf, I, L) ↔ az_W C R k_X11_gainOf 63 ls (.ref 109 :: st) (130, az_Pf, I, L) := ap_getP rfl kn_97 pf_97_20
theorem u_X11_gainOf_63 : az_W C R k_X11_gainOf 63 (v0 :: v1 :: v2 :: v3 :: v4 :: .int x :: ls) st h ↔ az_W C R k_X11_gainOf 65 (v0 :: v1 :: v2 :: v3 :: v4 :: .int x :: ls) (.int x :: st) h := ap_iload rfl rfl
theorem u_X11_gainOf_65 (hk : (az_kn 130 a).1 = 1) : az_W C R k_X11_gainOf 65 ls (.int x :: .ref a :: st) (130, P, I, L) ↔ (az_in x (az_kn 130 a).2 ∧ az_W C R k_X11_gainOf 66 ls (.int (I a x.toNatClampNeg) :: st) (130, P, I, L)) := ap_iald rfl (az_k1 hk)
theorem u_X11_gainOf_66 : az_W C R k_X11_gainOf 66 (v0 :: .int x :: ls) st h ↔ az_W C R k_X11_gainOf 67 (v0 :: .int x :: ls) (.int x :: st) h := ap_iload rfl rfl
theorem u_X11_gainOf_67 : az_W C R k_X11_gainOf 67 ls (.int y :: .int x :: st) h ↔ if x = y then az_W C R k_X11_gainOf 70 ls st h else az_W C R k_X11_gainOf 75 ls st h := ap_icne rfl
theorem u_X11_gainOf_70 : az_W C R k_X11_gainOf 70 (v0 :: v1 :: v2 :: v3 :: v4 :: v5 :: .int x :: ls) st h ↔ az_W C R k_X11_gainOf 72 (v0 :: v1 :: v2 :: v3 :: v4 :: v5 :: .int x :: ls) (.int x :: st) h := ap_iload rfl rfl
theorem u_X11_gainOf_72 : az_W C R k_X11_gainOf 72 ls st h ↔ az_W C R k_X11_gainOf 93 ls st h := ap_goto rfl
theorem u_X11_gainOf_75 : az_W C R k_X11_gainOf 75 (.ref a :: ls) st h ↔ az_W C R k_X11_gainOf 76 (.ref a :: ls) (.ref a :: st) h := ap_aload rfl rfl
theorem u_X11_gainOf_76 : az_W C R k_X11_gainOf 76 ls (.ref 97 :: st) (130, az_Pf, I, L) ↔ az_W C R k_X11_gainOf 79 ls (.ref 110 :: st) (130, az_Pf, I, L) := ap_getP rfl kn_97 pf_97_21
theorem u_X11_gainOf_79 : az_W C R k_X11_gainOf 79 (v0 :: v1 :: v2 :: v3 :: v4 :: .int x :: ls) st h ↔ az_W C R k_X11_gainOf 81 (v0 :: v1 :: v2 :: v3 :: v4 :: .int x :: ls) (.int x :: st) h := ap_iload rfl rfl
theorem u_X11_gainOf_81 (hk : (az_kn 130 a).1 = 1) : az_W C R k_X11_gainOf 81 ls (.int x :: .ref a :: st) (130, P, I, L) ↔ (az_in x (az_kn 130 a).2 ∧ az_W C R k_X11_gainOf 82 ls (.int (I a x.toNatClampNeg) :: st) (130, P, I, L)) := ap_iald rfl (az_k1 hk)
theorem u_X11_gainOf_82 : az_W C R k_X11_gainOf 82 (v0 :: .int x :: ls) st h ↔ az_W C R k_X11_gainOf 83 (v0 :: .int x :: ls) (.int x :: st) h := ap_iload rfl rfl
theorem u_X11_gainOf_83 : az_W C R k_X11_gainOf 83 ls (.int y :: .int x :: st) h ↔ if x = y then az_W C R k_X11_gainOf 86 ls st h else az_W C R k_X11_gainOf 92 ls st h := ap_icne rfl
theorem u_X11_gainOf_86 : az_W C R k_X11_gainOf 86 (v0 :: v1 :: v2 :: v3 :: v4 :: v5 :: .int x :: ls) st h ↔ az_W C R k_X11_gainOf 88 (v0 :: v1 :: v2 :: v3 :: v4 :: v5 :: .int x :: ls) (.int x :: st) h := ap_iload rfl rfl
theorem u_X11_gainOf_88 : az_W C R k_X11_gainOf 88 ls (.int x :: st) h ↔ az_W C R k_X11_gainOf 89 ls (.int (-x) :: st) h := ap_i (f := fun x => -x) rfl
theorem u_X11_gainOf_89 : az_W C R k_X11_gainOf 89 ls st h ↔ az_W C R k_X11_gainOf 93 ls st h := ap_goto rfl
theorem u_X11_gainOf_92 : az_W C R k_X11_gainOf 92 ls st h ↔ az_W C R k_X11_gainOf 93 ls (.int 0 :: st) h := ap_const rfl
theorem u_X11_gainOf_93 : az_W C R k_X11_gainOf 93 ls (.int y :: .int x :: st) h ↔ az_W C R k_X11_gainOf 94 ls (.int (x + y) :: st) h := ap_ii (f := fun x y => x + y) rfl
theorem u_X11_gainOf_94 : az_W C R k_X11_gainOf 94 (v0 :: v1 :: v2 :: v3 :: v4 :: ls) (.int x :: st) h ↔ az_W C R k_X11_gainOf 96 (v0 :: v1 :: v2 :: az_un v3 :: .int x :: ls) st h := ap_istore rfl rfl
theorem u_X11_gainOf_96 : az_W C R k_X11_gainOf 96 (v0 :: v1 :: v2 :: v3 :: v4 :: .int x :: ls) st h ↔ az_W C R k_X11_gainOf 99 (v0 :: v1 :: v2 :: v3 :: az_un v4 :: .int (x + 1) :: ls) st h := ap_iinc rfl rfl rfl
theorem u_X11_gainOf_99 : az_W C R k_X11_gainOf 99 ls st h ↔ az_W C R k_X11_gainOf 6 ls st h := ap_goto rfl
theorem u_X11_gainOf_102 : az_W C R k_X11_gainOf 102 (v0 :: v1 :: v2 :: v3 :: .int x :: ls) st h ↔ az_W C R k_X11_gainOf 104 (v0 :: v1 :: v2 :: v3 :: .int x :: ls) (.int x :: st) h := ap_iload rfl rfl
theorem u_X11_gainOf_104 : az_W C R k_X11_gainOf 104 ls [.int x] h ↔ R (some (.int x)) h := ap_iret rfl
def k_X11_gainsOf : Nat → az_P := (az_br 23 (az_br 11 (az_br 3 (az_br 1 (az_lf 0 (az_const (.int 0) 1)) (az_br 2 (az_lf 1 (az_istore 3 2)) (az_lf 2 (az_const (.int 0) 3)))) (az_br 7 (az_br 5 (az_lf 3 (az_istore 4 5)) (az_lf 5 (az_iload 4 7))) (az_br 8 (az_lf 7 (az_aload 0 8)) (az_lf 8 (az_getI 11 17 11))))) (az_br 16 (az_br 14 (az_lf 11 (az_icge 46 14)) (az_br 15 (az_lf 14 (az_iload 3 15)) (az_lf 15 (az_aload 0 16)))) (az_br 21 (az_br 19 (az_lf 16 (az_getP 11 18 19)) (az_lf 19 (az_iload 4 21))) (az_br 22 (az_lf 21 (az_iald 22)) (az_lf 22 (az_iload 1 23)))))) (az_br 37 (az_br 29 (az_br 26 (az_lf 23 (az_icne 37 26)) (az_br 27 (az_lf 26 (az_aload 0 27)) (az_lf 27 (az_iload 4 29)))) (az_br 31 (az_br 30 (az_lf 29 (az_iload 2 30)) (az_lf 30 (az_const (.int 0) 31))) (az_br 34 (az_lf 31 (az_ivv 170 3 11 34)) (az_lf 34 (az_goto 38))))) (az_br 40 (az_br 38 (az_lf 37 (az_const (.int 0) 38)) (az_br 39 (az_lf 38 (az_ii (fun x y => x + y) 39)) (az_lf 39 (az_istore 3 40)))) (az_br 46 (az_br 43 (az_lf 40 (az_iinc 4 1 43)) (az_lf 43 (az_goto 5))) (az_br 47 (az_lf 46 (az_iload 3 47)) (az_lf 47 (az_iret)))))))
theorem u_X11_gainsOf_0 : az_W C R k_X11_gainsOf 0 ls st h ↔ az_W C R k_X11_gainsOf 1 ls (.int 0 :: st) h := ap_const rfl
theorem u_X11_gainsOf_1 : az_W C R k_X11_gainsOf 1 (v0 :: v1 :: v2 :: v3 :: ls) (.int x :: st) h ↔ az_W C R k_X11_gainsOf 2 (v0 :: v1 :: az_un v2 :: .int x :: ls) st h := ap_istore rfl rfl
theorem u_X11_gainsOf_2 : az_W C R k_X11_gainsOf 2 ls st h ↔ az_W C R k_X11_gainsOf 3 ls (.int 0 :: st) h := ap_const rfl
theorem u_X11_gainsOf_3 : az_W C R k_X11_gainsOf 3 (v0 :: v1 :: v2 :: v3 :: v4 :: ls) (.int x :: st) h ↔ az_W C R k_X11_gainsOf 5 (v0 :: v1 :: v2 :: az_un v3 :: .int x :: ls) st h := ap_istore rfl rfl
theorem u_X11_gainsOf_5 : az_W C R k_X11_gainsOf 5 (v0 :: v1 :: v2 :: v3 :: .int x :: ls) st h ↔ az_W C R k_X11_gainsOf 7 (v0 :: v1 :: v2 :: v3 :: .int x :: ls) (.int x :: st) h := ap_iload rfl rfl
theorem u_X11_gainsOf_7 : az_W C R k_X11_gainsOf 7 (.ref a :: ls) st h ↔ az_W C R k_X11_gainsOf 8 (.ref a :: ls) (.ref a :: st) h := ap_aload rfl rfl
theorem u_X11_gainsOf_8 : az_W C R k_X11_gainsOf 8 ls (.ref 97 :: st) (130, P, I, L) ↔ az_W C R k_X11_gainsOf 11 ls (.int (I 97 17) :: st) (130, P, I, L) := ap_getI rfl kn_97
theorem u_X11_gainsOf_11 : az_W C R k_X11_gainsOf 11 ls (.int y :: .int x :: st) h ↔ if y ≤ x then az_W C R k_X11_gainsOf 46 ls st h else az_W C R k_X11_gainsOf 14 ls st h := ap_icge rfl
theorem u_X11_gainsOf_14 : az_W C R k_X11_gainsOf 14 (v0 :: v1 :: v2 :: .int x :: ls) st h ↔ az_W C R k_X11_gainsOf 15 (v0 :: v1 :: v2 :: .int x :: ls) (.int x :: st) h := ap_iload rfl rfl
theorem u_X11_gainsOf_15 : az_W C R k_X11_gainsOf 15 (.ref a :: ls) st h ↔ az_W C R k_X11_gainsOf 16 (.ref a :: ls) (.ref a :: st) h := ap_aload rfl rfl
theorem u_X11_gainsOf_16 : az_W C R k_X11_gainsOf 16 ls (.ref 97 :: st) (130, az_Pf, I, L) ↔ az_W C R k_X11_gainsOf 19 ls (.ref 108 :: st) (130, az_Pf, I, L) := ap_getP rfl kn_97 pf_97_18
theorem u_X11_gainsOf_19 : az_W C R k_X11_gainsOf 19 (v0 :: v1 :: v2 :: v3 :: .int x :: ls) st h ↔ az_W C R k_X11_gainsOf 21 (v0 :: v1 :: v2 :: v3 :: .int x :: ls) (.int x :: st) h := ap_iload rfl rfl
theorem u_X11_gainsOf_21 (hk : (az_kn 130 a).1 = 1) : az_W C R k_X11_gainsOf 21 ls (.int x :: .ref a :: st) (130, P, I, L) ↔ (az_in x (az_kn 130 a).2 ∧ az_W C R k_X11_gainsOf 22 ls (.int (I a x.toNatClampNeg) :: st) (130, P, I, L)) := ap_iald rfl (az_k1 hk)
theorem u_X11_gainsOf_22 : az_W C R k_X11_gainsOf 22 (v0 :: .int x :: ls) st h ↔ az_W C R k_X11_gainsOf 23 (v0 :: .int x :: ls) (.int x :: st) h := ap_iload rfl rfl
theorem u_X11_gainsOf_23 : az_W C R k_X11_gainsOf 23 ls (.int y :: .int x :: st) h ↔ if x = y then az_W C R k_X11_gainsOf 26 ls st h else az_W C R k_X11_gainsOf 37 ls st h := ap_icne rfl
theorem u_X11_gainsOf_26 : az_W C R k_X11_gainsOf 26 (.ref a :: ls) st h ↔ az_W C R k_X11_gainsOf 27 (.ref a :: ls) (.ref a :: st) h := ap_aload rfl rfl
theorem u_X11_gainsOf_27 : az_W C R k_X11_gainsOf 27 (v0 :: v1 :: v2 :: v3 :: .int x :: ls) st h ↔ az_W C R k_X11_gainsOf 29 (v0 :: v1 :: v2 :: v3 :: .int x :: ls) (.int x :: st) h := ap_iload rfl rfl
theorem u_X11_gainsOf_29 : az_W C R k_X11_gainsOf 29 (v0 :: v1 :: .int x :: ls) st h ↔ az_W C R k_X11_gainsOf 30 (v0 :: v1 :: .int x :: ls) (.int x :: st) h := ap_iload rfl rfl
theorem u_X11_gainsOf_30 : az_W C R k_X11_gainsOf 30 ls st h ↔ az_W C R k_X11_gainsOf 31 ls (.int 0 :: st) h := ap_const rfl
theorem u_X11_gainsOf_31 (hl : st.length ≤ 4) : az_W C R k_X11_gainsOf 31 ls (v3 :: v2 :: v1 :: .ref 97 :: st) (130, P, I, L) ↔ az_F C R (az_W C R k_X11_gainsOf) (130, P, I, L) (az_cl 170 [.ref 97, v1, v2, v3] 34 ls st) := ap_ivv rfl rfl kn_97 hl
theorem u_X11_gainsOf_34 : az_W C R k_X11_gainsOf 34 ls st h ↔ az_W C R k_X11_gainsOf 38 ls st h := ap_goto rfl
theorem u_X11_gainsOf_37 : az_W C R k_X11_gainsOf 37 ls st h ↔ az_W C R k_X11_gainsOf 38 ls (.int 0 :: st) h := ap_const rfl
theorem u_X11_gainsOf_38 : az_W C R k_X11_gainsOf 38 ls (.int y :: .int x :: st) h ↔ az_W C R k_X11_gainsOf 39 ls (.int (x + y) :: st) h := ap_ii (f := fun x y => x + y) rfl
theorem u_X11_gainsOf_39 : az_W C R k_X11_gainsOf 39 (v0 :: v1 :: v2 :: v3 :: ls) (.int x :: st) h ↔ az_W C R k_X11_gainsOf 40 (v0 :: v1 :: az_un v2 :: .int x :: ls) st h := ap_istore rfl rfl
theorem u_X11_gainsOf_40 : az_W C R k_X11_gainsOf 40 (v0 :: v1 :: v2 :: v3 :: .int x :: ls) st h ↔ az_W C R k_X11_gainsOf 43 (v0 :: v1 :: v2 :: az_un v3 :: .int (x + 1) :: ls) st h := ap_iinc rfl rfl rfl
theorem u_X11_gainsOf_43 : az_W C R k_X11_gainsOf 43 ls st h ↔ az_W C R k_X11_gainsOf 5 ls st h := ap_goto rfl
theorem u_X11_gainsOf_46 : az_W C R k_X11_gainsOf 46 (v0 :: v1 :: v2 :: .int x :: ls) st h ↔ az_W C R k_X11_gainsOf 47 (v0 :: v1 :: v2 :: .int x :: ls) (.int x :: st) h := ap_iload rfl rfl
theorem u_X11_gainsOf_47 : az_W C R k_X11_gainsOf 47 ls [.int x] h ↔ R (some (.int x)) h := ap_iret rfl
def k_X11_gain : Nat → az_P := (az_br 29 (az_br 15 (az_br 5 (az_br 1 (az_lf 0 (az_aload 0 1)) (az_br 2 (az_lf 1 (az_iload 1 2)) (az_lf 2 (az_ivv 167 1 11 5)))) (az_br 9 (az_br 8 (az_lf 5 (az_ifeq 25 8)) (az_lf 8 (az_iload 2 9))) (az_br 12 (az_lf 9 (az_ivs 142 1 12)) (az_lf 12 (az_ifeq 25 15))))) (az_br 19 (az_br 17 (az_br 16 (az_lf 15 (az_iload 3 16)) (az_lf 16 (az_i2l 17))) (az_br 18 (az_lf 17 (az_const (.long 0) 18)) (az_lf 18 (az_const (.long 1) 19)))) (az_br 25 (az_br 22 (az_lf 19 (az_ivs 139 3 22)) (az_lf 22 (az_ifne 29 25))) (az_br 28 (az_lf 25 (az_const (.int (-10001)) 28)) (az_lf 28 (az_iret)))))) (az_br 43 (az_br 35 (az_br 33 (az_br 30 (az_lf 29 (az_iload 3 30)) (az_lf 30 (az_ifne 43 33))) (az_br 34 (az_lf 33 (az_aload 0 34)) (az_lf 34 (az_iload 1 35)))) (az_br 37 (az_br 36 (az_lf 35 (az_iload 2 36)) (az_lf 36 (az_const (.int 0) 37))) (az_br 40 (az_lf 37 (az_ivv 170 3 11 40)) (az_lf 40 (az_goto 54))))) (az_br 49 (az_br 45 (az_br 44 (az_lf 43 (az_aload 0 44)) (az_lf 44 (az_aload 0 45))) (az_br 48 (az_lf 45 (az_getP 11 18 48)) (az_lf 48 (az_iload 1 49)))) (az_br 51 (az_br 50 (az_lf 49 (az_iald 50)) (az_lf 50 (az_iload 2 51))) (az_br 54 (az_lf 51 (az_ivv 171 2 11 54)) (az_lf 54 (az_iret)))))))
theorem u_X11_gain_0 : az_W C R k_X11_gain 0 (.ref a :: ls) st h ↔ az_W C R k_X11_gain 1 (.ref a :: ls) (.ref a :: st) h := ap_aload rfl rfl
theorem u_X11_gain_1 : az_W C R k_X11_gain 1 (v0 :: .int x :: ls) st h ↔ az_W C R k_X11_gain 2 (v0 :: .int x :: ls) (.int x :: st) h := ap_iload rfl rfl
theorem u_X11_gain_2 (hl : st.length ≤ 4) : az_W C R k_X11_gain 2 ls (v1 :: .ref 97 :: st) (130, P, I, L) ↔ az_F C R (az_W C R k_X11_gain) (130, P, I, L) (az_cl 167 [.ref 97, v1] 5 ls st) := ap_ivv rfl rfl kn_97 hl
theorem u_X11_gain_5 : az_W C R k_X11_gain 5 ls (.int x :: st) h ↔ if x = 0 then az_W C R k_X11_gain 25 ls st h else az_W C R k_X11_gain 8 ls st h := ap_ifeq rfl
theorem u_X11_gain_8 : az_W C R k_X11_gain 8 (v0 :: v1 :: .int x :: ls) st h ↔ az_W C R k_X11_gain 9 (v0 :: v1 :: .int x :: ls) (.int x :: st) h := ap_iload rfl rfl
theorem u_X11_gain_9 (hl : st.length ≤ 4) : az_W C R k_X11_gain 9 ls (v1 :: st) h ↔ az_F C R (az_W C R k_X11_gain) h (az_cl 142 [v1] 12 ls st) := ap_ivs rfl rfl hl
theorem u_X11_gain_12 : az_W C R k_X11_gain 12 ls (.int x :: st) h ↔ if x = 0 then az_W C R k_X11_gain 25 ls st h else az_W C R k_X11_gain 15 ls st h := ap_ifeq rfl
theorem u_X11_gain_15 : az_W C R k_X11_gain 15 (v0 :: v1 :: v2 :: .int x :: ls) st h ↔ az_W C R k_X11_gain 16 (v0 :: v1 :: v2 :: .int x :: ls) (.int x :: st) h := ap_iload rfl rfl
theorem u_X11_gain_16 : az_W C R k_X11_gain 16 ls (.int x :: st) h ↔ az_W C R k_X11_gain 17 ls (.long x.toInt64 :: st) h := ap_i2l rfl
theorem u_X11_gain_17 : az_W C R k_X11_gain 17 ls st h ↔ az_W C R k_X11_gain 18 ls (.long 0 :: st) h := ap_const rfl
theorem u_X11_gain_18 : az_W C R k_X11_gain 18 ls st h ↔ az_W C R k_X11_gain 19 ls (.long 1 :: st) h := ap_const rfl
theorem u_X11_gain_19 (hl : st.length ≤ 4) : az_W C R k_X11_gain 19 ls (v3 :: v2 :: v1 :: st) h ↔ az_F C R (az_W C R k_X11_gain) h (az_cl 139 [v1, v2, v3] 22 ls st) := ap_ivs rfl rfl hl
theorem u_X11_gain_22 : az_W C R k_X11_gain 22 ls (.int x :: st) h ↔ if x = 0 then az_W C R k_X11_gain 25 ls st h else az_W C R k_X11_gain 29 ls st h := ap_ifne rfl
theorem u_X11_gain_25 : az_W C R k_X11_gain 25 ls st h ↔ az_W C R k_X11_gain 28 ls (.int (-10001) :: st) h := ap_const rfl
theorem u_X11_gain_28 : az_W C R k_X11_gain 28 ls [.int x] h ↔ R (some (.int x)) h := ap_iret rfl
theorem u_X11_gain_29 : az_W C R k_X11_gain 29 (v0 :: v1 :: v2 :: .int x :: ls) st h ↔ az_W C R k_X11_gain 30 (v0 :: v1 :: v2 :: .int x :: ls) (.int x :: st) h := ap_iload rfl rfl
theorem u_X11_gain_30 : az_W C R k_X11_gain 30 ls (.int x :: st) h ↔ if x = 0 then az_W C R k_X11_gain 33 ls st h else az_W C R k_X11_gain 43 ls st h := ap_ifne rfl
theorem u_X11_gain_33 : az_W C R k_X11_gain 33 (.ref a :: ls) st h ↔ az_W C R k_X11_gain 34 (.ref a :: ls) (.ref a :: st) h := ap_aload rfl rfl
theorem u_X11_gain_34 : az_W C R k_X11_gain 34 (v0 :: .int x :: ls) st h ↔ az_W C R k_X11_gain 35 (v0 :: .int x :: ls) (.int x :: st) h := ap_iload rfl rfl
theorem u_X11_gain_35 : az_W C R k_X11_gain 35 (v0 :: v1 :: .int x :: ls) st h ↔ az_W C R k_X11_gain 36 (v0 :: v1 :: .int x :: ls) (.int x :: st) h := ap_iload rfl rfl
theorem u_X11_gain_36 : az_W C R k_X11_gain 36 ls st h ↔ az_W C R k_X11_gain 37 ls (.int 0 :: st) h := ap_const rfl
theorem u_X11_gain_37 (hl : st.length ≤ 4) : az_W C R k_X11_gain 37 ls (v3 :: v2 :: v1 :: .ref 97 :: st) (130, P, I, L) ↔ az_F C R (az_W C R k_X11_gain) (130, P, I, L) (az_cl 170 [.ref 97, v1, v2, v3] 40 ls st) := ap_ivv rfl rfl kn_97 hl
theorem u_X11_gain_40 : az_W C R k_X11_gain 40 ls st h ↔ az_W C R k_X11_gain 54 ls st h := ap_goto rfl
theorem u_X11_gain_43 : az_W C R k_X11_gain 43 (.ref a :: ls) st h ↔ az_W C R k_X11_gain 44 (.ref a :: ls) (.ref a :: st) h := ap_aload rfl rfl
theorem u_X11_gain_44 : az_W C R k_X11_gain 44 (.ref a :: ls) st h ↔ az_W C R k_X11_gain 45 (.ref a :: ls) (.ref a :: st) h := ap_aload rfl rfl
theorem u_X11_gain_45 : az_W C R k_X11_gain 45 ls (.ref 97 :: st) (130, az_Pf, I, L) ↔ az_W C R k_X11_gain 48 ls (.ref 108 :: st) (130, az_Pf, I, L) := ap_getP rfl kn_97 pf_97_18
theorem u_X11_gain_48 : az_W C R k_X11_gain 48 (v0 :: .int x :: ls) st h ↔ az_W C R k_X11_gain 49 (v0 :: .int x :: ls) (.int x :: st) h := ap_iload rfl rfl
theorem u_X11_gain_49 (hk : (az_kn 130 a).1 = 1) : az_W C R k_X11_gain 49 ls (.int x :: .ref a :: st) (130, P, I, L) ↔ (az_in x (az_kn 130 a).2 ∧ az_W C R k_X11_gain 50 ls (.int (I a x.toNatClampNeg) :: st) (130, P, I, L)) := ap_iald rfl (az_k1 hk)
theorem u_X11_gain_50 : az_W C R k_X11_gain 50 (v0 :: v1 :: .int x :: ls) st h ↔ az_W C R k_X11_gain 51 (v0 :: v1 :: .int x :: ls) (.int x :: st) h := ap_iload rfl rfl
theorem u_X11_gain_51 (hl : st.length ≤ 4) : az_W C R k_X11_gain 51 ls (v2 :: v1 :: .ref 97 :: st) (130, P, I, L) ↔ az_F C R (az_W C R k_X11_gain) (130, P, I, L) (az_cl 171 [.ref 97, v1, v2] 54 ls st) := ap_ivv rfl rfl kn_97 hl
theorem u_X11_gain_54 : az_W C R k_X11_gain 54 ls [.int x] h ↔ R (some (.int x)) h := ap_iret rfl
def k_X11_paid : Nat → az_P := (az_br 44 (az_br 26 (az_br 12 (az_br 5 (az_br 1 (az_lf 0 (az_aload 0 1)) (az_br 2 (az_lf 1 (az_iload 1 2)) (az_lf 2 (az_ivv 167 1 11 5)))) (az_br 8 (az_lf 5 (az_ifeq 22 8)) (az_br 9 (az_lf 8 (az_iload 2 9)) (az_lf 9 (az_ivs 142 1 12))))) (az_br 19 (az_br 15 (az_lf 12 (az_ifeq 22 15)) (az_br 16 (az_lf 15 (az_iload 3 16)) (az_lf 16 (az_ivs 145 1 19)))) (az_br 22 (az_lf 19 (az_ifne 26 22)) (az_br 25 (az_lf 22 (az_const (.long (-1099511627777)) 25)) (az_lf 25 (az_lret)))))) (az_br 36 (az_br 31 (az_br 27 (az_lf 26 (az_aload 0 27)) (az_br 28 (az_lf 27 (az_iload 2 28)) (az_lf 28 (az_ivv 156 1 11 31)))) (az_br 32 (az_lf 31 (az_aload 0 32)) (az_br 33 (az_lf 32 (az_iload 2 33)) (az_lf 33 (az_ivv 158 1 11 36))))) (az_br 41 (az_br 39 (az_lf 36 (az_ifne 42 39)) (az_br 40 (az_lf 39 (az_iload 3 40)) (az_lf 40 (az_i2l 41)))) (az_br 42 (az_lf 41 (az_lret)) (az_br 43 (az_lf 42 (az_aload 0 43)) (az_lf 43 (az_iload 1 44))))))) (az_br 60 (az_br 54 (az_br 49 (az_br 45 (az_lf 44 (az_iload 2 45)) (az_br 46 (az_lf 45 (az_const (.int 0) 46)) (az_lf 46 (az_ivv 170 3 11 49)))) (az_br 50 (az_lf 49 (az_i2l 50)) (az_br 51 (az_lf 50 (az_aload 0 51)) (az_lf 51 (az_getI 11 14 54))))) (az_br 57 (az_br 55 (az_lf 54 (az_i2l 55)) (az_br 56 (az_lf 55 (az_ll (fun p q => p * q) 56)) (az_lf 56 (az_aload 0 57)))) (az_br 58 (az_lf 57 (az_iload 1 58)) (az_br 59 (az_lf 58 (az_iload 2 59)) (az_lf 59 (az_const (.int 1) 60)))))) (az_br 70 (az_br 65 (az_br 63 (az_lf 60 (az_ivv 170 3 11 63)) (az_br 64 (az_lf 63 (az_i2l 64)) (az_lf 64 (az_aload 0 65)))) (az_br 68 (az_lf 65 (az_getI 11 15 68)) (az_br 69 (az_lf 68 (az_i2l 69)) (az_lf 69 (az_ll (fun p q => p * q) 70))))) (az_br 75 (az_br 71 (az_lf 70 (az_ll (fun p q => p - q) 71)) (az_br 72 (az_lf 71 (az_aload 0 72)) (az_lf 72 (az_getI 11 15 75)))) (az_br 77 (az_br 76 (az_lf 75 (az_i2l 76)) (az_lf 76 (az_iload 3 77))) (az_br 80 (az_lf 77 (az_ivs 144 3 80)) (az_lf 80 (az_lret))))))))
theorem u_X11_paid_0 : az_W C R k_X11_paid 0 (.ref a :: ls) st h ↔ az_W C R k_X11_paid 1 (.ref a :: ls) (.ref a :: st) h := ap_aload rfl rfl
theorem u_X11_paid_1 : az_W C R k_X11_paid 1 (v0 :: .int x :: ls) st h ↔ az_W C R k_X11_paid 2 (v0 :: .int x :: ls) (.int x :: st) h := ap_iload rfl rfl
theorem u_X11_paid_2 (hl : st.length ≤ 4) : az_W C R k_X11_paid 2 ls (v1 :: .ref 97 :: st) (130, P, I, L) ↔ az_F C R (az_W C R k_X11_paid) (130, P, I, L) (az_cl 167 [.ref 97, v1] 5 ls st) := ap_ivv rfl rfl kn_97 hl
theorem u_X11_paid_5 : az_W C R k_X11_paid 5 ls (.int x :: st) h ↔ if x = 0 then az_W C R k_X11_paid 22 ls st h else az_W C R k_X11_paid 8 ls st h := ap_ifeq rfl
theorem u_X11_paid_8 : az_W C R k_X11_paid 8 (v0 :: v1 :: .int x :: ls) st h ↔ az_W C R k_X11_paid 9 (v0 :: v1 :: .int x :: ls) (.int x :: st) h := ap_iload rfl rfl
theorem u_X11_paid_9 (hl : st.length ≤ 4) : az_W C R k_X11_paid 9 ls (v1 :: st) h ↔ az_F C R (az_W C R k_X11_paid) h (az_cl 142 [v1] 12 ls st) := ap_ivs rfl rfl hl
theorem u_X11_paid_12 : az_W C R k_X11_paid 12 ls (.int x :: st) h ↔ if x = 0 then az_W C R k_X11_paid 22 ls st h else az_W C R k_X11_paid 15 ls st h := ap_ifeq rfl
theorem u_X11_paid_15 : az_W C R k_X11_paid 15 (v0 :: v1 :: v2 :: .int x :: ls) st h ↔ az_W C R k_X11_paid 16 (v0 :: v1 :: v2 :: .int x :: ls) (.int x :: st) h := ap_iload rfl rfl
theorem u_X11_paid_16 (hl : st.length ≤ 4) : az_W C R k_X11_paid 16 ls (v1 :: st) h ↔ az_F C R (az_W C R k_X11_paid) h (az_cl 145 [v1] 19 ls st) := ap_ivs rfl rfl hl
theorem u_X11_paid_19 : az_W C R k_X11_paid 19 ls (.int x :: st) h ↔ if x = 0 then az_W C R k_X11_paid 22 ls st h else az_W C R k_X11_paid 26 ls st h := ap_ifne rfl
theorem u_X11_paid_22 : az_W C R k_X11_paid 22 ls st h ↔ az_W C R k_X11_paid 25 ls (.long (-1099511627777) :: st) h := ap_const rfl
theorem u_X11_paid_25 : az_W C R k_X11_paid 25 ls [.long p] h ↔ R (some (.long p)) h := ap_lret rfl
theorem u_X11_paid_26 : az_W C R k_X11_paid 26 (.ref a :: ls) st h ↔ az_W C R k_X11_paid 27 (.ref a :: ls) (.ref a :: st) h := ap_aload rfl rfl
theorem u_X11_paid_27 : az_W C R k_X11_paid 27 (v0 :: v1 :: .int x :: ls) st h ↔ az_W C R k_X11_paid 28 (v0 :: v1 :: .int x :: ls) (.int x :: st) h := ap_iload rfl rfl
theorem u_X11_paid_28 (hl : st.length ≤ 4) : az_W C R k_X11_paid 28 ls (v1 :: .ref 97 :: st) (130, P, I, L) ↔ az_F C R (az_W C R k_X11_paid) (130, P, I, L) (az_cl 156 [.ref 97, v1] 31 ls st) := ap_ivv rfl rfl kn_97 hl
theorem u_X11_paid_31 : az_W C R k_X11_paid 31 (.ref a :: ls) st h ↔ az_W C R k_X11_paid 32 (.ref a :: ls) (.ref a :: st) h := ap_aload rfl rfl
theorem u_X11_paid_32 : az_W C R k_X11_paid 32 (v0 :: v1 :: .int x :: ls) st h ↔ az_W C R k_X11_paid 33 (v0 :: v1 :: .int x :: ls) (.int x :: st) h := ap_iload rfl rfl
theorem u_X11_paid_33 (hl : st.length ≤ 4) : az_W C R k_X11_paid 33 ls (v1 :: .ref 97 :: st) (130, P, I, L) ↔ az_F C R (az_W C R k_X11_paid) (130, P, I, L) (az_cl 158 [.ref 97, v1] 36 ls st) := ap_ivv rfl rfl kn_97 hl
theorem u_X11_paid_36 : az_W C R k_X11_paid 36 ls (.int x :: st) h ↔ if x = 0 then az_W C R k_X11_paid 39 ls st h else az_W C R k_X11_paid 42 ls st h := ap_ifne rfl
theorem u_X11_paid_39 : az_W C R k_X11_paid 39 (v0 :: v1 :: v2 :: .int x :: ls) st h ↔ az_W C R k_X11_paid 40 (v0 :: v1 :: v2 :: .int x :: ls) (.int x :: st) h := ap_iload rfl rfl
theorem u_X11_paid_40 : az_W C R k_X11_paid 40 ls (.int x :: st) h ↔ az_W C R k_X11_paid 41 ls (.long x.toInt64 :: st) h := ap_i2l rfl
theorem u_X11_paid_41 : az_W C R k_X11_paid 41 ls [.long p] h ↔ R (some (.long p)) h := ap_lret rfl
theorem u_X11_paid_42 : az_W C R k_X11_paid 42 (.ref a :: ls) st h ↔ az_W C R k_X11_paid 43 (.ref a :: ls) (.ref a :: st) h := ap_aload rfl rfl
theorem u_X11_paid_43 : az_W C R k_X11_paid 43 (v0 :: .int x :: ls) st h ↔ az_W C R k_X11_paid 44 (v0 :: .int x :: ls) (.int x :: st) h := ap_iload rfl rfl
theorem u_X11_paid_44 : az_W C R k_X11_paid 44 (v0 :: v1 :: .int x :: ls) st h ↔ az_W C R k_X11_paid 45 (v0 :: v1 :: .int x :: ls) (.int x :: st) h := ap_iload rfl rfl
theorem u_X11_paid_45 : az_W C R k_X11_paid 45 ls st h ↔ az_W C R k_X11_paid 46 ls (.int 0 :: st) h := ap_const rfl
theorem u_X11_paid_46 (hl : st.length ≤ 4) : az_W C R k_X11_paid 46 ls (v3 :: v2 :: v1 :: .ref 97 :: st) (130, P, I, L) ↔ az_F C R (az_W C R k_X11_paid) (130, P, I, L) (az_cl 170 [.ref 97, v1, v2, v3] 49 ls st) := ap_ivv rfl rfl kn_97 hl
theorem u_X11_paid_49 : az_W C R k_X11_paid 49 ls (.int x :: st) h ↔ az_W C R k_X11_paid 50 ls (.long x.toInt64 :: st) h := ap_i2l rfl
theorem u_X11_paid_50 : az_W C R k_X11_paid 50 (.ref a :: ls) st h ↔ az_W C R k_X11_paid 51 (.ref a :: ls) (.ref a :: st) h := ap_aload rfl rfl
theorem u_X11_paid_51 : az_W C R k_X11_paid 51 ls (.ref 97 :: st) (130, P, I, L) ↔ az_W C R k_X11_paid 54 ls (.int (I 97 14) :: st) (130, P, I, L) := ap_getI rfl kn_97
theorem u_X11_paid_54 : az_W C R k_X11_paid 54 ls (.int x :: st) h ↔ az_W C R k_X11_paid 55 ls (.long x.toInt64 :: st) h := ap_i2l rfl
theorem u_X11_paid_55 : az_W C R k_X11_paid 55 ls (.long q :: .long p :: st) h ↔ az_W C R k_X11_paid 56 ls (.long (p * q) :: st) h := ap_ll (f := fun p q => p * q) rfl
theorem u_X11_paid_56 : az_W C R k_X11_paid 56 (.ref a :: ls) st h ↔ az_W C R k_X11_paid 57 (.ref a :: ls) (.ref a :: st) h := ap_aload rfl rfl
theorem u_X11_paid_57 : az_W C R k_X11_paid 57 (v0 :: .int x :: ls) st h ↔ az_W C R k_X11_paid 58 (v0 :: .int x :: ls) (.int x :: st) h := ap_iload rfl rfl
theorem u_X11_paid_58 : az_W C R k_X11_paid 58 (v0 :: v1 :: .int x :: ls) st h ↔ az_W C R k_X11_paid 59 (v0 :: v1 :: .int x :: ls) (.int x :: st) h := ap_iload rfl rfl
theorem u_X11_paid_59 : az_W C R k_X11_paid 59 ls st h ↔ az_W C R k_X11_paid 60 ls (.int 1 :: st) h := ap_const rfl
theorem u_X11_paid_60 (hl : st.length ≤ 4) : az_W C R k_X11_paid 60 ls (v3 :: v2 :: v1 :: .ref 97 :: st) (130, P, I, L) ↔ az_F C R (az_W C R k_X11_paid) (130, P, I, L) (az_cl 170 [.ref 97, v1, v2, v3] 63 ls st) := ap_ivv rfl rfl kn_97 hl
theorem u_X11_paid_63 : az_W C R k_X11_paid 63 ls (.int x :: st) h ↔ az_W C R k_X11_paid 64 ls (.long x.toInt64 :: st) h := ap_i2l rfl
theorem u_X11_paid_64 : az_W C R k_X11_paid 64 (.ref a :: ls) st h ↔ az_W C R k_X11_paid 65 (.ref a :: ls) (.ref a :: st) h := ap_aload rfl rfl
theorem u_X11_paid_65 : az_W C R k_X11_paid 65 ls (.ref 97 :: st) (130, P, I, L) ↔ az_W C R k_X11_paid 68 ls (.int (I 97 15) :: st) (130, P, I, L) := ap_getI rfl kn_97
theorem u_X11_paid_68 : az_W C R k_X11_paid 68 ls (.int x :: st) h ↔ az_W C R k_X11_paid 69 ls (.long x.toInt64 :: st) h := ap_i2l rfl
theorem u_X11_paid_69 : az_W C R k_X11_paid 69 ls (.long q :: .long p :: st) h ↔ az_W C R k_X11_paid 70 ls (.long (p * q) :: st) h := ap_ll (f := fun p q => p * q) rfl
theorem u_X11_paid_70 : az_W C R k_X11_paid 70 ls (.long q :: .long p :: st) h ↔ az_W C R k_X11_paid 71 ls (.long (p - q) :: st) h := ap_ll (f := fun p q => p - q) rfl
theorem u_X11_paid_71 : az_W C R k_X11_paid 71 (.ref a :: ls) st h ↔ az_W C R k_X11_paid 72 (.ref a :: ls) (.ref a :: st) h := ap_aload rfl rfl
theorem u_X11_paid_72 : az_W C R k_X11_paid 72 ls (.ref 97 :: st) (130, P, I, L) ↔ az_W C R k_X11_paid 75 ls (.int (I 97 15) :: st) (130, P, I, L) := ap_getI rfl kn_97
theorem u_X11_paid_75 : az_W C R k_X11_paid 75 ls (.int x :: st) h ↔ az_W C R k_X11_paid 76 ls (.long x.toInt64 :: st) h := ap_i2l rfl
theorem u_X11_paid_76 : az_W C R k_X11_paid 76 (v0 :: v1 :: v2 :: .int x :: ls) st h ↔ az_W C R k_X11_paid 77 (v0 :: v1 :: v2 :: .int x :: ls) (.int x :: st) h := ap_iload rfl rfl
theorem u_X11_paid_77 (hl : st.length ≤ 4) : az_W C R k_X11_paid 77 ls (v3 :: v2 :: v1 :: st) h ↔ az_F C R (az_W C R k_X11_paid) h (az_cl 144 [v1, v2, v3] 80 ls st) := ap_ivs rfl rfl hl
theorem u_X11_paid_80 : az_W C R k_X11_paid 80 ls [.long p] h ↔ R (some (.long p)) h := ap_lret rfl
def k_X11_unlike : Nat → az_P := (az_br 43 (az_br 19 (az_br 10 (az_br 7 (az_br 1 (az_lf 0 (az_iload 1 1)) (az_br 4 (az_lf 1 (az_ivs 142 1 4)) (az_lf 4 (az_ifne 9 7)))) (az_br 8 (az_lf 7 (az_const (.int (-1)) 8)) (az_br 9 (az_lf 8 (az_iret)) (az_lf 9 (az_const (.int 0) 10))))) (az_br 13 (az_br 11 (az_lf 10 (az_istore 2 11)) (az_br 12 (az_lf 11 (az_const (.int 0) 12)) (az_lf 12 (az_istore 3 13)))) (az_br 16 (az_br 14 (az_lf 13 (az_const (.int 0) 14)) (az_lf 14 (az_istore 4 16))) (az_br 18 (az_lf 16 (az_iload 4 18)) (az_lf 18 (az_aload 0 19)))))) (az_br 30 (az_br 26 (az_br 22 (az_lf 19 (az_getI 11 17 22)) (az_br 25 (az_lf 22 (az_icge 83 25)) (az_lf 25 (az_aload 0 26)))) (az_br 28 (az_lf 26 (az_iload 4 28)) (az_br 29 (az_lf 28 (az_iload 1 29)) (az_lf 29 (az_const (.int 0) 30))))) (az_br 36 (az_br 33 (az_lf 30 (az_ivv 170 3 11 33)) (az_br 35 (az_lf 33 (az_istore 5 35)) (az_lf 35 (az_iload 2 36)))) (az_br 41 (az_br 38 (az_lf 36 (az_iload 5 38)) (az_lf 38 (az_ifle 53 41))) (az_br 42 (az_lf 41 (az_const (.int 1) 42)) (az_lf 42 (az_aload 0 43))))))) (az_br 64 (az_br 54 (az_br 49 (az_br 46 (az_lf 43 (az_getP 11 18 46)) (az_br 48 (az_lf 46 (az_iload 4 48)) (az_lf 48 (az_iald 49)))) (az_br 50 (az_lf 49 (az_ii (fun x y => x <<< (y &&& 31)) 50)) (az_br 53 (az_lf 50 (az_goto 54)) (az_lf 53 (az_const (.int 0) 54))))) (az_br 57 (az_br 55 (az_lf 54 (az_ii (fun x y => x ||| y) 55)) (az_br 56 (az_lf 55 (az_istore 2 56)) (az_lf 56 (az_iload 3 57)))) (az_br 62 (az_br 59 (az_lf 57 (az_iload 5 59)) (az_lf 59 (az_ifge 74 62))) (az_br 63 (az_lf 62 (az_const (.int 1) 63)) (az_lf 63 (az_aload 0 64)))))) (az_br 76 (az_br 70 (az_br 67 (az_lf 64 (az_getP 11 18 67)) (az_br 69 (az_lf 67 (az_iload 4 69)) (az_lf 69 (az_iald 70)))) (az_br 74 (az_br 71 (az_lf 70 (az_ii (fun x y => x <<< (y &&& 31)) 71)) (az_lf 71 (az_goto 75))) (az_br 75 (az_lf 74 (az_const (.int 0) 75)) (az_lf 75 (az_ii (fun x y => x ||| y) 76))))) (az_br 83 (az_br 77 (az_lf 76 (az_istore 3 77)) (az_br 80 (az_lf 77 (az_iinc 4 1 80)) (az_lf 80 (az_goto 16)))) (az_br 85 (az_br 84 (az_lf 83 (az_iload 2 84)) (az_lf 84 (az_iload 3 85))) (az_br 86 (az_lf 85 (az_ii (fun x y => x &&& y) 86)) (az_lf 86 (az_iret))))))))
theorem u_X11_unlike_0 : az_W C R k_X11_unlike 0 (v0 :: .int x :: ls) st h ↔ az_W C R k_X11_unlike 1 (v0 :: .int x :: ls) (.int x :: st) h := ap_iload rfl rfl
theorem u_X11_unlike_1 (hl : st.length ≤ 4) : az_W C R k_X11_unlike 1 ls (v1 :: st) h ↔ az_F C R (az_W C R k_X11_unlike) h (az_cl 142 [v1] 4 ls st) := ap_ivs rfl rfl hl
theorem u_X11_unlike_4 : az_W C R k_X11_unlike 4 ls (.int x :: st) h ↔ if x = 0 then az_W C R k_X11_unlike 7 ls st h else az_W C R k_X11_unlike 9 ls st h := ap_ifne rfl
theorem u_X11_unlike_7 : az_W C R k_X11_unlike 7 ls st h ↔ az_W C R k_X11_unlike 8 ls (.int (-1) :: st) h := ap_const rfl
theorem u_X11_unlike_8 : az_W C R k_X11_unlike 8 ls [.int x] h ↔ R (some (.int x)) h := ap_iret rfl
theorem u_X11_unlike_9 : az_W C R k_X11_unlike 9 ls st h ↔ az_W C R k_X11_unlike 10 ls (.int 0 :: st) h := ap_const rfl
theorem u_X11_unlike_10 : az_W C R k_X11_unlike 10 (v0 :: v1 :: v2 :: ls) (.int x :: st) h ↔ az_W C R k_X11_unlike 11 (v0 :: az_un v1 :: .int x :: ls) st h := ap_istore rfl rfl
theorem u_X11_unlike_11 : az_W C R k_X11_unlike 11 ls st h ↔ az_W C R k_X11_unlike 12 ls (.int 0 :: st) h := ap_const rfl
theorem u_X11_unlike_12 : az_W C R k_X11_unlike 12 (v0 :: v1 :: v2 :: v3 :: ls) (.int x :: st) h ↔ az_W C R k_X11_unlike 13 (v0 :: v1 :: az_un v2 :: .int x :: ls) st h := ap_istore rfl rfl
theorem u_X11_unlike_13 : az_W C R k_X11_unlike 13 ls st h ↔ az_W C R k_X11_unlike 14 ls (.int 0 :: st) h := ap_const rfl
theorem u_X11_unlike_14 : az_W C R k_X11_unlike 14 (v0 :: v1 :: v2 :: v3 :: v4 :: ls) (.int x :: st) h ↔ az_W C R k_X11_unlike 16 (v0 :: v1 :: v2 :: az_un v3 :: .int x :: ls) st h := ap_istore rfl rfl
theorem u_X11_unlike_16 : az_W C R k_X11_unlike 16 (v0 :: v1 :: v2 :: v3 :: .int x :: ls) st h ↔ az_W C R k_X11_unlike 18 (v0 :: v1 :: v2 :: v3 :: .int x :: ls) (.int x :: st) h := ap_iload rfl rfl
theorem u_X11_unlike_18 : az_W C R k_X11_unlike 18 (.ref a :: ls) st h ↔ az_W C R k_X11_unlike 19 (.ref a :: ls) (.ref a :: st) h := ap_aload rfl rfl
theorem u_X11_unlike_19 : az_W C R k_X11_unlike 19 ls (.ref 97 :: st) (130, P, I, L) ↔ az_W C R k_X11_unlike 22 ls (.int (I 97 17) :: st) (130, P, I, L) := ap_getI rfl kn_97
theorem u_X11_unlike_22 : az_W C R k_X11_unlike 22 ls (.int y :: .int x :: st) h ↔ if y ≤ x then az_W C R k_X11_unlike 83 ls st h else az_W C R k_X11_unlike 25 ls st h := ap_icge rfl
theorem u_X11_unlike_25 : az_W C R k_X11_unlike 25 (.ref a :: ls) st h ↔ az_W C R k_X11_unlike 26 (.ref a :: ls) (.ref a :: st) h := ap_aload rfl rfl
theorem u_X11_unlike_26 : az_W C R k_X11_unlike 26 (v0 :: v1 :: v2 :: v3 :: .int x :: ls) st h ↔ az_W C R k_X11_unlike 28 (v0 :: v1 :: v2 :: v3 :: .int x :: ls) (.int x :: st) h := ap_iload rfl rfl
theorem u_X11_unlike_28 : az_W C R k_X11_unlike 28 (v0 :: .int x :: ls) st h ↔ az_W C R k_X11_unlike 29 (v0 :: .int x :: ls) (.int x :: st) h := ap_iload rfl rfl
theorem u_X11_unlike_29 : az_W C R k_X11_unlike 29 ls st h ↔ az_W C R k_X11_unlike 30 ls (.int 0 :: st) h := ap_const rfl
theorem u_X11_unlike_30 (hl : st.length ≤ 4) : az_W C R k_X11_unlike 30 ls (v3 :: v2 :: v1 :: .ref 97 :: st) (130, P, I, L) ↔ az_F C R (az_W C R k_X11_unlike) (130, P, I, L) (az_cl 170 [.ref 97, v1, v2, v3] 33 ls st) := ap_ivv rfl rfl kn_97 hl
theorem u_X11_unlike_33 : az_W C R k_X11_unlike 33 (v0 :: v1 :: v2 :: v3 :: v4 :: v5 :: ls) (.int x :: st) h ↔ az_W C R k_X11_unlike 35 (v0 :: v1 :: v2 :: v3 :: az_un v4 :: .int x :: ls) st h := ap_istore rfl rfl
theorem u_X11_unlike_35 : az_W C R k_X11_unlike 35 (v0 :: v1 :: .int x :: ls) st h ↔ az_W C R k_X11_unlike 36 (v0 :: v1 :: .int x :: ls) (.int x :: st) h := ap_iload rfl rfl
theorem u_X11_unlike_36 : az_W C R k_X11_unlike 36 (v0 :: v1 :: v2 :: v3 :: v4 :: .int x :: ls) st h ↔ az_W C R k_X11_unlike 38 (v0 :: v1 :: v2 :: v3 :: v4 :: .int x :: ls) (.int x :: st) h := ap_iload rfl rfl
theorem u_X11_unlike_38 : az_W C R k_X11_unlike 38 ls (.int x :: st) h ↔ if x ≤ 0 then az_W C R k_X11_unlike 53 ls st h else az_W C R k_X11_unlike 41 ls st h := ap_ifle rfl
theorem u_X11_unlike_41 : az_W C R k_X11_unlike 41 ls st h ↔ az_W C R k_X11_unlike 42 ls (.int 1 :: st) h := ap_const rfl
theorem u_X11_unlike_42 : az_W C R k_X11_unlike 42 (.ref a :: ls) st h ↔ az_W C R k_X11_unlike 43 (.ref a :: ls) (.ref a :: st) h := ap_aload rfl rfl
theorem u_X11_unlike_43 : az_W C R k_X11_unlike 43 ls (.ref 97 :: st) (130, az_Pf, I, L) ↔ az_W C R k_X11_unlike 46 ls (.ref 108 :: st) (130, az_Pf, I, L) := ap_getP rfl kn_97 pf_97_18
theorem u_X11_unlike_46 : az_W C R k_X11_unlike 46 (v0 :: v1 :: v2 :: v3 :: .int x :: ls) st h ↔ az_W C R k_X11_unlike 48 (v0 :: v1 :: v2 :: v3 :: .int x :: ls) (.int x :: st) h := ap_iload rfl rfl
theorem u_X11_unlike_48 (hk : (az_kn 130 a).1 = 1) : az_W C R k_X11_unlike 48 ls (.int x :: .ref a :: st) (130, P, I, L) ↔ (az_in x (az_kn 130 a).2 ∧ az_W C R k_X11_unlike 49 ls (.int (I a x.toNatClampNeg) :: st) (130, P, I, L)) := ap_iald rfl (az_k1 hk)
theorem u_X11_unlike_49 : az_W C R k_X11_unlike 49 ls (.int y :: .int x :: st) h ↔ az_W C R k_X11_unlike 50 ls (.int (x <<< (y &&& 31)) :: st) h := ap_ii (f := fun x y => x <<< (y &&& 31)) rfl
theorem u_X11_unlike_50 : az_W C R k_X11_unlike 50 ls st h ↔ az_W C R k_X11_unlike 54 ls st h := ap_goto rfl
theorem u_X11_unlike_53 : az_W C R k_X11_unlike 53 ls st h ↔ az_W C R k_X11_unlike 54 ls (.int 0 :: st) h := ap_const rfl
theorem u_X11_unlike_54 : az_W C R k_X11_unlike 54 ls (.int y :: .int x :: st) h ↔ az_W C R k_X11_unlike 55 ls (.int (x ||| y) :: st) h := ap_ii (f := fun x y => x ||| y) rfl
theorem u_X11_unlike_55 : az_W C R k_X11_unlike 55 (v0 :: v1 :: v2 :: ls) (.int x :: st) h ↔ az_W C R k_X11_unlike 56 (v0 :: az_un v1 :: .int x :: ls) st h := ap_istore rfl rfl
theorem u_X11_unlike_56 : az_W C R k_X11_unlike 56 (v0 :: v1 :: v2 :: .int x :: ls) st h ↔ az_W C R k_X11_unlike 57 (v0 :: v1 :: v2 :: .int x :: ls) (.int x :: st) h := ap_iload rfl rfl
theorem u_X11_unlike_57 : az_W C R k_X11_unlike 57 (v0 :: v1 :: v2 :: v3 :: v4 :: .int x :: ls) st h ↔ az_W C R k_X11_unlike 59 (v0 :: v1 :: v2 :: v3 :: v4 :: .int x :: ls) (.int x :: st) h := ap_iload rfl rfl
theorem u_X11_unlike_59 : az_W C R k_X11_unlike 59 ls (.int x :: st) h ↔ if 0 ≤ x then az_W C R k_X11_unlike 74 ls st h else az_W C R k_X11_unlike 62 ls st h := ap_ifge rfl
theorem u_X11_unlike_62 : az_W C R k_X11_unlike 62 ls st h ↔ az_W C R k_X11_unlike 63 ls (.int 1 :: st) h := ap_const rfl
theorem u_X11_unlike_63 : az_W C R k_X11_unlike 63 (.ref a :: ls) st h ↔ az_W C R k_X11_unlike 64 (.ref a :: ls) (.ref a :: st) h := ap_aload rfl rfl
theorem u_X11_unlike_64 : az_W C R k_X11_unlike 64 ls (.ref 97 :: st) (130, az_Pf, I, L) ↔ az_W C R k_X11_unlike 67 ls (.ref 108 :: st) (130, az_Pf, I, L) := ap_getP rfl kn_97 pf_97_18
theorem u_X11_unlike_67 : az_W C R k_X11_unlike 67 (v0 :: v1 :: v2 :: v3 :: .int x :: ls) st h ↔ az_W C R k_X11_unlike 69 (v0 :: v1 :: v2 :: v3 :: .int x :: ls) (.int x :: st) h := ap_iload rfl rfl
theorem u_X11_unlike_69 (hk : (az_kn 130 a).1 = 1) : az_W C R k_X11_unlike 69 ls (.int x :: .ref a :: st) (130, P, I, L) ↔ (az_in x (az_kn 130 a).2 ∧ az_W C R k_X11_unlike 70 ls (.int (I a x.toNatClampNeg) :: st) (130, P, I, L)) := ap_iald rfl (az_k1 hk)
theorem u_X11_unlike_70 : az_W C R k_X11_unlike 70 ls (.int y :: .int x :: st) h ↔ az_W C R k_X11_unlike 71 ls (.int (x <<< (y &&& 31)) :: st) h := ap_ii (f := fun x y => x <<< (y &&& 31)) rfl
theorem u_X11_unlike_71 : az_W C R k_X11_unlike 71 ls st h ↔ az_W C R k_X11_unlike 75 ls st h := ap_goto rfl
theorem u_X11_unlike_74 : az_W C R k_X11_unlike 74 ls st h ↔ az_W C R k_X11_unlike 75 ls (.int 0 :: st) h := ap_const rfl
theorem u_X11_unlike_75 : az_W C R k_X11_unlike 75 ls (.int y :: .int x :: st) h ↔ az_W C R k_X11_unlike 76 ls (.int (x ||| y) :: st) h := ap_ii (f := fun x y => x ||| y) rfl
theorem u_X11_unlike_76 : az_W C R k_X11_unlike 76 (v0 :: v1 :: v2 :: v3 :: ls) (.int x :: st) h ↔ az_W C R k_X11_unlike 77 (v0 :: v1 :: az_un v2 :: .int x :: ls) st h := ap_istore rfl rfl
theorem u_X11_unlike_77 : az_W C R k_X11_unlike 77 (v0 :: v1 :: v2 :: v3 :: .int x :: ls) st h ↔ az_W C R k_X11_unlike 80 (v0 :: v1 :: v2 :: az_un v3 :: .int (x + 1) :: ls) st h := ap_iinc rfl rfl rfl
theorem u_X11_unlike_80 : az_W C R k_X11_unlike 80 ls st h ↔ az_W C R k_X11_unlike 16 ls st h := ap_goto rfl
theorem u_X11_unlike_83 : az_W C R k_X11_unlike 83 (v0 :: v1 :: .int x :: ls) st h ↔ az_W C R k_X11_unlike 84 (v0 :: v1 :: .int x :: ls) (.int x :: st) h := ap_iload rfl rfl
theorem u_X11_unlike_84 : az_W C R k_X11_unlike 84 (v0 :: v1 :: v2 :: .int x :: ls) st h ↔ az_W C R k_X11_unlike 85 (v0 :: v1 :: v2 :: .int x :: ls) (.int x :: st) h := ap_iload rfl rfl
theorem u_X11_unlike_85 : az_W C R k_X11_unlike 85 ls (.int y :: .int x :: st) h ↔ az_W C R k_X11_unlike 86 ls (.int (x &&& y) :: st) h := ap_ii (f := fun x y => x &&& y) rfl
theorem u_X11_unlike_86 : az_W C R k_X11_unlike 86 ls [.int x] h ↔ R (some (.int x)) h := ap_iret rfl
def k_X11_count : Nat → az_P := (az_br 38 (az_br 18 (az_br 9 (az_br 2 (az_br 1 (az_lf 0 (az_iload 1 1)) (az_lf 1 (az_i2l 2))) (az_br 3 (az_lf 2 (az_const (.long 0) 3)) (az_br 6 (az_lf 3 (az_const (.long 5) 6)) (az_lf 6 (az_ivs 139 3 9))))) (az_br 13 (az_br 12 (az_lf 9 (az_ifne 14 12)) (az_lf 12 (az_const (.int (-1)) 13))) (az_br 14 (az_lf 13 (az_iret)) (az_br 15 (az_lf 14 (az_iload 1 15)) (az_lf 15 (az_ifne 25 18)))))) (az_br 27 (az_br 22 (az_br 19 (az_lf 18 (az_aload 0 19)) (az_lf 19 (az_getI 11 17 22))) (az_br 25 (az_lf 22 (az_goto 77)) (az_br 26 (az_lf 25 (az_iload 1 26)) (az_lf 26 (az_const (.int 1) 27))))) (az_br 31 (az_br 30 (az_lf 27 (az_icne 37 30)) (az_lf 30 (az_aload 0 31))) (az_br 34 (az_lf 31 (az_getI 11 19 34)) (az_br 37 (az_lf 34 (az_goto 77)) (az_lf 37 (az_iload 1 38))))))) (az_br 58 (az_br 49 (az_br 42 (az_br 39 (az_lf 38 (az_const (.int 2) 39)) (az_lf 39 (az_icne 49 42))) (az_br 43 (az_lf 42 (az_aload 0 43)) (az_br 46 (az_lf 43 (az_getI 11 25 46)) (az_lf 46 (az_goto 77))))) (az_br 51 (az_br 50 (az_lf 49 (az_iload 1 50)) (az_lf 50 (az_const (.int 3) 51))) (az_br 54 (az_lf 51 (az_icne 61 54)) (az_br 55 (az_lf 54 (az_aload 0 55)) (az_lf 55 (az_getI 11 31 58)))))) (az_br 67 (az_br 62 (az_br 61 (az_lf 58 (az_goto 77)) (az_lf 61 (az_iload 1 62))) (az_br 63 (az_lf 62 (az_const (.int 4) 63)) (az_br 66 (az_lf 63 (az_icne 73 66)) (az_lf 66 (az_aload 0 67))))) (az_br 73 (az_br 70 (az_lf 67 (az_getI 11 34 70)) (az_lf 70 (az_goto 77))) (az_br 74 (az_lf 73 (az_aload 0 74)) (az_br 77 (az_lf 74 (az_getI 11 4 77)) (az_lf 77 (az_iret))))))))
theorem u_X11_count_0 : az_W C R k_X11_count 0 (v0 :: .int x :: ls) st h ↔ az_W C R k_X11_count 1 (v0 :: .int x :: ls) (.int x :: st) h := ap_iload rfl rfl
theorem u_X11_count_1 : az_W C R k_X11_count 1 ls (.int x :: st) h ↔ az_W C R k_X11_count 2 ls (.long x.toInt64 :: st) h := ap_i2l rfl
theorem u_X11_count_2 : az_W C R k_X11_count 2 ls st h ↔ az_W C R k_X11_count 3 ls (.long 0 :: st) h := ap_const rfl
theorem u_X11_count_3 : az_W C R k_X11_count 3 ls st h ↔ az_W C R k_X11_count 6 ls (.long 5 :: st) h := ap_const rfl
theorem u_X11_count_6 (hl : st.length ≤ 4) : az_W C R k_X11_count 6 ls (v3 :: v2 :: v1 :: st) h ↔ az_F C R (az_W C R k_X11_count) h (az_cl 139 [v1, v2, v3] 9 ls st) := ap_ivs rfl rfl hl
theorem u_X11_count_9 : az_W C R k_X11_count 9 ls (.int x :: st) h ↔ if x = 0 then az_W C R k_X11_count 12 ls st h else az_W C R k_X11_count 14 ls st h := ap_ifne rfl
theorem u_X11_count_12 : az_W C R k_X11_count 12 ls st h ↔ az_W C R k_X11_count 13 ls (.int (-1) :: st) h := ap_const rfl
theorem u_X11_count_13 : az_W C R k_X11_count 13 ls [.int x] h ↔ R (some (.int x)) h := ap_iret rfl
theorem u_X11_count_14 : az_W C R k_X11_count 14 (v0 :: .int x :: ls) st h ↔ az_W C R k_X11_count 15 (v0 :: .int x :: ls) (.int x :: st) h := ap_iload rfl rfl
theorem u_X11_count_15 : az_W C R k_X11_count 15 ls (.int x :: st) h ↔ if x = 0 then az_W C R k_X11_count 18 ls st h else az_W C R k_X11_count 25 ls st h := ap_ifne rfl
theorem u_X11_count_18 : az_W C R k_X11_count 18 (.ref a :: ls) st h ↔ az_W C R k_X11_count 19 (.ref a :: ls) (.ref a :: st) h := ap_aload rfl rfl
theorem u_X11_count_19 : az_W C R k_X11_count 19 ls (.ref 97 :: st) (130, P, I, L) ↔ az_W C R k_X11_count 22 ls (.int (I 97 17) :: st) (130, P, I, L) := ap_getI rfl kn_97
theorem u_X11_count_22 : az_W C R k_X11_count 22 ls st h ↔ az_W C R k_X11_count 77 ls st h := ap_goto rfl
theorem u_X11_count_25 : az_W C R k_X11_count 25 (v0 :: .int x :: ls) st h ↔ az_W C R k_X11_count 26 (v0 :: .int x :: ls) (.int x :: st) h := ap_iload rfl rfl
theorem u_X11_count_26 : az_W C R k_X11_count 26 ls st h ↔ az_W C R k_X11_count 27 ls (.int 1 :: st) h := ap_const rfl
theorem u_X11_count_27 : az_W C R k_X11_count 27 ls (.int y :: .int x :: st) h ↔ if x = y then az_W C R k_X11_count 30 ls st h else az_W C R k_X11_count 37 ls st h := ap_icne rfl
theorem u_X11_count_30 : az_W C R k_X11_count 30 (.ref a :: ls) st h ↔ az_W C R k_X11_count 31 (.ref a :: ls) (.ref a :: st) h := ap_aload rfl rfl
theorem u_X11_count_31 : az_W C R k_X11_count 31 ls (.ref 97 :: st) (130, P, I, L) ↔ az_W C R k_X11_count 34 ls (.int (I 97 19) :: st) (130, P, I, L) := ap_getI rfl kn_97
theorem u_X11_count_34 : az_W C R k_X11_count 34 ls st h ↔ az_W C R k_X11_count 77 ls st h := ap_goto rfl
theorem u_X11_count_37 : az_W C R k_X11_count 37 (v0 :: .int x :: ls) st h ↔ az_W C R k_X11_count 38 (v0 :: .int x :: ls) (.int x :: st) h := ap_iload rfl rfl
theorem u_X11_count_38 : az_W C R k_X11_count 38 ls st h ↔ az_W C R k_X11_count 39 ls (.int 2 :: st) h := ap_const rfl
theorem u_X11_count_39 : az_W C R k_X11_count 39 ls (.int y :: .int x :: st) h ↔ if x = y then az_W C R k_X11_count 42 ls st h else az_W C R k_X11_count 49 ls st h := ap_icne rfl
theorem u_X11_count_42 : az_W C R k_X11_count 42 (.ref a :: ls) st h ↔ az_W C R k_X11_count 43 (.ref a :: ls) (.ref a :: st) h := ap_aload rfl rfl
theorem u_X11_count_43 : az_W C R k_X11_count 43 ls (.ref 97 :: st) (130, P, I, L) ↔ az_W C R k_X11_count 46 ls (.int (I 97 25) :: st) (130, P, I, L) := ap_getI rfl kn_97
theorem u_X11_count_46 : az_W C R k_X11_count 46 ls st h ↔ az_W C R k_X11_count 77 ls st h := ap_goto rfl
theorem u_X11_count_49 : az_W C R k_X11_count 49 (v0 :: .int x :: ls) st h ↔ az_W C R k_X11_count 50 (v0 :: .int x :: ls) (.int x :: st) h := ap_iload rfl rfl
theorem u_X11_count_50 : az_W C R k_X11_count 50 ls st h ↔ az_W C R k_X11_count 51 ls (.int 3 :: st) h := ap_const rfl
theorem u_X11_count_51 : az_W C R k_X11_count 51 ls (.int y :: .int x :: st) h ↔ if x = y then az_W C R k_X11_count 54 ls st h else az_W C R k_X11_count 61 ls st h := ap_icne rfl
theorem u_X11_count_54 : az_W C R k_X11_count 54 (.ref a :: ls) st h ↔ az_W C R k_X11_count 55 (.ref a :: ls) (.ref a :: st) h := ap_aload rfl rfl
theorem u_X11_count_55 : az_W C R k_X11_count 55 ls (.ref 97 :: st) (130, P, I, L) ↔ az_W C R k_X11_count 58 ls (.int (I 97 31) :: st) (130, P, I, L) := ap_getI rfl kn_97
theorem u_X11_count_58 : az_W C R k_X11_count 58 ls st h ↔ az_W C R k_X11_count 77 ls st h := ap_goto rfl
theorem u_X11_count_61 : az_W C R k_X11_count 61 (v0 :: .int x :: ls) st h ↔ az_W C R k_X11_count 62 (v0 :: .int x :: ls) (.int x :: st) h := ap_iload rfl rfl
theorem u_X11_count_62 : az_W C R k_X11_count 62 ls st h ↔ az_W C R k_X11_count 63 ls (.int 4 :: st) h := ap_const rfl
theorem u_X11_count_63 : az_W C R k_X11_count 63 ls (.int y :: .int x :: st) h ↔ if x = y then az_W C R k_X11_count 66 ls st h else az_W C R k_X11_count 73 ls st h := ap_icne rfl
theorem u_X11_count_66 : az_W C R k_X11_count 66 (.ref a :: ls) st h ↔ az_W C R k_X11_count 67 (.ref a :: ls) (.ref a :: st) h := ap_aload rfl rfl
theorem u_X11_count_67 : az_W C R k_X11_count 67 ls (.ref 97 :: st) (130, P, I, L) ↔ az_W C R k_X11_count 70 ls (.int (I 97 34) :: st) (130, P, I, L) := ap_getI rfl kn_97
theorem u_X11_count_70 : az_W C R k_X11_count 70 ls st h ↔ az_W C R k_X11_count 77 ls st h := ap_goto rfl
theorem u_X11_count_73 : az_W C R k_X11_count 73 (.ref a :: ls) st h ↔ az_W C R k_X11_count 74 (.ref a :: ls) (.ref a :: st) h := ap_aload rfl rfl
theorem u_X11_count_74 : az_W C R k_X11_count 74 ls (.ref 97 :: st) (130, P, I, L) ↔ az_W C R k_X11_count 77 ls (.int (I 97 4) :: st) (130, P, I, L) := ap_getI rfl kn_97
theorem u_X11_count_77 : az_W C R k_X11_count 77 ls [.int x] h ↔ R (some (.int x)) h := ap_iret rfl
def k_X11_lent : Nat → az_P := (az_br 48 (az_br 26 (az_br 14 (az_br 7 (az_br 1 (az_lf 0 (az_iload 1 1)) (az_br 4 (az_lf 1 (az_ivs 141 1 4)) (az_lf 4 (az_ifeq 26 7)))) (az_br 8 (az_lf 7 (az_iload 2 8)) (az_br 11 (az_lf 8 (az_ivs 142 1 11)) (az_lf 11 (az_ifeq 26 14))))) (az_br 17 (az_br 15 (az_lf 14 (az_iload 3 15)) (az_br 16 (az_lf 15 (az_i2l 16)) (az_lf 16 (az_const (.long 0) 17)))) (az_br 20 (az_lf 17 (az_const (.long 999) 20)) (az_br 23 (az_lf 20 (az_ivs 139 3 23)) (az_lf 23 (az_ifne 28 26)))))) (az_br 37 (az_br 29 (az_br 27 (az_lf 26 (az_const (.int (-1)) 27)) (az_br 28 (az_lf 27 (az_iret)) (az_lf 28 (az_aload 0 29)))) (az_br 32 (az_lf 29 (az_getI 11 25 32)) (az_br 34 (az_lf 32 (az_const (.int 60) 34)) (az_lf 34 (az_icne 40 37))))) (az_br 41 (az_br 39 (az_lf 37 (az_const (.int (-3)) 39)) (az_br 40 (az_lf 39 (az_iret)) (az_lf 40 (az_aload 0 41)))) (az_br 44 (az_lf 41 (az_getP 11 26 44)) (az_br 45 (az_lf 44 (az_aload 0 45)) (az_lf 45 (az_getI 11 25 48))))))) (az_br 68 (az_br 58 (az_br 51 (az_br 49 (az_lf 48 (az_iload 1 49)) (az_br 50 (az_lf 49 (az_iast 50)) (az_lf 50 (az_aload 0 51)))) (az_br 54 (az_lf 51 (az_getP 11 27 54)) (az_br 55 (az_lf 54 (az_aload 0 55)) (az_lf 55 (az_getI 11 25 58))))) (az_br 61 (az_br 59 (az_lf 58 (az_iload 2 59)) (az_br 60 (az_lf 59 (az_iast 60)) (az_lf 60 (az_aload 0 61)))) (az_br 64 (az_lf 61 (az_getP 11 28 64)) (az_br 65 (az_lf 64 (az_aload 0 65)) (az_lf 65 (az_getI 11 25 68)))))) (az_br 76 (az_br 71 (az_br 69 (az_lf 68 (az_iload 3 69)) (az_br 70 (az_lf 69 (az_iast 70)) (az_lf 70 (az_aload 0 71)))) (az_br 72 (az_lf 71 (az_dup 72)) (az_br 75 (az_lf 72 (az_getI 11 25 75)) (az_lf 75 (az_const (.int 1) 76))))) (az_br 81 (az_br 77 (az_lf 76 (az_ii (fun x y => x + y) 77)) (az_br 80 (az_lf 77 (az_putI 11 25 80)) (az_lf 80 (az_aload 0 81)))) (az_br 85 (az_br 84 (az_lf 81 (az_getI 11 25 84)) (az_lf 84 (az_const (.int 1) 85))) (az_br 86 (az_lf 85 (az_ii (fun x y => x - y) 86)) (az_lf 86 (az_iret))))))))
theorem u_X11_lent_0 : az_W C R k_X11_lent 0 (v0 :: .int x :: ls) st h ↔ az_W C R k_X11_lent 1 (v0 :: .int x :: ls) (.int x :: st) h := ap_iload rfl rfl
theorem u_X11_lent_1 (hl : st.length ≤ 4) : az_W C R k_X11_lent 1 ls (v1 :: st) h ↔ az_F C R (az_W C R k_X11_lent) h (az_cl 141 [v1] 4 ls st) := ap_ivs rfl rfl hl
theorem u_X11_lent_4 : az_W C R k_X11_lent 4 ls (.int x :: st) h ↔ if x = 0 then az_W C R k_X11_lent 26 ls st h else az_W C R k_X11_lent 7 ls st h := ap_ifeq rfl
theorem u_X11_lent_7 : az_W C R k_X11_lent 7 (v0 :: v1 :: .int x :: ls) st h ↔ az_W C R k_X11_lent 8 (v0 :: v1 :: .int x :: ls) (.int x :: st) h := ap_iload rfl rfl
theorem u_X11_lent_8 (hl : st.length ≤ 4) : az_W C R k_X11_lent 8 ls (v1 :: st) h ↔ az_F C R (az_W C R k_X11_lent) h (az_cl 142 [v1] 11 ls st) := ap_ivs rfl rfl hl
theorem u_X11_lent_11 : az_W C R k_X11_lent 11 ls (.int x :: st) h ↔ if x = 0 then az_W C R k_X11_lent 26 ls st h else az_W C R k_X11_lent 14 ls st h := ap_ifeq rfl
theorem u_X11_lent_14 : az_W C R k_X11_lent 14 (v0 :: v1 :: v2 :: .int x :: ls) st h ↔ az_W C R k_X11_lent 15 (v0 :: v1 :: v2 :: .int x :: ls) (.int x :: st) h := ap_iload rfl rfl
theorem u_X11_lent_15 : az_W C R k_X11_lent 15 ls (.int x :: st) h ↔ az_W C R k_X11_lent 16 ls (.long x.toInt64 :: st) h := ap_i2l rfl
theorem u_X11_lent_16 : az_W C R k_X11_lent 16 ls st h ↔ az_W C R k_X11_lent 17 ls (.long 0 :: st) h := ap_const rfl
theorem u_X11_lent_17 : az_W C R k_X11_lent 17 ls st h ↔ az_W C R k_X11_lent 20 ls (.long 999 :: st) h := ap_const rfl
theorem u_X11_lent_20 (hl : st.length ≤ 4) : az_W C R k_X11_lent 20 ls (v3 :: v2 :: v1 :: st) h ↔ az_F C R (az_W C R k_X11_lent) h (az_cl 139 [v1, v2, v3] 23 ls st) := ap_ivs rfl rfl hl
theorem u_X11_lent_23 : az_W C R k_X11_lent 23 ls (.int x :: st) h ↔ if x = 0 then az_W C R k_X11_lent 26 ls st h else az_W C R k_X11_lent 28 ls st h := ap_ifne rfl
theorem u_X11_lent_26 : az_W C R k_X11_lent 26 ls st h ↔ az_W C R k_X11_lent 27 ls (.int (-1) :: st) h := ap_const rfl
theorem u_X11_lent_27 : az_W C R k_X11_lent 27 ls [.int x] h ↔ R (some (.int x)) h := ap_iret rfl
theorem u_X11_lent_28 : az_W C R k_X11_lent 28 (.ref a :: ls) st h ↔ az_W C R k_X11_lent 29 (.ref a :: ls) (.ref a :: st) h := ap_aload rfl rfl
theorem u_X11_lent_29 : az_W C R k_X11_lent 29 ls (.ref 97 :: st) (130, P, I, L) ↔ az_W C R k_X11_lent 32 ls (.int (I 97 25) :: st) (130, P, I, L) := ap_getI rfl kn_97
theorem u_X11_lent_32 : az_W C R k_X11_lent 32 ls st h ↔ az_W C R k_X11_lent 34 ls (.int 60 :: st) h := ap_const rfl
theorem u_X11_lent_34 : az_W C R k_X11_lent 34 ls (.int y :: .int x :: st) h ↔ if x = y then az_W C R k_X11_lent 37 ls st h else az_W C R k_X11_lent 40 ls st h := ap_icne rfl
theorem u_X11_lent_37 : az_W C R k_X11_lent 37 ls st h ↔ az_W C R k_X11_lent 39 ls (.int (-3) :: st) h := ap_const rfl
theorem u_X11_lent_39 : az_W C R k_X11_lent 39 ls [.int x] h ↔ R (some (.int x)) h := ap_iret rfl
theorem u_X11_lent_40 : az_W C R k_X11_lent 40 (.ref a :: ls) st h ↔ az_W C R k_X11_lent 41 (.ref a :: ls) (.ref a :: st) h := ap_aload rfl rfl
theorem u_X11_lent_41 : az_W C R k_X11_lent 41 ls (.ref 97 :: st) (130, az_Pf, I, L) ↔ az_W C R k_X11_lent 44 ls (.ref 114 :: st) (130, az_Pf, I, L) := ap_getP rfl kn_97 pf_97_26
theorem u_X11_lent_44 : az_W C R k_X11_lent 44 (.ref a :: ls) st h ↔ az_W C R k_X11_lent 45 (.ref a :: ls) (.ref a :: st) h := ap_aload rfl rfl
theorem u_X11_lent_45 : az_W C R k_X11_lent 45 ls (.ref 97 :: st) (130, P, I, L) ↔ az_W C R k_X11_lent 48 ls (.int (I 97 25) :: st) (130, P, I, L) := ap_getI rfl kn_97
theorem u_X11_lent_48 : az_W C R k_X11_lent 48 (v0 :: .int x :: ls) st h ↔ az_W C R k_X11_lent 49 (v0 :: .int x :: ls) (.int x :: st) h := ap_iload rfl rfl
theorem u_X11_lent_49 (hk : (az_kn 130 a).1 = 1) : az_W C R k_X11_lent 49 ls (.int y :: .int x :: .ref a :: st) (130, P, I, L) ↔ (az_in x (az_kn 130 a).2 ∧ az_W C R k_X11_lent 50 ls st (130, P, az_uI I a x.toNatClampNeg y, L)) := ap_iast rfl (az_k1 hk)
theorem u_X11_lent_50 : az_W C R k_X11_lent 50 (.ref a :: ls) st h ↔ az_W C R k_X11_lent 51 (.ref a :: ls) (.ref a :: st) h := ap_aload rfl rfl
theorem u_X11_lent_51 : az_W C R k_X11_lent 51 ls (.ref 97 :: st) (130, az_Pf, I, L) ↔ az_W C R k_X11_lent 54 ls (.ref 115 :: st) (130, az_Pf, I, L) := ap_getP rfl kn_97 pf_97_27
theorem u_X11_lent_54 : az_W C R k_X11_lent 54 (.ref a :: ls) st h ↔ az_W C R k_X11_lent 55 (.ref a :: ls) (.ref a :: st) h := ap_aload rfl rfl
theorem u_X11_lent_55 : az_W C R k_X11_lent 55 ls (.ref 97 :: st) (130, P, I, L) ↔ az_W C R k_X11_lent 58 ls (.int (I 97 25) :: st) (130, P, I, L) := ap_getI rfl kn_97
theorem u_X11_lent_58 : az_W C R k_X11_lent 58 (v0 :: v1 :: .int x :: ls) st h ↔ az_W C R k_X11_lent 59 (v0 :: v1 :: .int x :: ls) (.int x :: st) h := ap_iload rfl rfl
theorem u_X11_lent_59 (hk : (az_kn 130 a).1 = 1) : az_W C R k_X11_lent 59 ls (.int y :: .int x :: .ref a :: st) (130, P, I, L) ↔ (az_in x (az_kn 130 a).2 ∧ az_W C R k_X11_lent 60 ls st (130, P, az_uI I a x.toNatClampNeg y, L)) := ap_iast rfl (az_k1 hk)
theorem u_X11_lent_60 : az_W C R k_X11_lent 60 (.ref a :: ls) st h ↔ az_W C R k_X11_lent 61 (.ref a :: ls) (.ref a :: st) h := ap_aload rfl rfl
theorem u_X11_lent_61 : az_W C R k_X11_lent 61 ls (.ref 97 :: st) (130, az_Pf, I, L) ↔ az_W C R k_X11_lent 64 ls (.ref 116 :: st) (130, az_Pf, I, L) := ap_getP rfl kn_97 pf_97_28
theorem u_X11_lent_64 : az_W C R k_X11_lent 64 (.ref a :: ls) st h ↔ az_W C R k_X11_lent 65 (.ref a :: ls) (.ref a :: st) h := ap_aload rfl rfl
theorem u_X11_lent_65 : az_W C R k_X11_lent 65 ls (.ref 97 :: st) (130, P, I, L) ↔ az_W C R k_X11_lent 68 ls (.int (I 97 25) :: st) (130, P, I, L) := ap_getI rfl kn_97
theorem u_X11_lent_68 : az_W C R k_X11_lent 68 (v0 :: v1 :: v2 :: .int x :: ls) st h ↔ az_W C R k_X11_lent 69 (v0 :: v1 :: v2 :: .int x :: ls) (.int x :: st) h := ap_iload rfl rfl
theorem u_X11_lent_69 (hk : (az_kn 130 a).1 = 1) : az_W C R k_X11_lent 69 ls (.int y :: .int x :: .ref a :: st) (130, P, I, L) ↔ (az_in x (az_kn 130 a).2 ∧ az_W C R k_X11_lent 70 ls st (130, P, az_uI I a x.toNatClampNeg y, L)) := ap_iast rfl (az_k1 hk)
theorem u_X11_lent_70 : az_W C R k_X11_lent 70 (.ref a :: ls) st h ↔ az_W C R k_X11_lent 71 (.ref a :: ls) (.ref a :: st) h := ap_aload rfl rfl
theorem u_X11_lent_71 : az_W C R k_X11_lent 71 ls (.int x :: st) h ↔ az_W C R k_X11_lent 72 ls (.int x :: .int x :: st) h := ap_dupi rfl
theorem u_X11_lent_71r : az_W C R k_X11_lent 71 ls (.ref a :: st) h ↔ az_W C R k_X11_lent 72 ls (.ref a :: .ref a :: st) h := ap_dupr rfl
theorem u_X11_lent_72 : az_W C R k_X11_lent 72 ls (.ref 97 :: st) (130, P, I, L) ↔ az_W C R k_X11_lent 75 ls (.int (I 97 25) :: st) (130, P, I, L) := ap_getI rfl kn_97
theorem u_X11_lent_75 : az_W C R k_X11_lent 75 ls st h ↔ az_W C R k_X11_lent 76 ls (.int 1 :: st) h := ap_const rfl
theorem u_X11_lent_76 : az_W C R k_X11_lent 76 ls (.int y :: .int x :: st) h ↔ az_W C R k_X11_lent 77 ls (.int (x + y) :: st) h := ap_ii (f := fun x y => x + y) rfl
theorem u_X11_lent_77 : az_W C R k_X11_lent 77 ls (.int x :: .ref 97 :: st) (130, P, I, L) ↔ az_W C R k_X11_lent 80 ls st (130, P, az_uI I 97 25 x, L) := ap_putI rfl kn_97
theorem u_X11_lent_80 : az_W C R k_X11_lent 80 (.ref a :: ls) st h ↔ az_W C R k_X11_lent 81 (.ref a :: ls) (.ref a :: st) h := ap_aload rfl rfl
theorem u_X11_lent_81 : az_W C R k_X11_lent 81 ls (.ref 97 :: st) (130, P, I, L) ↔ az_W C R k_X11_lent 84 ls (.int (I 97 25) :: st) (130, P, I, L) := ap_getI rfl kn_97
theorem u_X11_lent_84 : az_W C R k_X11_lent 84 ls st h ↔ az_W C R k_X11_lent 85 ls (.int 1 :: st) h := ap_const rfl
theorem u_X11_lent_85 : az_W C R k_X11_lent 85 ls (.int y :: .int x :: st) h ↔ az_W C R k_X11_lent 86 ls (.int (x - y) :: st) h := ap_ii (f := fun x y => x - y) rfl
theorem u_X11_lent_86 : az_W C R k_X11_lent 86 ls [.int x] h ↔ R (some (.int x)) h := ap_iret rfl
def k_X11_findLent : Nat → az_P := (az_br 59 (az_br 29 (az_br 14 (az_br 5 (az_br 2 (az_br 1 (az_lf 0 (az_const (.int 0) 1)) (az_lf 1 (az_istore 3 2))) (az_br 3 (az_lf 2 (az_const (.int 0) 3)) (az_lf 3 (az_istore 4 5)))) (az_br 8 (az_br 7 (az_lf 5 (az_iload 4 7)) (az_lf 7 (az_aload 0 8))) (az_br 11 (az_lf 8 (az_getI 11 25 11)) (az_lf 11 (az_icge 120 14))))) (az_br 21 (az_br 18 (az_br 15 (az_lf 14 (az_aload 0 15)) (az_lf 15 (az_getP 11 27 18))) (az_br 20 (az_lf 18 (az_iload 4 20)) (az_lf 20 (az_iald 21)))) (az_br 25 (az_br 22 (az_lf 21 (az_iload 2 22)) (az_lf 22 (az_icne 114 25))) (az_br 26 (az_lf 25 (az_iload 1 26)) (az_lf 26 (az_iflt 40 29)))))) (az_br 42 (az_br 36 (az_br 33 (az_br 30 (az_lf 29 (az_aload 0 30)) (az_lf 30 (az_getP 11 26 33))) (az_br 35 (az_lf 33 (az_iload 4 35)) (az_lf 35 (az_iald 36)))) (az_br 40 (az_br 37 (az_lf 36 (az_iload 1 37)) (az_lf 37 (az_icne 114 40))) (az_br 41 (az_lf 40 (az_aload 0 41)) (az_lf 41 (az_iload 3 42))))) (az_br 50 (az_br 46 (az_br 45 (az_lf 42 (az_ifeq 66 45)) (az_lf 45 (az_aload 0 46))) (az_br 49 (az_lf 46 (az_getI 11 29 49)) (az_lf 49 (az_aload 0 50)))) (az_br 55 (az_br 53 (az_lf 50 (az_getP 11 28 53)) (az_lf 53 (az_iload 4 55))) (az_br 56 (az_lf 55 (az_iald 56)) (az_lf 56 (az_icge 66 59))))))) (az_br 91 (az_br 76 (az_br 67 (az_br 63 (az_br 60 (az_lf 59 (az_aload 0 60)) (az_lf 60 (az_getI 11 29 63))) (az_br 66 (az_lf 63 (az_goto 73)) (az_lf 66 (az_aload 0 67)))) (az_br 72 (az_br 70 (az_lf 67 (az_getP 11 28 70)) (az_lf 70 (az_iload 4 72))) (az_br 73 (az_lf 72 (az_iald 73)) (az_lf 73 (az_putI 11 29 76))))) (az_br 82 (az_br 78 (az_br 77 (az_lf 76 (az_aload 0 77)) (az_lf 77 (az_iload 3 78))) (az_br 81 (az_lf 78 (az_ifeq 102 81)) (az_lf 81 (az_aload 0 82)))) (az_br 86 (az_br 85 (az_lf 82 (az_getI 11 30 85)) (az_lf 85 (az_aload 0 86))) (az_br 89 (az_lf 86 (az_getP 11 28 89)) (az_lf 89 (az_iload 4 91)))))) (az_br 108 (az_br 99 (az_br 95 (az_br 92 (az_lf 91 (az_iald 92)) (az_lf 92 (az_icle 102 95))) (az_br 96 (az_lf 95 (az_aload 0 96)) (az_lf 96 (az_getI 11 30 99)))) (az_br 103 (az_br 102 (az_lf 99 (az_goto 109)) (az_lf 102 (az_aload 0 103))) (az_br 106 (az_lf 103 (az_getP 11 28 106)) (az_lf 106 (az_iload 4 108))))) (az_br 114 (az_br 112 (az_br 109 (az_lf 108 (az_iald 109)) (az_lf 109 (az_putI 11 30 112))) (az_br 113 (az_lf 112 (az_const (.int 1) 113)) (az_lf 113 (az_istore 3 114)))) (az_br 120 (az_br 117 (az_lf 114 (az_iinc 4 1 117)) (az_lf 117 (az_goto 5))) (az_br 121 (az_lf 120 (az_iload 3 121)) (az_lf 121 (az_zret))))))))
theorem u_X11_findLent_0 : az_W C R k_X11_findLent 0 ls st h ↔ az_W C R k_X11_findLent 1 ls (.int 0 :: st) h := ap_const rfl
theorem u_X11_findLent_1 : az_W C R k_X11_findLent 1 (v0 :: v1 :: v2 :: v3 :: ls) (.int x :: st) h ↔ az_W C R k_X11_findLent 2 (v0 :: v1 :: az_un v2 :: .int x :: ls) st h := ap_istore rfl rfl
theorem u_X11_findLent_2 : az_W C R k_X11_findLent 2 ls st h ↔ az_W C R k_X11_findLent 3 ls (.int 0 :: st) h := ap_const rfl
theorem u_X11_findLent_3 : az_W C R k_X11_findLent 3 (v0 :: v1 :: v2 :: v3 :: v4 :: ls) (.int x :: st) h ↔ az_W C R k_X11_findLent 5 (v0 :: v1 :: v2 :: az_un v3 :: .int x :: ls) st h := ap_istore rfl rfl
theorem u_X11_findLent_5 : az_W C R k_X11_findLent 5 (v0 :: v1 :: v2 :: v3 :: .int x :: ls) st h ↔ az_W C R k_X11_findLent 7 (v0 :: v1 :: v2 :: v3 :: .int x :: ls) (.int x :: st) h := ap_iload rfl rfl
theorem u_X11_findLent_7 : az_W C R k_X11_findLent 7 (.ref a :: ls) st h ↔ az_W C R k_X11_findLent 8 (.ref a :: ls) (.ref a :: st) h := ap_aload rfl rfl
theorem u_X11_findLent_8 : az_W C R k_X11_findLent 8 ls (.ref 97 :: st) (130, P, I, L) ↔ az_W C R k_X11_findLent 11 ls (.int (I 97 25) :: st) (130, P, I, L) := ap_getI rfl kn_97
theorem u_X11_findLent_11 : az_W C R k_X11_findLent 11 ls (.int y :: .int x :: st) h ↔ if y ≤ x then az_W C R k_X11_findLent 120 ls st h else az_W C R k_X11_findLent 14 ls st h := ap_icge rfl
theorem u_X11_findLent_14 : az_W C R k_X11_findLent 14 (.ref a :: ls) st h ↔ az_W C R k_X11_findLent 15 (.ref a :: ls) (.ref a :: st) h := ap_aload rfl rfl
theorem u_X11_findLent_15 : az_W C R k_X11_findLent 15 ls (.ref 97 :: st) (130, az_Pf, I, L) ↔ az_W C R k_X11_findLent 18 ls (.ref 115 :: st) (130, az_Pf, I, L) := ap_getP rfl kn_97 pf_97_27
theorem u_X11_findLent_18 : az_W C R k_X11_findLent 18 (v0 :: v1 :: v2 :: v3 :: .int x :: ls) st h ↔ az_W C R k_X11_findLent 20 (v0 :: v1 :: v2 :: v3 :: .int x :: ls) (.int x :: st) h := ap_iload rfl rfl
theorem u_X11_findLent_20 (hk : (az_kn 130 a).1 = 1) : az_W C R k_X11_findLent 20 ls (.int x :: .ref a :: st) (130, P, I, L) ↔ (az_in x (az_kn 130 a).2 ∧ az_W C R k_X11_findLent 21 ls (.int (I a x.toNatClampNeg) :: st) (130, P, I, L)) := ap_iald rfl (az_k1 hk)
theorem u_X11_findLent_21 : az_W C R k_X11_findLent 21 (v0 :: v1 :: .int x :: ls) st h ↔ az_W C R k_X11_findLent 22 (v0 :: v1 :: .int x :: ls) (.int x :: st) h := ap_iload rfl rfl
theorem u_X11_findLent_22 : az_W C R k_X11_findLent 22 ls (.int y :: .int x :: st) h ↔ if x = y then az_W C R k_X11_findLent 25 ls st h else az_W C R k_X11_findLent 114 ls st h := ap_icne rfl
theorem u_X11_findLent_25 : az_W C R k_X11_findLent 25 (v0 :: .int x :: ls) st h ↔ az_W C R k_X11_findLent 26 (v0 :: .int x :: ls) (.int x :: st) h := ap_iload rfl rfl
theorem u_X11_findLent_26 : az_W C R k_X11_findLent 26 ls (.int x :: st) h ↔ if x < 0 then az_W C R k_X11_findLent 40 ls st h else az_W C R k_X11_findLent 29 ls st h := ap_iflt rfl
theorem u_X11_findLent_29 : az_W C R k_X11_findLent 29 (.ref a :: ls) st h ↔ az_W C R k_X11_findLent 30 (.ref a :: ls) (.ref a :: st) h := ap_aload rfl rfl
theorem u_X11_findLent_30 : az_W C R k_X11_findLent 30 ls (.ref 97 :: st) (130, az_Pf, I, L) ↔ az_W C R k_X11_findLent 33 ls (.ref 114 :: st) (130, az_Pf, I, L) := ap_getP rfl kn_97 pf_97_26
theorem u_X11_findLent_33 : az_W C R k_X11_findLent 33 (v0 :: v1 :: v2 :: v3 :: .int x :: ls) st h ↔ az_W C R k_X11_findLent 35 (v0 :: v1 :: v2 :: v3 :: .int x :: ls) (.int x :: st) h := ap_iload rfl rfl
theorem u_X11_findLent_35 (hk : (az_kn 130 a).1 = 1) : az_W C R k_X11_findLent 35 ls (.int x :: .ref a :: st) (130, P, I, L) ↔ (az_in x (az_kn 130 a).2 ∧ az_W C R k_X11_findLent 36 ls (.int (I a x.toNatClampNeg) :: st) (130, P, I, L)) := ap_iald rfl (az_k1 hk)
theorem u_X11_findLent_36 : az_W C R k_X11_findLent 36 (v0 :: .int x :: ls) st h ↔ az_W C R k_X11_findLent 37 (v0 :: .int x :: ls) (.int x :: st) h := ap_iload rfl rfl
theorem u_X11_findLent_37 : az_W C R k_X11_findLent 37 ls (.int y :: .int x :: st) h ↔ if x = y then az_W C R k_X11_findLent 40 ls st h else az_W C R k_X11_findLent 114 ls st h := ap_icne rfl
theorem u_X11_findLent_40 : az_W C R k_X11_findLent 40 (.ref a :: ls) st h ↔ az_W C R k_X11_findLent 41 (.ref a :: ls) (.ref a :: st) h := ap_aload rfl rfl
theorem u_X11_findLent_41 : az_W C R k_X11_findLent 41 (v0 :: v1 :: v2 :: .int x :: ls) st h ↔ az_W C R k_X11_findLent 42 (v0 :: v1 :: v2 :: .int x :: ls) (.int x :: st) h := ap_iload rfl rfl
theorem u_X11_findLent_42 : az_W C R k_X11_findLent 42 ls (.int x :: st) h ↔ if x = 0 then az_W C R k_X11_findLent 66 ls st h else az_W C R k_X11_findLent 45 ls st h := ap_ifeq rfl
theorem u_X11_findLent_45 : az_W C R k_X11_findLent 45 (.ref a :: ls) st h ↔ az_W C R k_X11_findLent 46 (.ref a :: ls) (.ref a :: st) h := ap_aload rfl rfl
theorem u_X11_findLent_46 : az_W C R k_X11_findLent 46 ls (.ref 97 :: st) (130, P, I, L) ↔ az_W C R k_X11_findLent 49 ls (.int (I 97 29) :: st) (130, P, I, L) := ap_getI rfl kn_97
theorem u_X11_findLent_49 : az_W C R k_X11_findLent 49 (.ref a :: ls) st h ↔ az_W C R k_X11_findLent 50 (.ref a :: ls) (.ref a :: st) h := ap_aload rfl rfl
theorem u_X11_findLent_50 : az_W C R k_X11_findLent 50 ls (.ref 97 :: st) (130, az_Pf, I, L) ↔ az_W C R k_X11_findLent 53 ls (.ref 116 :: st) (130, az_Pf, I, L) := ap_getP rfl kn_97 pf_97_28
theorem u_X11_findLent_53 : az_W C R k_X11_findLent 53 (v0 :: v1 :: v2 :: v3 :: .int x :: ls) st h ↔ az_W C R k_X11_findLent 55 (v0 :: v1 :: v2 :: v3 :: .int x :: ls) (.int x :: st) h := ap_iload rfl rfl
theorem u_X11_findLent_55 (hk : (az_kn 130 a).1 = 1) : az_W C R k_X11_findLent 55 ls (.int x :: .ref a :: st) (130, P, I, L) ↔ (az_in x (az_kn 130 a).2 ∧ az_W C R k_X11_findLent 56 ls (.int (I a x.toNatClampNeg) :: st) (130, P, I, L)) := ap_iald rfl (az_k1 hk)
theorem u_X11_findLent_56 : az_W C R k_X11_findLent 56 ls (.int y :: .int x :: st) h ↔ if y ≤ x then az_W C R k_X11_findLent 66 ls st h else az_W C R k_X11_findLent 59 ls st h := ap_icge rfl
theorem u_X11_findLent_59 : az_W C R k_X11_findLent 59 (.ref a :: ls) st h ↔ az_W C R k_X11_findLent 60 (.ref a :: ls) (.ref a :: st) h := ap_aload rfl rfl
theorem u_X11_findLent_60 : az_W C R k_X11_findLent 60 ls (.ref 97 :: st) (130, P, I, L) ↔ az_W C R k_X11_findLent 63 ls (.int (I 97 29) :: st) (130, P, I, L) := ap_getI rfl kn_97
theorem u_X11_findLent_63 : az_W C R k_X11_findLent 63 ls st h ↔ az_W C R k_X11_findLent 73 ls st h := ap_goto rfl
theorem u_X11_findLent_66 : az_W C R k_X11_findLent 66 (.ref a :: ls) st h ↔ az_W C R k_X11_findLent 67 (.ref a :: ls) (.ref a :: st) h := ap_aload rfl rfl
theorem u_X11_findLent_67 : az_W C R k_X11_findLent 67 ls (.ref 97 :: st) (130, az_Pf, I, L) ↔ az_W C R k_X11_findLent 70 ls (.ref 116 :: st) (130, az_Pf, I, L) := ap_getP rfl kn_97 pf_97_28
theorem u_X11_findLent_70 : az_W C R k_X11_findLent 70 (v0 :: v1 :: v2 :: v3 :: .int x :: ls) st h ↔ az_W C R k_X11_findLent 72 (v0 :: v1 :: v2 :: v3 :: .int x :: ls) (.int x :: st) h := ap_iload rfl rfl
theorem u_X11_findLent_72 (hk : (az_kn 130 a).1 = 1) : az_W C R k_X11_findLent 72 ls (.int x :: .ref a :: st) (130, P, I, L) ↔ (az_in x (az_kn 130 a).2 ∧ az_W C R k_X11_findLent 73 ls (.int (I a x.toNatClampNeg) :: st) (130, P, I, L)) := ap_iald rfl (az_k1 hk)
theorem u_X11_findLent_73 : az_W C R k_X11_findLent 73 ls (.int x :: .ref 97 :: st) (130, P, I, L) ↔ az_W C R k_X11_findLent 76 ls st (130, P, az_uI I 97 29 x, L) := ap_putI rfl kn_97
theorem u_X11_findLent_76 : az_W C R k_X11_findLent 76 (.ref a :: ls) st h ↔ az_W C R k_X11_findLent 77 (.ref a :: ls) (.ref a :: st) h := ap_aload rfl rfl
theorem u_X11_findLent_77 : az_W C R k_X11_findLent 77 (v0 :: v1 :: v2 :: .int x :: ls) st h ↔ az_W C R k_X11_findLent 78 (v0 :: v1 :: v2 :: .int x :: ls) (.int x :: st) h := ap_iload rfl rfl
theorem u_X11_findLent_78 : az_W C R k_X11_findLent 78 ls (.int x :: st) h ↔ if x = 0 then az_W C R k_X11_findLent 102 ls st h else az_W C R k_X11_findLent 81 ls st h := ap_ifeq rfl
theorem u_X11_findLent_81 : az_W C R k_X11_findLent 81 (.ref a :: ls) st h ↔ az_W C R k_X11_findLent 82 (.ref a :: ls) (.ref a :: st) h := ap_aload rfl rfl
theorem u_X11_findLent_82 : az_W C R k_X11_findLent 82 ls (.ref 97 :: st) (130, P, I, L) ↔ az_W C R k_X11_findLent 85 ls (.int (I 97 30) :: st) (130, P, I, L) := ap_getI rfl kn_97
theorem u_X11_findLent_85 : az_W C R k_X11_findLent 85 (.ref a :: ls) st h ↔ az_W C R k_X11_findLent 86 (.ref a :: ls) (.ref a :: st) h := ap_aload rfl rfl
theorem u_X11_findLent_86 : az_W C R k_X11_findLent 86 ls (.ref 97 :: st) (130, az_Pf, I, L) ↔ az_W C R k_X11_findLent 89 ls (.ref 116 :: st) (130, az_Pf, I, L) := ap_getP rfl kn_97 pf_97_28
theorem u_X11_findLent_89 : az_W C R k_X11_findLent 89 (v0 :: v1 :: v2 :: v3 :: .int x :: ls) st h ↔ az_W C R k_X11_findLent 91 (v0 :: v1 :: v2 :: v3 :: .int x :: ls) (.int x :: st) h := ap_iload rfl rfl
theorem u_X11_findLent_91 (hk : (az_kn 130 a).1 = 1) : az_W C R k_X11_findLent 91 ls (.int x :: .ref a :: st) (130, P, I, L) ↔ (az_in x (az_kn 130 a).2 ∧ az_W C R k_X11_findLent 92 ls (.int (I a x.toNatClampNeg) :: st) (130, P, I, L)) := ap_iald rfl (az_k1 hk)
theorem u_X11_findLent_92 : az_W C R k_X11_findLent 92 ls (.int y :: .int x :: st) h ↔ if x ≤ y then az_W C R k_X11_findLent 102 ls st h else az_W C R k_X11_findLent 95 ls st h := ap_icle rfl
theorem u_X11_findLent_95 : az_W C R k_X11_findLent 95 (.ref a :: ls) st h ↔ az_W C R k_X11_findLent 96 (.ref a :: ls) (.ref a :: st) h := ap_aload rfl rfl
theorem u_X11_findLent_96 : az_W C R k_X11_findLent 96 ls (.ref 97 :: st) (130, P, I, L) ↔ az_W C R k_X11_findLent 99 ls (.int (I 97 30) :: st) (130, P, I, L) := ap_getI rfl kn_97
theorem u_X11_findLent_99 : az_W C R k_X11_findLent 99 ls st h ↔ az_W C R k_X11_findLent 109 ls st h := ap_goto rfl
theorem u_X11_findLent_102 : az_W C R k_X11_findLent 102 (.ref a :: ls) st h ↔ az_W C R k_X11_findLent 103 (.ref a :: ls) (.ref a :: st) h := ap_aload rfl rfl
theorem u_X11_findLent_103 : az_W C R k_X11_findLent 103 ls (.ref 97 :: st) (130, az_Pf, I, L) ↔ az_W C R k_X11_findLent 106 ls (.ref 116 :: st) (130, az_Pf, I, L) := ap_getP rfl kn_97 pf_97_28
theorem u_X11_findLent_106 : az_W C R k_X11_findLent 106 (v0 :: v1 :: v2 :: v3 :: .int x :: ls) st h ↔ az_W C R k_X11_findLent 108 (v0 :: v1 :: v2 :: v3 :: .int x :: ls) (.int x :: st) h := ap_iload rfl rfl
theorem u_X11_findLent_108 (hk : (az_kn 130 a).1 = 1) : az_W C R k_X11_findLent 108 ls (.int x :: .ref a :: st) (130, P, I, L) ↔ (az_in x (az_kn 130 a).2 ∧ az_W C R k_X11_findLent 109 ls (.int (I a x.toNatClampNeg) :: st) (130, P, I, L)) := ap_iald rfl (az_k1 hk)
theorem u_X11_findLent_109 : az_W C R k_X11_findLent 109 ls (.int x :: .ref 97 :: st) (130, P, I, L) ↔ az_W C R k_X11_findLent 112 ls st (130, P, az_uI I 97 30 x, L) := ap_putI rfl kn_97
theorem u_X11_findLent_112 : az_W C R k_X11_findLent 112 ls st h ↔ az_W C R k_X11_findLent 113 ls (.int 1 :: st) h := ap_const rfl
theorem u_X11_findLent_113 : az_W C R k_X11_findLent 113 (v0 :: v1 :: v2 :: v3 :: ls) (.int x :: st) h ↔ az_W C R k_X11_findLent 114 (v0 :: v1 :: az_un v2 :: .int x :: ls) st h := ap_istore rfl rfl
theorem u_X11_findLent_114 : az_W C R k_X11_findLent 114 (v0 :: v1 :: v2 :: v3 :: .int x :: ls) st h ↔ az_W C R k_X11_findLent 117 (v0 :: v1 :: v2 :: az_un v3 :: .int (x + 1) :: ls) st h := ap_iinc rfl rfl rfl
theorem u_X11_findLent_117 : az_W C R k_X11_findLent 117 ls st h ↔ az_W C R k_X11_findLent 5 ls st h := ap_goto rfl
theorem u_X11_findLent_120 : az_W C R k_X11_findLent 120 (v0 :: v1 :: v2 :: .int x :: ls) st h ↔ az_W C R k_X11_findLent 121 (v0 :: v1 :: v2 :: .int x :: ls) (.int x :: st) h := ap_iload rfl rfl
theorem u_X11_findLent_121 : az_W C R k_X11_findLent 121 ls [.int x] h ↔ ((x = 0 ∨ x = 1) ∧ R (some (.int x)) h) := ap_zret rfl
def k_X11_findTrue : Nat → az_P := (az_br 35 (az_br 17 (az_br 9 (az_br 2 (az_br 1 (az_lf 0 (az_aload 0 1)) (az_lf 1 (az_iload 1 2))) (az_br 3 (az_lf 2 (az_iload 2 3)) (az_br 6 (az_lf 3 (az_ivv 177 2 11 6)) (az_lf 6 (az_ifeq 11 9))))) (az_br 12 (az_br 10 (az_lf 9 (az_const (.int 1) 10)) (az_br 11 (az_lf 10 (az_zret)) (az_lf 11 (az_aload 0 12)))) (az_br 13 (az_lf 12 (az_const (.int (-1)) 13)) (az_br 14 (az_lf 13 (az_iload 2 14)) (az_lf 14 (az_ivv 177 2 11 17)))))) (az_br 25 (az_br 22 (az_br 20 (az_lf 17 (az_ifne 22 20)) (az_br 21 (az_lf 20 (az_const (.int 0) 21)) (az_lf 21 (az_zret)))) (az_br 23 (az_lf 22 (az_aload 0 23)) (az_br 24 (az_lf 23 (az_iload 2 24)) (az_lf 24 (az_const (.int 2) 25))))) (az_br 30 (az_br 28 (az_lf 25 (az_ivv 154 2 11 28)) (az_br 29 (az_lf 28 (az_istore 3 29)) (az_lf 29 (az_aload 0 30)))) (az_br 31 (az_lf 30 (az_aload 0 31)) (az_br 34 (az_lf 31 (az_getI 11 29 34)) (az_lf 34 (az_iload 3 35))))))) (az_br 57 (az_br 47 (az_br 42 (az_br 38 (az_lf 35 (az_icge 42 38)) (az_br 39 (az_lf 38 (az_const (.int 0) 39)) (az_lf 39 (az_goto 48)))) (az_br 43 (az_lf 42 (az_aload 0 43)) (az_br 46 (az_lf 43 (az_getI 11 29 46)) (az_lf 46 (az_iload 3 47))))) (az_br 52 (az_br 48 (az_lf 47 (az_ii (fun x y => x - y) 48)) (az_br 51 (az_lf 48 (az_putI 11 29 51)) (az_lf 51 (az_aload 0 52)))) (az_br 53 (az_lf 52 (az_aload 0 53)) (az_br 56 (az_lf 53 (az_getI 11 30 56)) (az_lf 56 (az_iload 3 57)))))) (az_br 71 (az_br 64 (az_br 58 (az_lf 57 (az_ii (fun x y => x + y) 58)) (az_br 61 (az_lf 58 (az_const (.int 999) 61)) (az_lf 61 (az_icle 70 64)))) (az_br 67 (az_lf 64 (az_const (.int 999) 67)) (az_br 70 (az_lf 67 (az_goto 76)) (az_lf 70 (az_aload 0 71))))) (az_br 76 (az_br 74 (az_lf 71 (az_getI 11 30 74)) (az_br 75 (az_lf 74 (az_iload 3 75)) (az_lf 75 (az_ii (fun x y => x + y) 76)))) (az_br 79 (az_lf 76 (az_putI 11 30 79)) (az_br 80 (az_lf 79 (az_const (.int 1) 80)) (az_lf 80 (az_zret))))))))
theorem u_X11_findTrue_0 : az_W C R k_X11_findTrue 0 (.ref a :: ls) st h ↔ az_W C R k_X11_findTrue 1 (.ref a :: ls) (.ref a :: st) h := ap_aload rfl rfl
theorem u_X11_findTrue_1 : az_W C R k_X11_findTrue 1 (v0 :: .int x :: ls) st h ↔ az_W C R k_X11_findTrue 2 (v0 :: .int x :: ls) (.int x :: st) h := ap_iload rfl rfl
theorem u_X11_findTrue_2 : az_W C R k_X11_findTrue 2 (v0 :: v1 :: .int x :: ls) st h ↔ az_W C R k_X11_findTrue 3 (v0 :: v1 :: .int x :: ls) (.int x :: st) h := ap_iload rfl rfl
theorem u_X11_findTrue_3 (hl : st.length ≤ 4) : az_W C R k_X11_findTrue 3 ls (v2 :: v1 :: .ref 97 :: st) (130, P, I, L) ↔ az_F C R (az_W C R k_X11_findTrue) (130, P, I, L) (az_cl 177 [.ref 97, v1, v2] 6 ls st) := ap_ivv rfl rfl kn_97 hl
theorem u_X11_findTrue_6 : az_W C R k_X11_findTrue 6 ls (.int x :: st) h ↔ if x = 0 then az_W C R k_X11_findTrue 11 ls st h else az_W C R k_X11_findTrue 9 ls st h := ap_ifeq rfl
theorem u_X11_findTrue_9 : az_W C R k_X11_findTrue 9 ls st h ↔ az_W C R k_X11_findTrue 10 ls (.int 1 :: st) h := ap_const rfl
theorem u_X11_findTrue_10 : az_W C R k_X11_findTrue 10 ls [.int x] h ↔ ((x = 0 ∨ x = 1) ∧ R (some (.int x)) h) := ap_zret rfl
theorem u_X11_findTrue_11 : az_W C R k_X11_findTrue 11 (.ref a :: ls) st h ↔ az_W C R k_X11_findTrue 12 (.ref a :: ls) (.ref a :: st) h := ap_aload rfl rfl
theorem u_X11_findTrue_12 : az_W C R k_X11_findTrue 12 ls st h ↔ az_W C R k_X11_findTrue 13 ls (.int (-1) :: st) h := ap_const rfl
theorem u_X11_findTrue_13 : az_W C R k_X11_findTrue 13 (v0 :: v1 :: .int x :: ls) st h ↔ az_W C R k_X11_findTrue 14 (v0 :: v1 :: .int x :: ls) (.int x :: st) h := ap_iload rfl rfl
theorem u_X11_findTrue_14 (hl : st.length ≤ 4) : az_W C R k_X11_findTrue 14 ls (v2 :: v1 :: .ref 97 :: st) (130, P, I, L) ↔ az_F C R (az_W C R k_X11_findTrue) (130, P, I, L) (az_cl 177 [.ref 97, v1, v2] 17 ls st) := ap_ivv rfl rfl kn_97 hl
theorem u_X11_findTrue_17 : az_W C R k_X11_findTrue 17 ls (.int x :: st) h ↔ if x = 0 then az_W C R k_X11_findTrue 20 ls st h else az_W C R k_X11_findTrue 22 ls st h := ap_ifne rfl
theorem u_X11_findTrue_20 : az_W C R k_X11_findTrue 20 ls st h ↔ az_W C R k_X11_findTrue 21 ls (.int 0 :: st) h := ap_const rfl
theorem u_X11_findTrue_21 : az_W C R k_X11_findTrue 21 ls [.int x] h ↔ ((x = 0 ∨ x = 1) ∧ R (some (.int x)) h) := ap_zret rfl
theorem u_X11_findTrue_22 : az_W C R k_X11_findTrue 22 (.ref a :: ls) st h ↔ az_W C R k_X11_findTrue 23 (.ref a :: ls) (.ref a :: st) h := ap_aload rfl rfl
theorem u_X11_findTrue_23 : az_W C R k_X11_findTrue 23 (v0 :: v1 :: .int x :: ls) st h ↔ az_W C R k_X11_findTrue 24 (v0 :: v1 :: .int x :: ls) (.int x :: st) h := ap_iload rfl rfl
theorem u_X11_findTrue_24 : az_W C R k_X11_findTrue 24 ls st h ↔ az_W C R k_X11_findTrue 25 ls (.int 2 :: st) h := ap_const rfl
theorem u_X11_findTrue_25 (hl : st.length ≤ 4) : az_W C R k_X11_findTrue 25 ls (v2 :: v1 :: .ref 97 :: st) (130, P, I, L) ↔ az_F C R (az_W C R k_X11_findTrue) (130, P, I, L) (az_cl 154 [.ref 97, v1, v2] 28 ls st) := ap_ivv rfl rfl kn_97 hl
theorem u_X11_findTrue_28 : az_W C R k_X11_findTrue 28 (v0 :: v1 :: v2 :: v3 :: ls) (.int x :: st) h ↔ az_W C R k_X11_findTrue 29 (v0 :: v1 :: az_un v2 :: .int x :: ls) st h := ap_istore rfl rfl
theorem u_X11_findTrue_29 : az_W C R k_X11_findTrue 29 (.ref a :: ls) st h ↔ az_W C R k_X11_findTrue 30 (.ref a :: ls) (.ref a :: st) h := ap_aload rfl rfl
theorem u_X11_findTrue_30 : az_W C R k_X11_findTrue 30 (.ref a :: ls) st h ↔ az_W C R k_X11_findTrue 31 (.ref a :: ls) (.ref a :: st) h := ap_aload rfl rfl
theorem u_X11_findTrue_31 : az_W C R k_X11_findTrue 31 ls (.ref 97 :: st) (130, P, I, L) ↔ az_W C R k_X11_findTrue 34 ls (.int (I 97 29) :: st) (130, P, I, L) := ap_getI rfl kn_97
theorem u_X11_findTrue_34 : az_W C R k_X11_findTrue 34 (v0 :: v1 :: v2 :: .int x :: ls) st h ↔ az_W C R k_X11_findTrue 35 (v0 :: v1 :: v2 :: .int x :: ls) (.int x :: st) h := ap_iload rfl rfl
theorem u_X11_findTrue_35 : az_W C R k_X11_findTrue 35 ls (.int y :: .int x :: st) h ↔ if y ≤ x then az_W C R k_X11_findTrue 42 ls st h else az_W C R k_X11_findTrue 38 ls st h := ap_icge rfl
theorem u_X11_findTrue_38 : az_W C R k_X11_findTrue 38 ls st h ↔ az_W C R k_X11_findTrue 39 ls (.int 0 :: st) h := ap_const rfl
theorem u_X11_findTrue_39 : az_W C R k_X11_findTrue 39 ls st h ↔ az_W C R k_X11_findTrue 48 ls st h := ap_goto rfl
theorem u_X11_findTrue_42 : az_W C R k_X11_findTrue 42 (.ref a :: ls) st h ↔ az_W C R k_X11_findTrue 43 (.ref a :: ls) (.ref a :: st) h := ap_aload rfl rfl
theorem u_X11_findTrue_43 : az_W C R k_X11_findTrue 43 ls (.ref 97 :: st) (130, P, I, L) ↔ az_W C R k_X11_findTrue 46 ls (.int (I 97 29) :: st) (130, P, I, L) := ap_getI rfl kn_97
theorem u_X11_findTrue_46 : az_W C R k_X11_findTrue 46 (v0 :: v1 :: v2 :: .int x :: ls) st h ↔ az_W C R k_X11_findTrue 47 (v0 :: v1 :: v2 :: .int x :: ls) (.int x :: st) h := ap_iload rfl rfl
theorem u_X11_findTrue_47 : az_W C R k_X11_findTrue 47 ls (.int y :: .int x :: st) h ↔ az_W C R k_X11_findTrue 48 ls (.int (x - y) :: st) h := ap_ii (f := fun x y => x - y) rfl
theorem u_X11_findTrue_48 : az_W C R k_X11_findTrue 48 ls (.int x :: .ref 97 :: st) (130, P, I, L) ↔ az_W C R k_X11_findTrue 51 ls st (130, P, az_uI I 97 29 x, L) := ap_putI rfl kn_97
theorem u_X11_findTrue_51 : az_W C R k_X11_findTrue 51 (.ref a :: ls) st h ↔ az_W C R k_X11_findTrue 52 (.ref a :: ls) (.ref a :: st) h := ap_aload rfl rfl
theorem u_X11_findTrue_52 : az_W C R k_X11_findTrue 52 (.ref a :: ls) st h ↔ az_W C R k_X11_findTrue 53 (.ref a :: ls) (.ref a :: st) h := ap_aload rfl rfl
theorem u_X11_findTrue_53 : az_W C R k_X11_findTrue 53 ls (.ref 97 :: st) (130, P, I, L) ↔ az_W C R k_X11_findTrue 56 ls (.int (I 97 30) :: st) (130, P, I, L) := ap_getI rfl kn_97
theorem u_X11_findTrue_56 : az_W C R k_X11_findTrue 56 (v0 :: v1 :: v2 :: .int x :: ls) st h ↔ az_W C R k_X11_findTrue 57 (v0 :: v1 :: v2 :: .int x :: ls) (.int x :: st) h := ap_iload rfl rfl
theorem u_X11_findTrue_57 : az_W C R k_X11_findTrue 57 ls (.int y :: .int x :: st) h ↔ az_W C R k_X11_findTrue 58 ls (.int (x + y) :: st) h := ap_ii (f := fun x y => x + y) rfl
theorem u_X11_findTrue_58 : az_W C R k_X11_findTrue 58 ls st h ↔ az_W C R k_X11_findTrue 61 ls (.int 999 :: st) h := ap_const rfl
theorem u_X11_findTrue_61 : az_W C R k_X11_findTrue 61 ls (.int y :: .int x :: st) h ↔ if x ≤ y then az_W C R k_X11_findTrue 70 ls st h else az_W C R k_X11_findTrue 64 ls st h := ap_icle rfl
theorem u_X11_findTrue_64 : az_W C R k_X11_findTrue 64 ls st h ↔ az_W C R k_X11_findTrue 67 ls (.int 999 :: st) h := ap_const rfl
theorem u_X11_findTrue_67 : az_W C R k_X11_findTrue 67 ls st h ↔ az_W C R k_X11_findTrue 76 ls st h := ap_goto rfl
theorem u_X11_findTrue_70 : az_W C R k_X11_findTrue 70 (.ref a :: ls) st h ↔ az_W C R k_X11_findTrue 71 (.ref a :: ls) (.ref a :: st) h := ap_aload rfl rfl
theorem u_X11_findTrue_71 : az_W C R k_X11_findTrue 71 ls (.ref 97 :: st) (130, P, I, L) ↔ az_W C R k_X11_findTrue 74 ls (.int (I 97 30) :: st) (130, P, I, L) := ap_getI rfl kn_97
theorem u_X11_findTrue_74 : az_W C R k_X11_findTrue 74 (v0 :: v1 :: v2 :: .int x :: ls) st h ↔ az_W C R k_X11_findTrue 75 (v0 :: v1 :: v2 :: .int x :: ls) (.int x :: st) h := ap_iload rfl rfl
theorem u_X11_findTrue_75 : az_W C R k_X11_findTrue 75 ls (.int y :: .int x :: st) h ↔ az_W C R k_X11_findTrue 76 ls (.int (x + y) :: st) h := ap_ii (f := fun x y => x + y) rfl
theorem u_X11_findTrue_76 : az_W C R k_X11_findTrue 76 ls (.int x :: .ref 97 :: st) (130, P, I, L) ↔ az_W C R k_X11_findTrue 79 ls st (130, P, az_uI I 97 30 x, L) := ap_putI rfl kn_97
theorem u_X11_findTrue_79 : az_W C R k_X11_findTrue 79 ls st h ↔ az_W C R k_X11_findTrue 80 ls (.int 1 :: st) h := ap_const rfl
theorem u_X11_findTrue_80 : az_W C R k_X11_findTrue 80 ls [.int x] h ↔ ((x = 0 ∨ x = 1) ∧ R (some (.int x)) h) := ap_zret rfl
def k_X11_truth : Nat → az_P := (az_br 26 (az_br 15 (az_br 7 (az_br 1 (az_lf 0 (az_iload 1 1)) (az_br 4 (az_lf 1 (az_ivs 141 1 4)) (az_lf 4 (az_ifeq 24 7)))) (az_br 11 (az_br 8 (az_lf 7 (az_iload 2 8)) (az_lf 8 (az_ivs 142 1 11))) (az_br 14 (az_lf 11 (az_ifeq 24 14)) (az_lf 14 (az_iload 3 15))))) (az_br 18 (az_br 16 (az_lf 15 (az_i2l 16)) (az_br 17 (az_lf 16 (az_const (.long 0) 17)) (az_lf 17 (az_const (.long 1) 18)))) (az_br 24 (az_br 21 (az_lf 18 (az_ivs 139 3 21)) (az_lf 21 (az_ifne 26 24))) (az_br 25 (az_lf 24 (az_const (.int (-1)) 25)) (az_lf 25 (az_iret)))))) (az_br 40 (az_br 29 (az_br 27 (az_lf 26 (az_aload 0 27)) (az_br 28 (az_lf 27 (az_iload 1 28)) (az_lf 28 (az_iload 2 29)))) (az_br 35 (az_br 32 (az_lf 29 (az_ivv 178 2 11 32)) (az_lf 32 (az_ifne 40 35))) (az_br 37 (az_lf 35 (az_const (.int (-4)) 37)) (az_lf 37 (az_goto 55))))) (az_br 48 (az_br 44 (az_br 41 (az_lf 40 (az_iload 3 41)) (az_lf 41 (az_ifne 51 44))) (az_br 45 (az_lf 44 (az_aload 0 45)) (az_lf 45 (az_getI 11 29 48)))) (az_br 52 (az_br 51 (az_lf 48 (az_goto 55)) (az_lf 51 (az_aload 0 52))) (az_br 55 (az_lf 52 (az_getI 11 30 55)) (az_lf 55 (az_iret)))))))
theorem u_X11_truth_0 : az_W C R k_X11_truth 0 (v0 :: .int x :: ls) st h ↔ az_W C R k_X11_truth 1 (v0 :: .int x :: ls) (.int x :: st) h := ap_iload rfl rfl
theorem u_X11_truth_1 (hl : st.length ≤ 4) : az_W C R k_X11_truth 1 ls (v1 :: st) h ↔ az_F C R (az_W C R k_X11_truth) h (az_cl 141 [v1] 4 ls st) := ap_ivs rfl rfl hl
theorem u_X11_truth_4 : az_W C R k_X11_truth 4 ls (.int x :: st) h ↔ if x = 0 then az_W C R k_X11_truth 24 ls st h else az_W C R k_X11_truth 7 ls st h := ap_ifeq rfl
theorem u_X11_truth_7 : az_W C R k_X11_truth 7 (v0 :: v1 :: .int x :: ls) st h ↔ az_W C R k_X11_truth 8 (v0 :: v1 :: .int x :: ls) (.int x :: st) h := ap_iload rfl rfl
theorem u_X11_truth_8 (hl : st.length ≤ 4) : az_W C R k_X11_truth 8 ls (v1 :: st) h ↔ az_F C R (az_W C R k_X11_truth) h (az_cl 142 [v1] 11 ls st) := ap_ivs rfl rfl hl
theorem u_X11_truth_11 : az_W C R k_X11_truth 11 ls (.int x :: st) h ↔ if x = 0 then az_W C R k_X11_truth 24 ls st h else az_W C R k_X11_truth 14 ls st h := ap_ifeq rfl
theorem u_X11_truth_14 : az_W C R k_X11_truth 14 (v0 :: v1 :: v2 :: .int x :: ls) st h ↔ az_W C R k_X11_truth 15 (v0 :: v1 :: v2 :: .int x :: ls) (.int x :: st) h := ap_iload rfl rfl
theorem u_X11_truth_15 : az_W C R k_X11_truth 15 ls (.int x :: st) h ↔ az_W C R k_X11_truth 16 ls (.long x.toInt64 :: st) h := ap_i2l rfl
theorem u_X11_truth_16 : az_W C R k_X11_truth 16 ls st h ↔ az_W C R k_X11_truth 17 ls (.long 0 :: st) h := ap_const rfl
theorem u_X11_truth_17 : az_W C R k_X11_truth 17 ls st h ↔ az_W C R k_X11_truth 18 ls (.long 1 :: st) h := ap_const rfl
theorem u_X11_truth_18 (hl : st.length ≤ 4) : az_W C R k_X11_truth 18 ls (v3 :: v2 :: v1 :: st) h ↔ az_F C R (az_W C R k_X11_truth) h (az_cl 139 [v1, v2, v3] 21 ls st) := ap_ivs rfl rfl hl
theorem u_X11_truth_21 : az_W C R k_X11_truth 21 ls (.int x :: st) h ↔ if x = 0 then az_W C R k_X11_truth 24 ls st h else az_W C R k_X11_truth 26 ls st h := ap_ifne rfl
theorem u_X11_truth_24 : az_W C R k_X11_truth 24 ls st h ↔ az_W C R k_X11_truth 25 ls (.int (-1) :: st) h := ap_const rfl
theorem u_X11_truth_25 : az_W C R k_X11_truth 25 ls [.int x] h ↔ R (some (.int x)) h := ap_iret rfl
theorem u_X11_truth_26 : az_W C R k_X11_truth 26 (.ref a :: ls) st h ↔ az_W C R k_X11_truth 27 (.ref a :: ls) (.ref a :: st) h := ap_aload rfl rfl
theorem u_X11_truth_27 : az_W C R k_X11_truth 27 (v0 :: .int x :: ls) st h ↔ az_W C R k_X11_truth 28 (v0 :: .int x :: ls) (.int x :: st) h := ap_iload rfl rfl
theorem u_X11_truth_28 : az_W C R k_X11_truth 28 (v0 :: v1 :: .int x :: ls) st h ↔ az_W C R k_X11_truth 29 (v0 :: v1 :: .int x :: ls) (.int x :: st) h := ap_iload rfl rfl
theorem u_X11_truth_29 (hl : st.length ≤ 4) : az_W C R k_X11_truth 29 ls (v2 :: v1 :: .ref 97 :: st) (130, P, I, L) ↔ az_F C R (az_W C R k_X11_truth) (130, P, I, L) (az_cl 178 [.ref 97, v1, v2] 32 ls st) := ap_ivv rfl rfl kn_97 hl
theorem u_X11_truth_32 : az_W C R k_X11_truth 32 ls (.int x :: st) h ↔ if x = 0 then az_W C R k_X11_truth 35 ls st h else az_W C R k_X11_truth 40 ls st h := ap_ifne rfl
theorem u_X11_truth_35 : az_W C R k_X11_truth 35 ls st h ↔ az_W C R k_X11_truth 37 ls (.int (-4) :: st) h := ap_const rfl
theorem u_X11_truth_37 : az_W C R k_X11_truth 37 ls st h ↔ az_W C R k_X11_truth 55 ls st h := ap_goto rfl
theorem u_X11_truth_40 : az_W C R k_X11_truth 40 (v0 :: v1 :: v2 :: .int x :: ls) st h ↔ az_W C R k_X11_truth 41 (v0 :: v1 :: v2 :: .int x :: ls) (.int x :: st) h := ap_iload rfl rfl
theorem u_X11_truth_41 : az_W C R k_X11_truth 41 ls (.int x :: st) h ↔ if x = 0 then az_W C R k_X11_truth 44 ls st h else az_W C R k_X11_truth 51 ls st h := ap_ifne rfl
theorem u_X11_truth_44 : az_W C R k_X11_truth 44 (.ref a :: ls) st h ↔ az_W C R k_X11_truth 45 (.ref a :: ls) (.ref a :: st) h := ap_aload rfl rfl
theorem u_X11_truth_45 : az_W C R k_X11_truth 45 ls (.ref 97 :: st) (130, P, I, L) ↔ az_W C R k_X11_truth 48 ls (.int (I 97 29) :: st) (130, P, I, L) := ap_getI rfl kn_97
theorem u_X11_truth_48 : az_W C R k_X11_truth 48 ls st h ↔ az_W C R k_X11_truth 55 ls st h := ap_goto rfl
theorem u_X11_truth_51 : az_W C R k_X11_truth 51 (.ref a :: ls) st h ↔ az_W C R k_X11_truth 52 (.ref a :: ls) (.ref a :: st) h := ap_aload rfl rfl
theorem u_X11_truth_52 : az_W C R k_X11_truth 52 ls (.ref 97 :: st) (130, P, I, L) ↔ az_W C R k_X11_truth 55 ls (.int (I 97 30) :: st) (130, P, I, L) := ap_getI rfl kn_97
theorem u_X11_truth_55 : az_W C R k_X11_truth 55 ls [.int x] h ↔ R (some (.int x)) h := ap_iret rfl
def k_X11_outOf : Nat → az_P := (az_br 25 (az_br 11 (az_br 7 (az_br 4 (az_br 1 (az_lf 0 (az_aload 0 1)) (az_lf 1 (az_getP 11 0 4))) (az_br 6 (az_lf 4 (az_const (.int 8) 6)) (az_lf 6 (az_iload 2 7)))) (az_br 9 (az_br 8 (az_lf 7 (az_ii (fun x y => x * y) 8)) (az_lf 8 (az_iload 1 9))) (az_br 10 (az_lf 9 (az_ii (fun x y => x + y) 10)) (az_lf 10 (az_iald 11))))) (az_br 17 (az_br 13 (az_br 12 (az_lf 11 (az_istore 3 12)) (az_lf 12 (az_iload 3 13))) (az_br 16 (az_lf 13 (az_iflt 25 16)) (az_lf 16 (az_aload 0 17)))) (az_br 19 (az_br 18 (az_lf 17 (az_iload 1 18)) (az_lf 18 (az_iload 2 19))) (az_br 22 (az_lf 19 (az_ivv 178 2 11 22)) (az_lf 22 (az_ifne 29 25)))))) (az_br 41 (az_br 31 (az_br 29 (az_br 26 (az_lf 25 (az_const (.int 0) 26)) (az_lf 26 (az_goto 54))) (az_br 30 (az_lf 29 (az_iload 3 30)) (az_lf 30 (az_aload 0 31)))) (az_br 37 (az_br 34 (az_lf 31 (az_getI 11 30 34)) (az_lf 34 (az_icle 41 37))) (az_br 38 (az_lf 37 (az_const (.int 1) 38)) (az_lf 38 (az_goto 54))))) (az_br 49 (az_br 43 (az_br 42 (az_lf 41 (az_iload 3 42)) (az_lf 42 (az_aload 0 43))) (az_br 46 (az_lf 43 (az_getI 11 29 46)) (az_lf 46 (az_icge 53 49)))) (az_br 53 (az_br 50 (az_lf 49 (az_const (.int (-1)) 50)) (az_lf 50 (az_goto 54))) (az_br 54 (az_lf 53 (az_const (.int 0) 54)) (az_lf 54 (az_iret)))))))
theorem u_X11_outOf_0 : az_W C R k_X11_outOf 0 (.ref a :: ls) st h ↔ az_W C R k_X11_outOf 1 (.ref a :: ls) (.ref a :: st) h := ap_aload rfl rfl
theorem u_X11_outOf_1 : az_W C R k_X11_outOf 1 ls (.ref 97 :: st) (130, az_Pf, I, L) ↔ az_W C R k_X11_outOf 4 ls (.ref 98 :: st) (130, az_Pf, I, L) := ap_getP rfl kn_97 pf_97_0
theorem u_X11_outOf_4 : az_W C R k_X11_outOf 4 ls st h ↔ az_W C R k_X11_outOf 6 ls (.int 8 :: st) h := ap_const rfl
theorem u_X11_outOf_6 : az_W C R k_X11_outOf 6 (v0 :: v1 :: .int x :: ls) st h ↔ az_W C R k_X11_outOf 7 (v0 :: v1 :: .int x :: ls) (.int x :: st) h := ap_iload rfl rfl
theorem u_X11_outOf_7 : az_W C R k_X11_outOf 7 ls (.int y :: .int x :: st) h ↔ az_W C R k_X11_outOf 8 ls (.int (x * y) :: st) h := ap_ii (f := fun x y => x * y) rfl
theorem u_X11_outOf_8 : az_W C R k_X11_outOf 8 (v0 :: .int x :: ls) st h ↔ az_W C R k_X11_outOf 9 (v0 :: .int x :: ls) (.int x :: st) h := ap_iload rfl rfl
theorem u_X11_outOf_9 : az_W C R k_X11_outOf 9 ls (.int y :: .int x :: st) h ↔ az_W C R k_X11_outOf 10 ls (.int (x + y) :: st) h := ap_ii (f := fun x y => x + y) rfl
theorem u_X11_outOf_10 (hk : (az_kn 130 a).1 = 1) : az_W C R k_X11_outOf 10 ls (.int x :: .ref a :: st) (130, P, I, L) ↔ (az_in x (az_kn 130 a).2 ∧ az_W C R k_X11_outOf 11 ls (.int (I a x.toNatClampNeg) :: st) (130, P, I, L)) := ap_iald rfl (az_k1 hk)
theorem u_X11_outOf_11 : az_W C R k_X11_outOf 11 (v0 :: v1 :: v2 :: v3 :: ls) (.int x :: st) h ↔ az_W C R k_X11_outOf 12 (v0 :: v1 :: az_un v2 :: .int x :: ls) st h := ap_istore rfl rfl
theorem u_X11_outOf_12 : az_W C R k_X11_outOf 12 (v0 :: v1 :: v2 :: .int x :: ls) st h ↔ az_W C R k_X11_outOf 13 (v0 :: v1 :: v2 :: .int x :: ls) (.int x :: st) h := ap_iload rfl rfl
theorem u_X11_outOf_13 : az_W C R k_X11_outOf 13 ls (.int x :: st) h ↔ if x < 0 then az_W C R k_X11_outOf 25 ls st h else az_W C R k_X11_outOf 16 ls st h := ap_iflt rfl
theorem u_X11_outOf_16 : az_W C R k_X11_outOf 16 (.ref a :: ls) st h ↔ az_W C R k_X11_outOf 17 (.ref a :: ls) (.ref a :: st) h := ap_aload rfl rfl
theorem u_X11_outOf_17 : az_W C R k_X11_outOf 17 (v0 :: .int x :: ls) st h ↔ az_W C R k_X11_outOf 18 (v0 :: .int x :: ls) (.int x :: st) h := ap_iload rfl rfl
theorem u_X11_outOf_18 : az_W C R k_X11_outOf 18 (v0 :: v1 :: .int x :: ls) st h ↔ az_W C R k_X11_outOf 19 (v0 :: v1 :: .int x :: ls) (.int x :: st) h := ap_iload rfl rfl
theorem u_X11_outOf_19 (hl : st.length ≤ 4) : az_W C R k_X11_outOf 19 ls (v2 :: v1 :: .ref 97 :: st) (130, P, I, L) ↔ az_F C R (az_W C R k_X11_outOf) (130, P, I, L) (az_cl 178 [.ref 97, v1, v2] 22 ls st) := ap_ivv rfl rfl kn_97 hl
theorem u_X11_outOf_22 : az_W C R k_X11_outOf 22 ls (.int x :: st) h ↔ if x = 0 then az_W C R k_X11_outOf 25 ls st h else az_W C R k_X11_outOf 29 ls st h := ap_ifne rfl
theorem u_X11_outOf_25 : az_W C R k_X11_outOf 25 ls st h ↔ az_W C R k_X11_outOf 26 ls (.int 0 :: st) h := ap_const rfl
theorem u_X11_outOf_26 : az_W C R k_X11_outOf 26 ls st h ↔ az_W C R k_X11_outOf 54 ls st h := ap_goto rfl
theorem u_X11_outOf_29 : az_W C R k_X11_outOf 29 (v0 :: v1 :: v2 :: .int x :: ls) st h ↔ az_W C R k_X11_outOf 30 (v0 :: v1 :: v2 :: .int x :: ls) (.int x :: st) h := ap_iload rfl rfl
theorem u_X11_outOf_30 : az_W C R k_X11_outOf 30 (.ref a :: ls) st h ↔ az_W C R k_X11_outOf 31 (.ref a :: ls) (.ref a :: st) h := ap_aload rfl rfl
theorem u_X11_outOf_31 : az_W C R k_X11_outOf 31 ls (.ref 97 :: st) (130, P, I, L) ↔ az_W C R k_X11_outOf 34 ls (.int (I 97 30) :: st) (130, P, I, L) := ap_getI rfl kn_97
theorem u_X11_outOf_34 : az_W C R k_X11_outOf 34 ls (.int y :: .int x :: st) h ↔ if x ≤ y then az_W C R k_X11_outOf 41 ls st h else az_W C R k_X11_outOf 37 ls st h := ap_icle rfl
theorem u_X11_outOf_37 : az_W C R k_X11_outOf 37 ls st h ↔ az_W C R k_X11_outOf 38 ls (.int 1 :: st) h := ap_const rfl
theorem u_X11_outOf_38 : az_W C R k_X11_outOf 38 ls st h ↔ az_W C R k_X11_outOf 54 ls st h := ap_goto rfl
theorem u_X11_outOf_41 : az_W C R k_X11_outOf 41 (v0 :: v1 :: v2 :: .int x :: ls) st h ↔ az_W C R k_X11_outOf 42 (v0 :: v1 :: v2 :: .int x :: ls) (.int x :: st) h := ap_iload rfl rfl
theorem u_X11_outOf_42 : az_W C R k_X11_outOf 42 (.ref a :: ls) st h ↔ az_W C R k_X11_outOf 43 (.ref a :: ls) (.ref a :: st) h := ap_aload rfl rfl
theorem u_X11_outOf_43 : az_W C R k_X11_outOf 43 ls (.ref 97 :: st) (130, P, I, L) ↔ az_W C R k_X11_outOf 46 ls (.int (I 97 29) :: st) (130, P, I, L) := ap_getI rfl kn_97
theorem u_X11_outOf_46 : az_W C R k_X11_outOf 46 ls (.int y :: .int x :: st) h ↔ if y ≤ x then az_W C R k_X11_outOf 53 ls st h else az_W C R k_X11_outOf 49 ls st h := ap_icge rfl
theorem u_X11_outOf_49 : az_W C R k_X11_outOf 49 ls st h ↔ az_W C R k_X11_outOf 50 ls (.int (-1) :: st) h := ap_const rfl
theorem u_X11_outOf_50 : az_W C R k_X11_outOf 50 ls st h ↔ az_W C R k_X11_outOf 54 ls st h := ap_goto rfl
theorem u_X11_outOf_53 : az_W C R k_X11_outOf 53 ls st h ↔ az_W C R k_X11_outOf 54 ls (.int 0 :: st) h := ap_const rfl
theorem u_X11_outOf_54 : az_W C R k_X11_outOf 54 ls [.int x] h ↔ R (some (.int x)) h := ap_iret rfl
def k_X11_out : Nat → az_P := (az_br 14 (az_br 7 (az_br 1 (az_lf 0 (az_iload 1 1)) (az_br 4 (az_lf 1 (az_ivs 141 1 4)) (az_lf 4 (az_ifeq 23 7)))) (az_br 8 (az_lf 7 (az_iload 2 8)) (az_br 11 (az_lf 8 (az_ivs 142 1 11)) (az_lf 11 (az_ifeq 23 14))))) (az_br 17 (az_br 15 (az_lf 14 (az_aload 0 15)) (az_br 16 (az_lf 15 (az_iload 1 16)) (az_lf 16 (az_iload 2 17)))) (az_br 23 (az_br 20 (az_lf 17 (az_ivv 180 2 11 20)) (az_lf 20 (az_goto 25))) (az_br 25 (az_lf 23 (az_const (.int (-11)) 25)) (az_lf 25 (az_iret))))))
theorem u_X11_out_0 : az_W C R k_X11_out 0 (v0 :: .int x :: ls) st h ↔ az_W C R k_X11_out 1 (v0 :: .int x :: ls) (.int x :: st) h := ap_iload rfl rfl
theorem u_X11_out_1 (hl : st.length ≤ 4) : az_W C R k_X11_out 1 ls (v1 :: st) h ↔ az_F C R (az_W C R k_X11_out) h (az_cl 141 [v1] 4 ls st) := ap_ivs rfl rfl hl
theorem u_X11_out_4 : az_W C R k_X11_out 4 ls (.int x :: st) h ↔ if x = 0 then az_W C R k_X11_out 23 ls st h else az_W C R k_X11_out 7 ls st h := ap_ifeq rfl
theorem u_X11_out_7 : az_W C R k_X11_out 7 (v0 :: v1 :: .int x :: ls) st h ↔ az_W C R k_X11_out 8 (v0 :: v1 :: .int x :: ls) (.int x :: st) h := ap_iload rfl rfl
theorem u_X11_out_8 (hl : st.length ≤ 4) : az_W C R k_X11_out 8 ls (v1 :: st) h ↔ az_F C R (az_W C R k_X11_out) h (az_cl 142 [v1] 11 ls st) := ap_ivs rfl rfl hl
theorem u_X11_out_11 : az_W C R k_X11_out 11 ls (.int x :: st) h ↔ if x = 0 then az_W C R k_X11_out 23 ls st h else az_W C R k_X11_out 14 ls st h := ap_ifeq rfl
theorem u_X11_out_14 : az_W C R k_X11_out 14 (.ref a :: ls) st h ↔ az_W C R k_X11_out 15 (.ref a :: ls) (.ref a :: st) h := ap_aload rfl rfl
theorem u_X11_out_15 : az_W C R k_X11_out 15 (v0 :: .int x :: ls) st h ↔ az_W C R k_X11_out 16 (v0 :: .int x :: ls) (.int x :: st) h := ap_iload rfl rfl
theorem u_X11_out_16 : az_W C R k_X11_out 16 (v0 :: v1 :: .int x :: ls) st h ↔ az_W C R k_X11_out 17 (v0 :: v1 :: .int x :: ls) (.int x :: st) h := ap_iload rfl rfl
theorem u_X11_out_17 (hl : st.length ≤ 4) : az_W C R k_X11_out 17 ls (v2 :: v1 :: .ref 97 :: st) (130, P, I, L) ↔ az_F C R (az_W C R k_X11_out) (130, P, I, L) (az_cl 180 [.ref 97, v1, v2] 20 ls st) := ap_ivv rfl rfl kn_97 hl
theorem u_X11_out_20 : az_W C R k_X11_out 20 ls st h ↔ az_W C R k_X11_out 25 ls st h := ap_goto rfl
theorem u_X11_out_23 : az_W C R k_X11_out 23 ls st h ↔ az_W C R k_X11_out 25 ls (.int (-11) :: st) h := ap_const rfl
theorem u_X11_out_25 : az_W C R k_X11_out 25 ls [.int x] h ↔ R (some (.int x)) h := ap_iret rfl
def k_X11_findRight : Nat → az_P := (az_br 29 (az_br 14 (az_br 6 (az_br 2 (az_br 1 (az_lf 0 (az_aload 0 1)) (az_lf 1 (az_iload 1 2))) (az_br 5 (az_lf 2 (az_ivv 156 1 11 5)) (az_lf 5 (az_const (.int 0) 6)))) (az_br 8 (az_br 7 (az_lf 6 (az_istore 2 7)) (az_lf 7 (az_iload 2 8))) (az_br 10 (az_lf 8 (az_const (.int 8) 10)) (az_br 13 (az_lf 10 (az_icge 60 13)) (az_lf 13 (az_aload 0 14)))))) (az_br 20 (az_br 16 (az_br 15 (az_lf 14 (az_iload 2 15)) (az_lf 15 (az_iload 1 16))) (az_br 19 (az_lf 16 (az_ivv 180 2 11 19)) (az_lf 19 (az_istore 3 20)))) (az_br 24 (az_br 21 (az_lf 20 (az_aload 0 21)) (az_lf 21 (az_getP 11 11 24))) (az_br 25 (az_lf 24 (az_iload 2 25)) (az_br 26 (az_lf 25 (az_iload 3 26)) (az_lf 26 (az_ifle 36 29))))))) (az_br 48 (az_br 37 (az_br 33 (az_br 30 (az_lf 29 (az_aload 0 30)) (az_lf 30 (az_getI 11 30 33))) (az_br 36 (az_lf 33 (az_goto 53)) (az_lf 36 (az_iload 3 37)))) (az_br 41 (az_br 40 (az_lf 37 (az_ifge 47 40)) (az_lf 40 (az_aload 0 41))) (az_br 44 (az_lf 41 (az_getI 11 29 44)) (az_br 47 (az_lf 44 (az_goto 53)) (az_lf 47 (az_aload 0 48)))))) (az_br 57 (az_br 52 (az_br 51 (az_lf 48 (az_getP 11 11 51)) (az_lf 51 (az_iload 2 52))) (az_br 53 (az_lf 52 (az_iald 53)) (az_br 54 (az_lf 53 (az_iast 54)) (az_lf 54 (az_iinc 2 1 57))))) (az_br 61 (az_br 60 (az_lf 57 (az_goto 7)) (az_lf 60 (az_aload 0 61))) (az_br 62 (az_lf 61 (az_iload 1 62)) (az_br 65 (az_lf 62 (az_ivv 158 1 11 65)) (az_lf 65 (az_zret))))))))
theorem u_X11_findRight_0 : az_W C R k_X11_findRight 0 (.ref a :: ls) st h ↔ az_W C R k_X11_findRight 1 (.ref a :: ls) (.ref a :: st) h := ap_aload rfl rfl
theorem u_X11_findRight_1 : az_W C R k_X11_findRight 1 (v0 :: .int x :: ls) st h ↔ az_W C R k_X11_findRight 2 (v0 :: .int x :: ls) (.int x :: st) h := ap_iload rfl rfl
theorem u_X11_findRight_2 (hl : st.length ≤ 4) : az_W C R k_X11_findRight 2 ls (v1 :: .ref 97 :: st) (130, P, I, L) ↔ az_F C R (az_W C R k_X11_findRight) (130, P, I, L) (az_cl 156 [.ref 97, v1] 5 ls st) := ap_ivv rfl rfl kn_97 hl
theorem u_X11_findRight_5 : az_W C R k_X11_findRight 5 ls st h ↔ az_W C R k_X11_findRight 6 ls (.int 0 :: st) h := ap_const rfl
theorem u_X11_findRight_6 : az_W C R k_X11_findRight 6 (v0 :: v1 :: v2 :: ls) (.int x :: st) h ↔ az_W C R k_X11_findRight 7 (v0 :: az_un v1 :: .int x :: ls) st h := ap_istore rfl rfl
theorem u_X11_findRight_7 : az_W C R k_X11_findRight 7 (v0 :: v1 :: .int x :: ls) st h ↔ az_W C R k_X11_findRight 8 (v0 :: v1 :: .int x :: ls) (.int x :: st) h := ap_iload rfl rfl
theorem u_X11_findRight_8 : az_W C R k_X11_findRight 8 ls st h ↔ az_W C R k_X11_findRight 10 ls (.int 8 :: st) h := ap_const rfl
theorem u_X11_findRight_10 : az_W C R k_X11_findRight 10 ls (.int y :: .int x :: st) h ↔ if y ≤ x then az_W C R k_X11_findRight 60 ls st h else az_W C R k_X11_findRight 13 ls st h := ap_icge rfl
theorem u_X11_findRight_13 : az_W C R k_X11_findRight 13 (.ref a :: ls) st h ↔ az_W C R k_X11_findRight 14 (.ref a :: ls) (.ref a :: st) h := ap_aload rfl rfl
theorem u_X11_findRight_14 : az_W C R k_X11_findRight 14 (v0 :: v1 :: .int x :: ls) st h ↔ az_W C R k_X11_findRight 15 (v0 :: v1 :: .int x :: ls) (.int x :: st) h := ap_iload rfl rfl
theorem u_X11_findRight_15 : az_W C R k_X11_findRight 15 (v0 :: .int x :: ls) st h ↔ az_W C R k_X11_findRight 16 (v0 :: .int x :: ls) (.int x :: st) h := ap_iload rfl rfl
theorem u_X11_findRight_16 (hl : st.length ≤ 4) : az_W C R k_X11_findRight 16 ls (v2 :: v1 :: .ref 97 :: st) (130, P, I, L) ↔ az_F C R (az_W C R k_X11_findRight) (130, P, I, L) (az_cl 180 [.ref 97, v1, v2] 19 ls st) := ap_ivv rfl rfl kn_97 hl
theorem u_X11_findRight_19 : az_W C R k_X11_findRight 19 (v0 :: v1 :: v2 :: v3 :: ls) (.int x :: st) h ↔ az_W C R k_X11_findRight 20 (v0 :: v1 :: az_un v2 :: .int x :: ls) st h := ap_istore rfl rfl
theorem u_X11_findRight_20 : az_W C R k_X11_findRight 20 (.ref a :: ls) st h ↔ az_W C R k_X11_findRight 21 (.ref a :: ls) (.ref a :: st) h := ap_aload rfl rfl
theorem u_X11_findRight_21 : az_W C R k_X11_findRight 21 ls (.ref 97 :: st) (130, az_Pf, I, L) ↔ az_W C R k_X11_findRight 24 ls (.ref 106 :: st) (130, az_Pf, I, L) := ap_getP rfl kn_97 pf_97_11
theorem u_X11_findRight_24 : az_W C R k_X11_findRight 24 (v0 :: v1 :: .int x :: ls) st h ↔ az_W C R k_X11_findRight 25 (v0 :: v1 :: .int x :: ls) (.int x :: st) h := ap_iload rfl rfl
theorem u_X11_findRight_25 : az_W C R k_X11_findRight 25 (v0 :: v1 :: v2 :: .int x :: ls) st h ↔ az_W C R k_X11_findRight 26 (v0 :: v1 :: v2 :: .int x :: ls) (.int x :: st) h := ap_iload rfl rfl
theorem u_X11_findRight_26 : az_W C R k_X11_findRight 26 ls (.int x :: st) h ↔ if x ≤ 0 then az_W C R k_X11_findRight 36 ls st h else az_W C R k_X11_findRight 29 ls st h := ap_ifle rfl
theorem u_X11_findRight_29 : az_W C R k_X11_findRight 29 (.ref a :: ls) st h ↔ az_W C R k_X11_findRight 30 (.ref a :: ls) (.ref a :: st) h := ap_aload rfl rfl
theorem u_X11_findRight_30 : az_W C R k_X11_findRight 30 ls (.ref 97 :: st) (130, P, I, L) ↔ az_W C R k_X11_findRight 33 ls (.int (I 97 30) :: st) (130, P, I, L) := ap_getI rfl kn_97
theorem u_X11_findRight_33 : az_W C R k_X11_findRight 33 ls st h ↔ az_W C R k_X11_findRight 53 ls st h := ap_goto rfl
theorem u_X11_findRight_36 : az_W C R k_X11_findRight 36 (v0 :: v1 :: v2 :: .int x :: ls) st h ↔ az_W C R k_X11_findRight 37 (v0 :: v1 :: v2 :: .int x :: ls) (.int x :: st) h := ap_iload rfl rfl
theorem u_X11_findRight_37 : az_W C R k_X11_findRight 37 ls (.int x :: st) h ↔ if 0 ≤ x then az_W C R k_X11_findRight 47 ls st h else az_W C R k_X11_findRight 40 ls st h := ap_ifge rfl
theorem u_X11_findRight_40 : az_W C R k_X11_findRight 40 (.ref a :: ls) st h ↔ az_W C R k_X11_findRight 41 (.ref a :: ls) (.ref a :: st) h := ap_aload rfl rfl
theorem u_X11_findRight_41 : az_W C R k_X11_findRight 41 ls (.ref 97 :: st) (130, P, I, L) ↔ az_W C R k_X11_findRight 44 ls (.int (I 97 29) :: st) (130, P, I, L) := ap_getI rfl kn_97
theorem u_X11_findRight_44 : az_W C R k_X11_findRight 44 ls st h ↔ az_W C R k_X11_findRight 53 ls st h := ap_goto rfl
theorem u_X11_findRight_47 : az_W C R k_X11_findRight 47 (.ref a :: ls) st h ↔ az_W C R k_X11_findRight 48 (.ref a :: ls) (.ref a :: st) h := ap_aload rfl rfl
theorem u_X11_findRight_48 : az_W C R k_X11_findRight 48 ls (.ref 97 :: st) (130, az_Pf, I, L) ↔ az_W C R k_X11_findRight 51 ls (.ref 106 :: st) (130, az_Pf, I, L) := ap_getP rfl kn_97 pf_97_11
theorem u_X11_findRight_51 : az_W C R k_X11_findRight 51 (v0 :: v1 :: .int x :: ls) st h ↔ az_W C R k_X11_findRight 52 (v0 :: v1 :: .int x :: ls) (.int x :: st) h := ap_iload rfl rfl
theorem u_X11_findRight_52 (hk : (az_kn 130 a).1 = 1) : az_W C R k_X11_findRight 52 ls (.int x :: .ref a :: st) (130, P, I, L) ↔ (az_in x (az_kn 130 a).2 ∧ az_W C R k_X11_findRight 53 ls (.int (I a x.toNatClampNeg) :: st) (130, P, I, L)) := ap_iald rfl (az_k1 hk)
theorem u_X11_findRight_53 (hk : (az_kn 130 a).1 = 1) : az_W C R k_X11_findRight 53 ls (.int y :: .int x :: .ref a :: st) (130, P, I, L) ↔ (az_in x (az_kn 130 a).2 ∧ az_W C R k_X11_findRight 54 ls st (130, P, az_uI I a x.toNatClampNeg y, L)) := ap_iast rfl (az_k1 hk)
theorem u_X11_findRight_54 : az_W C R k_X11_findRight 54 (v0 :: v1 :: .int x :: ls) st h ↔ az_W C R k_X11_findRight 57 (v0 :: az_un v1 :: .int (x + 1) :: ls) st h := ap_iinc rfl rfl rfl
theorem u_X11_findRight_57 : az_W C R k_X11_findRight 57 ls st h ↔ az_W C R k_X11_findRight 7 ls st h := ap_goto rfl
theorem u_X11_findRight_60 : az_W C R k_X11_findRight 60 (.ref a :: ls) st h ↔ az_W C R k_X11_findRight 61 (.ref a :: ls) (.ref a :: st) h := ap_aload rfl rfl
theorem u_X11_findRight_61 : az_W C R k_X11_findRight 61 (v0 :: .int x :: ls) st h ↔ az_W C R k_X11_findRight 62 (v0 :: .int x :: ls) (.int x :: st) h := ap_iload rfl rfl
theorem u_X11_findRight_62 (hl : st.length ≤ 4) : az_W C R k_X11_findRight 62 ls (v1 :: .ref 97 :: st) (130, P, I, L) ↔ az_F C R (az_W C R k_X11_findRight) (130, P, I, L) (az_cl 158 [.ref 97, v1] 65 ls st) := ap_ivv rfl rfl kn_97 hl
theorem u_X11_findRight_65 : az_W C R k_X11_findRight 65 ls [.int x] h ↔ ((x = 0 ∨ x = 1) ∧ R (some (.int x)) h) := ap_zret rfl
def k_X11_right : Nat → az_P := (az_br 23 (az_br 11 (az_br 4 (az_br 1 (az_lf 0 (az_iload 1 1)) (az_lf 1 (az_ivs 142 1 4))) (az_br 7 (az_lf 4 (az_ifeq 14 7)) (az_br 8 (az_lf 7 (az_iload 2 8)) (az_lf 8 (az_ivs 145 1 11))))) (az_br 18 (az_br 14 (az_lf 11 (az_ifne 18 14)) (az_br 17 (az_lf 14 (az_const (.long (-1099511627777)) 17)) (az_lf 17 (az_lret)))) (az_br 19 (az_lf 18 (az_aload 0 19)) (az_br 20 (az_lf 19 (az_iload 1 20)) (az_lf 20 (az_ivv 182 1 11 23)))))) (az_br 35 (az_br 30 (az_br 26 (az_lf 23 (az_ifeq 43 26)) (az_br 27 (az_lf 26 (az_aload 0 27)) (az_lf 27 (az_getI 11 14 30)))) (az_br 31 (az_lf 30 (az_i2l 31)) (az_br 32 (az_lf 31 (az_aload 0 32)) (az_lf 32 (az_getI 11 15 35))))) (az_br 40 (az_br 36 (az_lf 35 (az_i2l 36)) (az_br 37 (az_lf 36 (az_iload 2 37)) (az_lf 37 (az_ivs 144 3 40)))) (az_br 43 (az_lf 40 (az_goto 46)) (az_br 46 (az_lf 43 (az_const (.long (-1099511627780)) 46)) (az_lf 46 (az_lret)))))))
theorem u_X11_right_0 : az_W C R k_X11_right 0 (v0 :: .int x :: ls) st h ↔ az_W C R k_X11_right 1 (v0 :: .int x :: ls) (.int x :: st) h := ap_iload rfl rfl
theorem u_X11_right_1 (hl : st.length ≤ 4) : az_W C R k_X11_right 1 ls (v1 :: st) h ↔ az_F C R (az_W C R k_X11_right) h (az_cl 142 [v1] 4 ls st) := ap_ivs rfl rfl hl
theorem u_X11_right_4 : az_W C R k_X11_right 4 ls (.int x :: st) h ↔ if x = 0 then az_W C R k_X11_right 14 ls st h else az_W C R k_X11_right 7 ls st h := ap_ifeq rfl
theorem u_X11_right_7 : az_W C R k_X11_right 7 (v0 :: v1 :: .int x :: ls) st h ↔ az_W C R k_X11_right 8 (v0 :: v1 :: .int x :: ls) (.int x :: st) h := ap_iload rfl rfl
theorem u_X11_right_8 (hl : st.length ≤ 4) : az_W C R k_X11_right 8 ls (v1 :: st) h ↔ az_F C R (az_W C R k_X11_right) h (az_cl 145 [v1] 11 ls st) := ap_ivs rfl rfl hl
theorem u_X11_right_11 : az_W C R k_X11_right 11 ls (.int x :: st) h ↔ if x = 0 then az_W C R k_X11_right 14 ls st h else az_W C R k_X11_right 18 ls st h := ap_ifne rfl
theorem u_X11_right_14 : az_W C R k_X11_right 14 ls st h ↔ az_W C R k_X11_right 17 ls (.long (-1099511627777) :: st) h := ap_const rfl
theorem u_X11_right_17 : az_W C R k_X11_right 17 ls [.long p] h ↔ R (some (.long p)) h := ap_lret rfl
theorem u_X11_right_18 : az_W C R k_X11_right 18 (.ref a :: ls) st h ↔ az_W C R k_X11_right 19 (.ref a :: ls) (.ref a :: st) h := ap_aload rfl rfl
theorem u_X11_right_19 : az_W C R k_X11_right 19 (v0 :: .int x :: ls) st h ↔ az_W C R k_X11_right 20 (v0 :: .int x :: ls) (.int x :: st) h := ap_iload rfl rfl
theorem u_X11_right_20 (hl : st.length ≤ 4) : az_W C R k_X11_right 20 ls (v1 :: .ref 97 :: st) (130, P, I, L) ↔ az_F C R (az_W C R k_X11_right) (130, P, I, L) (az_cl 182 [.ref 97, v1] 23 ls st) := ap_ivv rfl rfl kn_97 hl
theorem u_X11_right_23 : az_W C R k_X11_right 23 ls (.int x :: st) h ↔ if x = 0 then az_W C R k_X11_right 43 ls st h else az_W C R k_X11_right 26 ls st h := ap_ifeq rfl
theorem u_X11_right_26 : az_W C R k_X11_right 26 (.ref a :: ls) st h ↔ az_W C R k_X11_right 27 (.ref a :: ls) (.ref a :: st) h := ap_aload rfl rfl
theorem u_X11_right_27 : az_W C R k_X11_right 27 ls (.ref 97 :: st) (130, P, I, L) ↔ az_W C R k_X11_right 30 ls (.int (I 97 14) :: st) (130, P, I, L) := ap_getI rfl kn_97
theorem u_X11_right_30 : az_W C R k_X11_right 30 ls (.int x :: st) h ↔ az_W C R k_X11_right 31 ls (.long x.toInt64 :: st) h := ap_i2l rfl
theorem u_X11_right_31 : az_W C R k_X11_right 31 (.ref a :: ls) st h ↔ az_W C R k_X11_right 32 (.ref a :: ls) (.ref a :: st) h := ap_aload rfl rfl
theorem u_X11_right_32 : az_W C R k_X11_right 32 ls (.ref 97 :: st) (130, P, I, L) ↔ az_W C R k_X11_right 35 ls (.int (I 97 15) :: st) (130, P, I, L) := ap_getI rfl kn_97
theorem u_X11_right_35 : az_W C R k_X11_right 35 ls (.int x :: st) h ↔ az_W C R k_X11_right 36 ls (.long x.toInt64 :: st) h := ap_i2l rfl
theorem u_X11_right_36 : az_W C R k_X11_right 36 (v0 :: v1 :: .int x :: ls) st h ↔ az_W C R k_X11_right 37 (v0 :: v1 :: .int x :: ls) (.int x :: st) h := ap_iload rfl rfl
theorem u_X11_right_37 (hl : st.length ≤ 4) : az_W C R k_X11_right 37 ls (v3 :: v2 :: v1 :: st) h ↔ az_F C R (az_W C R k_X11_right) h (az_cl 144 [v1, v2, v3] 40 ls st) := ap_ivs rfl rfl hl
theorem u_X11_right_40 : az_W C R k_X11_right 40 ls st h ↔ az_W C R k_X11_right 46 ls st h := ap_goto rfl
theorem u_X11_right_43 : az_W C R k_X11_right 43 ls st h ↔ az_W C R k_X11_right 46 ls (.long (-1099511627780) :: st) h := ap_const rfl
theorem u_X11_right_46 : az_W C R k_X11_right 46 ls [.long p] h ↔ R (some (.long p)) h := ap_lret rfl
def k_X11_lost : Nat → az_P := (az_br 49 (az_br 27 (az_br 12 (az_br 5 (az_br 1 (az_lf 0 (az_aload 0 1)) (az_br 2 (az_lf 1 (az_iload 1 2)) (az_lf 2 (az_ivv 167 1 11 5)))) (az_br 8 (az_lf 5 (az_ifeq 22 8)) (az_br 9 (az_lf 8 (az_iload 2 9)) (az_lf 9 (az_ivs 142 1 12))))) (az_br 19 (az_br 15 (az_lf 12 (az_ifeq 22 15)) (az_br 16 (az_lf 15 (az_iload 3 16)) (az_lf 16 (az_ivs 145 1 19)))) (az_br 25 (az_br 22 (az_lf 19 (az_ifne 26 22)) (az_lf 22 (az_const (.long (-1099511627777)) 25))) (az_br 26 (az_lf 25 (az_lret)) (az_lf 26 (az_aload 0 27)))))) (az_br 37 (az_br 34 (az_br 28 (az_lf 27 (az_iload 2 28)) (az_br 31 (az_lf 28 (az_ivv 182 1 11 31)) (az_lf 31 (az_ifne 37 34)))) (az_br 35 (az_lf 34 (az_iload 3 35)) (az_br 36 (az_lf 35 (az_i2l 36)) (az_lf 36 (az_lret))))) (az_br 43 (az_br 38 (az_lf 37 (az_aload 0 38)) (az_br 41 (az_lf 38 (az_getI 11 14 41)) (az_lf 41 (az_istore 4 43)))) (az_br 45 (az_br 44 (az_lf 43 (az_aload 0 44)) (az_lf 44 (az_iload 2 45))) (az_br 48 (az_lf 45 (az_ivv 156 1 11 48)) (az_lf 48 (az_aload 0 49))))))) (az_br 71 (az_br 61 (az_br 55 (az_br 50 (az_lf 49 (az_iload 2 50)) (az_br 53 (az_lf 50 (az_ivv 158 1 11 53)) (az_lf 53 (az_istore 5 55)))) (az_br 57 (az_lf 55 (az_iload 5 57)) (az_br 60 (az_lf 57 (az_ifeq 89 60)) (az_lf 60 (az_aload 0 61))))) (az_br 64 (az_br 62 (az_lf 61 (az_iload 1 62)) (az_br 63 (az_lf 62 (az_iload 2 63)) (az_lf 63 (az_const (.int 0) 64)))) (az_br 68 (az_br 67 (az_lf 64 (az_ivv 170 3 11 67)) (az_lf 67 (az_i2l 68))) (az_br 70 (az_lf 68 (az_iload 4 70)) (az_lf 70 (az_aload 0 71)))))) (az_br 81 (az_br 76 (az_br 74 (az_lf 71 (az_getI 11 14 74)) (az_br 75 (az_lf 74 (az_ii (fun x y => x - y) 75)) (az_lf 75 (az_i2l 76)))) (az_br 77 (az_lf 76 (az_ll (fun p q => p * q) 77)) (az_br 78 (az_lf 77 (az_aload 0 78)) (az_lf 78 (az_getI 11 15 81))))) (az_br 86 (az_br 82 (az_lf 81 (az_i2l 82)) (az_br 83 (az_lf 82 (az_iload 3 83)) (az_lf 83 (az_ivs 144 3 86)))) (az_br 90 (az_br 89 (az_lf 86 (az_goto 91)) (az_lf 89 (az_iload 3 90))) (az_br 91 (az_lf 90 (az_i2l 91)) (az_lf 91 (az_lret))))))))
theorem u_X11_lost_0 : az_W C R k_X11_lost 0 (.ref a :: ls) st h ↔ az_W C R k_X11_lost 1 (.ref a :: ls) (.ref a :: st) h := ap_aload rfl rfl
theorem u_X11_lost_1 : az_W C R k_X11_lost 1 (v0 :: .int x :: ls) st h ↔ az_W C R k_X11_lost 2 (v0 :: .int x :: ls) (.int x :: st) h := ap_iload rfl rfl
theorem u_X11_lost_2 (hl : st.length ≤ 4) : az_W C R k_X11_lost 2 ls (v1 :: .ref 97 :: st) (130, P, I, L) ↔ az_F C R (az_W C R k_X11_lost) (130, P, I, L) (az_cl 167 [.ref 97, v1] 5 ls st) := ap_ivv rfl rfl kn_97 hl
theorem u_X11_lost_5 : az_W C R k_X11_lost 5 ls (.int x :: st) h ↔ if x = 0 then az_W C R k_X11_lost 22 ls st h else az_W C R k_X11_lost 8 ls st h := ap_ifeq rfl
theorem u_X11_lost_8 : az_W C R k_X11_lost 8 (v0 :: v1 :: .int x :: ls) st h ↔ az_W C R k_X11_lost 9 (v0 :: v1 :: .int x :: ls) (.int x :: st) h := ap_iload rfl rfl
theorem u_X11_lost_9 (hl : st.length ≤ 4) : az_W C R k_X11_lost 9 ls (v1 :: st) h ↔ az_F C R (az_W C R k_X11_lost) h (az_cl 142 [v1] 12 ls st) := ap_ivs rfl rfl hl
theorem u_X11_lost_12 : az_W C R k_X11_lost 12 ls (.int x :: st) h ↔ if x = 0 then az_W C R k_X11_lost 22 ls st h else az_W C R k_X11_lost 15 ls st h := ap_ifeq rfl
theorem u_X11_lost_15 : az_W C R k_X11_lost 15 (v0 :: v1 :: v2 :: .int x :: ls) st h ↔ az_W C R k_X11_lost 16 (v0 :: v1 :: v2 :: .int x :: ls) (.int x :: st) h := ap_iload rfl rfl
theorem u_X11_lost_16 (hl : st.length ≤ 4) : az_W C R k_X11_lost 16 ls (v1 :: st) h ↔ az_F C R (az_W C R k_X11_lost) h (az_cl 145 [v1] 19 ls st) := ap_ivs rfl rfl hl
theorem u_X11_lost_19 : az_W C R k_X11_lost 19 ls (.int x :: st) h ↔ if x = 0 then az_W C R k_X11_lost 22 ls st h else az_W C R k_X11_lost 26 ls st h := ap_ifne rfl
theorem u_X11_lost_22 : az_W C R k_X11_lost 22 ls st h ↔ az_W C R k_X11_lost 25 ls (.long (-1099511627777) :: st) h := ap_const rfl
theorem u_X11_lost_25 : az_W C R k_X11_lost 25 ls [.long p] h ↔ R (some (.long p)) h := ap_lret rfl
theorem u_X11_lost_26 : az_W C R k_X11_lost 26 (.ref a :: ls) st h ↔ az_W C R k_X11_lost 27 (.ref a :: ls) (.ref a :: st) h := ap_aload rfl rfl
theorem u_X11_lost_27 : az_W C R k_X11_lost 27 (v0 :: v1 :: .int x :: ls) st h ↔ az_W C R k_X11_lost 28 (v0 :: v1 :: .int x :: ls) (.int x :: st) h := ap_iload rfl rfl
theorem u_X11_lost_28 (hl : st.length ≤ 4) : az_W C R k_X11_lost 28 ls (v1 :: .ref 97 :: st) (130, P, I, L) ↔ az_F C R (az_W C R k_X11_lost) (130, P, I, L) (az_cl 182 [.ref 97, v1] 31 ls st) := ap_ivv rfl rfl kn_97 hl
theorem u_X11_lost_31 : az_W C R k_X11_lost 31 ls (.int x :: st) h ↔ if x = 0 then az_W C R k_X11_lost 34 ls st h else az_W C R k_X11_lost 37 ls st h := ap_ifne rfl
theorem u_X11_lost_34 : az_W C R k_X11_lost 34 (v0 :: v1 :: v2 :: .int x :: ls) st h ↔ az_W C R k_X11_lost 35 (v0 :: v1 :: v2 :: .int x :: ls) (.int x :: st) h := ap_iload rfl rfl
theorem u_X11_lost_35 : az_W C R k_X11_lost 35 ls (.int x :: st) h ↔ az_W C R k_X11_lost 36 ls (.long x.toInt64 :: st) h := ap_i2l rfl
theorem u_X11_lost_36 : az_W C R k_X11_lost 36 ls [.long p] h ↔ R (some (.long p)) h := ap_lret rfl
theorem u_X11_lost_37 : az_W C R k_X11_lost 37 (.ref a :: ls) st h ↔ az_W C R k_X11_lost 38 (.ref a :: ls) (.ref a :: st) h := ap_aload rfl rfl
theorem u_X11_lost_38 : az_W C R k_X11_lost 38 ls (.ref 97 :: st) (130, P, I, L) ↔ az_W C R k_X11_lost 41 ls (.int (I 97 14) :: st) (130, P, I, L) := ap_getI rfl kn_97
theorem u_X11_lost_41 : az_W C R k_X11_lost 41 (v0 :: v1 :: v2 :: v3 :: v4 :: ls) (.int x :: st) h ↔ az_W C R k_X11_lost 43 (v0 :: v1 :: v2 :: az_un v3 :: .int x :: ls) st h := ap_istore rfl rfl
theorem u_X11_lost_43 : az_W C R k_X11_lost 43 (.ref a :: ls) st h ↔ az_W C R k_X11_lost 44 (.ref a :: ls) (.ref a :: st) h := ap_aload rfl rfl
theorem u_X11_lost_44 : az_W C R k_X11_lost 44 (v0 :: v1 :: .int x :: ls) st h ↔ az_W C R k_X11_lost 45 (v0 :: v1 :: .int x :: ls) (.int x :: st) h := ap_iload rfl rfl
theorem u_X11_lost_45 (hl : st.length ≤ 4) : az_W C R k_X11_lost 45 ls (v1 :: .ref 97 :: st) (130, P, I, L) ↔ az_F C R (az_W C R k_X11_lost) (130, P, I, L) (az_cl 156 [.ref 97, v1] 48 ls st) := ap_ivv rfl rfl kn_97 hl
theorem u_X11_lost_48 : az_W C R k_X11_lost 48 (.ref a :: ls) st h ↔ az_W C R k_X11_lost 49 (.ref a :: ls) (.ref a :: st) h := ap_aload rfl rfl
theorem u_X11_lost_49 : az_W C R k_X11_lost 49 (v0 :: v1 :: .int x :: ls) st h ↔ az_W C R k_X11_lost 50 (v0 :: v1 :: .int x :: ls) (.int x :: st) h := ap_iload rfl rfl
theorem u_X11_lost_50 (hl : st.length ≤ 4) : az_W C R k_X11_lost 50 ls (v1 :: .ref 97 :: st) (130, P, I, L) ↔ az_F C R (az_W C R k_X11_lost) (130, P, I, L) (az_cl 158 [.ref 97, v1] 53 ls st) := ap_ivv rfl rfl kn_97 hl
theorem u_X11_lost_53 : az_W C R k_X11_lost 53 (v0 :: v1 :: v2 :: v3 :: v4 :: v5 :: ls) (.int x :: st) h ↔ az_W C R k_X11_lost 55 (v0 :: v1 :: v2 :: v3 :: az_un v4 :: .int x :: ls) st h := ap_istore rfl rfl
theorem u_X11_lost_55 : az_W C R k_X11_lost 55 (v0 :: v1 :: v2 :: v3 :: v4 :: .int x :: ls) st h ↔ az_W C R k_X11_lost 57 (v0 :: v1 :: v2 :: v3 :: v4 :: .int x :: ls) (.int x :: st) h := ap_iload rfl rfl
theorem u_X11_lost_57 : az_W C R k_X11_lost 57 ls (.int x :: st) h ↔ if x = 0 then az_W C R k_X11_lost 89 ls st h else az_W C R k_X11_lost 60 ls st h := ap_ifeq rfl
theorem u_X11_lost_60 : az_W C R k_X11_lost 60 (.ref a :: ls) st h ↔ az_W C R k_X11_lost 61 (.ref a :: ls) (.ref a :: st) h := ap_aload rfl rfl
theorem u_X11_lost_61 : az_W C R k_X11_lost 61 (v0 :: .int x :: ls) st h ↔ az_W C R k_X11_lost 62 (v0 :: .int x :: ls) (.int x :: st) h := ap_iload rfl rfl
theorem u_X11_lost_62 : az_W C R k_X11_lost 62 (v0 :: v1 :: .int x :: ls) st h ↔ az_W C R k_X11_lost 63 (v0 :: v1 :: .int x :: ls) (.int x :: st) h := ap_iload rfl rfl
theorem u_X11_lost_63 : az_W C R k_X11_lost 63 ls st h ↔ az_W C R k_X11_lost 64 ls (.int 0 :: st) h := ap_const rfl
theorem u_X11_lost_64 (hl : st.length ≤ 4) : az_W C R k_X11_lost 64 ls (v3 :: v2 :: v1 :: .ref 97 :: st) (130, P, I, L) ↔ az_F C R (az_W C R k_X11_lost) (130, P, I, L) (az_cl 170 [.ref 97, v1, v2, v3] 67 ls st) := ap_ivv rfl rfl kn_97 hl
theorem u_X11_lost_67 : az_W C R k_X11_lost 67 ls (.int x :: st) h ↔ az_W C R k_X11_lost 68 ls (.long x.toInt64 :: st) h := ap_i2l rfl
theorem u_X11_lost_68 : az_W C R k_X11_lost 68 (v0 :: v1 :: v2 :: v3 :: .int x :: ls) st h ↔ az_W C R k_X11_lost 70 (v0 :: v1 :: v2 :: v3 :: .int x :: ls) (.int x :: st) h := ap_iload rfl rfl
theorem u_X11_lost_70 : az_W C R k_X11_lost 70 (.ref a :: ls) st h ↔ az_W C R k_X11_lost 71 (.ref a :: ls) (.ref a :: st) h := ap_aload rfl rfl
theorem u_X11_lost_71 : az_W C R k_X11_lost 71 ls (.ref 97 :: st) (130, P, I, L) ↔ az_W C R k_X11_lost 74 ls (.int (I 97 14) :: st) (130, P, I, L) := ap_getI rfl kn_97
theorem u_X11_lost_74 : az_W C R k_X11_lost 74 ls (.int y :: .int x :: st) h ↔ az_W C R k_X11_lost 75 ls (.int (x - y) :: st) h := ap_ii (f := fun x y => x - y) rfl
theorem u_X11_lost_75 : az_W C R k_X11_lost 75 ls (.int x :: st) h ↔ az_W C R k_X11_lost 76 ls (.long x.toInt64 :: st) h := ap_i2l rfl
theorem u_X11_lost_76 : az_W C R k_X11_lost 76 ls (.long q :: .long p :: st) h ↔ az_W C R k_X11_lost 77 ls (.long (p * q) :: st) h := ap_ll (f := fun p q => p * q) rfl
theorem u_X11_lost_77 : az_W C R k_X11_lost 77 (.ref a :: ls) st h ↔ az_W C R k_X11_lost 78 (.ref a :: ls) (.ref a :: st) h := ap_aload rfl rfl
theorem u_X11_lost_78 : az_W C R k_X11_lost 78 ls (.ref 97 :: st) (130, P, I, L) ↔ az_W C R k_X11_lost 81 ls (.int (I 97 15) :: st) (130, P, I, L) := ap_getI rfl kn_97
theorem u_X11_lost_81 : az_W C R k_X11_lost 81 ls (.int x :: st) h ↔ az_W C R k_X11_lost 82 ls (.long x.toInt64 :: st) h := ap_i2l rfl
theorem u_X11_lost_82 : az_W C R k_X11_lost 82 (v0 :: v1 :: v2 :: .int x :: ls) st h ↔ az_W C R k_X11_lost 83 (v0 :: v1 :: v2 :: .int x :: ls) (.int x :: st) h := ap_iload rfl rfl
theorem u_X11_lost_83 (hl : st.length ≤ 4) : az_W C R k_X11_lost 83 ls (v3 :: v2 :: v1 :: st) h ↔ az_F C R (az_W C R k_X11_lost) h (az_cl 144 [v1, v2, v3] 86 ls st) := ap_ivs rfl rfl hl
theorem u_X11_lost_86 : az_W C R k_X11_lost 86 ls st h ↔ az_W C R k_X11_lost 91 ls st h := ap_goto rfl
theorem u_X11_lost_89 : az_W C R k_X11_lost 89 (v0 :: v1 :: v2 :: .int x :: ls) st h ↔ az_W C R k_X11_lost 90 (v0 :: v1 :: v2 :: .int x :: ls) (.int x :: st) h := ap_iload rfl rfl
theorem u_X11_lost_90 : az_W C R k_X11_lost 90 ls (.int x :: st) h ↔ az_W C R k_X11_lost 91 ls (.long x.toInt64 :: st) h := ap_i2l rfl
theorem u_X11_lost_91 : az_W C R k_X11_lost 91 ls [.long p] h ↔ R (some (.long p)) h := ap_lret rfl
def k_X11_chanceOf : Nat → az_P := (az_br 26 (az_br 14 (az_br 5 (az_br 2 (az_br 1 (az_lf 0 (az_const (.long 0) 1)) (az_lf 1 (az_lstore 2 2))) (az_br 3 (az_lf 2 (az_const (.long 1) 3)) (az_lf 3 (az_lstore 4 5)))) (az_br 8 (az_br 6 (az_lf 5 (az_iload 0 6)) (az_lf 6 (az_istore 6 8))) (az_br 10 (az_lf 8 (az_iload 6 10)) (az_br 11 (az_lf 10 (az_iload 1 11)) (az_lf 11 (az_iclt 41 14)))))) (az_br 19 (az_br 17 (az_br 15 (az_lf 14 (az_lload 2 15)) (az_lf 15 (az_lload 4 17))) (az_br 18 (az_lf 17 (az_ll (fun p q => p + q) 18)) (az_lf 18 (az_lstore 2 19)))) (az_br 23 (az_br 21 (az_lf 19 (az_lload 4 21)) (az_lf 21 (az_iload 6 23))) (az_br 24 (az_lf 23 (az_i2l 24)) (az_br 25 (az_lf 24 (az_ll (fun p q => p * q) 25)) (az_lf 25 (az_iload 0 26))))))) (az_br 41 (az_br 31 (az_br 29 (az_br 28 (az_lf 26 (az_iload 6 28)) (az_lf 28 (az_ii (fun x y => x - y) 29))) (az_br 30 (az_lf 29 (az_const (.int 1) 30)) (az_lf 30 (az_ii (fun x y => x + y) 31)))) (az_br 33 (az_br 32 (az_lf 31 (az_i2l 32)) (az_lf 32 (az_ldiv 33))) (az_br 35 (az_lf 33 (az_lstore 4 35)) (az_br 38 (az_lf 35 (az_iinc 6 (-1) 38)) (az_lf 38 (az_goto 8)))))) (az_br 47 (az_br 45 (az_br 44 (az_lf 41 (az_const (.long 1000) 44)) (az_lf 44 (az_lload 2 45))) (az_br 46 (az_lf 45 (az_ll (fun p q => p * q) 46)) (az_lf 46 (az_const (.long 1) 47)))) (az_br 49 (az_br 48 (az_lf 47 (az_iload 0 48)) (az_lf 48 (az_li (fun p y => p <<< (y.toInt64 &&& 63)) 49))) (az_br 50 (az_lf 49 (az_ldiv 50)) (az_br 51 (az_lf 50 (az_l2i 51)) (az_lf 51 (az_iret))))))))
theorem u_X11_chanceOf_0 : az_W C R k_X11_chanceOf 0 ls st h ↔ az_W C R k_X11_chanceOf 1 ls (.long 0 :: st) h := ap_const rfl
theorem u_X11_chanceOf_1 : az_W C R k_X11_chanceOf 1 (v0 :: v1 :: v2 :: v3 :: ls) (.long p :: st) h ↔ az_W C R k_X11_chanceOf 2 (v0 :: az_un v1 :: .long p :: .null :: ls) st h := ap_lstore rfl rfl
theorem u_X11_chanceOf_2 : az_W C R k_X11_chanceOf 2 ls st h ↔ az_W C R k_X11_chanceOf 3 ls (.long 1 :: st) h := ap_const rfl
theorem u_X11_chanceOf_3 : az_W C R k_X11_chanceOf 3 (v0 :: v1 :: v2 :: v3 :: v4 :: v5 :: ls) (.long p :: st) h ↔ az_W C R k_X11_chanceOf 5 (v0 :: v1 :: v2 :: az_un v3 :: .long p :: .null :: ls) st h := ap_lstore rfl rfl
theorem u_X11_chanceOf_5 : az_W C R k_X11_chanceOf 5 (.int x :: ls) st h ↔ az_W C R k_X11_chanceOf 6 (.int x :: ls) (.int x :: st) h := ap_iload rfl rfl
theorem u_X11_chanceOf_6 : az_W C R k_X11_chanceOf 6 (v0 :: v1 :: v2 :: v3 :: v4 :: v5 :: v6 :: ls) (.int x :: st) h ↔ az_W C R k_X11_chanceOf 8 (v0 :: v1 :: v2 :: v3 :: v4 :: az_un v5 :: .int x :: ls) st h := ap_istore rfl rfl
theorem u_X11_chanceOf_8 : az_W C R k_X11_chanceOf 8 (v0 :: v1 :: v2 :: v3 :: v4 :: v5 :: .int x :: ls) st h ↔ az_W C R k_X11_chanceOf 10 (v0 :: v1 :: v2 :: v3 :: v4 :: v5 :: .int x :: ls) (.int x :: st) h := ap_iload rfl rfl
theorem u_X11_chanceOf_10 : az_W C R k_X11_chanceOf 10 (v0 :: .int x :: ls) st h ↔ az_W C R k_X11_chanceOf 11 (v0 :: .int x :: ls) (.int x :: st) h := ap_iload rfl rfl
theorem u_X11_chanceOf_11 : az_W C R k_X11_chanceOf 11 ls (.int y :: .int x :: st) h ↔ if x < y then az_W C R k_X11_chanceOf 41 ls st h else az_W C R k_X11_chanceOf 14 ls st h := ap_iclt rfl
theorem u_X11_chanceOf_14 : az_W C R k_X11_chanceOf 14 (v0 :: v1 :: .long p :: ls) st h ↔ az_W C R k_X11_chanceOf 15 (v0 :: v1 :: .long p :: ls) (.long p :: st) h := ap_lload rfl rfl
theorem u_X11_chanceOf_15 : az_W C R k_X11_chanceOf 15 (v0 :: v1 :: v2 :: v3 :: .long p :: ls) st h ↔ az_W C R k_X11_chanceOf 17 (v0 :: v1 :: v2 :: v3 :: .long p :: ls) (.long p :: st) h := ap_lload rfl rfl
theorem u_X11_chanceOf_17 : az_W C R k_X11_chanceOf 17 ls (.long q :: .long p :: st) h ↔ az_W C R k_X11_chanceOf 18 ls (.long (p + q) :: st) h := ap_ll (f := fun p q => p + q) rfl
theorem u_X11_chanceOf_18 : az_W C R k_X11_chanceOf 18 (v0 :: v1 :: v2 :: v3 :: ls) (.long p :: st) h ↔ az_W C R k_X11_chanceOf 19 (v0 :: az_un v1 :: .long p :: .null :: ls) st h := ap_lstore rfl rfl
theorem u_X11_chanceOf_19 : az_W C R k_X11_chanceOf 19 (v0 :: v1 :: v2 :: v3 :: .long p :: ls) st h ↔ az_W C R k_X11_chanceOf 21 (v0 :: v1 :: v2 :: v3 :: .long p :: ls) (.long p :: st) h := ap_lload rfl rfl
theorem u_X11_chanceOf_21 : az_W C R k_X11_chanceOf 21 (v0 :: v1 :: v2 :: v3 :: v4 :: v5 :: .int x :: ls) st h ↔ az_W C R k_X11_chanceOf 23 (v0 :: v1 :: v2 :: v3 :: v4 :: v5 :: .int x :: ls) (.int x :: st) h := ap_iload rfl rfl
theorem u_X11_chanceOf_23 : az_W C R k_X11_chanceOf 23 ls (.int x :: st) h ↔ az_W C R k_X11_chanceOf 24 ls (.long x.toInt64 :: st) h := ap_i2l rfl
theorem u_X11_chanceOf_24 : az_W C R k_X11_chanceOf 24 ls (.long q :: .long p :: st) h ↔ az_W C R k_X11_chanceOf 25 ls (.long (p * q) :: st) h := ap_ll (f := fun p q => p * q) rfl
theorem u_X11_chanceOf_25 : az_W C R k_X11_chanceOf 25 (.int x :: ls) st h ↔ az_W C R k_X11_chanceOf 26 (.int x :: ls) (.int x :: st) h := ap_iload rfl rfl
theorem u_X11_chanceOf_26 : az_W C R k_X11_chanceOf 26 (v0 :: v1 :: v2 :: v3 :: v4 :: v5 :: .int x :: ls) st h ↔ az_W C R k_X11_chanceOf 28 (v0 :: v1 :: v2 :: v3 :: v4 :: v5 :: .int x :: ls) (.int x :: st) h := ap_iload rfl rfl
theorem u_X11_chanceOf_28 : az_W C R k_X11_chanceOf 28 ls (.int y :: .int x :: st) h ↔ az_W C R k_X11_chanceOf 29 ls (.int (x - y) :: st) h := ap_ii (f := fun x y => x - y) rfl
theorem u_X11_chanceOf_29 : az_W C R k_X11_chanceOf 29 ls st h ↔ az_W C R k_X11_chanceOf 30 ls (.int 1 :: st) h := ap_const rfl
theorem u_X11_chanceOf_30 : az_W C R k_X11_chanceOf 30 ls (.int y :: .int x :: st) h ↔ az_W C R k_X11_chanceOf 31 ls (.int (x + y) :: st) h := ap_ii (f := fun x y => x + y) rfl
theorem u_X11_chanceOf_31 : az_W C R k_X11_chanceOf 31 ls (.int x :: st) h ↔ az_W C R k_X11_chanceOf 32 ls (.long x.toInt64 :: st) h := ap_i2l rfl
theorem u_X11_chanceOf_32 : az_W C R k_X11_chanceOf 32 ls (.long q :: .long p :: st) h ↔ (¬ q = 0 ∧ az_W C R k_X11_chanceOf 33 ls (.long (p / q) :: st) h) := ap_ldiv rfl
theorem u_X11_chanceOf_33 : az_W C R k_X11_chanceOf 33 (v0 :: v1 :: v2 :: v3 :: v4 :: v5 :: ls) (.long p :: st) h ↔ az_W C R k_X11_chanceOf 35 (v0 :: v1 :: v2 :: az_un v3 :: .long p :: .null :: ls) st h := ap_lstore rfl rfl
theorem u_X11_chanceOf_35 : az_W C R k_X11_chanceOf 35 (v0 :: v1 :: v2 :: v3 :: v4 :: v5 :: .int x :: ls) st h ↔ az_W C R k_X11_chanceOf 38 (v0 :: v1 :: v2 :: v3 :: v4 :: az_un v5 :: .int (x + (-1)) :: ls) st h := ap_iinc rfl rfl rfl
theorem u_X11_chanceOf_38 : az_W C R k_X11_chanceOf 38 ls st h ↔ az_W C R k_X11_chanceOf 8 ls st h := ap_goto rfl
theorem u_X11_chanceOf_41 : az_W C R k_X11_chanceOf 41 ls st h ↔ az_W C R k_X11_chanceOf 44 ls (.long 1000 :: st) h := ap_const rfl
theorem u_X11_chanceOf_44 : az_W C R k_X11_chanceOf 44 (v0 :: v1 :: .long p :: ls) st h ↔ az_W C R k_X11_chanceOf 45 (v0 :: v1 :: .long p :: ls) (.long p :: st) h := ap_lload rfl rfl
theorem u_X11_chanceOf_45 : az_W C R k_X11_chanceOf 45 ls (.long q :: .long p :: st) h ↔ az_W C R k_X11_chanceOf 46 ls (.long (p * q) :: st) h := ap_ll (f := fun p q => p * q) rfl
theorem u_X11_chanceOf_46 : az_W C R k_X11_chanceOf 46 ls st h ↔ az_W C R k_X11_chanceOf 47 ls (.long 1 :: st) h := ap_const rfl
theorem u_X11_chanceOf_47 : az_W C R k_X11_chanceOf 47 (.int x :: ls) st h ↔ az_W C R k_X11_chanceOf 48 (.int x :: ls) (.int x :: st) h := ap_iload rfl rfl
theorem u_X11_chanceOf_48 : az_W C R k_X11_chanceOf 48 ls (.int y :: .long p :: st) h ↔ az_W C R k_X11_chanceOf 49 ls (.long (p <<< (y.toInt64 &&& 63)) :: st) h := ap_li (f := fun p y => p <<< (y.toInt64 &&& 63)) rfl
theorem u_X11_chanceOf_49 : az_W C R k_X11_chanceOf 49 ls (.long q :: .long p :: st) h ↔ (¬ q = 0 ∧ az_W C R k_X11_chanceOf 50 ls (.long (p / q) :: st) h) := ap_ldiv rfl
theorem u_X11_chanceOf_50 : az_W C R k_X11_chanceOf 50 ls (.long p :: st) h ↔ az_W C R k_X11_chanceOf 51 ls (.int p.toInt32 :: st) h := ap_l2i rfl
theorem u_X11_chanceOf_51 : az_W C R k_X11_chanceOf 51 ls [.int x] h ↔ R (some (.int x)) h := ap_iret rfl
end
