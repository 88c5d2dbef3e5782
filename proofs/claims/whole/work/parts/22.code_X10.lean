section
variable {C : az_C} {R : az_R} {ls st : List Value} {h : az_H} {n : Nat} {P : Nat → Nat → Option Nat} {I : Nat → Nat → Int32} {L : Nat → Nat → Int64}
variable {v0 v1 v2 v3 v4 v5 v6 v7 v8 v9 v10 v11 v12 : Value} {x y z : Int32} {p q : Int64} {a b : Nat} {M : Nat} {xs : Nat → Int32}
def k_X10_lean : Nat → az_P := (az_br 69 (az_br 31 (az_br 17 (az_br 8 (az_br 4 (az_br 1 (az_lf 0 (az_iload 1 1)) (az_lf 1 (az_ivs 131 1 4))) (az_br 7 (az_lf 4 (az_ifeq 16 7)) (az_lf 7 (az_iload 2 8)))) (az_br 10 (az_br 9 (az_lf 8 (az_const (.int 0) 9)) (az_lf 9 (az_const (.int 3) 10))) (az_br 13 (az_lf 10 (az_ivs 129 3 13)) (az_br 16 (az_lf 13 (az_ifne 18 16)) (az_lf 16 (az_const (.int (-1)) 17)))))) (az_br 23 (az_br 19 (az_br 18 (az_lf 17 (az_iret)) (az_lf 18 (az_const (.int 0) 19))) (az_br 20 (az_lf 19 (az_istore 3 20)) (az_br 21 (az_lf 20 (az_const (.int 0) 21)) (az_lf 21 (az_istore 4 23))))) (az_br 26 (az_br 24 (az_lf 23 (az_const (.int 0) 24)) (az_lf 24 (az_istore 5 26))) (az_br 27 (az_lf 26 (az_const (.int 0) 27)) (az_br 29 (az_lf 27 (az_istore 6 29)) (az_lf 29 (az_iload 6 31))))))) (az_br 49 (az_br 38 (az_br 36 (az_br 33 (az_lf 31 (az_const (.int 30) 33)) (az_lf 33 (az_icge 119 36))) (az_br 37 (az_lf 36 (az_aload 0 37)) (az_lf 37 (az_iload 1 38)))) (az_br 43 (az_br 40 (az_lf 38 (az_iload 6 40)) (az_lf 40 (az_ivv 136 2 10 43))) (az_br 45 (az_lf 43 (az_istore 7 45)) (az_br 46 (az_lf 45 (az_aload 0 46)) (az_lf 46 (az_getP 10 3 49)))))) (az_br 58 (az_br 52 (az_br 50 (az_lf 49 (az_iload 1 50)) (az_lf 50 (az_iload 6 52))) (az_br 55 (az_lf 52 (az_ivv 9 2 0 55)) (az_br 57 (az_lf 55 (az_istore 8 57)) (az_lf 57 (az_iload 3 58))))) (az_br 63 (az_br 60 (az_lf 58 (az_iload 7 60)) (az_lf 60 (az_ifeq 72 63))) (az_br 65 (az_lf 63 (az_iload 8 65)) (az_br 68 (az_lf 65 (az_ifeq 72 68)) (az_lf 68 (az_const (.int 1) 69)))))))) (az_br 105 (az_br 85 (az_br 75 (az_br 73 (az_br 72 (az_lf 69 (az_goto 73)) (az_lf 72 (az_const (.int 0) 73))) (az_br 74 (az_lf 73 (az_ii (fun x y => x + y) 74)) (az_lf 74 (az_istore 3 75)))) (az_br 79 (az_br 77 (az_lf 75 (az_iload 4 77)) (az_lf 77 (az_iload 7 79))) (az_br 81 (az_lf 79 (az_iload 8 81)) (az_br 82 (az_lf 81 (az_ii (fun x y => x * y) 82)) (az_lf 82 (az_ifle 89 85)))))) (az_br 93 (az_br 89 (az_br 86 (az_lf 85 (az_const (.int 1) 86)) (az_lf 86 (az_goto 90))) (az_br 90 (az_lf 89 (az_const (.int 0) 90)) (az_br 91 (az_lf 90 (az_ii (fun x y => x + y) 91)) (az_lf 91 (az_istore 4 93))))) (az_br 97 (az_br 95 (az_lf 93 (az_iload 5 95)) (az_lf 95 (az_iload 7 97))) (az_br 100 (az_lf 97 (az_ifge 109 100)) (az_br 102 (az_lf 100 (az_iload 8 102)) (az_lf 102 (az_iflt 109 105))))))) (az_br 148 (az_br 111 (az_br 109 (az_br 106 (az_lf 105 (az_const (.int 1) 106)) (az_lf 106 (az_goto 110))) (az_br 110 (az_lf 109 (az_const (.int 0) 110)) (az_lf 110 (az_ii (fun x y => x + y) 111)))) (az_br 116 (az_br 113 (az_lf 111 (az_istore 5 113)) (az_lf 113 (az_iinc 6 1 116))) (az_br 119 (az_lf 116 (az_goto 29)) (az_br 120 (az_lf 119 (az_iload 2 120)) (az_lf 120 (az_switch [(0, 148), (1, 150), (2, 153)] 160)))))) (az_br 154 (az_br 150 (az_br 149 (az_lf 148 (az_iload 3 149)) (az_lf 149 (az_iret))) (az_br 152 (az_lf 150 (az_iload 4 152)) (az_br 153 (az_lf 152 (az_iret)) (az_lf 153 (az_iload 3 154))))) (az_br 159 (az_br 156 (az_lf 154 (az_iload 4 156)) (az_lf 156 (az_ivs 138 2 159))) (az_br 160 (az_lf 159 (az_iret)) (az_br 162 (az_lf 160 (az_iload 5 162)) (az_lf 162 (az_iret)))))))))
theorem u_X10_lean_0 : az_W C R k_X10_lean 0 (v0 :: .int x :: ls) st h ↔ az_W C R k_X10_lean 1 (v0 :: .int x :: ls) (.int x :: st) h := ap_iload rfl rfl
theorem u_X10_lean_1 (hl : st.length ≤ 4) : az_W C R k_X10_lean 1 ls (v1 :: st) h ↔ az_F C R (az_W C R k_X10_lean) h (az_cl 131 [v1] 4 ls st) := ap_ivs rfl rfl hl
theorem u_X10_lean_4 : az_W C R k_X10_lean 4 ls (.int x :: st) h ↔ if x = 0 then az_W C R k_X10_lean 16 ls st h else az_W C R k_X10_lean 7 ls st h := ap_ifeq rfl
theorem u_X10_lean_7 : az_W C R k_X10_lean 7 (v0 :: v1 :: .int x :: ls) st h ↔ az_W C R k_X10_lean 8 (v0 :: v1 :: .int x :: ls) (.int x :: st) h := ap_iload rfl rfl
theorem u_X10_lean_8 : az_W C R k_X10_lean 8 ls st h ↔ az_W C R k_X10_lean 9 ls (.int 0 :: st) h := ap_const rfl
theorem u_X10_lean_9 : az_W C R k_X10_lean 9 ls st h ↔ az_W C R k_X10_lean 10 ls (.int 3 :: st) h := ap_const rfl
theorem u_X10_lean_10 (hl : st.length ≤ 4) : az_W C R k_X10_lean 10 ls (v3 :: v2 :: v1 :: st) h ↔ az_F C R (az_W C R k_X10_lean) h (az_cl 129 [v1, v2, v3] 13 ls st) := ap_ivs rfl rfl hl
theorem u_X10_lean_13 : az_W C R k_X10_lean 13 ls (.int x :: st) h ↔ if x = 0 then az_W C R k_X10_lean 16 ls st h else az_W C R k_X10_lean 18 ls st h := ap_ifne rfl
theorem u_X10_lean_16 : az_W C R k_X10_lean 16 ls st h ↔ az_W C R k_X10_lean 17 ls (.int (-1) :: st) h := ap_const rfl
theorem u_X10_lean_17 : az_W C R k_X10_lean 17 ls [.int x] h ↔ R (some (.int x)) h := ap_iret rfl
theorem u_X10_lean_18 : az_W C R k_X10_lean 18 ls st h ↔ az_W C R k_X10_lean 19 ls (.int 0 :: st) h := ap_const rfl
theorem u_X10_lean_19 : az_W C R k_X10_lean 19 (v0 :: v1 :: v2 :: v3 :: ls) (.int x :: st) h ↔ az_W C R k_X10_lean 20 (v0 :: v1 :: az_un v2 :: .int x :: ls) st h := ap_istore rfl rfl
theorem u_X10_lean_20 : az_W C R k_X10_lean 20 ls st h ↔ az_W C R k_X10_lean 21 ls (.int 0 :: st) h := ap_const rfl
theorem u_X10_lean_21 : az_W C R k_X10_lean 21 (v0 :: v1 :: v2 :: v3 :: v4 :: ls) (.int x :: st) h ↔ az_W C R k_X10_lean 23 (v0 :: v1 :: v2 :: az_un v3 :: .int x :: ls) st h := ap_istore rfl rfl
theorem u_X10_lean_23 : az_W C R k_X10_lean 23 ls st h ↔ az_W C R k_X10_lean 24 ls (.int 0 :: st) h := ap_const rfl
theorem u_X10_lean_24 : az_W C R k_X10_lean 24 (v0 :: v1 :: v2 :: v3 :: v4 :: v5 :: ls) (.int x :: st) h ↔ az_W C R k_X10_lean 26 (v0 :: v1 :: v2 :: v3 :: az_un v4 :: .int x :: ls) st h := ap_istore rfl rfl
theorem u_X10_lean_26 : az_W C R k_X10_lean 26 ls st h ↔ az_W C R k_X10_lean 27 ls (.int 0 :: st) h := ap_const rfl
theorem u_X10_lean_27 : az_W C R k_X10_lean 27 (v0 :: v1 :: v2 :: v3 :: v4 :: v5 :: v6 :: ls) (.int x :: st) h ↔ az_W C R k_X10_lean 29 (v0 :: v1 :: v2 :: v3 :: v4 :: az_un v5 :: .int x :: ls) st h := ap_istore rfl rfl
theorem u_X10_lean_29 : az_W C R k_X10_lean 29 (v0 :: v1 :: v2 :: v3 :: v4 :: v5 :: .int x :: ls) st h ↔ az_W C R k_X10_lean 31 (v0 :: v1 :: v2 :: v3 :: v4 :: v5 :: .int x :: ls) (.int x :: st) h := ap_iload rfl rfl
theorem u_X10_lean_31 : az_W C R k_X10_lean 31 ls st h ↔ az_W C R k_X10_lean 33 ls (.int 30 :: st) h := ap_const rfl
theorem u_X10_lean_33 : az_W C R k_X10_lean 33 ls (.int y :: .int x :: st) h ↔ if y ≤ x then az_W C R k_X10_lean 119 ls st h else az_W C R k_X10_lean 36 ls st h := ap_icge rfl
theorem u_X10_lean_36 : az_W C R k_X10_lean 36 (.ref a :: ls) st h ↔ az_W C R k_X10_lean 37 (.ref a :: ls) (.ref a :: st) h := ap_aload rfl rfl
theorem u_X10_lean_37 : az_W C R k_X10_lean 37 (v0 :: .int x :: ls) st h ↔ az_W C R k_X10_lean 38 (v0 :: .int x :: ls) (.int x :: st) h := ap_iload rfl rfl
theorem u_X10_lean_38 : az_W C R k_X10_lean 38 (v0 :: v1 :: v2 :: v3 :: v4 :: v5 :: .int x :: ls) st h ↔ az_W C R k_X10_lean 40 (v0 :: v1 :: v2 :: v3 :: v4 :: v5 :: .int x :: ls) (.int x :: st) h := ap_iload rfl rfl
theorem u_X10_lean_40 (hl : st.length ≤ 4) : az_W C R k_X10_lean 40 ls (v2 :: v1 :: .ref 0 :: st) (130, P, I, L) ↔ az_F C R (az_W C R k_X10_lean) (130, P, I, L) (az_cl 136 [.ref 0, v1, v2] 43 ls st) := ap_ivv rfl rfl kn_0 hl
theorem u_X10_lean_43 : az_W C R k_X10_lean 43 (v0 :: v1 :: v2 :: v3 :: v4 :: v5 :: v6 :: v7 :: ls) (.int x :: st) h ↔ az_W C R k_X10_lean 45 (v0 :: v1 :: v2 :: v3 :: v4 :: v5 :: az_un v6 :: .int x :: ls) st h := ap_istore rfl rfl
theorem u_X10_lean_45 : az_W C R k_X10_lean 45 (.ref a :: ls) st h ↔ az_W C R k_X10_lean 46 (.ref a :: ls) (.ref a :: st) h := ap_aload rfl rfl
theorem u_X10_lean_46 : az_W C R k_X10_lean 46 ls (.ref 0 :: st) (130, az_Pf, I, L) ↔ az_W C R k_X10_lean 49 ls (.ref 49 :: st) (130, az_Pf, I, L) := ap_getP rfl kn_0 pf_0_3
theorem u_X10_lean_49 : az_W C R k_X10_lean 49 (v0 :: .int x :: ls) st h ↔ az_W C R k_X10_lean 50 (v0 :: .int x :: ls) (.int x :: st) h := ap_iload rfl rfl
theorem u_X10_lean_50 : az_W C R k_X10_lean 50 (v0 :: v1 :: v2 :: v3 :: v4 :: v5 :: .int x :: ls) st h ↔ az_W C R k_X10_lean 52 (v0 :: v1 :: v2 :: v3 :: v4 :: v5 :: .int x :: ls) (.int x :: st) h := ap_iload rfl rfl
theorem u_X10_lean_52 (hl : st.length ≤ 4) : az_W C R k_X10_lean 52 ls (v2 :: v1 :: .ref 49 :: st) (130, P, I, L) ↔ az_F C R (az_W C R k_X10_lean) (130, P, I, L) (az_cl 9 [.ref 49, v1, v2] 55 ls st) := ap_ivv rfl rfl kn_49 hl
theorem u_X10_lean_55 : az_W C R k_X10_lean 55 (v0 :: v1 :: v2 :: v3 :: v4 :: v5 :: v6 :: v7 :: v8 :: ls) (.int x :: st) h ↔ az_W C R k_X10_lean 57 (v0 :: v1 :: v2 :: v3 :: v4 :: v5 :: v6 :: az_un v7 :: .int x :: ls) st h := ap_istore rfl rfl
theorem u_X10_lean_57 : az_W C R k_X10_lean 57 (v0 :: v1 :: v2 :: .int x :: ls) st h ↔ az_W C R k_X10_lean 58 (v0 :: v1 :: v2 :: .int x :: ls) (.int x :: st) h := ap_iload rfl rfl
theorem u_X10_lean_58 : az_W C R k_X10_lean 58 (v0 :: v1 :: v2 :: v3 :: v4 :: v5 :: v6 :: .int x :: ls) st h ↔ az_W C R k_X10_lean 60 (v0 :: v1 :: v2 :: v3 :: v4 :: v5 :: v6 :: .int x :: ls) (.int x :: st) h := ap_iload rfl rfl
theorem u_X10_lean_60 : az_W C R k_X10_lean 60 ls (.int x :: st) h ↔ if x = 0 then az_W C R k_X10_lean 72 ls st h else az_W C R k_X10_lean 63 ls st h := ap_ifeq rfl
theorem u_X10_lean_63 : az_W C R k_X10_lean 63 (v0 :: v1 :: v2 :: v3 :: v4 :: v5 :: v6 :: v7 :: .int x :: ls) st h ↔ az_W C R k_X10_lean 65 (v0 :: v1 :: v2 :: v3 :: v4 :: v5 :: v6 :: v7 :: .int x :: ls) (.int x :: st) h := ap_iload rfl rfl
theorem u_X10_lean_65 : az_W C R k_X10_lean 65 ls (.int x :: st) h ↔ if x = 0 then az_W C R k_X10_lean 72 ls st h else az_W C R k_X10_lean 68 ls st h := ap_ifeq rfl
theorem u_X10_lean_68 : az_W C R k_X10_lean 68 ls st h ↔ az_W C R k_X10_lean 69 ls (.int 1 :: st) h := ap_const rfl
theorem u_X10_lean_69 : az_W C R k_X10_lean 69 ls st h ↔ az_W C R k_X10_lean 73 ls st h := ap_goto rfl
theorem u_X10_lean_72 : az_W C R k_X10_lean 72 ls st h ↔ az_W C R k_X10_lean 73 ls (.int 0 :: st) h := ap_const rfl
theorem u_X10_lean_73 : az_W C R k_X10_lean 73 ls (.int y :: .int x :: st) h ↔ az_W C R k_X10_lean 74 ls (.int (x + y) :: st) h := ap_ii (f := fun x y => x + y) rfl
theorem u_X10_lean_74 : az_W C R k_X10_lean 74 (v0 :: v1 :: v2 :: v3 :: ls) (.int x :: st) h ↔ az_W C R k_X10_lean 75 (v0 :: v1 :: az_un v2 :: .int x :: ls) st h := ap_istore rfl rfl
theorem u_X10_lean_75 : az_W C R k_X10_lean 75 (v0 :: v1 :: v2 :: v3 :: .int x :: ls) st h ↔ az_W C R k_X10_lean 77 (v0 :: v1 :: v2 :: v3 :: .int x :: ls) (.int x :: st) h := ap_iload rfl rfl
theorem u_X10_lean_77 : az_W C R k_X10_lean 77 (v0 :: v1 :: v2 :: v3 :: v4 :: v5 :: v6 :: .int x :: ls) st h ↔ az_W C R k_X10_lean 79 (v0 :: v1 :: v2 :: v3 :: v4 :: v5 :: v6 :: .int x :: ls) (.int x :: st) h := ap_iload rfl rfl
theorem u_X10_lean_79 : az_W C R k_X10_lean 79 (v0 :: v1 :: v2 :: v3 :: v4 :: v5 :: v6 :: v7 :: .int x :: ls) st h ↔ az_W C R k_X10_lean 81 (v0 :: v1 :: v2 :: v3 :: v4 :: v5 :: v6 :: v7 :: .int x :: ls) (.int x :: st) h := ap_iload rfl rfl
theorem u_X10_lean_81 : az_W C R k_X10_lean 81 ls (.int y :: .int x :: st) h ↔ az_W C R k_X10_lean 82 ls (.int (x * y) :: st) h := ap_ii (f := fun x y => x * y) rfl
theorem u_X10_lean_82 : az_W C R k_X10_lean 82 ls (.int x :: st) h ↔ if x ≤ 0 then az_W C R k_X10_lean 89 ls st h else az_W C R k_X10_lean 85 ls st h := ap_ifle rfl
theorem u_X10_lean_85 : az_W C R k_X10_lean 85 ls st h ↔ az_W C R k_X10_lean 86 ls (.int 1 :: st) h := ap_const rfl
theorem u_X10_lean_86 : az_W C R k_X10_lean 86 ls st h ↔ az_W C R k_X10_lean 90 ls st h := ap_goto rfl
theorem u_X10_lean_89 : az_W C R k_X10_lean 89 ls st h ↔ az_W C R k_X10_lean 90 ls (.int 0 :: st) h := ap_const rfl
theorem u_X10_lean_90 : az_W C R k_X10_lean 90 ls (.int y :: .int x :: st) h ↔ az_W C R k_X10_lean 91 ls (.int (x + y) :: st) h := ap_ii (f := fun x y => x + y) rfl
theorem u_X10_lean_91 : az_W C R k_X10_lean 91 (v0 :: v1 :: v2 :: v3 :: v4 :: ls) (.int x :: st) h ↔ az_W C R k_X10_lean 93 (v0 :: v1 :: v2 :: az_un v3 :: .int x :: ls) st h := ap_istore rfl rfl
theorem u_X10_lean_93 : az_W C R k_X10_lean 93 (v0 :: v1 :: v2 :: v3 :: v4 :: .int x :: ls) st h ↔ az_W C R k_X10_lean 95 (v0 :: v1 :: v2 :: v3 :: v4 :: .int x :: ls) (.int x :: st) h := ap_iload rfl rfl
theorem u_X10_lean_95 : az_W C R k_X10_lean 95 (v0 :: v1 :: v2 :: v3 :: v4 :: v5 :: v6 :: .int x :: ls) st h ↔ az_W C R k_X10_lean 97 (v0 :: v1 :: v2 :: v3 :: v4 :: v5 :: v6 :: .int x :: ls) (.int x :: st) h := ap_iload rfl rfl
theorem u_X10_lean_97 : az_W C R k_X10_lean 97 ls (.int x :: st) h ↔ if 0 ≤ x then az_W C R k_X10_lean 109 ls st h else az_W C R k_X10_lean 100 ls st h := ap_ifge rfl
theorem u_X10_lean_100 : az_W C R k_X10_lean 100 (v0 :: v1 :: v2 :: v3 :: v4 :: v5 :: v6 :: v7 :: .int x :: ls) st h ↔ az_W C R k_X10_lean 102 (v0 :: v1 :: v2 :: v3 :: v4 :: v5 :: v6 :: v7 :: .int x :: ls) (.int x :: st) h := ap_iload rfl rfl
theorem u_X10_lean_102 : az_W C R k_X10_lean 102 ls (.int x :: st) h ↔ if x < 0 then az_W C R k_X10_lean 109 ls st h else az_W C R k_X10_lean 105 ls st h := ap_iflt rfl
theorem u_X10_lean_105 : az_W C R k_X10_lean 105 ls st h ↔ az_W C R k_X10_lean 106 ls (.int 1 :: st) h := ap_const rfl
theorem u_X10_lean_106 : az_W C R k_X10_lean 106 ls st h ↔ az_W C R k_X10_lean 110 ls st h := ap_goto rfl
theorem u_X10_lean_109 : az_W C R k_X10_lean 109 ls st h ↔ az_W C R k_X10_lean 110 ls (.int 0 :: st) h := ap_const rfl
theorem u_X10_lean_110 : az_W C R k_X10_lean 110 ls (.int y :: .int x :: st) h ↔ az_W C R k_X10_lean 111 ls (.int (x + y) :: st) h := ap_ii (f := fun x y => x + y) rfl
theorem u_X10_lean_111 : az_W C R k_X10_lean 111 (v0 :: v1 :: v2 :: v3 :: v4 :: v5 :: ls) (.int x :: st) h ↔ az_W C R k_X10_lean 113 (v0 :: v1 :: v2 :: v3 :: az_un v4 :: .int x :: ls) st h := ap_istore rfl rfl
theorem u_X10_lean_113 : az_W C R k_X10_lean 113 (v0 :: v1 :: v2 :: v3 :: v4 :: v5 :: .int x :: ls) st h ↔ az_W C R k_X10_lean 116 (v0 :: v1 :: v2 :: v3 :: v4 :: az_un v5 :: .int (x + 1) :: ls) st h := ap_iinc rfl rfl rfl
theorem u_X10_lean_116 : az_W C R k_X10_lean 116 ls st h ↔ az_W C R k_X10_lean 29 ls st h := ap_goto rfl
theorem u_X10_lean_119 : az_W C R k_X10_lean 119 (v0 :: v1 :: .int x :: ls) st h ↔ az_W C R k_X10_lean 120 (v0 :: v1 :: .int x :: ls) (.int x :: st) h := ap_iload rfl rfl
theorem u_X10_lean_120 : az_W C R k_X10_lean 120 ls (.int x :: st) h ↔ az_W C R k_X10_lean (az_pick x 160 [(0, 148), (1, 150), (2, 153)]) ls st h := ap_switch rfl
theorem u_X10_lean_148 : az_W C R k_X10_lean 148 (v0 :: v1 :: v2 :: .int x :: ls) st h ↔ az_W C R k_X10_lean 149 (v0 :: v1 :: v2 :: .int x :: ls) (.int x :: st) h := ap_iload rfl rfl
theorem u_X10_lean_149 : az_W C R k_X10_lean 149 ls [.int x] h ↔ R (some (.int x)) h := ap_iret rfl
theorem u_X10_lean_150 : az_W C R k_X10_lean 150 (v0 :: v1 :: v2 :: v3 :: .int x :: ls) st h ↔ az_W C R k_X10_lean 152 (v0 :: v1 :: v2 :: v3 :: .int x :: ls) (.int x :: st) h := ap_iload rfl rfl
theorem u_X10_lean_152 : az_W C R k_X10_lean 152 ls [.int x] h ↔ R (some (.int x)) h := ap_iret rfl
theorem u_X10_lean_153 : az_W C R k_X10_lean 153 (v0 :: v1 :: v2 :: .int x :: ls) st h ↔ az_W C R k_X10_lean 154 (v0 :: v1 :: v2 :: .int x :: ls) (.int x :: st) h := ap_iload rfl rfl
theorem u_X10_lean_154 : az_W C R k_X10_lean 154 (v0 :: v1 :: v2 :: v3 :: .int x :: ls) st h ↔ az_W C R k_X10_lean 156 (v0 :: v1 :: v2 :: v3 :: .int x :: ls) (.int x :: st) h := ap_iload rfl rfl
theorem u_X10_lean_156 (hl : st.length ≤ 4) : az_W C R k_X10_lean 156 ls (v2 :: v1 :: st) h ↔ az_F C R (az_W C R k_X10_lean) h (az_cl 138 [v1, v2] 159 ls st) := ap_ivs rfl rfl hl
theorem u_X10_lean_159 : az_W C R k_X10_lean 159 ls [.int x] h ↔ R (some (.int x)) h := ap_iret rfl
theorem u_X10_lean_160 : az_W C R k_X10_lean 160 (v0 :: v1 :: v2 :: v3 :: v4 :: .int x :: ls) st h ↔ az_W C R k_X10_lean 162 (v0 :: v1 :: v2 :: v3 :: v4 :: .int x :: ls) (.int x :: st) h := ap_iload rfl rfl
theorem u_X10_lean_162 : az_W C R k_X10_lean 162 ls [.int x] h ↔ R (some (.int x)) h := ap_iret rfl
def k_X10_run : Nat → az_P := (az_br 18 (az_br 8 (az_br 4 (az_br 1 (az_lf 0 (az_iload 1 1)) (az_lf 1 (az_ivs 132 1 4))) (az_br 7 (az_lf 4 (az_ifeq 18 7)) (az_lf 7 (az_iload 2 8)))) (az_br 12 (az_br 9 (az_lf 8 (az_const (.int 0) 9)) (az_lf 9 (az_const (.int 999) 12))) (az_br 15 (az_lf 12 (az_ivs 129 3 15)) (az_lf 15 (az_ifne 20 18))))) (az_br 24 (az_br 20 (az_br 19 (az_lf 18 (az_const (.int (-1)) 19)) (az_lf 19 (az_iret))) (az_br 21 (az_lf 20 (az_aload 0 21)) (az_lf 21 (az_getP 10 5 24)))) (az_br 26 (az_br 25 (az_lf 24 (az_iload 1 25)) (az_lf 25 (az_iload 2 26))) (az_br 29 (az_lf 26 (az_ivv 71 2 7 29)) (az_lf 29 (az_iret))))))
theorem u_X10_run_0 : az_W C R k_X10_run 0 (v0 :: .int x :: ls) st h ↔ az_W C R k_X10_run 1 (v0 :: .int x :: ls) (.int x :: st) h := ap_iload rfl rfl
theorem u_X10_run_1 (hl : st.length ≤ 4) : az_W C R k_X10_run 1 ls (v1 :: st) h ↔ az_F C R (az_W C R k_X10_run) h (az_cl 132 [v1] 4 ls st) := ap_ivs rfl rfl hl
theorem u_X10_run_4 : az_W C R k_X10_run 4 ls (.int x :: st) h ↔ if x = 0 then az_W C R k_X10_run 18 ls st h else az_W C R k_X10_run 7 ls st h := ap_ifeq rfl
theorem u_X10_run_7 : az_W C R k_X10_run 7 (v0 :: v1 :: .int x :: ls) st h ↔ az_W C R k_X10_run 8 (v0 :: v1 :: .int x :: ls) (.int x :: st) h := ap_iload rfl rfl
theorem u_X10_run_8 : az_W C R k_X10_run 8 ls st h ↔ az_W C R k_X10_run 9 ls (.int 0 :: st) h := ap_const rfl
theorem u_X10_run_9 : az_W C R k_X10_run 9 ls st h ↔ az_W C R k_X10_run 12 ls (.int 999 :: st) h := ap_const rfl
theorem u_X10_run_12 (hl : st.length ≤ 4) : az_W C R k_X10_run 12 ls (v3 :: v2 :: v1 :: st) h ↔ az_F C R (az_W C R k_X10_run) h (az_cl 129 [v1, v2, v3] 15 ls st) := ap_ivs rfl rfl hl
theorem u_X10_run_15 : az_W C R k_X10_run 15 ls (.int x :: st) h ↔ if x = 0 then az_W C R k_X10_run 18 ls st h else az_W C R k_X10_run 20 ls st h := ap_ifne rfl
theorem u_X10_run_18 : az_W C R k_X10_run 18 ls st h ↔ az_W C R k_X10_run 19 ls (.int (-1) :: st) h := ap_const rfl
theorem u_X10_run_19 : az_W C R k_X10_run 19 ls [.int x] h ↔ R (some (.int x)) h := ap_iret rfl
theorem u_X10_run_20 : az_W C R k_X10_run 20 (.ref a :: ls) st h ↔ az_W C R k_X10_run 21 (.ref a :: ls) (.ref a :: st) h := ap_aload rfl rfl
theorem u_X10_run_21 : az_W C R k_X10_run 21 ls (.ref 0 :: st) (130, az_Pf, I, L) ↔ az_W C R k_X10_run 24 ls (.ref 60 :: st) (130, az_Pf, I, L) := ap_getP rfl kn_0 pf_0_5
theorem u_X10_run_24 : az_W C R k_X10_run 24 (v0 :: .int x :: ls) st h ↔ az_W C R k_X10_run 25 (v0 :: .int x :: ls) (.int x :: st) h := ap_iload rfl rfl
theorem u_X10_run_25 : az_W C R k_X10_run 25 (v0 :: v1 :: .int x :: ls) st h ↔ az_W C R k_X10_run 26 (v0 :: v1 :: .int x :: ls) (.int x :: st) h := ap_iload rfl rfl
theorem u_X10_run_26 (hl : st.length ≤ 4) : az_W C R k_X10_run 26 ls (v2 :: v1 :: .ref 60 :: st) (130, P, I, L) ↔ az_F C R (az_W C R k_X10_run) (130, P, I, L) (az_cl 71 [.ref 60, v1, v2] 29 ls st) := ap_ivv rfl rfl kn_60 hl
theorem u_X10_run_29 : az_W C R k_X10_run 29 ls [.int x] h ↔ R (some (.int x)) h := ap_iret rfl
def k_X10_untrue : Nat → az_P := (az_br 32 (az_br 14 (az_br 8 (az_br 4 (az_br 1 (az_lf 0 (az_aload 0 1)) (az_lf 1 (az_getP 10 5 4))) (az_br 5 (az_lf 4 (az_iload 1 5)) (az_lf 5 (az_ivv 68 1 7 8)))) (az_br 12 (az_br 11 (az_lf 8 (az_ifne 13 11)) (az_lf 11 (az_const (.int (-1)) 12))) (az_br 13 (az_lf 12 (az_iret)) (az_lf 13 (az_aload 0 14))))) (az_br 22 (az_br 18 (az_br 17 (az_lf 14 (az_getP 10 4 17)) (az_lf 17 (az_aload 0 18))) (az_br 21 (az_lf 18 (az_getP 10 5 21)) (az_lf 21 (az_iload 1 22)))) (az_br 28 (az_br 25 (az_lf 22 (az_ivv 69 1 7 25)) (az_lf 25 (az_ivv 32 1 3 28))) (az_br 31 (az_lf 28 (az_ifne 33 31)) (az_lf 31 (az_const (.int 0) 32)))))) (az_br 48 (az_br 38 (az_br 34 (az_br 33 (az_lf 32 (az_iret)) (az_lf 33 (az_aload 0 34))) (az_br 37 (az_lf 34 (az_getP 10 5 37)) (az_lf 37 (az_iload 1 38)))) (az_br 42 (az_br 41 (az_lf 38 (az_ivv 70 1 7 41)) (az_lf 41 (az_aload 0 42))) (az_br 45 (az_lf 42 (az_getP 10 4 45)) (az_lf 45 (az_ivv 28 0 3 48))))) (az_br 58 (az_br 52 (az_br 49 (az_lf 48 (az_aload 0 49)) (az_lf 49 (az_getP 10 4 52))) (az_br 55 (az_lf 52 (az_ivv 29 0 3 55)) (az_lf 55 (az_ivs 129 3 58)))) (az_br 62 (az_br 61 (az_lf 58 (az_ifeq 65 61)) (az_lf 61 (az_const (.int 0) 62))) (az_br 65 (az_lf 62 (az_goto 66)) (az_br 66 (az_lf 65 (az_const (.int 1) 66)) (az_lf 66 (az_iret))))))))
theorem u_X10_untrue_0 : az_W C R k_X10_untrue 0 (.ref a :: ls) st h ↔ az_W C R k_X10_untrue 1 (.ref a :: ls) (.ref a :: st) h := ap_aload rfl rfl
theorem u_X10_untrue_1 : az_W C R k_X10_untrue 1 ls (.ref 0 :: st) (130, az_Pf, I, L) ↔ az_W C R k_X10_untrue 4 ls (.ref 60 :: st) (130, az_Pf, I, L) := ap_getP rfl kn_0 pf_0_5
theorem u_X10_untrue_4 : az_W C R k_X10_untrue 4 (v0 :: .int x :: ls) st h ↔ az_W C R k_X10_untrue 5 (v0 :: .int x :: ls) (.int x :: st) h := ap_iload rfl rfl
theorem u_X10_untrue_5 (hl : st.length ≤ 4) : az_W C R k_X10_untrue 5 ls (v1 :: .ref 60 :: st) (130, P, I, L) ↔ az_F C R (az_W C R k_X10_untrue) (130, P, I, L) (az_cl 68 [.ref 60, v1] 8 ls st) := ap_ivv rfl rfl kn_60 hl
theorem u_X10_untrue_8 : az_W C R k_X10_untrue 8 ls (.int x :: st) h ↔ if x = 0 then az_W C R k_X10_untrue 11 ls st h else az_W C R k_X10_untrue 13 ls st h := ap_ifne rfl
theorem u_X10_untrue_11 : az_W C R k_X10_untrue 11 ls st h ↔ az_W C R k_X10_untrue 12 ls (.int (-1) :: st) h := ap_const rfl
theorem u_X10_untrue_12 : az_W C R k_X10_untrue 12 ls [.int x] h ↔ R (some (.int x)) h := ap_iret rfl
theorem u_X10_untrue_13 : az_W C R k_X10_untrue 13 (.ref a :: ls) st h ↔ az_W C R k_X10_untrue 14 (.ref a :: ls) (.ref a :: st) h := ap_aload rfl rfl
theorem u_X10_untrue_14 : az_W C R k_X10_untrue 14 ls (.ref 0 :: st) (130, az_Pf, I, L) ↔ az_W C R k_X10_untrue 17 ls (.ref 56 :: st) (130, az_Pf, I, L) := ap_getP rfl kn_0 pf_0_4
theorem u_X10_untrue_17 : az_W C R k_X10_untrue 17 (.ref a :: ls) st h ↔ az_W C R k_X10_untrue 18 (.ref a :: ls) (.ref a :: st) h := ap_aload rfl rfl
theorem u_X10_untrue_18 : az_W C R k_X10_untrue 18 ls (.ref 0 :: st) (130, az_Pf, I, L) ↔ az_W C R k_X10_untrue 21 ls (.ref 60 :: st) (130, az_Pf, I, L) := ap_getP rfl kn_0 pf_0_5
theorem u_X10_untrue_21 : az_W C R k_X10_untrue 21 (v0 :: .int x :: ls) st h ↔ az_W C R k_X10_untrue 22 (v0 :: .int x :: ls) (.int x :: st) h := ap_iload rfl rfl
theorem u_X10_untrue_22 (hl : st.length ≤ 4) : az_W C R k_X10_untrue 22 ls (v1 :: .ref 60 :: st) (130, P, I, L) ↔ az_F C R (az_W C R k_X10_untrue) (130, P, I, L) (az_cl 69 [.ref 60, v1] 25 ls st) := ap_ivv rfl rfl kn_60 hl
theorem u_X10_untrue_25 (hl : st.length ≤ 4) : az_W C R k_X10_untrue 25 ls (v1 :: .ref 56 :: st) (130, P, I, L) ↔ az_F C R (az_W C R k_X10_untrue) (130, P, I, L) (az_cl 32 [.ref 56, v1] 28 ls st) := ap_ivv rfl rfl kn_56 hl
theorem u_X10_untrue_28 : az_W C R k_X10_untrue 28 ls (.int x :: st) h ↔ if x = 0 then az_W C R k_X10_untrue 31 ls st h else az_W C R k_X10_untrue 33 ls st h := ap_ifne rfl
theorem u_X10_untrue_31 : az_W C R k_X10_untrue 31 ls st h ↔ az_W C R k_X10_untrue 32 ls (.int 0 :: st) h := ap_const rfl
theorem u_X10_untrue_32 : az_W C R k_X10_untrue 32 ls [.int x] h ↔ R (some (.int x)) h := ap_iret rfl
theorem u_X10_untrue_33 : az_W C R k_X10_untrue 33 (.ref a :: ls) st h ↔ az_W C R k_X10_untrue 34 (.ref a :: ls) (.ref a :: st) h := ap_aload rfl rfl
theorem u_X10_untrue_34 : az_W C R k_X10_untrue 34 ls (.ref 0 :: st) (130, az_Pf, I, L) ↔ az_W C R k_X10_untrue 37 ls (.ref 60 :: st) (130, az_Pf, I, L) := ap_getP rfl kn_0 pf_0_5
theorem u_X10_untrue_37 : az_W C R k_X10_untrue 37 (v0 :: .int x :: ls) st h ↔ az_W C R k_X10_untrue 38 (v0 :: .int x :: ls) (.int x :: st) h := ap_iload rfl rfl
theorem u_X10_untrue_38 (hl : st.length ≤ 4) : az_W C R k_X10_untrue 38 ls (v1 :: .ref 60 :: st) (130, P, I, L) ↔ az_F C R (az_W C R k_X10_untrue) (130, P, I, L) (az_cl 70 [.ref 60, v1] 41 ls st) := ap_ivv rfl rfl kn_60 hl
theorem u_X10_untrue_41 : az_W C R k_X10_untrue 41 (.ref a :: ls) st h ↔ az_W C R k_X10_untrue 42 (.ref a :: ls) (.ref a :: st) h := ap_aload rfl rfl
theorem u_X10_untrue_42 : az_W C R k_X10_untrue 42 ls (.ref 0 :: st) (130, az_Pf, I, L) ↔ az_W C R k_X10_untrue 45 ls (.ref 56 :: st) (130, az_Pf, I, L) := ap_getP rfl kn_0 pf_0_4
theorem u_X10_untrue_45 (hl : st.length ≤ 4) : az_W C R k_X10_untrue 45 ls (.ref 56 :: st) (130, P, I, L) ↔ az_F C R (az_W C R k_X10_untrue) (130, P, I, L) (az_cl 28 [.ref 56] 48 ls st) := ap_ivv rfl rfl kn_56 hl
theorem u_X10_untrue_48 : az_W C R k_X10_untrue 48 (.ref a :: ls) st h ↔ az_W C R k_X10_untrue 49 (.ref a :: ls) (.ref a :: st) h := ap_aload rfl rfl
theorem u_X10_untrue_49 : az_W C R k_X10_untrue 49 ls (.ref 0 :: st) (130, az_Pf, I, L) ↔ az_W C R k_X10_untrue 52 ls (.ref 56 :: st) (130, az_Pf, I, L) := ap_getP rfl kn_0 pf_0_4
theorem u_X10_untrue_52 (hl : st.length ≤ 4) : az_W C R k_X10_untrue 52 ls (.ref 56 :: st) (130, P, I, L) ↔ az_F C R (az_W C R k_X10_untrue) (130, P, I, L) (az_cl 29 [.ref 56] 55 ls st) := ap_ivv rfl rfl kn_56 hl
theorem u_X10_untrue_55 (hl : st.length ≤ 4) : az_W C R k_X10_untrue 55 ls (v3 :: v2 :: v1 :: st) h ↔ az_F C R (az_W C R k_X10_untrue) h (az_cl 129 [v1, v2, v3] 58 ls st) := ap_ivs rfl rfl hl
theorem u_X10_untrue_58 : az_W C R k_X10_untrue 58 ls (.int x :: st) h ↔ if x = 0 then az_W C R k_X10_untrue 65 ls st h else az_W C R k_X10_untrue 61 ls st h := ap_ifeq rfl
theorem u_X10_untrue_61 : az_W C R k_X10_untrue 61 ls st h ↔ az_W C R k_X10_untrue 62 ls (.int 0 :: st) h := ap_const rfl
theorem u_X10_untrue_62 : az_W C R k_X10_untrue 62 ls st h ↔ az_W C R k_X10_untrue 66 ls st h := ap_goto rfl
theorem u_X10_untrue_65 : az_W C R k_X10_untrue 65 ls st h ↔ az_W C R k_X10_untrue 66 ls (.int 1 :: st) h := ap_const rfl
theorem u_X10_untrue_66 : az_W C R k_X10_untrue 66 ls [.int x] h ↔ R (some (.int x)) h := ap_iret rfl
def k_X10_backed : Nat → az_P := (az_br 40 (az_br 21 (az_br 11 (az_br 4 (az_br 1 (az_lf 0 (az_aload 0 1)) (az_lf 1 (az_getP 10 5 4))) (az_br 5 (az_lf 4 (az_iload 1 5)) (az_br 8 (az_lf 5 (az_ivv 68 1 7 8)) (az_lf 8 (az_ifne 13 11))))) (az_br 14 (az_br 12 (az_lf 11 (az_const (.int (-1)) 12)) (az_br 13 (az_lf 12 (az_iret)) (az_lf 13 (az_aload 0 14)))) (az_br 17 (az_lf 14 (az_getP 10 5 17)) (az_br 18 (az_lf 17 (az_iload 1 18)) (az_lf 18 (az_ivv 69 1 7 21)))))) (az_br 27 (az_br 23 (az_br 22 (az_lf 21 (az_istore 2 22)) (az_lf 22 (az_const (.int 0) 23))) (az_br 24 (az_lf 23 (az_istore 3 24)) (az_br 25 (az_lf 24 (az_const (.int 0) 25)) (az_lf 25 (az_istore 4 27))))) (az_br 34 (az_br 29 (az_lf 27 (az_iload 4 29)) (az_br 31 (az_lf 29 (az_const (.int 8) 31)) (az_lf 31 (az_icge 78 34)))) (az_br 35 (az_lf 34 (az_aload 0 35)) (az_br 38 (az_lf 35 (az_getP 10 1 38)) (az_lf 38 (az_iload 4 40))))))) (az_br 62 (az_br 49 (az_br 44 (az_br 41 (az_lf 40 (az_iload 2 41)) (az_lf 41 (az_ivv 35 2 4 44))) (az_br 45 (az_lf 44 (az_aload 0 45)) (az_br 48 (az_lf 45 (az_getP 10 5 48)) (az_lf 48 (az_iload 1 49))))) (az_br 56 (az_br 52 (az_lf 49 (az_ivv 70 1 7 52)) (az_br 55 (az_lf 52 (az_icne 72 55)) (az_lf 55 (az_aload 0 56)))) (az_br 58 (az_lf 56 (az_iload 4 58)) (az_br 59 (az_lf 58 (az_iload 2 59)) (az_lf 59 (az_ivv 136 2 10 62)))))) (az_br 70 (az_br 66 (az_br 65 (az_lf 62 (az_ifeq 72 65)) (az_lf 65 (az_iload 3 66))) (az_br 67 (az_lf 66 (az_const (.int 1) 67)) (az_br 69 (az_lf 67 (az_iload 4 69)) (az_lf 69 (az_ii (fun x y => x <<< (y &&& 31)) 70))))) (az_br 75 (az_br 71 (az_lf 70 (az_ii (fun x y => x ||| y) 71)) (az_br 72 (az_lf 71 (az_istore 3 72)) (az_lf 72 (az_iinc 4 1 75)))) (az_br 78 (az_lf 75 (az_goto 27)) (az_br 79 (az_lf 78 (az_iload 3 79)) (az_lf 79 (az_iret))))))))
theorem u_X10_backed_0 : az_W C R k_X10_backed 0 (.ref a :: ls) st h ↔ az_W C R k_X10_backed 1 (.ref a :: ls) (.ref a :: st) h := ap_aload rfl rfl
theorem u_X10_backed_1 : az_W C R k_X10_backed 1 ls (.ref 0 :: st) (130, az_Pf, I, L) ↔ az_W C R k_X10_backed 4 ls (.ref 60 :: st) (130, az_Pf, I, L) := ap_getP rfl kn_0 pf_0_5
theorem u_X10_backed_4 : az_W C R k_X10_backed 4 (v0 :: .int x :: ls) st h ↔ az_W C R k_X10_backed 5 (v0 :: .int x :: ls) (.int x :: st) h := ap_iload rfl rfl
theorem u_X10_backed_5 (hl : st.length ≤ 4) : az_W C R k_X10_backed 5 ls (v1 :: .ref 60 :: st) (130, P, I, L) ↔ az_F C R (az_W C R k_X10_backed) (130, P, I, L) (az_cl 68 [.ref 60, v1] 8 ls st) := ap_ivv rfl rfl kn_60 hl
theorem u_X10_backed_8 : az_W C R k_X10_backed 8 ls (.int x :: st) h ↔ if x = 0 then az_W C R k_X10_backed 11 ls st h else az_W C R k_X10_backed 13 ls st h := ap_ifne rfl
theorem u_X10_backed_11 : az_W C R k_X10_backed 11 ls st h ↔ az_W C R k_X10_backed 12 ls (.int (-1) :: st) h := ap_const rfl
theorem u_X10_backed_12 : az_W C R k_X10_backed 12 ls [.int x] h ↔ R (some (.int x)) h := ap_iret rfl
theorem u_X10_backed_13 : az_W C R k_X10_backed 13 (.ref a :: ls) st h ↔ az_W C R k_X10_backed 14 (.ref a :: ls) (.ref a :: st) h := ap_aload rfl rfl
theorem u_X10_backed_14 : az_W C R k_X10_backed 14 ls (.ref 0 :: st) (130, az_Pf, I, L) ↔ az_W C R k_X10_backed 17 ls (.ref 60 :: st) (130, az_Pf, I, L) := ap_getP rfl kn_0 pf_0_5
theorem u_X10_backed_17 : az_W C R k_X10_backed 17 (v0 :: .int x :: ls) st h ↔ az_W C R k_X10_backed 18 (v0 :: .int x :: ls) (.int x :: st) h := ap_iload rfl rfl
theorem u_X10_backed_18 (hl : st.length ≤ 4) : az_W C R k_X10_backed 18 ls (v1 :: .ref 60 :: st) (130, P, I, L) ↔ az_F C R (az_W C R k_X10_backed) (130, P, I, L) (az_cl 69 [.ref 60, v1] 21 ls st) := ap_ivv rfl rfl kn_60 hl
theorem u_X10_backed_21 : az_W C R k_X10_backed 21 (v0 :: v1 :: v2 :: ls) (.int x :: st) h ↔ az_W C R k_X10_backed 22 (v0 :: az_un v1 :: .int x :: ls) st h := ap_istore rfl rfl
theorem u_X10_backed_22 : az_W C R k_X10_backed 22 ls st h ↔ az_W C R k_X10_backed 23 ls (.int 0 :: st) h := ap_const rfl
theorem u_X10_backed_23 : az_W C R k_X10_backed 23 (v0 :: v1 :: v2 :: v3 :: ls) (.int x :: st) h ↔ az_W C R k_X10_backed 24 (v0 :: v1 :: az_un v2 :: .int x :: ls) st h := ap_istore rfl rfl
theorem u_X10_backed_24 : az_W C R k_X10_backed 24 ls st h ↔ az_W C R k_X10_backed 25 ls (.int 0 :: st) h := ap_const rfl
theorem u_X10_backed_25 : az_W C R k_X10_backed 25 (v0 :: v1 :: v2 :: v3 :: v4 :: ls) (.int x :: st) h ↔ az_W C R k_X10_backed 27 (v0 :: v1 :: v2 :: az_un v3 :: .int x :: ls) st h := ap_istore rfl rfl
theorem u_X10_backed_27 : az_W C R k_X10_backed 27 (v0 :: v1 :: v2 :: v3 :: .int x :: ls) st h ↔ az_W C R k_X10_backed 29 (v0 :: v1 :: v2 :: v3 :: .int x :: ls) (.int x :: st) h := ap_iload rfl rfl
theorem u_X10_backed_29 : az_W C R k_X10_backed 29 ls st h ↔ az_W C R k_X10_backed 31 ls (.int 8 :: st) h := ap_const rfl
theorem u_X10_backed_31 : az_W C R k_X10_backed 31 ls (.int y :: .int x :: st) h ↔ if y ≤ x then az_W C R k_X10_backed 78 ls st h else az_W C R k_X10_backed 34 ls st h := ap_icge rfl
theorem u_X10_backed_34 : az_W C R k_X10_backed 34 (.ref a :: ls) st h ↔ az_W C R k_X10_backed 35 (.ref a :: ls) (.ref a :: st) h := ap_aload rfl rfl
theorem u_X10_backed_35 : az_W C R k_X10_backed 35 ls (.ref 0 :: st) (130, az_Pf, I, L) ↔ az_W C R k_X10_backed 38 ls (.ref 2 :: st) (130, az_Pf, I, L) := ap_getP rfl kn_0 pf_0_1
theorem u_X10_backed_38 : az_W C R k_X10_backed 38 (v0 :: v1 :: v2 :: v3 :: .int x :: ls) st h ↔ az_W C R k_X10_backed 40 (v0 :: v1 :: v2 :: v3 :: .int x :: ls) (.int x :: st) h := ap_iload rfl rfl
theorem u_X10_backed_40 : az_W C R k_X10_backed 40 (v0 :: v1 :: .int x :: ls) st h ↔ az_W C R k_X10_backed 41 (v0 :: v1 :: .int x :: ls) (.int x :: st) h := ap_iload rfl rfl
theorem u_X10_backed_41 (hl : st.length ≤ 4) : az_W C R k_X10_backed 41 ls (v2 :: v1 :: .ref 2 :: st) (130, P, I, L) ↔ az_F C R (az_W C R k_X10_backed) (130, P, I, L) (az_cl 35 [.ref 2, v1, v2] 44 ls st) := ap_ivv rfl rfl kn_2 hl
theorem u_X10_backed_44 : az_W C R k_X10_backed 44 (.ref a :: ls) st h ↔ az_W C R k_X10_backed 45 (.ref a :: ls) (.ref a :: st) h := ap_aload rfl rfl
theorem u_X10_backed_45 : az_W C R k_X10_backed 45 ls (.ref 0 :: st) (130, az_Pf, I, L) ↔ az_W C R k_X10_backed 48 ls (.ref 60 :: st) (130, az_Pf, I, L) := ap_getP rfl kn_0 pf_0_5
theorem u_X10_backed_48 : az_W C R k_X10_backed 48 (v0 :: .int x :: ls) st h ↔ az_W C R k_X10_backed 49 (v0 :: .int x :: ls) (.int x :: st) h := ap_iload rfl rfl
theorem u_X10_backed_49 (hl : st.length ≤ 4) : az_W C R k_X10_backed 49 ls (v1 :: .ref 60 :: st) (130, P, I, L) ↔ az_F C R (az_W C R k_X10_backed) (130, P, I, L) (az_cl 70 [.ref 60, v1] 52 ls st) := ap_ivv rfl rfl kn_60 hl
theorem u_X10_backed_52 : az_W C R k_X10_backed 52 ls (.int y :: .int x :: st) h ↔ if x = y then az_W C R k_X10_backed 55 ls st h else az_W C R k_X10_backed 72 ls st h := ap_icne rfl
theorem u_X10_backed_55 : az_W C R k_X10_backed 55 (.ref a :: ls) st h ↔ az_W C R k_X10_backed 56 (.ref a :: ls) (.ref a :: st) h := ap_aload rfl rfl
theorem u_X10_backed_56 : az_W C R k_X10_backed 56 (v0 :: v1 :: v2 :: v3 :: .int x :: ls) st h ↔ az_W C R k_X10_backed 58 (v0 :: v1 :: v2 :: v3 :: .int x :: ls) (.int x :: st) h := ap_iload rfl rfl
theorem u_X10_backed_58 : az_W C R k_X10_backed 58 (v0 :: v1 :: .int x :: ls) st h ↔ az_W C R k_X10_backed 59 (v0 :: v1 :: .int x :: ls) (.int x :: st) h := ap_iload rfl rfl
theorem u_X10_backed_59 (hl : st.length ≤ 4) : az_W C R k_X10_backed 59 ls (v2 :: v1 :: .ref 0 :: st) (130, P, I, L) ↔ az_F C R (az_W C R k_X10_backed) (130, P, I, L) (az_cl 136 [.ref 0, v1, v2] 62 ls st) := ap_ivv rfl rfl kn_0 hl
theorem u_X10_backed_62 : az_W C R k_X10_backed 62 ls (.int x :: st) h ↔ if x = 0 then az_W C R k_X10_backed 72 ls st h else az_W C R k_X10_backed 65 ls st h := ap_ifeq rfl
theorem u_X10_backed_65 : az_W C R k_X10_backed 65 (v0 :: v1 :: v2 :: .int x :: ls) st h ↔ az_W C R k_X10_backed 66 (v0 :: v1 :: v2 :: .int x :: ls) (.int x :: st) h := ap_iload rfl rfl
theorem u_X10_backed_66 : az_W C R k_X10_backed 66 ls st h ↔ az_W C R k_X10_backed 67 ls (.int 1 :: st) h := ap_const rfl
theorem u_X10_backed_67 : az_W C R k_X10_backed 67 (v0 :: v1 :: v2 :: v3 :: .int x :: ls) st h ↔ az_W C R k_X10_backed 69 (v0 :: v1 :: v2 :: v3 :: .int x :: ls) (.int x :: st) h := ap_iload rfl rfl
theorem u_X10_backed_69 : az_W C R k_X10_backed 69 ls (.int y :: .int x :: st) h ↔ az_W C R k_X10_backed 70 ls (.int (x <<< (y &&& 31)) :: st) h := ap_ii (f := fun x y => x <<< (y &&& 31)) rfl
theorem u_X10_backed_70 : az_W C R k_X10_backed 70 ls (.int y :: .int x :: st) h ↔ az_W C R k_X10_backed 71 ls (.int (x ||| y) :: st) h := ap_ii (f := fun x y => x ||| y) rfl
theorem u_X10_backed_71 : az_W C R k_X10_backed 71 (v0 :: v1 :: v2 :: v3 :: ls) (.int x :: st) h ↔ az_W C R k_X10_backed 72 (v0 :: v1 :: az_un v2 :: .int x :: ls) st h := ap_istore rfl rfl
theorem u_X10_backed_72 : az_W C R k_X10_backed 72 (v0 :: v1 :: v2 :: v3 :: .int x :: ls) st h ↔ az_W C R k_X10_backed 75 (v0 :: v1 :: v2 :: az_un v3 :: .int (x + 1) :: ls) st h := ap_iinc rfl rfl rfl
theorem u_X10_backed_75 : az_W C R k_X10_backed 75 ls st h ↔ az_W C R k_X10_backed 27 ls st h := ap_goto rfl
theorem u_X10_backed_78 : az_W C R k_X10_backed 78 (v0 :: v1 :: v2 :: .int x :: ls) st h ↔ az_W C R k_X10_backed 79 (v0 :: v1 :: v2 :: .int x :: ls) (.int x :: st) h := ap_iload rfl rfl
theorem u_X10_backed_79 : az_W C R k_X10_backed 79 ls [.int x] h ↔ R (some (.int x)) h := ap_iret rfl
def k_X10_word : Nat → az_P := (az_br 25 (az_br 12 (az_br 5 (az_br 1 (az_lf 0 (az_aload 0 1)) (az_br 4 (az_lf 1 (az_getP 10 3 4)) (az_lf 4 (az_iload 1 5)))) (az_br 6 (az_lf 5 (az_iload 2 6)) (az_br 9 (az_lf 6 (az_ivv 4 2 0 9)) (az_lf 9 (az_ifeq 31 12))))) (az_br 19 (az_br 13 (az_lf 12 (az_iload 3 13)) (az_br 16 (az_lf 13 (az_ivs 132 1 16)) (az_lf 16 (az_ifeq 31 19)))) (az_br 21 (az_lf 19 (az_iload 4 21)) (az_br 22 (az_lf 21 (az_const (.int 0) 22)) (az_lf 22 (az_const (.int 999) 25)))))) (az_br 37 (az_br 32 (az_br 28 (az_lf 25 (az_ivs 129 3 28)) (az_br 31 (az_lf 28 (az_ifne 33 31)) (az_lf 31 (az_const (.int (-1)) 32)))) (az_br 33 (az_lf 32 (az_iret)) (az_br 34 (az_lf 33 (az_aload 0 34)) (az_lf 34 (az_getP 10 6 37))))) (az_br 40 (az_br 38 (az_lf 37 (az_iload 1 38)) (az_br 39 (az_lf 38 (az_iload 2 39)) (az_lf 39 (az_iload 3 40)))) (az_br 42 (az_lf 40 (az_iload 4 42)) (az_br 45 (az_lf 42 (az_ivv 82 4 9 45)) (az_lf 45 (az_iret)))))))
theorem u_X10_word_0 : az_W C R k_X10_word 0 (.ref a :: ls) st h ↔ az_W C R k_X10_word 1 (.ref a :: ls) (.ref a :: st) h := ap_aload rfl rfl
theorem u_X10_word_1 : az_W C R k_X10_word 1 ls (.ref 0 :: st) (130, az_Pf, I, L) ↔ az_W C R k_X10_word 4 ls (.ref 49 :: st) (130, az_Pf, I, L) := ap_getP rfl kn_0 pf_0_3
theorem u_X10_word_4 : az_W C R k_X10_word 4 (v0 :: .int x :: ls) st h ↔ az_W C R k_X10_word 5 (v0 :: .int x :: ls) (.int x :: st) h := ap_iload rfl rfl
theorem u_X10_word_5 : az_W C R k_X10_word 5 (v0 :: v1 :: .int x :: ls) st h ↔ az_W C R k_X10_word 6 (v0 :: v1 :: .int x :: ls) (.int x :: st) h := ap_iload rfl rfl
theorem u_X10_word_6 (hl : st.length ≤ 4) : az_W C R k_X10_word 6 ls (v2 :: v1 :: .ref 49 :: st) (130, P, I, L) ↔ az_F C R (az_W C R k_X10_word) (130, P, I, L) (az_cl 4 [.ref 49, v1, v2] 9 ls st) := ap_ivv rfl rfl kn_49 hl
theorem u_X10_word_9 : az_W C R k_X10_word 9 ls (.int x :: st) h ↔ if x = 0 then az_W C R k_X10_word 31 ls st h else az_W C R k_X10_word 12 ls st h := ap_ifeq rfl
theorem u_X10_word_12 : az_W C R k_X10_word 12 (v0 :: v1 :: v2 :: .int x :: ls) st h ↔ az_W C R k_X10_word 13 (v0 :: v1 :: v2 :: .int x :: ls) (.int x :: st) h := ap_iload rfl rfl
theorem u_X10_word_13 (hl : st.length ≤ 4) : az_W C R k_X10_word 13 ls (v1 :: st) h ↔ az_F C R (az_W C R k_X10_word) h (az_cl 132 [v1] 16 ls st) := ap_ivs rfl rfl hl
theorem u_X10_word_16 : az_W C R k_X10_word 16 ls (.int x :: st) h ↔ if x = 0 then az_W C R k_X10_word 31 ls st h else az_W C R k_X10_word 19 ls st h := ap_ifeq rfl
theorem u_X10_word_19 : az_W C R k_X10_word 19 (v0 :: v1 :: v2 :: v3 :: .int x :: ls) st h ↔ az_W C R k_X10_word 21 (v0 :: v1 :: v2 :: v3 :: .int x :: ls) (.int x :: st) h := ap_iload rfl rfl
theorem u_X10_word_21 : az_W C R k_X10_word 21 ls st h ↔ az_W C R k_X10_word 22 ls (.int 0 :: st) h := ap_const rfl
theorem u_X10_word_22 : az_W C R k_X10_word 22 ls st h ↔ az_W C R k_X10_word 25 ls (.int 999 :: st) h := ap_const rfl
theorem u_X10_word_25 (hl : st.length ≤ 4) : az_W C R k_X10_word 25 ls (v3 :: v2 :: v1 :: st) h ↔ az_F C R (az_W C R k_X10_word) h (az_cl 129 [v1, v2, v3] 28 ls st) := ap_ivs rfl rfl hl
theorem u_X10_word_28 : az_W C R k_X10_word 28 ls (.int x :: st) h ↔ if x = 0 then az_W C R k_X10_word 31 ls st h else az_W C R k_X10_word 33 ls st h := ap_ifne rfl
theorem u_X10_word_31 : az_W C R k_X10_word 31 ls st h ↔ az_W C R k_X10_word 32 ls (.int (-1) :: st) h := ap_const rfl
theorem u_X10_word_32 : az_W C R k_X10_word 32 ls [.int x] h ↔ R (some (.int x)) h := ap_iret rfl
theorem u_X10_word_33 : az_W C R k_X10_word 33 (.ref a :: ls) st h ↔ az_W C R k_X10_word 34 (.ref a :: ls) (.ref a :: st) h := ap_aload rfl rfl
theorem u_X10_word_34 : az_W C R k_X10_word 34 ls (.ref 0 :: st) (130, az_Pf, I, L) ↔ az_W C R k_X10_word 37 ls (.ref 63 :: st) (130, az_Pf, I, L) := ap_getP rfl kn_0 pf_0_6
theorem u_X10_word_37 : az_W C R k_X10_word 37 (v0 :: .int x :: ls) st h ↔ az_W C R k_X10_word 38 (v0 :: .int x :: ls) (.int x :: st) h := ap_iload rfl rfl
theorem u_X10_word_38 : az_W C R k_X10_word 38 (v0 :: v1 :: .int x :: ls) st h ↔ az_W C R k_X10_word 39 (v0 :: v1 :: .int x :: ls) (.int x :: st) h := ap_iload rfl rfl
theorem u_X10_word_39 : az_W C R k_X10_word 39 (v0 :: v1 :: v2 :: .int x :: ls) st h ↔ az_W C R k_X10_word 40 (v0 :: v1 :: v2 :: .int x :: ls) (.int x :: st) h := ap_iload rfl rfl
theorem u_X10_word_40 : az_W C R k_X10_word 40 (v0 :: v1 :: v2 :: v3 :: .int x :: ls) st h ↔ az_W C R k_X10_word 42 (v0 :: v1 :: v2 :: v3 :: .int x :: ls) (.int x :: st) h := ap_iload rfl rfl
theorem u_X10_word_42 (hl : st.length ≤ 4) : az_W C R k_X10_word 42 ls (v4 :: v3 :: v2 :: v1 :: .ref 63 :: st) (130, P, I, L) ↔ az_F C R (az_W C R k_X10_word) (130, P, I, L) (az_cl 82 [.ref 63, v1, v2, v3, v4] 45 ls st) := ap_ivv rfl rfl kn_63 hl
theorem u_X10_word_45 : az_W C R k_X10_word 45 ls [.int x] h ↔ R (some (.int x)) h := ap_iret rfl
def k_X10_wall : Nat → az_P := (az_br 24 (az_br 12 (az_br 5 (az_br 1 (az_lf 0 (az_aload 0 1)) (az_br 4 (az_lf 1 (az_getP 10 3 4)) (az_lf 4 (az_iload 1 5)))) (az_br 6 (az_lf 5 (az_iload 2 6)) (az_br 9 (az_lf 6 (az_ivv 4 2 0 9)) (az_lf 9 (az_ifeq 31 12))))) (az_br 17 (az_br 13 (az_lf 12 (az_aload 0 13)) (az_br 16 (az_lf 13 (az_getP 10 3 16)) (az_lf 16 (az_iload 1 17)))) (az_br 20 (az_lf 17 (az_ivv 5 1 0 20)) (az_br 21 (az_lf 20 (az_aload 0 21)) (az_lf 21 (az_getP 10 3 24)))))) (az_br 34 (az_br 31 (az_br 25 (az_lf 24 (az_iload 2 25)) (az_br 28 (az_lf 25 (az_ivv 5 1 0 28)) (az_lf 28 (az_iceq 33 31)))) (az_br 32 (az_lf 31 (az_const (.int (-1)) 32)) (az_br 33 (az_lf 32 (az_iret)) (az_lf 33 (az_aload 0 34))))) (az_br 39 (az_br 37 (az_lf 34 (az_getP 10 6 37)) (az_br 38 (az_lf 37 (az_iload 1 38)) (az_lf 38 (az_iload 2 39)))) (az_br 40 (az_lf 39 (az_iload 3 40)) (az_br 43 (az_lf 40 (az_ivv 83 3 9 43)) (az_lf 43 (az_iret)))))))
theorem u_X10_wall_0 : az_W C R k_X10_wall 0 (.ref a :: ls) st h ↔ az_W C R k_X10_wall 1 (.ref a :: ls) (.ref a :: st) h := ap_aload rfl rfl
theorem u_X10_wall_1 : az_W C R k_X10_wall 1 ls (.ref 0 :: st) (130, az_Pf, I, L) ↔ az_W C R k_X10_wall 4 ls (.ref 49 :: st) (130, az_Pf, I, L) := ap_getP rfl kn_0 pf_0_3
theorem u_X10_wall_4 : az_W C R k_X10_wall 4 (v0 :: .int x :: ls) st h ↔ az_W C R k_X10_wall 5 (v0 :: .int x :: ls) (.int x :: st) h := ap_iload rfl rfl
theorem u_X10_wall_5 : az_W C R k_X10_wall 5 (v0 :: v1 :: .int x :: ls) st h ↔ az_W C R k_X10_wall 6 (v0 :: v1 :: .int x :: ls) (.int x :: st) h := ap_iload rfl rfl
theorem u_X10_wall_6 (hl : st.length ≤ 4) : az_W C R k_X10_wall 6 ls (v2 :: v1 :: .ref 49 :: st) (130, P, I, L) ↔ az_F C R (az_W C R k_X10_wall) (130, P, I, L) (az_cl 4 [.ref 49, v1, v2] 9 ls st) := ap_ivv rfl rfl kn_49 hl
theorem u_X10_wall_9 : az_W C R k_X10_wall 9 ls (.int x :: st) h ↔ if x = 0 then az_W C R k_X10_wall 31 ls st h else az_W C R k_X10_wall 12 ls st h := ap_ifeq rfl
theorem u_X10_wall_12 : az_W C R k_X10_wall 12 (.ref a :: ls) st h ↔ az_W C R k_X10_wall 13 (.ref a :: ls) (.ref a :: st) h := ap_aload rfl rfl
theorem u_X10_wall_13 : az_W C R k_X10_wall 13 ls (.ref 0 :: st) (130, az_Pf, I, L) ↔ az_W C R k_X10_wall 16 ls (.ref 49 :: st) (130, az_Pf, I, L) := ap_getP rfl kn_0 pf_0_3
theorem u_X10_wall_16 : az_W C R k_X10_wall 16 (v0 :: .int x :: ls) st h ↔ az_W C R k_X10_wall 17 (v0 :: .int x :: ls) (.int x :: st) h := ap_iload rfl rfl
theorem u_X10_wall_17 (hl : st.length ≤ 4) : az_W C R k_X10_wall 17 ls (v1 :: .ref 49 :: st) (130, P, I, L) ↔ az_F C R (az_W C R k_X10_wall) (130, P, I, L) (az_cl 5 [.ref 49, v1] 20 ls st) := ap_ivv rfl rfl kn_49 hl
theorem u_X10_wall_20 : az_W C R k_X10_wall 20 (.ref a :: ls) st h ↔ az_W C R k_X10_wall 21 (.ref a :: ls) (.ref a :: st) h := ap_aload rfl rfl
theorem u_X10_wall_21 : az_W C R k_X10_wall 21 ls (.ref 0 :: st) (130, az_Pf, I, L) ↔ az_W C R k_X10_wall 24 ls (.ref 49 :: st) (130, az_Pf, I, L) := ap_getP rfl kn_0 pf_0_3
theorem u_X10_wall_24 : az_W C R k_X10_wall 24 (v0 :: v1 :: .int x :: ls) st h ↔ az_W C R k_X10_wall 25 (v0 :: v1 :: .int x :: ls) (.int x :: st) h := ap_iload rfl rfl
theorem u_X10_wall_25 (hl : st.length ≤ 4) : az_W C R k_X10_wall 25 ls (v1 :: .ref 49 :: st) (130, P, I, L) ↔ az_F C R (az_W C R k_X10_wall) (130, P, I, L) (az_cl 5 [.ref 49, v1] 28 ls st) := ap_ivv rfl rfl kn_49 hl
theorem u_X10_wall_28 : az_W C R k_X10_wall 28 ls (.int y :: .int x :: st) h ↔ if x = y then az_W C R k_X10_wall 33 ls st h else az_W C R k_X10_wall 31 ls st h := ap_iceq rfl
theorem u_X10_wall_31 : az_W C R k_X10_wall 31 ls st h ↔ az_W C R k_X10_wall 32 ls (.int (-1) :: st) h := ap_const rfl
theorem u_X10_wall_32 : az_W C R k_X10_wall 32 ls [.int x] h ↔ R (some (.int x)) h := ap_iret rfl
theorem u_X10_wall_33 : az_W C R k_X10_wall 33 (.ref a :: ls) st h ↔ az_W C R k_X10_wall 34 (.ref a :: ls) (.ref a :: st) h := ap_aload rfl rfl
theorem u_X10_wall_34 : az_W C R k_X10_wall 34 ls (.ref 0 :: st) (130, az_Pf, I, L) ↔ az_W C R k_X10_wall 37 ls (.ref 63 :: st) (130, az_Pf, I, L) := ap_getP rfl kn_0 pf_0_6
theorem u_X10_wall_37 : az_W C R k_X10_wall 37 (v0 :: .int x :: ls) st h ↔ az_W C R k_X10_wall 38 (v0 :: .int x :: ls) (.int x :: st) h := ap_iload rfl rfl
theorem u_X10_wall_38 : az_W C R k_X10_wall 38 (v0 :: v1 :: .int x :: ls) st h ↔ az_W C R k_X10_wall 39 (v0 :: v1 :: .int x :: ls) (.int x :: st) h := ap_iload rfl rfl
theorem u_X10_wall_39 : az_W C R k_X10_wall 39 (v0 :: v1 :: v2 :: .int x :: ls) st h ↔ az_W C R k_X10_wall 40 (v0 :: v1 :: v2 :: .int x :: ls) (.int x :: st) h := ap_iload rfl rfl
theorem u_X10_wall_40 (hl : st.length ≤ 4) : az_W C R k_X10_wall 40 ls (v3 :: v2 :: v1 :: .ref 63 :: st) (130, P, I, L) ↔ az_F C R (az_W C R k_X10_wall) (130, P, I, L) (az_cl 83 [.ref 63, v1, v2, v3] 43 ls st) := ap_ivv rfl rfl kn_63 hl
theorem u_X10_wall_43 : az_W C R k_X10_wall 43 ls [.int x] h ↔ R (some (.int x)) h := ap_iret rfl
def k_X10_crossed : Nat → az_P := (az_br 9 (az_br 4 (az_br 1 (az_lf 0 (az_iload 1 1)) (az_lf 1 (az_ivs 132 1 4))) (az_br 7 (az_lf 4 (az_ifne 9 7)) (az_br 8 (az_lf 7 (az_const (.int (-1)) 8)) (az_lf 8 (az_iret))))) (az_br 13 (az_br 10 (az_lf 9 (az_aload 0 10)) (az_lf 10 (az_getP 10 6 13))) (az_br 14 (az_lf 13 (az_iload 1 14)) (az_br 17 (az_lf 14 (az_ivv 84 1 9 17)) (az_lf 17 (az_iret))))))
theorem u_X10_crossed_0 : az_W C R k_X10_crossed 0 (v0 :: .int x :: ls) st h ↔ az_W C R k_X10_crossed 1 (v0 :: .int x :: ls) (.int x :: st) h := ap_iload rfl rfl
theorem u_X10_crossed_1 (hl : st.length ≤ 4) : az_W C R k_X10_crossed 1 ls (v1 :: st) h ↔ az_F C R (az_W C R k_X10_crossed) h (az_cl 132 [v1] 4 ls st) := ap_ivs rfl rfl hl
theorem u_X10_crossed_4 : az_W C R k_X10_crossed 4 ls (.int x :: st) h ↔ if x = 0 then az_W C R k_X10_crossed 7 ls st h else az_W C R k_X10_crossed 9 ls st h := ap_ifne rfl
theorem u_X10_crossed_7 : az_W C R k_X10_crossed 7 ls st h ↔ az_W C R k_X10_crossed 8 ls (.int (-1) :: st) h := ap_const rfl
theorem u_X10_crossed_8 : az_W C R k_X10_crossed 8 ls [.int x] h ↔ R (some (.int x)) h := ap_iret rfl
theorem u_X10_crossed_9 : az_W C R k_X10_crossed 9 (.ref a :: ls) st h ↔ az_W C R k_X10_crossed 10 (.ref a :: ls) (.ref a :: st) h := ap_aload rfl rfl
theorem u_X10_crossed_10 : az_W C R k_X10_crossed 10 ls (.ref 0 :: st) (130, az_Pf, I, L) ↔ az_W C R k_X10_crossed 13 ls (.ref 63 :: st) (130, az_Pf, I, L) := ap_getP rfl kn_0 pf_0_6
theorem u_X10_crossed_13 : az_W C R k_X10_crossed 13 (v0 :: .int x :: ls) st h ↔ az_W C R k_X10_crossed 14 (v0 :: .int x :: ls) (.int x :: st) h := ap_iload rfl rfl
theorem u_X10_crossed_14 (hl : st.length ≤ 4) : az_W C R k_X10_crossed 14 ls (v1 :: .ref 63 :: st) (130, P, I, L) ↔ az_F C R (az_W C R k_X10_crossed) (130, P, I, L) (az_cl 84 [.ref 63, v1] 17 ls st) := ap_ivv rfl rfl kn_63 hl
theorem u_X10_crossed_17 : az_W C R k_X10_crossed 17 ls [.int x] h ↔ R (some (.int x)) h := ap_iret rfl
def k_X10_knew : Nat → az_P := (az_br 23 (az_br 11 (az_br 4 (az_br 1 (az_lf 0 (az_aload 0 1)) (az_lf 1 (az_getP 10 3 4))) (az_br 5 (az_lf 4 (az_iload 1 5)) (az_br 8 (az_lf 5 (az_ivv 3 1 0 8)) (az_lf 8 (az_ifeq 29 11))))) (az_br 18 (az_br 12 (az_lf 11 (az_iload 2 12)) (az_br 15 (az_lf 12 (az_ivs 132 1 15)) (az_lf 15 (az_ifeq 29 18)))) (az_br 19 (az_lf 18 (az_iload 3 19)) (az_br 20 (az_lf 19 (az_const (.int 0) 20)) (az_lf 20 (az_const (.int 999) 23)))))) (az_br 32 (az_br 29 (az_br 26 (az_lf 23 (az_ivs 129 3 26)) (az_lf 26 (az_ifne 31 29))) (az_br 30 (az_lf 29 (az_const (.int (-1)) 30)) (az_br 31 (az_lf 30 (az_iret)) (az_lf 31 (az_aload 0 32))))) (az_br 37 (az_br 35 (az_lf 32 (az_getP 10 6 35)) (az_br 36 (az_lf 35 (az_iload 1 36)) (az_lf 36 (az_iload 2 37)))) (az_br 38 (az_lf 37 (az_iload 3 38)) (az_br 41 (az_lf 38 (az_ivv 85 3 9 41)) (az_lf 41 (az_iret)))))))
theorem u_X10_knew_0 : az_W C R k_X10_knew 0 (.ref a :: ls) st h ↔ az_W C R k_X10_knew 1 (.ref a :: ls) (.ref a :: st) h := ap_aload rfl rfl
theorem u_X10_knew_1 : az_W C R k_X10_knew 1 ls (.ref 0 :: st) (130, az_Pf, I, L) ↔ az_W C R k_X10_knew 4 ls (.ref 49 :: st) (130, az_Pf, I, L) := ap_getP rfl kn_0 pf_0_3
theorem u_X10_knew_4 : az_W C R k_X10_knew 4 (v0 :: .int x :: ls) st h ↔ az_W C R k_X10_knew 5 (v0 :: .int x :: ls) (.int x :: st) h := ap_iload rfl rfl
theorem u_X10_knew_5 (hl : st.length ≤ 4) : az_W C R k_X10_knew 5 ls (v1 :: .ref 49 :: st) (130, P, I, L) ↔ az_F C R (az_W C R k_X10_knew) (130, P, I, L) (az_cl 3 [.ref 49, v1] 8 ls st) := ap_ivv rfl rfl kn_49 hl
theorem u_X10_knew_8 : az_W C R k_X10_knew 8 ls (.int x :: st) h ↔ if x = 0 then az_W C R k_X10_knew 29 ls st h else az_W C R k_X10_knew 11 ls st h := ap_ifeq rfl
theorem u_X10_knew_11 : az_W C R k_X10_knew 11 (v0 :: v1 :: .int x :: ls) st h ↔ az_W C R k_X10_knew 12 (v0 :: v1 :: .int x :: ls) (.int x :: st) h := ap_iload rfl rfl
theorem u_X10_knew_12 (hl : st.length ≤ 4) : az_W C R k_X10_knew 12 ls (v1 :: st) h ↔ az_F C R (az_W C R k_X10_knew) h (az_cl 132 [v1] 15 ls st) := ap_ivs rfl rfl hl
theorem u_X10_knew_15 : az_W C R k_X10_knew 15 ls (.int x :: st) h ↔ if x = 0 then az_W C R k_X10_knew 29 ls st h else az_W C R k_X10_knew 18 ls st h := ap_ifeq rfl
theorem u_X10_knew_18 : az_W C R k_X10_knew 18 (v0 :: v1 :: v2 :: .int x :: ls) st h ↔ az_W C R k_X10_knew 19 (v0 :: v1 :: v2 :: .int x :: ls) (.int x :: st) h := ap_iload rfl rfl
theorem u_X10_knew_19 : az_W C R k_X10_knew 19 ls st h ↔ az_W C R k_X10_knew 20 ls (.int 0 :: st) h := ap_const rfl
theorem u_X10_knew_20 : az_W C R k_X10_knew 20 ls st h ↔ az_W C R k_X10_knew 23 ls (.int 999 :: st) h := ap_const rfl
theorem u_X10_knew_23 (hl : st.length ≤ 4) : az_W C R k_X10_knew 23 ls (v3 :: v2 :: v1 :: st) h ↔ az_F C R (az_W C R k_X10_knew) h (az_cl 129 [v1, v2, v3] 26 ls st) := ap_ivs rfl rfl hl
theorem u_X10_knew_26 : az_W C R k_X10_knew 26 ls (.int x :: st) h ↔ if x = 0 then az_W C R k_X10_knew 29 ls st h else az_W C R k_X10_knew 31 ls st h := ap_ifne rfl
theorem u_X10_knew_29 : az_W C R k_X10_knew 29 ls st h ↔ az_W C R k_X10_knew 30 ls (.int (-1) :: st) h := ap_const rfl
theorem u_X10_knew_30 : az_W C R k_X10_knew 30 ls [.int x] h ↔ R (some (.int x)) h := ap_iret rfl
theorem u_X10_knew_31 : az_W C R k_X10_knew 31 (.ref a :: ls) st h ↔ az_W C R k_X10_knew 32 (.ref a :: ls) (.ref a :: st) h := ap_aload rfl rfl
theorem u_X10_knew_32 : az_W C R k_X10_knew 32 ls (.ref 0 :: st) (130, az_Pf, I, L) ↔ az_W C R k_X10_knew 35 ls (.ref 63 :: st) (130, az_Pf, I, L) := ap_getP rfl kn_0 pf_0_6
theorem u_X10_knew_35 : az_W C R k_X10_knew 35 (v0 :: .int x :: ls) st h ↔ az_W C R k_X10_knew 36 (v0 :: .int x :: ls) (.int x :: st) h := ap_iload rfl rfl
theorem u_X10_knew_36 : az_W C R k_X10_knew 36 (v0 :: v1 :: .int x :: ls) st h ↔ az_W C R k_X10_knew 37 (v0 :: v1 :: .int x :: ls) (.int x :: st) h := ap_iload rfl rfl
theorem u_X10_knew_37 : az_W C R k_X10_knew 37 (v0 :: v1 :: v2 :: .int x :: ls) st h ↔ az_W C R k_X10_knew 38 (v0 :: v1 :: v2 :: .int x :: ls) (.int x :: st) h := ap_iload rfl rfl
theorem u_X10_knew_38 (hl : st.length ≤ 4) : az_W C R k_X10_knew 38 ls (v3 :: v2 :: v1 :: .ref 63 :: st) (130, P, I, L) ↔ az_F C R (az_W C R k_X10_knew) (130, P, I, L) (az_cl 85 [.ref 63, v1, v2, v3] 41 ls st) := ap_ivv rfl rfl kn_63 hl
theorem u_X10_knew_41 : az_W C R k_X10_knew 41 ls [.int x] h ↔ R (some (.int x)) h := ap_iret rfl
def k_X10_way : Nat → az_P := (az_br 23 (az_br 11 (az_br 4 (az_br 1 (az_lf 0 (az_aload 0 1)) (az_lf 1 (az_getP 10 3 4))) (az_br 5 (az_lf 4 (az_iload 1 5)) (az_br 8 (az_lf 5 (az_ivv 3 1 0 8)) (az_lf 8 (az_ifeq 29 11))))) (az_br 16 (az_br 12 (az_lf 11 (az_aload 0 12)) (az_br 15 (az_lf 12 (az_getP 10 3 15)) (az_lf 15 (az_iload 2 16)))) (az_br 19 (az_lf 16 (az_ivv 3 1 0 19)) (az_br 22 (az_lf 19 (az_ifeq 29 22)) (az_lf 22 (az_iload 3 23)))))) (az_br 32 (az_br 29 (az_br 26 (az_lf 23 (az_ivs 132 1 26)) (az_lf 26 (az_ifne 31 29))) (az_br 30 (az_lf 29 (az_const (.int (-1)) 30)) (az_br 31 (az_lf 30 (az_iret)) (az_lf 31 (az_aload 0 32))))) (az_br 37 (az_br 35 (az_lf 32 (az_getP 10 6 35)) (az_br 36 (az_lf 35 (az_iload 1 36)) (az_lf 36 (az_iload 2 37)))) (az_br 38 (az_lf 37 (az_iload 3 38)) (az_br 41 (az_lf 38 (az_ivv 86 3 9 41)) (az_lf 41 (az_iret)))))))
theorem u_X10_way_0 : az_W C R k_X10_way 0 (.ref a :: ls) st h ↔ az_W C R k_X10_way 1 (.ref a :: ls) (.ref a :: st) h := ap_aload rfl rfl
theorem u_X10_way_1 : az_W C R k_X10_way 1 ls (.ref 0 :: st) (130, az_Pf, I, L) ↔ az_W C R k_X10_way 4 ls (.ref 49 :: st) (130, az_Pf, I, L) := ap_getP rfl kn_0 pf_0_3
theorem u_X10_way_4 : az_W C R k_X10_way 4 (v0 :: .int x :: ls) st h ↔ az_W C R k_X10_way 5 (v0 :: .int x :: ls) (.int x :: st) h := ap_iload rfl rfl
theorem u_X10_way_5 (hl : st.length ≤ 4) : az_W C R k_X10_way 5 ls (v1 :: .ref 49 :: st) (130, P, I, L) ↔ az_F C R (az_W C R k_X10_way) (130, P, I, L) (az_cl 3 [.ref 49, v1] 8 ls st) := ap_ivv rfl rfl kn_49 hl
theorem u_X10_way_8 : az_W C R k_X10_way 8 ls (.int x :: st) h ↔ if x = 0 then az_W C R k_X10_way 29 ls st h else az_W C R k_X10_way 11 ls st h := ap_ifeq rfl
theorem u_X10_way_11 : az_W C R k_X10_way 11 (.ref a :: ls) st h ↔ az_W C R k_X10_way 12 (.ref a :: ls) (.ref a :: st) h := ap_aload rfl rfl
theorem u_X10_way_12 : az_W C R k_X10_way 12 ls (.ref 0 :: st) (130, az_Pf, I, L) ↔ az_W C R k_X10_way 15 ls (.ref 49 :: st) (130, az_Pf, I, L) := ap_getP rfl kn_0 pf_0_3
theorem u_X10_way_15 : az_W C R k_X10_way 15 (v0 :: v1 :: .int x :: ls) st h ↔ az_W C R k_X10_way 16 (v0 :: v1 :: .int x :: ls) (.int x :: st) h := ap_iload rfl rfl
theorem u_X10_way_16 (hl : st.length ≤ 4) : az_W C R k_X10_way 16 ls (v1 :: .ref 49 :: st) (130, P, I, L) ↔ az_F C R (az_W C R k_X10_way) (130, P, I, L) (az_cl 3 [.ref 49, v1] 19 ls st) := ap_ivv rfl rfl kn_49 hl
theorem u_X10_way_19 : az_W C R k_X10_way 19 ls (.int x :: st) h ↔ if x = 0 then az_W C R k_X10_way 29 ls st h else az_W C R k_X10_way 22 ls st h := ap_ifeq rfl
theorem u_X10_way_22 : az_W C R k_X10_way 22 (v0 :: v1 :: v2 :: .int x :: ls) st h ↔ az_W C R k_X10_way 23 (v0 :: v1 :: v2 :: .int x :: ls) (.int x :: st) h := ap_iload rfl rfl
theorem u_X10_way_23 (hl : st.length ≤ 4) : az_W C R k_X10_way 23 ls (v1 :: st) h ↔ az_F C R (az_W C R k_X10_way) h (az_cl 132 [v1] 26 ls st) := ap_ivs rfl rfl hl
theorem u_X10_way_26 : az_W C R k_X10_way 26 ls (.int x :: st) h ↔ if x = 0 then az_W C R k_X10_way 29 ls st h else az_W C R k_X10_way 31 ls st h := ap_ifne rfl
theorem u_X10_way_29 : az_W C R k_X10_way 29 ls st h ↔ az_W C R k_X10_way 30 ls (.int (-1) :: st) h := ap_const rfl
theorem u_X10_way_30 : az_W C R k_X10_way 30 ls [.int x] h ↔ R (some (.int x)) h := ap_iret rfl
theorem u_X10_way_31 : az_W C R k_X10_way 31 (.ref a :: ls) st h ↔ az_W C R k_X10_way 32 (.ref a :: ls) (.ref a :: st) h := ap_aload rfl rfl
theorem u_X10_way_32 : az_W C R k_X10_way 32 ls (.ref 0 :: st) (130, az_Pf, I, L) ↔ az_W C R k_X10_way 35 ls (.ref 63 :: st) (130, az_Pf, I, L) := ap_getP rfl kn_0 pf_0_6
theorem u_X10_way_35 : az_W C R k_X10_way 35 (v0 :: .int x :: ls) st h ↔ az_W C R k_X10_way 36 (v0 :: .int x :: ls) (.int x :: st) h := ap_iload rfl rfl
theorem u_X10_way_36 : az_W C R k_X10_way 36 (v0 :: v1 :: .int x :: ls) st h ↔ az_W C R k_X10_way 37 (v0 :: v1 :: .int x :: ls) (.int x :: st) h := ap_iload rfl rfl
theorem u_X10_way_37 : az_W C R k_X10_way 37 (v0 :: v1 :: v2 :: .int x :: ls) st h ↔ az_W C R k_X10_way 38 (v0 :: v1 :: v2 :: .int x :: ls) (.int x :: st) h := ap_iload rfl rfl
theorem u_X10_way_38 (hl : st.length ≤ 4) : az_W C R k_X10_way 38 ls (v3 :: v2 :: v1 :: .ref 63 :: st) (130, P, I, L) ↔ az_F C R (az_W C R k_X10_way) (130, P, I, L) (az_cl 86 [.ref 63, v1, v2, v3] 41 ls st) := ap_ivv rfl rfl kn_63 hl
theorem u_X10_way_41 : az_W C R k_X10_way 41 ls [.int x] h ↔ R (some (.int x)) h := ap_iret rfl
def k_X10_owe : Nat → az_P := (az_br 19 (az_br 9 (az_br 4 (az_br 1 (az_lf 0 (az_aload 0 1)) (az_lf 1 (az_getP 10 3 4))) (az_br 5 (az_lf 4 (az_iload 1 5)) (az_br 6 (az_lf 5 (az_iload 2 6)) (az_lf 6 (az_ivv 4 2 0 9))))) (az_br 13 (az_br 12 (az_lf 9 (az_ifeq 22 12)) (az_lf 12 (az_iload 3 13))) (az_br 14 (az_lf 13 (az_const (.int 0) 14)) (az_br 16 (az_lf 14 (az_const (.int 99) 16)) (az_lf 16 (az_ivs 129 3 19)))))) (az_br 28 (az_br 23 (az_br 22 (az_lf 19 (az_ifne 24 22)) (az_lf 22 (az_const (.int (-1)) 23))) (az_br 24 (az_lf 23 (az_iret)) (az_br 25 (az_lf 24 (az_aload 0 25)) (az_lf 25 (az_getP 10 7 28))))) (az_br 30 (az_br 29 (az_lf 28 (az_iload 1 29)) (az_lf 29 (az_iload 2 30))) (az_br 31 (az_lf 30 (az_iload 3 31)) (az_br 34 (az_lf 31 (az_ivv 14 3 1 34)) (az_lf 34 (az_iret)))))))
theorem u_X10_owe_0 : az_W C R k_X10_owe 0 (.ref a :: ls) st h ↔ az_W C R k_X10_owe 1 (.ref a :: ls) (.ref a :: st) h := ap_aload rfl rfl
theorem u_X10_owe_1 : az_W C R k_X10_owe 1 ls (.ref 0 :: st) (130, az_Pf, I, L) ↔ az_W C R k_X10_owe 4 ls (.ref 49 :: st) (130, az_Pf, I, L) := ap_getP rfl kn_0 pf_0_3
theorem u_X10_owe_4 : az_W C R k_X10_owe 4 (v0 :: .int x :: ls) st h ↔ az_W C R k_X10_owe 5 (v0 :: .int x :: ls) (.int x :: st) h := ap_iload rfl rfl
theorem u_X10_owe_5 : az_W C R k_X10_owe 5 (v0 :: v1 :: .int x :: ls) st h ↔ az_W C R k_X10_owe 6 (v0 :: v1 :: .int x :: ls) (.int x :: st) h := ap_iload rfl rfl
theorem u_X10_owe_6 (hl : st.length ≤ 4) : az_W C R k_X10_owe 6 ls (v2 :: v1 :: .ref 49 :: st) (130, P, I, L) ↔ az_F C R (az_W C R k_X10_owe) (130, P, I, L) (az_cl 4 [.ref 49, v1, v2] 9 ls st) := ap_ivv rfl rfl kn_49 hl
theorem u_X10_owe_9 : az_W C R k_X10_owe 9 ls (.int x :: st) h ↔ if x = 0 then az_W C R k_X10_owe 22 ls st h else az_W C R k_X10_owe 12 ls st h := ap_ifeq rfl
theorem u_X10_owe_12 : az_W C R k_X10_owe 12 (v0 :: v1 :: v2 :: .int x :: ls) st h ↔ az_W C R k_X10_owe 13 (v0 :: v1 :: v2 :: .int x :: ls) (.int x :: st) h := ap_iload rfl rfl
theorem u_X10_owe_13 : az_W C R k_X10_owe 13 ls st h ↔ az_W C R k_X10_owe 14 ls (.int 0 :: st) h := ap_const rfl
theorem u_X10_owe_14 : az_W C R k_X10_owe 14 ls st h ↔ az_W C R k_X10_owe 16 ls (.int 99 :: st) h := ap_const rfl
theorem u_X10_owe_16 (hl : st.length ≤ 4) : az_W C R k_X10_owe 16 ls (v3 :: v2 :: v1 :: st) h ↔ az_F C R (az_W C R k_X10_owe) h (az_cl 129 [v1, v2, v3] 19 ls st) := ap_ivs rfl rfl hl
theorem u_X10_owe_19 : az_W C R k_X10_owe 19 ls (.int x :: st) h ↔ if x = 0 then az_W C R k_X10_owe 22 ls st h else az_W C R k_X10_owe 24 ls st h := ap_ifne rfl
theorem u_X10_owe_22 : az_W C R k_X10_owe 22 ls st h ↔ az_W C R k_X10_owe 23 ls (.int (-1) :: st) h := ap_const rfl
theorem u_X10_owe_23 : az_W C R k_X10_owe 23 ls [.int x] h ↔ R (some (.int x)) h := ap_iret rfl
theorem u_X10_owe_24 : az_W C R k_X10_owe 24 (.ref a :: ls) st h ↔ az_W C R k_X10_owe 25 (.ref a :: ls) (.ref a :: st) h := ap_aload rfl rfl
theorem u_X10_owe_25 : az_W C R k_X10_owe 25 ls (.ref 0 :: st) (130, az_Pf, I, L) ↔ az_W C R k_X10_owe 28 ls (.ref 71 :: st) (130, az_Pf, I, L) := ap_getP rfl kn_0 pf_0_7
theorem u_X10_owe_28 : az_W C R k_X10_owe 28 (v0 :: .int x :: ls) st h ↔ az_W C R k_X10_owe 29 (v0 :: .int x :: ls) (.int x :: st) h := ap_iload rfl rfl
theorem u_X10_owe_29 : az_W C R k_X10_owe 29 (v0 :: v1 :: .int x :: ls) st h ↔ az_W C R k_X10_owe 30 (v0 :: v1 :: .int x :: ls) (.int x :: st) h := ap_iload rfl rfl
theorem u_X10_owe_30 : az_W C R k_X10_owe 30 (v0 :: v1 :: v2 :: .int x :: ls) st h ↔ az_W C R k_X10_owe 31 (v0 :: v1 :: v2 :: .int x :: ls) (.int x :: st) h := ap_iload rfl rfl
theorem u_X10_owe_31 (hl : st.length ≤ 4) : az_W C R k_X10_owe 31 ls (v3 :: v2 :: v1 :: .ref 71 :: st) (130, P, I, L) ↔ az_F C R (az_W C R k_X10_owe) (130, P, I, L) (az_cl 14 [.ref 71, v1, v2, v3] 34 ls st) := ap_ivv rfl rfl kn_71 hl
theorem u_X10_owe_34 : az_W C R k_X10_owe 34 ls [.int x] h ↔ R (some (.int x)) h := ap_iret rfl
def k_X10_net : Nat → az_P := (az_br 14 (az_br 5 (az_br 1 (az_lf 0 (az_aload 0 1)) (az_br 4 (az_lf 1 (az_getP 10 3 4)) (az_lf 4 (az_iload 1 5)))) (az_br 8 (az_lf 5 (az_ivv 3 1 0 8)) (az_br 11 (az_lf 8 (az_ifne 15 11)) (az_lf 11 (az_const (.int (-10001)) 14))))) (az_br 19 (az_br 15 (az_lf 14 (az_iret)) (az_br 16 (az_lf 15 (az_aload 0 16)) (az_lf 16 (az_getP 10 7 19)))) (az_br 20 (az_lf 19 (az_iload 1 20)) (az_br 23 (az_lf 20 (az_ivv 15 1 1 23)) (az_lf 23 (az_iret))))))
theorem u_X10_net_0 : az_W C R k_X10_net 0 (.ref a :: ls) st h ↔ az_W C R k_X10_net 1 (.ref a :: ls) (.ref a :: st) h := ap_aload rfl rfl
theorem u_X10_net_1 : az_W C R k_X10_net 1 ls (.ref 0 :: st) (130, az_Pf, I, L) ↔ az_W C R k_X10_net 4 ls (.ref 49 :: st) (130, az_Pf, I, L) := ap_getP rfl kn_0 pf_0_3
theorem u_X10_net_4 : az_W C R k_X10_net 4 (v0 :: .int x :: ls) st h ↔ az_W C R k_X10_net 5 (v0 :: .int x :: ls) (.int x :: st) h := ap_iload rfl rfl
theorem u_X10_net_5 (hl : st.length ≤ 4) : az_W C R k_X10_net 5 ls (v1 :: .ref 49 :: st) (130, P, I, L) ↔ az_F C R (az_W C R k_X10_net) (130, P, I, L) (az_cl 3 [.ref 49, v1] 8 ls st) := ap_ivv rfl rfl kn_49 hl
theorem u_X10_net_8 : az_W C R k_X10_net 8 ls (.int x :: st) h ↔ if x = 0 then az_W C R k_X10_net 11 ls st h else az_W C R k_X10_net 15 ls st h := ap_ifne rfl
theorem u_X10_net_11 : az_W C R k_X10_net 11 ls st h ↔ az_W C R k_X10_net 14 ls (.int (-10001) :: st) h := ap_const rfl
theorem u_X10_net_14 : az_W C R k_X10_net 14 ls [.int x] h ↔ R (some (.int x)) h := ap_iret rfl
theorem u_X10_net_15 : az_W C R k_X10_net 15 (.ref a :: ls) st h ↔ az_W C R k_X10_net 16 (.ref a :: ls) (.ref a :: st) h := ap_aload rfl rfl
theorem u_X10_net_16 : az_W C R k_X10_net 16 ls (.ref 0 :: st) (130, az_Pf, I, L) ↔ az_W C R k_X10_net 19 ls (.ref 71 :: st) (130, az_Pf, I, L) := ap_getP rfl kn_0 pf_0_7
theorem u_X10_net_19 : az_W C R k_X10_net 19 (v0 :: .int x :: ls) st h ↔ az_W C R k_X10_net 20 (v0 :: .int x :: ls) (.int x :: st) h := ap_iload rfl rfl
theorem u_X10_net_20 (hl : st.length ≤ 4) : az_W C R k_X10_net 20 ls (v1 :: .ref 71 :: st) (130, P, I, L) ↔ az_F C R (az_W C R k_X10_net) (130, P, I, L) (az_cl 15 [.ref 71, v1] 23 ls st) := ap_ivv rfl rfl kn_71 hl
theorem u_X10_net_23 : az_W C R k_X10_net 23 ls [.int x] h ↔ R (some (.int x)) h := ap_iret rfl
def k_X10_ringed : Nat → az_P := (az_br 4 (az_br 1 (az_lf 0 (az_aload 0 1)) (az_lf 1 (az_getP 10 7 4))) (az_br 7 (az_lf 4 (az_ivv 16 0 1 7)) (az_lf 7 (az_iret))))
theorem u_X10_ringed_0 : az_W C R k_X10_ringed 0 (.ref a :: ls) st h ↔ az_W C R k_X10_ringed 1 (.ref a :: ls) (.ref a :: st) h := ap_aload rfl rfl
theorem u_X10_ringed_1 : az_W C R k_X10_ringed 1 ls (.ref 0 :: st) (130, az_Pf, I, L) ↔ az_W C R k_X10_ringed 4 ls (.ref 71 :: st) (130, az_Pf, I, L) := ap_getP rfl kn_0 pf_0_7
theorem u_X10_ringed_4 (hl : st.length ≤ 4) : az_W C R k_X10_ringed 4 ls (.ref 71 :: st) (130, P, I, L) ↔ az_F C R (az_W C R k_X10_ringed) (130, P, I, L) (az_cl 16 [.ref 71] 7 ls st) := ap_ivv rfl rfl kn_71 hl
theorem u_X10_ringed_7 : az_W C R k_X10_ringed 7 ls [.int x] h ↔ R (some (.int x)) h := ap_iret rfl
def k_X10_best : Nat → az_P := (az_br 12 (az_br 6 (az_br 2 (az_br 1 (az_lf 0 (az_iload 1 1)) (az_lf 1 (az_iload 2 2))) (az_br 3 (az_lf 2 (az_iload 3 3)) (az_lf 3 (az_ivs 134 3 6)))) (az_br 10 (az_br 9 (az_lf 6 (az_ifne 11 9)) (az_lf 9 (az_const (.int (-1)) 10))) (az_br 11 (az_lf 10 (az_iret)) (az_lf 11 (az_aload 0 12))))) (az_br 18 (az_br 16 (az_br 15 (az_lf 12 (az_getP 10 0 15)) (az_lf 15 (az_iload 1 16))) (az_br 17 (az_lf 16 (az_iload 2 17)) (az_lf 17 (az_iload 3 18)))) (az_br 22 (az_br 19 (az_lf 18 (az_aload 0 19)) (az_lf 19 (az_getP 10 9 22))) (az_br 25 (az_lf 22 (az_ivv 49 4 5 25)) (az_lf 25 (az_iret))))))
theorem u_X10_best_0 : az_W C R k_X10_best 0 (v0 :: .int x :: ls) st h ↔ az_W C R k_X10_best 1 (v0 :: .int x :: ls) (.int x :: st) h := ap_iload rfl rfl
theorem u_X10_best_1 : az_W C R k_X10_best 1 (v0 :: v1 :: .int x :: ls) st h ↔ az_W C R k_X10_best 2 (v0 :: v1 :: .int x :: ls) (.int x :: st) h := ap_iload rfl rfl
theorem u_X10_best_2 : az_W C R k_X10_best 2 (v0 :: v1 :: v2 :: .int x :: ls) st h ↔ az_W C R k_X10_best 3 (v0 :: v1 :: v2 :: .int x :: ls) (.int x :: st) h := ap_iload rfl rfl
theorem u_X10_best_3 (hl : st.length ≤ 4) : az_W C R k_X10_best 3 ls (v3 :: v2 :: v1 :: st) h ↔ az_F C R (az_W C R k_X10_best) h (az_cl 134 [v1, v2, v3] 6 ls st) := ap_ivs rfl rfl hl
theorem u_X10_best_6 : az_W C R k_X10_best 6 ls (.int x :: st) h ↔ if x = 0 then az_W C R k_X10_best 9 ls st h else az_W C R k_X10_best 11 ls st h := ap_ifne rfl
theorem u_X10_best_9 : az_W C R k_X10_best 9 ls st h ↔ az_W C R k_X10_best 10 ls (.int (-1) :: st) h := ap_const rfl
theorem u_X10_best_10 : az_W C R k_X10_best 10 ls [.int x] h ↔ R (some (.int x)) h := ap_iret rfl
theorem u_X10_best_11 : az_W C R k_X10_best 11 (.ref a :: ls) st h ↔ az_W C R k_X10_best 12 (.ref a :: ls) (.ref a :: st) h := ap_aload rfl rfl
theorem u_X10_best_12 : az_W C R k_X10_best 12 ls (.ref 0 :: st) (130, az_Pf, I, L) ↔ az_W C R k_X10_best 15 ls (.ref 1 :: st) (130, az_Pf, I, L) := ap_getP rfl kn_0 pf_0_0
theorem u_X10_best_15 : az_W C R k_X10_best 15 (v0 :: .int x :: ls) st h ↔ az_W C R k_X10_best 16 (v0 :: .int x :: ls) (.int x :: st) h := ap_iload rfl rfl
theorem u_X10_best_16 : az_W C R k_X10_best 16 (v0 :: v1 :: .int x :: ls) st h ↔ az_W C R k_X10_best 17 (v0 :: v1 :: .int x :: ls) (.int x :: st) h := ap_iload rfl rfl
theorem u_X10_best_17 : az_W C R k_X10_best 17 (v0 :: v1 :: v2 :: .int x :: ls) st h ↔ az_W C R k_X10_best 18 (v0 :: v1 :: v2 :: .int x :: ls) (.int x :: st) h := ap_iload rfl rfl
theorem u_X10_best_18 : az_W C R k_X10_best 18 (.ref a :: ls) st h ↔ az_W C R k_X10_best 19 (.ref a :: ls) (.ref a :: st) h := ap_aload rfl rfl
theorem u_X10_best_19 : az_W C R k_X10_best 19 ls (.ref 0 :: st) (130, az_Pf, I, L) ↔ az_W C R k_X10_best 22 ls (.ref 94 :: st) (130, az_Pf, I, L) := ap_getP rfl kn_0 pf_0_9
theorem u_X10_best_22 (hl : st.length ≤ 4) : az_W C R k_X10_best 22 ls (v4 :: v3 :: v2 :: v1 :: .ref 1 :: st) (130, P, I, L) ↔ az_F C R (az_W C R k_X10_best) (130, P, I, L) (az_cl 49 [.ref 1, v1, v2, v3, v4] 25 ls st) := ap_ivv rfl rfl kn_1 hl
theorem u_X10_best_25 : az_W C R k_X10_best 25 ls [.int x] h ↔ R (some (.int x)) h := ap_iret rfl
def k_X10_worst : Nat → az_P := (az_br 26 (az_br 11 (az_br 3 (az_br 1 (az_lf 0 (az_iload 1 1)) (az_br 2 (az_lf 1 (az_iload 2 2)) (az_lf 2 (az_iload 3 3)))) (az_br 6 (az_lf 3 (az_ivs 134 3 6)) (az_br 9 (az_lf 6 (az_ifeq 17 9)) (az_lf 9 (az_iload 4 11))))) (az_br 20 (az_br 14 (az_lf 11 (az_ivs 130 1 14)) (az_br 17 (az_lf 14 (az_ifne 21 17)) (az_lf 17 (az_const (.long (-1099511627777)) 20)))) (az_br 22 (az_br 21 (az_lf 20 (az_lret)) (az_lf 21 (az_aload 0 22))) (az_br 25 (az_lf 22 (az_getP 10 0 25)) (az_lf 25 (az_iload 1 26)))))) (az_br 40 (az_br 29 (az_br 27 (az_lf 26 (az_iload 2 27)) (az_br 28 (az_lf 27 (az_iload 3 28)) (az_lf 28 (az_aload 0 29)))) (az_br 35 (az_br 32 (az_lf 29 (az_getP 10 9 32)) (az_lf 32 (az_ivv 49 4 5 35))) (az_br 37 (az_lf 35 (az_const (.int (-4)) 37)) (az_lf 37 (az_icne 46 40))))) (az_br 47 (az_br 43 (az_lf 40 (az_const (.long (-1099511627780)) 43)) (az_br 46 (az_lf 43 (az_goto 55)) (az_lf 46 (az_aload 0 47)))) (az_br 52 (az_br 50 (az_lf 47 (az_getP 10 9 50)) (az_lf 50 (az_iload 4 52))) (az_br 55 (az_lf 52 (az_ivv 25 1 2 55)) (az_lf 55 (az_lret)))))))
theorem u_X10_worst_0 : az_W C R k_X10_worst 0 (v0 :: .int x :: ls) st h ↔ az_W C R k_X10_worst 1 (v0 :: .int x :: ls) (.int x :: st) h := ap_iload rfl rfl
theorem u_X10_worst_1 : az_W C R k_X10_worst 1 (v0 :: v1 :: .int x :: ls) st h ↔ az_W C R k_X10_worst 2 (v0 :: v1 :: .int x :: ls) (.int x :: st) h := ap_iload rfl rfl
theorem u_X10_worst_2 : az_W C R k_X10_worst 2 (v0 :: v1 :: v2 :: .int x :: ls) st h ↔ az_W C R k_X10_worst 3 (v0 :: v1 :: v2 :: .int x :: ls) (.int x :: st) h := ap_iload rfl rfl
theorem u_X10_worst_3 (hl : st.length ≤ 4) : az_W C R k_X10_worst 3 ls (v3 :: v2 :: v1 :: st) h ↔ az_F C R (az_W C R k_X10_worst) h (az_cl 134 [v1, v2, v3] 6 ls st) := ap_ivs rfl rfl hl
theorem u_X10_worst_6 : az_W C R k_X10_worst 6 ls (.int x :: st) h ↔ if x = 0 then az_W C R k_X10_worst 17 ls st h else az_W C R k_X10_worst 9 ls st h := ap_ifeq rfl
theorem u_X10_worst_9 : az_W C R k_X10_worst 9 (v0 :: v1 :: v2 :: v3 :: .int x :: ls) st h ↔ az_W C R k_X10_worst 11 (v0 :: v1 :: v2 :: v3 :: .int x :: ls) (.int x :: st) h := ap_iload rfl rfl
theorem u_X10_worst_11 (hl : st.length ≤ 4) : az_W C R k_X10_worst 11 ls (v1 :: st) h ↔ az_F C R (az_W C R k_X10_worst) h (az_cl 130 [v1] 14 ls st) := ap_ivs rfl rfl hl
theorem u_X10_worst_14 : az_W C R k_X10_worst 14 ls (.int x :: st) h ↔ if x = 0 then az_W C R k_X10_worst 17 ls st h else az_W C R k_X10_worst 21 ls st h := ap_ifne rfl
theorem u_X10_worst_17 : az_W C R k_X10_worst 17 ls st h ↔ az_W C R k_X10_worst 20 ls (.long (-1099511627777) :: st) h := ap_const rfl
theorem u_X10_worst_20 : az_W C R k_X10_worst 20 ls [.long p] h ↔ R (some (.long p)) h := ap_lret rfl
theorem u_X10_worst_21 : az_W C R k_X10_worst 21 (.ref a :: ls) st h ↔ az_W C R k_X10_worst 22 (.ref a :: ls) (.ref a :: st) h := ap_aload rfl rfl
theorem u_X10_worst_22 : az_W C R k_X10_worst 22 ls (.ref 0 :: st) (130, az_Pf, I, L) ↔ az_W C R k_X10_worst 25 ls (.ref 1 :: st) (130, az_Pf, I, L) := ap_getP rfl kn_0 pf_0_0
theorem u_X10_worst_25 : az_W C R k_X10_worst 25 (v0 :: .int x :: ls) st h ↔ az_W C R k_X10_worst 26 (v0 :: .int x :: ls) (.int x :: st) h := ap_iload rfl rfl
theorem u_X10_worst_26 : az_W C R k_X10_worst 26 (v0 :: v1 :: .int x :: ls) st h ↔ az_W C R k_X10_worst 27 (v0 :: v1 :: .int x :: ls) (.int x :: st) h := ap_iload rfl rfl
theorem u_X10_worst_27 : az_W C R k_X10_worst 27 (v0 :: v1 :: v2 :: .int x :: ls) st h ↔ az_W C R k_X10_worst 28 (v0 :: v1 :: v2 :: .int x :: ls) (.int x :: st) h := ap_iload rfl rfl
theorem u_X10_worst_28 : az_W C R k_X10_worst 28 (.ref a :: ls) st h ↔ az_W C R k_X10_worst 29 (.ref a :: ls) (.ref a :: st) h := ap_aload rfl rfl
theorem u_X10_worst_29 : az_W C R k_X10_worst 29 ls (.ref 0 :: st) (130, az_Pf, I, L) ↔ az_W C R k_X10_worst 32 ls (.ref 94 :: st) (130, az_Pf, I, L) := ap_getP rfl kn_0 pf_0_9
theorem u_X10_worst_32 (hl : st.length ≤ 4) : az_W C R k_X10_worst 32 ls (v4 :: v3 :: v2 :: v1 :: .ref 1 :: st) (130, P, I, L) ↔ az_F C R (az_W C R k_X10_worst) (130, P, I, L) (az_cl 49 [.ref 1, v1, v2, v3, v4] 35 ls st) := ap_ivv rfl rfl kn_1 hl
theorem u_X10_worst_35 : az_W C R k_X10_worst 35 ls st h ↔ az_W C R k_X10_worst 37 ls (.int (-4) :: st) h := ap_const rfl
theorem u_X10_worst_37 : az_W C R k_X10_worst 37 ls (.int y :: .int x :: st) h ↔ if x = y then az_W C R k_X10_worst 40 ls st h else az_W C R k_X10_worst 46 ls st h := ap_icne rfl
theorem u_X10_worst_40 : az_W C R k_X10_worst 40 ls st h ↔ az_W C R k_X10_worst 43 ls (.long (-1099511627780) :: st) h := ap_const rfl
theorem u_X10_worst_43 : az_W C R k_X10_worst 43 ls st h ↔ az_W C R k_X10_worst 55 ls st h := ap_goto rfl
theorem u_X10_worst_46 : az_W C R k_X10_worst 46 (.ref a :: ls) st h ↔ az_W C R k_X10_worst 47 (.ref a :: ls) (.ref a :: st) h := ap_aload rfl rfl
theorem u_X10_worst_47 : az_W C R k_X10_worst 47 ls (.ref 0 :: st) (130, az_Pf, I, L) ↔ az_W C R k_X10_worst 50 ls (.ref 94 :: st) (130, az_Pf, I, L) := ap_getP rfl kn_0 pf_0_9
theorem u_X10_worst_50 : az_W C R k_X10_worst 50 (v0 :: v1 :: v2 :: v3 :: .int x :: ls) st h ↔ az_W C R k_X10_worst 52 (v0 :: v1 :: v2 :: v3 :: .int x :: ls) (.int x :: st) h := ap_iload rfl rfl
theorem u_X10_worst_52 (hk : az_kn 130 a = (0, 2)) (hl : st.length ≤ 4) : az_W C R k_X10_worst 52 ls (v1 :: .ref a :: st) (130, P, I, L) ↔ az_F C R (az_W C R k_X10_worst) (130, P, I, L) (az_cl 25 [.ref a, v1] 55 ls st) := ap_ivv rfl rfl hk hl
theorem u_X10_worst_55 : az_W C R k_X10_worst 55 ls [.long p] h ↔ R (some (.long p)) h := ap_lret rfl
def k_X10_sheet : Nat → az_P := (az_br 17 (az_br 9 (az_br 2 (az_br 1 (az_lf 0 (az_iload 1 1)) (az_lf 1 (az_iload 2 2))) (az_br 5 (az_lf 2 (az_ivs 73 2 5)) (az_br 8 (az_lf 5 (az_ifeq 14 8)) (az_lf 8 (az_iload 3 9))))) (az_br 14 (az_br 11 (az_lf 9 (az_const (.int 16) 11)) (az_lf 11 (az_icle 16 14))) (az_br 15 (az_lf 14 (az_const (.int (-1)) 15)) (az_br 16 (az_lf 15 (az_iret)) (az_lf 16 (az_iload 3 17)))))) (az_br 27 (az_br 22 (az_br 20 (az_lf 17 (az_ifge 23 20)) (az_lf 20 (az_const (.int (-14)) 22))) (az_br 23 (az_lf 22 (az_iret)) (az_br 24 (az_lf 23 (az_aload 0 24)) (az_lf 24 (az_getP 10 8 27))))) (az_br 30 (az_br 28 (az_lf 27 (az_iload 1 28)) (az_br 29 (az_lf 28 (az_iload 2 29)) (az_lf 29 (az_iload 3 30)))) (az_br 33 (az_lf 30 (az_ivv 75 3 8 33)) (az_br 34 (az_lf 33 (az_iload 3 34)) (az_lf 34 (az_iret)))))))
theorem u_X10_sheet_0 : az_W C R k_X10_sheet 0 (v0 :: .int x :: ls) st h ↔ az_W C R k_X10_sheet 1 (v0 :: .int x :: ls) (.int x :: st) h := ap_iload rfl rfl
theorem u_X10_sheet_1 : az_W C R k_X10_sheet 1 (v0 :: v1 :: .int x :: ls) st h ↔ az_W C R k_X10_sheet 2 (v0 :: v1 :: .int x :: ls) (.int x :: st) h := ap_iload rfl rfl
theorem u_X10_sheet_2 (hl : st.length ≤ 4) : az_W C R k_X10_sheet 2 ls (v2 :: v1 :: st) h ↔ az_F C R (az_W C R k_X10_sheet) h (az_cl 73 [v1, v2] 5 ls st) := ap_ivs rfl rfl hl
theorem u_X10_sheet_5 : az_W C R k_X10_sheet 5 ls (.int x :: st) h ↔ if x = 0 then az_W C R k_X10_sheet 14 ls st h else az_W C R k_X10_sheet 8 ls st h := ap_ifeq rfl
theorem u_X10_sheet_8 : az_W C R k_X10_sheet 8 (v0 :: v1 :: v2 :: .int x :: ls) st h ↔ az_W C R k_X10_sheet 9 (v0 :: v1 :: v2 :: .int x :: ls) (.int x :: st) h := ap_iload rfl rfl
theorem u_X10_sheet_9 : az_W C R k_X10_sheet 9 ls st h ↔ az_W C R k_X10_sheet 11 ls (.int 16 :: st) h := ap_const rfl
theorem u_X10_sheet_11 : az_W C R k_X10_sheet 11 ls (.int y :: .int x :: st) h ↔ if x ≤ y then az_W C R k_X10_sheet 16 ls st h else az_W C R k_X10_sheet 14 ls st h := ap_icle rfl
theorem u_X10_sheet_14 : az_W C R k_X10_sheet 14 ls st h ↔ az_W C R k_X10_sheet 15 ls (.int (-1) :: st) h := ap_const rfl
theorem u_X10_sheet_15 : az_W C R k_X10_sheet 15 ls [.int x] h ↔ R (some (.int x)) h := ap_iret rfl
theorem u_X10_sheet_16 : az_W C R k_X10_sheet 16 (v0 :: v1 :: v2 :: .int x :: ls) st h ↔ az_W C R k_X10_sheet 17 (v0 :: v1 :: v2 :: .int x :: ls) (.int x :: st) h := ap_iload rfl rfl
theorem u_X10_sheet_17 : az_W C R k_X10_sheet 17 ls (.int x :: st) h ↔ if 0 ≤ x then az_W C R k_X10_sheet 23 ls st h else az_W C R k_X10_sheet 20 ls st h := ap_ifge rfl
theorem u_X10_sheet_20 : az_W C R k_X10_sheet 20 ls st h ↔ az_W C R k_X10_sheet 22 ls (.int (-14) :: st) h := ap_const rfl
theorem u_X10_sheet_22 : az_W C R k_X10_sheet 22 ls [.int x] h ↔ R (some (.int x)) h := ap_iret rfl
theorem u_X10_sheet_23 : az_W C R k_X10_sheet 23 (.ref a :: ls) st h ↔ az_W C R k_X10_sheet 24 (.ref a :: ls) (.ref a :: st) h := ap_aload rfl rfl
theorem u_X10_sheet_24 : az_W C R k_X10_sheet 24 ls (.ref 0 :: st) (130, az_Pf, I, L) ↔ az_W C R k_X10_sheet 27 ls (.ref 86 :: st) (130, az_Pf, I, L) := ap_getP rfl kn_0 pf_0_8
theorem u_X10_sheet_27 : az_W C R k_X10_sheet 27 (v0 :: .int x :: ls) st h ↔ az_W C R k_X10_sheet 28 (v0 :: .int x :: ls) (.int x :: st) h := ap_iload rfl rfl
theorem u_X10_sheet_28 : az_W C R k_X10_sheet 28 (v0 :: v1 :: .int x :: ls) st h ↔ az_W C R k_X10_sheet 29 (v0 :: v1 :: .int x :: ls) (.int x :: st) h := ap_iload rfl rfl
theorem u_X10_sheet_29 : az_W C R k_X10_sheet 29 (v0 :: v1 :: v2 :: .int x :: ls) st h ↔ az_W C R k_X10_sheet 30 (v0 :: v1 :: v2 :: .int x :: ls) (.int x :: st) h := ap_iload rfl rfl
theorem u_X10_sheet_30 (hl : st.length ≤ 4) : az_W C R k_X10_sheet 30 ls (v3 :: v2 :: v1 :: .ref 86 :: st) (130, P, I, L) ↔ az_F C R (az_W C R k_X10_sheet) (130, P, I, L) (az_cl 75 [.ref 86, v1, v2, v3] 33 ls st) := ap_ivv rfl rfl kn_86 hl
theorem u_X10_sheet_33 : az_W C R k_X10_sheet 33 (v0 :: v1 :: v2 :: .int x :: ls) st h ↔ az_W C R k_X10_sheet 34 (v0 :: v1 :: v2 :: .int x :: ls) (.int x :: st) h := ap_iload rfl rfl
theorem u_X10_sheet_34 : az_W C R k_X10_sheet 34 ls [.int x] h ↔ R (some (.int x)) h := ap_iret rfl
def k_X10_drop : Nat → az_P := (az_br 9 (az_br 2 (az_br 1 (az_lf 0 (az_iload 1 1)) (az_lf 1 (az_const (.int 0) 2))) (az_br 5 (az_lf 2 (az_ivs 73 2 5)) (az_br 8 (az_lf 5 (az_ifne 10 8)) (az_lf 8 (az_const (.int (-1)) 9))))) (az_br 14 (az_br 10 (az_lf 9 (az_iret)) (az_br 11 (az_lf 10 (az_aload 0 11)) (az_lf 11 (az_getP 10 8 14)))) (az_br 15 (az_lf 14 (az_iload 1 15)) (az_br 18 (az_lf 15 (az_ivv 76 1 8 18)) (az_lf 18 (az_iret))))))
theorem u_X10_drop_0 : az_W C R k_X10_drop 0 (v0 :: .int x :: ls) st h ↔ az_W C R k_X10_drop 1 (v0 :: .int x :: ls) (.int x :: st) h := ap_iload rfl rfl
theorem u_X10_drop_1 : az_W C R k_X10_drop 1 ls st h ↔ az_W C R k_X10_drop 2 ls (.int 0 :: st) h := ap_const rfl
theorem u_X10_drop_2 (hl : st.length ≤ 4) : az_W C R k_X10_drop 2 ls (v2 :: v1 :: st) h ↔ az_F C R (az_W C R k_X10_drop) h (az_cl 73 [v1, v2] 5 ls st) := ap_ivs rfl rfl hl
theorem u_X10_drop_5 : az_W C R k_X10_drop 5 ls (.int x :: st) h ↔ if x = 0 then az_W C R k_X10_drop 8 ls st h else az_W C R k_X10_drop 10 ls st h := ap_ifne rfl
theorem u_X10_drop_8 : az_W C R k_X10_drop 8 ls st h ↔ az_W C R k_X10_drop 9 ls (.int (-1) :: st) h := ap_const rfl
theorem u_X10_drop_9 : az_W C R k_X10_drop 9 ls [.int x] h ↔ R (some (.int x)) h := ap_iret rfl
theorem u_X10_drop_10 : az_W C R k_X10_drop 10 (.ref a :: ls) st h ↔ az_W C R k_X10_drop 11 (.ref a :: ls) (.ref a :: st) h := ap_aload rfl rfl
theorem u_X10_drop_11 : az_W C R k_X10_drop 11 ls (.ref 0 :: st) (130, az_Pf, I, L) ↔ az_W C R k_X10_drop 14 ls (.ref 86 :: st) (130, az_Pf, I, L) := ap_getP rfl kn_0 pf_0_8
theorem u_X10_drop_14 : az_W C R k_X10_drop 14 (v0 :: .int x :: ls) st h ↔ az_W C R k_X10_drop 15 (v0 :: .int x :: ls) (.int x :: st) h := ap_iload rfl rfl
theorem u_X10_drop_15 (hl : st.length ≤ 4) : az_W C R k_X10_drop 15 ls (v1 :: .ref 86 :: st) (130, P, I, L) ↔ az_F C R (az_W C R k_X10_drop) (130, P, I, L) (az_cl 76 [.ref 86, v1] 18 ls st) := ap_ivv rfl rfl kn_86 hl
theorem u_X10_drop_18 : az_W C R k_X10_drop 18 ls [.int x] h ↔ R (some (.int x)) h := ap_iret rfl
def k_X10_item : Nat → az_P := (az_br 18 (az_br 7 (az_br 4 (az_br 1 (az_lf 0 (az_aload 0 1)) (az_lf 1 (az_getP 10 8 4))) (az_br 5 (az_lf 4 (az_iload 1 5)) (az_br 6 (az_lf 5 (az_iload 2 6)) (az_lf 6 (az_iload 3 7))))) (az_br 11 (az_br 8 (az_lf 7 (az_const (.int 1) 8)) (az_lf 8 (az_ivv 74 4 8 11))) (az_br 13 (az_lf 11 (az_istore 5 13)) (az_br 15 (az_lf 13 (az_iload 5 15)) (az_lf 15 (az_ifeq 21 18)))))) (az_br 26 (az_br 21 (az_br 20 (az_lf 18 (az_iload 5 20)) (az_lf 20 (az_iret))) (az_br 22 (az_lf 21 (az_aload 0 22)) (az_br 25 (az_lf 22 (az_getP 10 8 25)) (az_lf 25 (az_iload 1 26))))) (az_br 29 (az_br 27 (az_lf 26 (az_iload 3 27)) (az_lf 27 (az_iload 4 29))) (az_br 32 (az_lf 29 (az_ivv 78 3 8 32)) (az_br 33 (az_lf 32 (az_const (.int 1) 33)) (az_lf 33 (az_iret)))))))
theorem u_X10_item_0 : az_W C R k_X10_item 0 (.ref a :: ls) st h ↔ az_W C R k_X10_item 1 (.ref a :: ls) (.ref a :: st) h := ap_aload rfl rfl
theorem u_X10_item_1 : az_W C R k_X10_item 1 ls (.ref 0 :: st) (130, az_Pf, I, L) ↔ az_W C R k_X10_item 4 ls (.ref 86 :: st) (130, az_Pf, I, L) := ap_getP rfl kn_0 pf_0_8
theorem u_X10_item_4 : az_W C R k_X10_item 4 (v0 :: .int x :: ls) st h ↔ az_W C R k_X10_item 5 (v0 :: .int x :: ls) (.int x :: st) h := ap_iload rfl rfl
theorem u_X10_item_5 : az_W C R k_X10_item 5 (v0 :: v1 :: .int x :: ls) st h ↔ az_W C R k_X10_item 6 (v0 :: v1 :: .int x :: ls) (.int x :: st) h := ap_iload rfl rfl
theorem u_X10_item_6 : az_W C R k_X10_item 6 (v0 :: v1 :: v2 :: .int x :: ls) st h ↔ az_W C R k_X10_item 7 (v0 :: v1 :: v2 :: .int x :: ls) (.int x :: st) h := ap_iload rfl rfl
theorem u_X10_item_7 : az_W C R k_X10_item 7 ls st h ↔ az_W C R k_X10_item 8 ls (.int 1 :: st) h := ap_const rfl
theorem u_X10_item_8 (hl : st.length ≤ 4) : az_W C R k_X10_item 8 ls (v4 :: v3 :: v2 :: v1 :: .ref 86 :: st) (130, P, I, L) ↔ az_F C R (az_W C R k_X10_item) (130, P, I, L) (az_cl 74 [.ref 86, v1, v2, v3, v4] 11 ls st) := ap_ivv rfl rfl kn_86 hl
theorem u_X10_item_11 : az_W C R k_X10_item 11 (v0 :: v1 :: v2 :: v3 :: v4 :: v5 :: ls) (.int x :: st) h ↔ az_W C R k_X10_item 13 (v0 :: v1 :: v2 :: v3 :: az_un v4 :: .int x :: ls) st h := ap_istore rfl rfl
theorem u_X10_item_13 : az_W C R k_X10_item 13 (v0 :: v1 :: v2 :: v3 :: v4 :: .int x :: ls) st h ↔ az_W C R k_X10_item 15 (v0 :: v1 :: v2 :: v3 :: v4 :: .int x :: ls) (.int x :: st) h := ap_iload rfl rfl
theorem u_X10_item_15 : az_W C R k_X10_item 15 ls (.int x :: st) h ↔ if x = 0 then az_W C R k_X10_item 21 ls st h else az_W C R k_X10_item 18 ls st h := ap_ifeq rfl
theorem u_X10_item_18 : az_W C R k_X10_item 18 (v0 :: v1 :: v2 :: v3 :: v4 :: .int x :: ls) st h ↔ az_W C R k_X10_item 20 (v0 :: v1 :: v2 :: v3 :: v4 :: .int x :: ls) (.int x :: st) h := ap_iload rfl rfl
theorem u_X10_item_20 : az_W C R k_X10_item 20 ls [.int x] h ↔ R (some (.int x)) h := ap_iret rfl
theorem u_X10_item_21 : az_W C R k_X10_item 21 (.ref a :: ls) st h ↔ az_W C R k_X10_item 22 (.ref a :: ls) (.ref a :: st) h := ap_aload rfl rfl
theorem u_X10_item_22 : az_W C R k_X10_item 22 ls (.ref 0 :: st) (130, az_Pf, I, L) ↔ az_W C R k_X10_item 25 ls (.ref 86 :: st) (130, az_Pf, I, L) := ap_getP rfl kn_0 pf_0_8
theorem u_X10_item_25 : az_W C R k_X10_item 25 (v0 :: .int x :: ls) st h ↔ az_W C R k_X10_item 26 (v0 :: .int x :: ls) (.int x :: st) h := ap_iload rfl rfl
theorem u_X10_item_26 : az_W C R k_X10_item 26 (v0 :: v1 :: v2 :: .int x :: ls) st h ↔ az_W C R k_X10_item 27 (v0 :: v1 :: v2 :: .int x :: ls) (.int x :: st) h := ap_iload rfl rfl
theorem u_X10_item_27 : az_W C R k_X10_item 27 (v0 :: v1 :: v2 :: v3 :: .int x :: ls) st h ↔ az_W C R k_X10_item 29 (v0 :: v1 :: v2 :: v3 :: .int x :: ls) (.int x :: st) h := ap_iload rfl rfl
theorem u_X10_item_29 (hl : st.length ≤ 4) : az_W C R k_X10_item 29 ls (v3 :: v2 :: v1 :: .ref 86 :: st) (130, P, I, L) ↔ az_F C R (az_W C R k_X10_item) (130, P, I, L) (az_cl 78 [.ref 86, v1, v2, v3] 32 ls st) := ap_ivv rfl rfl kn_86 hl
theorem u_X10_item_32 : az_W C R k_X10_item 32 ls st h ↔ az_W C R k_X10_item 33 ls (.int 1 :: st) h := ap_const rfl
theorem u_X10_item_33 : az_W C R k_X10_item 33 ls [.int x] h ↔ R (some (.int x)) h := ap_iret rfl
def k_X10_isIn : Nat → az_P := (az_br 7 (az_br 2 (az_br 1 (az_lf 0 (az_iload 0 1)) (az_lf 1 (az_iload 1 2))) (az_br 5 (az_lf 2 (az_iclt 14 5)) (az_br 6 (az_lf 5 (az_iload 0 6)) (az_lf 6 (az_iload 2 7))))) (az_br 11 (az_br 10 (az_lf 7 (az_icgt 14 10)) (az_lf 10 (az_const (.int 1) 11))) (az_br 14 (az_lf 11 (az_goto 15)) (az_br 15 (az_lf 14 (az_const (.int 0) 15)) (az_lf 15 (az_zret))))))
theorem u_X10_isIn_0 : az_W C R k_X10_isIn 0 (.int x :: ls) st h ↔ az_W C R k_X10_isIn 1 (.int x :: ls) (.int x :: st) h := ap_iload rfl rfl
theorem u_X10_isIn_1 : az_W C R k_X10_isIn 1 (v0 :: .int x :: ls) st h ↔ az_W C R k_X10_isIn 2 (v0 :: .int x :: ls) (.int x :: st) h := ap_iload rfl rfl
theorem u_X10_isIn_2 : az_W C R k_X10_isIn 2 ls (.int y :: .int x :: st) h ↔ if x < y then az_W C R k_X10_isIn 14 ls st h else az_W C R k_X10_isIn 5 ls st h := ap_iclt rfl
theorem u_X10_isIn_5 : az_W C R k_X10_isIn 5 (.int x :: ls) st h ↔ az_W C R k_X10_isIn 6 (.int x :: ls) (.int x :: st) h := ap_iload rfl rfl
theorem u_X10_isIn_6 : az_W C R k_X10_isIn 6 (v0 :: v1 :: .int x :: ls) st h ↔ az_W C R k_X10_isIn 7 (v0 :: v1 :: .int x :: ls) (.int x :: st) h := ap_iload rfl rfl
theorem u_X10_isIn_7 : az_W C R k_X10_isIn 7 ls (.int y :: .int x :: st) h ↔ if y < x then az_W C R k_X10_isIn 14 ls st h else az_W C R k_X10_isIn 10 ls st h := ap_icgt rfl
theorem u_X10_isIn_10 : az_W C R k_X10_isIn 10 ls st h ↔ az_W C R k_X10_isIn 11 ls (.int 1 :: st) h := ap_const rfl
theorem u_X10_isIn_11 : az_W C R k_X10_isIn 11 ls st h ↔ az_W C R k_X10_isIn 15 ls st h := ap_goto rfl
theorem u_X10_isIn_14 : az_W C R k_X10_isIn 14 ls st h ↔ az_W C R k_X10_isIn 15 ls (.int 0 :: st) h := ap_const rfl
theorem u_X10_isIn_15 : az_W C R k_X10_isIn 15 ls [.int x] h ↔ ((x = 0 ∨ x = 1) ∧ R (some (.int x)) h) := ap_zret rfl
def k_X10_isBit : Nat → az_P := (az_br 6 (az_br 4 (az_br 1 (az_lf 0 (az_iload 0 1)) (az_lf 1 (az_ifeq 9 4))) (az_br 5 (az_lf 4 (az_iload 0 5)) (az_lf 5 (az_const (.int 1) 6)))) (az_br 10 (az_br 9 (az_lf 6 (az_icne 13 9)) (az_lf 9 (az_const (.int 1) 10))) (az_br 13 (az_lf 10 (az_goto 14)) (az_br 14 (az_lf 13 (az_const (.int 0) 14)) (az_lf 14 (az_zret))))))
theorem u_X10_isBit_0 : az_W C R k_X10_isBit 0 (.int x :: ls) st h ↔ az_W C R k_X10_isBit 1 (.int x :: ls) (.int x :: st) h := ap_iload rfl rfl
theorem u_X10_isBit_1 : az_W C R k_X10_isBit 1 ls (.int x :: st) h ↔ if x = 0 then az_W C R k_X10_isBit 9 ls st h else az_W C R k_X10_isBit 4 ls st h := ap_ifeq rfl
theorem u_X10_isBit_4 : az_W C R k_X10_isBit 4 (.int x :: ls) st h ↔ az_W C R k_X10_isBit 5 (.int x :: ls) (.int x :: st) h := ap_iload rfl rfl
theorem u_X10_isBit_5 : az_W C R k_X10_isBit 5 ls st h ↔ az_W C R k_X10_isBit 6 ls (.int 1 :: st) h := ap_const rfl
theorem u_X10_isBit_6 : az_W C R k_X10_isBit 6 ls (.int y :: .int x :: st) h ↔ if x = y then az_W C R k_X10_isBit 9 ls st h else az_W C R k_X10_isBit 13 ls st h := ap_icne rfl
theorem u_X10_isBit_9 : az_W C R k_X10_isBit 9 ls st h ↔ az_W C R k_X10_isBit 10 ls (.int 1 :: st) h := ap_const rfl
theorem u_X10_isBit_10 : az_W C R k_X10_isBit 10 ls st h ↔ az_W C R k_X10_isBit 14 ls st h := ap_goto rfl
theorem u_X10_isBit_13 : az_W C R k_X10_isBit 13 ls st h ↔ az_W C R k_X10_isBit 14 ls (.int 0 :: st) h := ap_const rfl
theorem u_X10_isBit_14 : az_W C R k_X10_isBit 14 ls [.int x] h ↔ ((x = 0 ∨ x = 1) ∧ R (some (.int x)) h) := ap_zret rfl
def k_X10_isHouse : Nat → az_P := (az_br 7 (az_br 4 (az_br 1 (az_lf 0 (az_iload 0 1)) (az_lf 1 (az_iflt 14 4))) (az_br 5 (az_lf 4 (az_iload 0 5)) (az_lf 5 (az_const (.int 8) 7)))) (az_br 11 (az_br 10 (az_lf 7 (az_icge 14 10)) (az_lf 10 (az_const (.int 1) 11))) (az_br 14 (az_lf 11 (az_goto 15)) (az_br 15 (az_lf 14 (az_const (.int 0) 15)) (az_lf 15 (az_zret))))))
theorem u_X10_isHouse_0 : az_W C R k_X10_isHouse 0 (.int x :: ls) st h ↔ az_W C R k_X10_isHouse 1 (.int x :: ls) (.int x :: st) h := ap_iload rfl rfl
theorem u_X10_isHouse_1 : az_W C R k_X10_isHouse 1 ls (.int x :: st) h ↔ if x < 0 then az_W C R k_X10_isHouse 14 ls st h else az_W C R k_X10_isHouse 4 ls st h := ap_iflt rfl
theorem u_X10_isHouse_4 : az_W C R k_X10_isHouse 4 (.int x :: ls) st h ↔ az_W C R k_X10_isHouse 5 (.int x :: ls) (.int x :: st) h := ap_iload rfl rfl
theorem u_X10_isHouse_5 : az_W C R k_X10_isHouse 5 ls st h ↔ az_W C R k_X10_isHouse 7 ls (.int 8 :: st) h := ap_const rfl
theorem u_X10_isHouse_7 : az_W C R k_X10_isHouse 7 ls (.int y :: .int x :: st) h ↔ if y ≤ x then az_W C R k_X10_isHouse 14 ls st h else az_W C R k_X10_isHouse 10 ls st h := ap_icge rfl
theorem u_X10_isHouse_10 : az_W C R k_X10_isHouse 10 ls st h ↔ az_W C R k_X10_isHouse 11 ls (.int 1 :: st) h := ap_const rfl
theorem u_X10_isHouse_11 : az_W C R k_X10_isHouse 11 ls st h ↔ az_W C R k_X10_isHouse 15 ls st h := ap_goto rfl
theorem u_X10_isHouse_14 : az_W C R k_X10_isHouse 14 ls st h ↔ az_W C R k_X10_isHouse 15 ls (.int 0 :: st) h := ap_const rfl
theorem u_X10_isHouse_15 : az_W C R k_X10_isHouse 15 ls [.int x] h ↔ ((x = 0 ∨ x = 1) ∧ R (some (.int x)) h) := ap_zret rfl
def k_X10_isMorning : Nat → az_P := (az_br 7 (az_br 4 (az_br 1 (az_lf 0 (az_iload 0 1)) (az_lf 1 (az_iflt 14 4))) (az_br 5 (az_lf 4 (az_iload 0 5)) (az_lf 5 (az_const (.int 30) 7)))) (az_br 11 (az_br 10 (az_lf 7 (az_icge 14 10)) (az_lf 10 (az_const (.int 1) 11))) (az_br 14 (az_lf 11 (az_goto 15)) (az_br 15 (az_lf 14 (az_const (.int 0) 15)) (az_lf 15 (az_zret))))))
theorem u_X10_isMorning_0 : az_W C R k_X10_isMorning 0 (.int x :: ls) st h ↔ az_W C R k_X10_isMorning 1 (.int x :: ls) (.int x :: st) h := ap_iload rfl rfl
theorem u_X10_isMorning_1 : az_W C R k_X10_isMorning 1 ls (.int x :: st) h ↔ if x < 0 then az_W C R k_X10_isMorning 14 ls st h else az_W C R k_X10_isMorning 4 ls st h := ap_iflt rfl
theorem u_X10_isMorning_4 : az_W C R k_X10_isMorning 4 (.int x :: ls) st h ↔ az_W C R k_X10_isMorning 5 (.int x :: ls) (.int x :: st) h := ap_iload rfl rfl
theorem u_X10_isMorning_5 : az_W C R k_X10_isMorning 5 ls st h ↔ az_W C R k_X10_isMorning 7 ls (.int 30 :: st) h := ap_const rfl
theorem u_X10_isMorning_7 : az_W C R k_X10_isMorning 7 ls (.int y :: .int x :: st) h ↔ if y ≤ x then az_W C R k_X10_isMorning 14 ls st h else az_W C R k_X10_isMorning 10 ls st h := ap_icge rfl
theorem u_X10_isMorning_10 : az_W C R k_X10_isMorning 10 ls st h ↔ az_W C R k_X10_isMorning 11 ls (.int 1 :: st) h := ap_const rfl
theorem u_X10_isMorning_11 : az_W C R k_X10_isMorning 11 ls st h ↔ az_W C R k_X10_isMorning 15 ls st h := ap_goto rfl
theorem u_X10_isMorning_14 : az_W C R k_X10_isMorning 14 ls st h ↔ az_W C R k_X10_isMorning 15 ls (.int 0 :: st) h := ap_const rfl
theorem u_X10_isMorning_15 : az_W C R k_X10_isMorning 15 ls [.int x] h ↔ ((x = 0 ∨ x = 1) ∧ R (some (.int x)) h) := ap_zret rfl
def k_X10_isSayable : Nat → az_P := (az_br 2 (az_br 1 (az_lf 0 (az_iload 0 1)) (az_lf 1 (az_const (.int (-1)) 2))) (az_br 5 (az_lf 2 (az_const (.int 999) 5)) (az_br 8 (az_lf 5 (az_ivs 129 3 8)) (az_lf 8 (az_zret)))))
theorem u_X10_isSayable_0 : az_W C R k_X10_isSayable 0 (.int x :: ls) st h ↔ az_W C R k_X10_isSayable 1 (.int x :: ls) (.int x :: st) h := ap_iload rfl rfl
theorem u_X10_isSayable_1 : az_W C R k_X10_isSayable 1 ls st h ↔ az_W C R k_X10_isSayable 2 ls (.int (-1) :: st) h := ap_const rfl
theorem u_X10_isSayable_2 : az_W C R k_X10_isSayable 2 ls st h ↔ az_W C R k_X10_isSayable 5 ls (.int 999 :: st) h := ap_const rfl
theorem u_X10_isSayable_5 (hl : st.length ≤ 4) : az_W C R k_X10_isSayable 5 ls (v3 :: v2 :: v1 :: st) h ↔ az_F C R (az_W C R k_X10_isSayable) h (az_cl 129 [v1, v2, v3] 8 ls st) := ap_ivs rfl rfl hl
theorem u_X10_isSayable_8 : az_W C R k_X10_isSayable 8 ls [.int x] h ↔ ((x = 0 ∨ x = 1) ∧ R (some (.int x)) h) := ap_zret rfl
def k_X10_isPlan : Nat → az_P := (az_br 17 (az_br 6 (az_br 2 (az_br 1 (az_lf 0 (az_iload 0 1)) (az_lf 1 (az_const (.int 1) 2))) (az_br 3 (az_lf 2 (az_const (.int 4) 3)) (az_lf 3 (az_ivs 129 3 6)))) (az_br 10 (az_br 9 (az_lf 6 (az_ifeq 32 9)) (az_lf 9 (az_iload 1 10))) (az_br 13 (az_lf 10 (az_ivs 132 1 13)) (az_br 16 (az_lf 13 (az_ifeq 32 16)) (az_lf 16 (az_iload 2 17)))))) (az_br 25 (az_br 23 (az_br 20 (az_lf 17 (az_ivs 132 1 20)) (az_lf 20 (az_ifeq 32 23))) (az_br 24 (az_lf 23 (az_iload 1 24)) (az_lf 24 (az_iload 2 25)))) (az_br 29 (az_br 28 (az_lf 25 (az_icgt 32 28)) (az_lf 28 (az_const (.int 1) 29))) (az_br 32 (az_lf 29 (az_goto 33)) (az_br 33 (az_lf 32 (az_const (.int 0) 33)) (az_lf 33 (az_zret)))))))
theorem u_X10_isPlan_0 : az_W C R k_X10_isPlan 0 (.int x :: ls) st h ↔ az_W C R k_X10_isPlan 1 (.int x :: ls) (.int x :: st) h := ap_iload rfl rfl
theorem u_X10_isPlan_1 : az_W C R k_X10_isPlan 1 ls st h ↔ az_W C R k_X10_isPlan 2 ls (.int 1 :: st) h := ap_const rfl
theorem u_X10_isPlan_2 : az_W C R k_X10_isPlan 2 ls st h ↔ az_W C R k_X10_isPlan 3 ls (.int 4 :: st) h := ap_const rfl
theorem u_X10_isPlan_3 (hl : st.length ≤ 4) : az_W C R k_X10_isPlan 3 ls (v3 :: v2 :: v1 :: st) h ↔ az_F C R (az_W C R k_X10_isPlan) h (az_cl 129 [v1, v2, v3] 6 ls st) := ap_ivs rfl rfl hl
theorem u_X10_isPlan_6 : az_W C R k_X10_isPlan 6 ls (.int x :: st) h ↔ if x = 0 then az_W C R k_X10_isPlan 32 ls st h else az_W C R k_X10_isPlan 9 ls st h := ap_ifeq rfl
theorem u_X10_isPlan_9 : az_W C R k_X10_isPlan 9 (v0 :: .int x :: ls) st h ↔ az_W C R k_X10_isPlan 10 (v0 :: .int x :: ls) (.int x :: st) h := ap_iload rfl rfl
theorem u_X10_isPlan_10 (hl : st.length ≤ 4) : az_W C R k_X10_isPlan 10 ls (v1 :: st) h ↔ az_F C R (az_W C R k_X10_isPlan) h (az_cl 132 [v1] 13 ls st) := ap_ivs rfl rfl hl
theorem u_X10_isPlan_13 : az_W C R k_X10_isPlan 13 ls (.int x :: st) h ↔ if x = 0 then az_W C R k_X10_isPlan 32 ls st h else az_W C R k_X10_isPlan 16 ls st h := ap_ifeq rfl
theorem u_X10_isPlan_16 : az_W C R k_X10_isPlan 16 (v0 :: v1 :: .int x :: ls) st h ↔ az_W C R k_X10_isPlan 17 (v0 :: v1 :: .int x :: ls) (.int x :: st) h := ap_iload rfl rfl
theorem u_X10_isPlan_17 (hl : st.length ≤ 4) : az_W C R k_X10_isPlan 17 ls (v1 :: st) h ↔ az_F C R (az_W C R k_X10_isPlan) h (az_cl 132 [v1] 20 ls st) := ap_ivs rfl rfl hl
theorem u_X10_isPlan_20 : az_W C R k_X10_isPlan 20 ls (.int x :: st) h ↔ if x = 0 then az_W C R k_X10_isPlan 32 ls st h else az_W C R k_X10_isPlan 23 ls st h := ap_ifeq rfl
theorem u_X10_isPlan_23 : az_W C R k_X10_isPlan 23 (v0 :: .int x :: ls) st h ↔ az_W C R k_X10_isPlan 24 (v0 :: .int x :: ls) (.int x :: st) h := ap_iload rfl rfl
theorem u_X10_isPlan_24 : az_W C R k_X10_isPlan 24 (v0 :: v1 :: .int x :: ls) st h ↔ az_W C R k_X10_isPlan 25 (v0 :: v1 :: .int x :: ls) (.int x :: st) h := ap_iload rfl rfl
theorem u_X10_isPlan_25 : az_W C R k_X10_isPlan 25 ls (.int y :: .int x :: st) h ↔ if y < x then az_W C R k_X10_isPlan 32 ls st h else az_W C R k_X10_isPlan 28 ls st h := ap_icgt rfl
theorem u_X10_isPlan_28 : az_W C R k_X10_isPlan 28 ls st h ↔ az_W C R k_X10_isPlan 29 ls (.int 1 :: st) h := ap_const rfl
theorem u_X10_isPlan_29 : az_W C R k_X10_isPlan 29 ls st h ↔ az_W C R k_X10_isPlan 33 ls st h := ap_goto rfl
theorem u_X10_isPlan_32 : az_W C R k_X10_isPlan 32 ls st h ↔ az_W C R k_X10_isPlan 33 ls (.int 0 :: st) h := ap_const rfl
theorem u_X10_isPlan_33 : az_W C R k_X10_isPlan 33 ls [.int x] h ↔ ((x = 0 ∨ x = 1) ∧ R (some (.int x)) h) := ap_zret rfl
def k_X10_findTrue : Nat → az_P := (az_br 7 (az_br 4 (az_br 1 (az_lf 0 (az_aload 0 1)) (az_lf 1 (az_getP 10 4 4))) (az_br 5 (az_lf 4 (az_iload 1 5)) (az_br 6 (az_lf 5 (az_iload 2 6)) (az_lf 6 (az_aload 0 7))))) (az_br 12 (az_br 10 (az_lf 7 (az_getP 10 2 10)) (az_br 11 (az_lf 10 (az_iload 2 11)) (az_lf 11 (az_const (.int 2) 12)))) (az_br 15 (az_lf 12 (az_ivv 60 2 6 15)) (az_br 18 (az_lf 15 (az_ivv 31 3 3 18)) (az_lf 18 (az_zret))))))
theorem u_X10_findTrue_0 : az_W C R k_X10_findTrue 0 (.ref a :: ls) st h ↔ az_W C R k_X10_findTrue 1 (.ref a :: ls) (.ref a :: st) h := ap_aload rfl rfl
theorem u_X10_findTrue_1 : az_W C R k_X10_findTrue 1 ls (.ref 0 :: st) (130, az_Pf, I, L) ↔ az_W C R k_X10_findTrue 4 ls (.ref 56 :: st) (130, az_Pf, I, L) := ap_getP rfl kn_0 pf_0_4
theorem u_X10_findTrue_4 : az_W C R k_X10_findTrue 4 (v0 :: .int x :: ls) st h ↔ az_W C R k_X10_findTrue 5 (v0 :: .int x :: ls) (.int x :: st) h := ap_iload rfl rfl
theorem u_X10_findTrue_5 : az_W C R k_X10_findTrue 5 (v0 :: v1 :: .int x :: ls) st h ↔ az_W C R k_X10_findTrue 6 (v0 :: v1 :: .int x :: ls) (.int x :: st) h := ap_iload rfl rfl
theorem u_X10_findTrue_6 : az_W C R k_X10_findTrue 6 (.ref a :: ls) st h ↔ az_W C R k_X10_findTrue 7 (.ref a :: ls) (.ref a :: st) h := ap_aload rfl rfl
theorem u_X10_findTrue_7 : az_W C R k_X10_findTrue 7 ls (.ref 0 :: st) (130, az_Pf, I, L) ↔ az_W C R k_X10_findTrue 10 ls (.ref 35 :: st) (130, az_Pf, I, L) := ap_getP rfl kn_0 pf_0_2
theorem u_X10_findTrue_10 : az_W C R k_X10_findTrue 10 (v0 :: v1 :: .int x :: ls) st h ↔ az_W C R k_X10_findTrue 11 (v0 :: v1 :: .int x :: ls) (.int x :: st) h := ap_iload rfl rfl
theorem u_X10_findTrue_11 : az_W C R k_X10_findTrue 11 ls st h ↔ az_W C R k_X10_findTrue 12 ls (.int 2 :: st) h := ap_const rfl
theorem u_X10_findTrue_12 (hl : st.length ≤ 4) : az_W C R k_X10_findTrue 12 ls (v2 :: v1 :: .ref 35 :: st) (130, P, I, L) ↔ az_F C R (az_W C R k_X10_findTrue) (130, P, I, L) (az_cl 60 [.ref 35, v1, v2] 15 ls st) := ap_ivv rfl rfl kn_35 hl
theorem u_X10_findTrue_15 (hl : st.length ≤ 4) : az_W C R k_X10_findTrue 15 ls (v3 :: v2 :: v1 :: .ref 56 :: st) (130, P, I, L) ↔ az_F C R (az_W C R k_X10_findTrue) (130, P, I, L) (az_cl 31 [.ref 56, v1, v2, v3] 18 ls st) := ap_ivv rfl rfl kn_56 hl
theorem u_X10_findTrue_18 : az_W C R k_X10_findTrue 18 ls [.int x] h ↔ ((x = 0 ∨ x = 1) ∧ R (some (.int x)) h) := ap_zret rfl
def k_X10_outSign : Nat → az_P := (az_br 26 (az_br 12 (az_br 6 (az_br 4 (az_br 1 (az_lf 0 (az_aload 0 1)) (az_lf 1 (az_getP 10 1 4))) (az_br 5 (az_lf 4 (az_iload 1 5)) (az_lf 5 (az_iload 2 6)))) (az_br 10 (az_br 9 (az_lf 6 (az_ivv 35 2 4 9)) (az_lf 9 (az_istore 3 10))) (az_br 11 (az_lf 10 (az_iload 3 11)) (az_lf 11 (az_const (.int (-1)) 12))))) (az_br 18 (az_br 16 (az_br 15 (az_lf 12 (az_iceq 24 15)) (az_lf 15 (az_aload 0 16))) (az_br 17 (az_lf 16 (az_iload 1 17)) (az_lf 17 (az_iload 2 18)))) (az_br 24 (az_br 21 (az_lf 18 (az_ivv 135 2 10 21)) (az_lf 21 (az_ifne 26 24))) (az_br 25 (az_lf 24 (az_const (.int 0) 25)) (az_lf 25 (az_iret)))))) (az_br 40 (az_br 34 (az_br 28 (az_br 27 (az_lf 26 (az_iload 3 27)) (az_lf 27 (az_aload 0 28))) (az_br 31 (az_lf 28 (az_getP 10 4 31)) (az_lf 31 (az_ivv 29 0 3 34)))) (az_br 38 (az_br 37 (az_lf 34 (az_icle 39 37)) (az_lf 37 (az_const (.int 1) 38))) (az_br 39 (az_lf 38 (az_iret)) (az_lf 39 (az_iload 3 40))))) (az_br 50 (az_br 44 (az_br 41 (az_lf 40 (az_aload 0 41)) (az_lf 41 (az_getP 10 4 44))) (az_br 47 (az_lf 44 (az_ivv 28 0 3 47)) (az_lf 47 (az_icge 54 50)))) (az_br 54 (az_br 51 (az_lf 50 (az_const (.int (-1)) 51)) (az_lf 51 (az_goto 55))) (az_br 55 (az_lf 54 (az_const (.int 0) 55)) (az_lf 55 (az_iret)))))))
theorem u_X10_outSign_0 : az_W C R k_X10_outSign 0 (.ref a :: ls) st h ↔ az_W C R k_X10_outSign 1 (.ref a :: ls) (.ref a :: st) h := ap_aload rfl rfl
theorem u_X10_outSign_1 : az_W C R k_X10_outSign 1 ls (.ref 0 :: st) (130, az_Pf, I, L) ↔ az_W C R k_X10_outSign 4 ls (.ref 2 :: st) (130, az_Pf, I, L) := ap_getP rfl kn_0 pf_0_1
theorem u_X10_outSign_4 : az_W C R k_X10_outSign 4 (v0 :: .int x :: ls) st h ↔ az_W C R k_X10_outSign 5 (v0 :: .int x :: ls) (.int x :: st) h := ap_iload rfl rfl
theorem u_X10_outSign_5 : az_W C R k_X10_outSign 5 (v0 :: v1 :: .int x :: ls) st h ↔ az_W C R k_X10_outSign 6 (v0 :: v1 :: .int x :: ls) (.int x :: st) h := ap_iload rfl rfl
theorem u_X10_outSign_6 (hl : st.length ≤ 4) : az_W C R k_X10_outSign 6 ls (v2 :: v1 :: .ref 2 :: st) (130, P, I, L) ↔ az_F C R (az_W C R k_X10_outSign) (130, P, I, L) (az_cl 35 [.ref 2, v1, v2] 9 ls st) := ap_ivv rfl rfl kn_2 hl
theorem u_X10_outSign_9 : az_W C R k_X10_outSign 9 (v0 :: v1 :: v2 :: v3 :: ls) (.int x :: st) h ↔ az_W C R k_X10_outSign 10 (v0 :: v1 :: az_un v2 :: .int x :: ls) st h := ap_istore rfl rfl
theorem u_X10_outSign_10 : az_W C R k_X10_outSign 10 (v0 :: v1 :: v2 :: .int x :: ls) st h ↔ az_W C R k_X10_outSign 11 (v0 :: v1 :: v2 :: .int x :: ls) (.int x :: st) h := ap_iload rfl rfl
theorem u_X10_outSign_11 : az_W C R k_X10_outSign 11 ls st h ↔ az_W C R k_X10_outSign 12 ls (.int (-1) :: st) h := ap_const rfl
theorem u_X10_outSign_12 : az_W C R k_X10_outSign 12 ls (.int y :: .int x :: st) h ↔ if x = y then az_W C R k_X10_outSign 24 ls st h else az_W C R k_X10_outSign 15 ls st h := ap_iceq rfl
theorem u_X10_outSign_15 : az_W C R k_X10_outSign 15 (.ref a :: ls) st h ↔ az_W C R k_X10_outSign 16 (.ref a :: ls) (.ref a :: st) h := ap_aload rfl rfl
theorem u_X10_outSign_16 : az_W C R k_X10_outSign 16 (v0 :: .int x :: ls) st h ↔ az_W C R k_X10_outSign 17 (v0 :: .int x :: ls) (.int x :: st) h := ap_iload rfl rfl
theorem u_X10_outSign_17 : az_W C R k_X10_outSign 17 (v0 :: v1 :: .int x :: ls) st h ↔ az_W C R k_X10_outSign 18 (v0 :: v1 :: .int x :: ls) (.int x :: st) h := ap_iload rfl rfl
theorem u_X10_outSign_18 (hl : st.length ≤ 4) : az_W C R k_X10_outSign 18 ls (v2 :: v1 :: .ref 0 :: st) (130, P, I, L) ↔ az_F C R (az_W C R k_X10_outSign) (130, P, I, L) (az_cl 135 [.ref 0, v1, v2] 21 ls st) := ap_ivv rfl rfl kn_0 hl
theorem u_X10_outSign_21 : az_W C R k_X10_outSign 21 ls (.int x :: st) h ↔ if x = 0 then az_W C R k_X10_outSign 24 ls st h else az_W C R k_X10_outSign 26 ls st h := ap_ifne rfl
theorem u_X10_outSign_24 : az_W C R k_X10_outSign 24 ls st h ↔ az_W C R k_X10_outSign 25 ls (.int 0 :: st) h := ap_const rfl
theorem u_X10_outSign_25 : az_W C R k_X10_outSign 25 ls [.int x] h ↔ R (some (.int x)) h := ap_iret rfl
theorem u_X10_outSign_26 : az_W C R k_X10_outSign 26 (v0 :: v1 :: v2 :: .int x :: ls) st h ↔ az_W C R k_X10_outSign 27 (v0 :: v1 :: v2 :: .int x :: ls) (.int x :: st) h := ap_iload rfl rfl
theorem u_X10_outSign_27 : az_W C R k_X10_outSign 27 (.ref a :: ls) st h ↔ az_W C R k_X10_outSign 28 (.ref a :: ls) (.ref a :: st) h := ap_aload rfl rfl
theorem u_X10_outSign_28 : az_W C R k_X10_outSign 28 ls (.ref 0 :: st) (130, az_Pf, I, L) ↔ az_W C R k_X10_outSign 31 ls (.ref 56 :: st) (130, az_Pf, I, L) := ap_getP rfl kn_0 pf_0_4
theorem u_X10_outSign_31 (hl : st.length ≤ 4) : az_W C R k_X10_outSign 31 ls (.ref 56 :: st) (130, P, I, L) ↔ az_F C R (az_W C R k_X10_outSign) (130, P, I, L) (az_cl 29 [.ref 56] 34 ls st) := ap_ivv rfl rfl kn_56 hl
theorem u_X10_outSign_34 : az_W C R k_X10_outSign 34 ls (.int y :: .int x :: st) h ↔ if x ≤ y then az_W C R k_X10_outSign 39 ls st h else az_W C R k_X10_outSign 37 ls st h := ap_icle rfl
theorem u_X10_outSign_37 : az_W C R k_X10_outSign 37 ls st h ↔ az_W C R k_X10_outSign 38 ls (.int 1 :: st) h := ap_const rfl
theorem u_X10_outSign_38 : az_W C R k_X10_outSign 38 ls [.int x] h ↔ R (some (.int x)) h := ap_iret rfl
theorem u_X10_outSign_39 : az_W C R k_X10_outSign 39 (v0 :: v1 :: v2 :: .int x :: ls) st h ↔ az_W C R k_X10_outSign 40 (v0 :: v1 :: v2 :: .int x :: ls) (.int x :: st) h := ap_iload rfl rfl
theorem u_X10_outSign_40 : az_W C R k_X10_outSign 40 (.ref a :: ls) st h ↔ az_W C R k_X10_outSign 41 (.ref a :: ls) (.ref a :: st) h := ap_aload rfl rfl
theorem u_X10_outSign_41 : az_W C R k_X10_outSign 41 ls (.ref 0 :: st) (130, az_Pf, I, L) ↔ az_W C R k_X10_outSign 44 ls (.ref 56 :: st) (130, az_Pf, I, L) := ap_getP rfl kn_0 pf_0_4
theorem u_X10_outSign_44 (hl : st.length ≤ 4) : az_W C R k_X10_outSign 44 ls (.ref 56 :: st) (130, P, I, L) ↔ az_F C R (az_W C R k_X10_outSign) (130, P, I, L) (az_cl 28 [.ref 56] 47 ls st) := ap_ivv rfl rfl kn_56 hl
theorem u_X10_outSign_47 : az_W C R k_X10_outSign 47 ls (.int y :: .int x :: st) h ↔ if y ≤ x then az_W C R k_X10_outSign 54 ls st h else az_W C R k_X10_outSign 50 ls st h := ap_icge rfl
theorem u_X10_outSign_50 : az_W C R k_X10_outSign 50 ls st h ↔ az_W C R k_X10_outSign 51 ls (.int (-1) :: st) h := ap_const rfl
theorem u_X10_outSign_51 : az_W C R k_X10_outSign 51 ls st h ↔ az_W C R k_X10_outSign 55 ls st h := ap_goto rfl
theorem u_X10_outSign_54 : az_W C R k_X10_outSign 54 ls st h ↔ az_W C R k_X10_outSign 55 ls (.int 0 :: st) h := ap_const rfl
theorem u_X10_outSign_55 : az_W C R k_X10_outSign 55 ls [.int x] h ↔ R (some (.int x)) h := ap_iret rfl
def k_X10_findRight : Nat → az_P := (az_br 39 (az_br 18 (az_br 8 (az_br 2 (az_br 1 (az_lf 0 (az_const (.int 0) 1)) (az_lf 1 (az_istore 3 2))) (az_br 3 (az_lf 2 (az_iload 3 3)) (az_br 5 (az_lf 3 (az_const (.int 8) 5)) (az_lf 5 (az_icge 73 8))))) (az_br 11 (az_br 9 (az_lf 8 (az_aload 0 9)) (az_br 10 (az_lf 9 (az_iload 3 10)) (az_lf 10 (az_iload 1 11)))) (az_br 14 (az_lf 11 (az_ivv 136 2 10 14)) (az_br 16 (az_lf 14 (az_istore 4 16)) (az_lf 16 (az_iload 4 18)))))) (az_br 27 (az_br 22 (az_br 21 (az_lf 18 (az_ifne 39 21)) (az_lf 21 (az_aload 0 22))) (az_br 25 (az_lf 22 (az_getP 10 11 25)) (az_br 26 (az_lf 25 (az_iload 3 26)) (az_lf 26 (az_aload 0 27))))) (az_br 32 (az_br 30 (az_lf 27 (az_getP 10 1 30)) (az_br 31 (az_lf 30 (az_iload 3 31)) (az_lf 31 (az_iload 1 32)))) (az_br 35 (az_lf 32 (az_ivv 35 2 4 35)) (az_br 36 (az_lf 35 (az_iast 36)) (az_lf 36 (az_goto 67))))))) (az_br 63 (az_br 49 (az_br 43 (az_br 40 (az_lf 39 (az_aload 0 40)) (az_lf 40 (az_getP 10 11 43))) (az_br 44 (az_lf 43 (az_iload 3 44)) (az_br 46 (az_lf 44 (az_iload 4 46)) (az_lf 46 (az_ifle 59 49))))) (az_br 56 (az_br 50 (az_lf 49 (az_aload 0 50)) (az_br 53 (az_lf 50 (az_getP 10 4 53)) (az_lf 53 (az_ivv 29 0 3 56)))) (az_br 59 (az_lf 56 (az_goto 66)) (az_br 60 (az_lf 59 (az_aload 0 60)) (az_lf 60 (az_getP 10 4 63)))))) (az_br 77 (az_br 70 (az_br 66 (az_lf 63 (az_ivv 28 0 3 66)) (az_br 67 (az_lf 66 (az_iast 67)) (az_lf 67 (az_iinc 3 1 70)))) (az_br 73 (az_lf 70 (az_goto 2)) (az_br 74 (az_lf 73 (az_aload 0 74)) (az_lf 74 (az_getP 10 0 77))))) (az_br 82 (az_br 78 (az_lf 77 (az_aload 0 78)) (az_br 81 (az_lf 78 (az_getP 10 11 81)) (az_lf 81 (az_iload 1 82)))) (az_br 83 (az_lf 82 (az_aload 2 83)) (az_br 86 (az_lf 83 (az_ivv 45 3 5 86)) (az_lf 86 (az_zret))))))))
theorem u_X10_findRight_0 : az_W C R k_X10_findRight 0 ls st h ↔ az_W C R k_X10_findRight 1 ls (.int 0 :: st) h := ap_const rfl
theorem u_X10_findRight_1 : az_W C R k_X10_findRight 1 (v0 :: v1 :: v2 :: v3 :: ls) (.int x :: st) h ↔ az_W C R k_X10_findRight 2 (v0 :: v1 :: az_un v2 :: .int x :: ls) st h := ap_istore rfl rfl
theorem u_X10_findRight_2 : az_W C R k_X10_findRight 2 (v0 :: v1 :: v2 :: .int x :: ls) st h ↔ az_W C R k_X10_findRight 3 (v0 :: v1 :: v2 :: .int x :: ls) (.int x :: st) h := ap_iload rfl rfl
theorem u_X10_findRight_3 : az_W C R k_X10_findRight 3 ls st h ↔ az_W C R k_X10_findRight 5 ls (.int 8 :: st) h := ap_const rfl
theorem u_X10_findRight_5 : az_W C R k_X10_findRight 5 ls (.int y :: .int x :: st) h ↔ if y ≤ x then az_W C R k_X10_findRight 73 ls st h else az_W C R k_X10_findRight 8 ls st h := ap_icge rfl
theorem u_X10_findRight_8 : az_W C R k_X10_findRight 8 (.ref a :: ls) st h ↔ az_W C R k_X10_findRight 9 (.ref a :: ls) (.ref a :: st) h := ap_aload rfl rfl
theorem u_X10_findRight_9 : az_W C R k_X10_findRight 9 (v0 :: v1 :: v2 :: .int x :: ls) st h ↔ az_W C R k_X10_findRight 10 (v0 :: v1 :: v2 :: .int x :: ls) (.int x :: st) h := ap_iload rfl rfl
theorem u_X10_findRight_10 : az_W C R k_X10_findRight 10 (v0 :: .int x :: ls) st h ↔ az_W C R k_X10_findRight 11 (v0 :: .int x :: ls) (.int x :: st) h := ap_iload rfl rfl
theorem u_X10_findRight_11 (hl : st.length ≤ 4) : az_W C R k_X10_findRight 11 ls (v2 :: v1 :: .ref 0 :: st) (130, P, I, L) ↔ az_F C R (az_W C R k_X10_findRight) (130, P, I, L) (az_cl 136 [.ref 0, v1, v2] 14 ls st) := ap_ivv rfl rfl kn_0 hl
theorem u_X10_findRight_14 : az_W C R k_X10_findRight 14 (v0 :: v1 :: v2 :: v3 :: v4 :: ls) (.int x :: st) h ↔ az_W C R k_X10_findRight 16 (v0 :: v1 :: v2 :: az_un v3 :: .int x :: ls) st h := ap_istore rfl rfl
theorem u_X10_findRight_16 : az_W C R k_X10_findRight 16 (v0 :: v1 :: v2 :: v3 :: .int x :: ls) st h ↔ az_W C R k_X10_findRight 18 (v0 :: v1 :: v2 :: v3 :: .int x :: ls) (.int x :: st) h := ap_iload rfl rfl
theorem u_X10_findRight_18 : az_W C R k_X10_findRight 18 ls (.int x :: st) h ↔ if x = 0 then az_W C R k_X10_findRight 21 ls st h else az_W C R k_X10_findRight 39 ls st h := ap_ifne rfl
theorem u_X10_findRight_21 : az_W C R k_X10_findRight 21 (.ref a :: ls) st h ↔ az_W C R k_X10_findRight 22 (.ref a :: ls) (.ref a :: st) h := ap_aload rfl rfl
theorem u_X10_findRight_22 : az_W C R k_X10_findRight 22 ls (.ref 0 :: st) (130, az_Pf, I, L) ↔ az_W C R k_X10_findRight 25 ls (.ref 96 :: st) (130, az_Pf, I, L) := ap_getP rfl kn_0 pf_0_11
theorem u_X10_findRight_25 : az_W C R k_X10_findRight 25 (v0 :: v1 :: v2 :: .int x :: ls) st h ↔ az_W C R k_X10_findRight 26 (v0 :: v1 :: v2 :: .int x :: ls) (.int x :: st) h := ap_iload rfl rfl
theorem u_X10_findRight_26 : az_W C R k_X10_findRight 26 (.ref a :: ls) st h ↔ az_W C R k_X10_findRight 27 (.ref a :: ls) (.ref a :: st) h := ap_aload rfl rfl
theorem u_X10_findRight_27 : az_W C R k_X10_findRight 27 ls (.ref 0 :: st) (130, az_Pf, I, L) ↔ az_W C R k_X10_findRight 30 ls (.ref 2 :: st) (130, az_Pf, I, L) := ap_getP rfl kn_0 pf_0_1
theorem u_X10_findRight_30 : az_W C R k_X10_findRight 30 (v0 :: v1 :: v2 :: .int x :: ls) st h ↔ az_W C R k_X10_findRight 31 (v0 :: v1 :: v2 :: .int x :: ls) (.int x :: st) h := ap_iload rfl rfl
theorem u_X10_findRight_31 : az_W C R k_X10_findRight 31 (v0 :: .int x :: ls) st h ↔ az_W C R k_X10_findRight 32 (v0 :: .int x :: ls) (.int x :: st) h := ap_iload rfl rfl
theorem u_X10_findRight_32 (hl : st.length ≤ 4) : az_W C R k_X10_findRight 32 ls (v2 :: v1 :: .ref 2 :: st) (130, P, I, L) ↔ az_F C R (az_W C R k_X10_findRight) (130, P, I, L) (az_cl 35 [.ref 2, v1, v2] 35 ls st) := ap_ivv rfl rfl kn_2 hl
theorem u_X10_findRight_35 (hk : (az_kn 130 a).1 = 1) : az_W C R k_X10_findRight 35 ls (.int y :: .int x :: .ref a :: st) (130, P, I, L) ↔ (az_in x (az_kn 130 a).2 ∧ az_W C R k_X10_findRight 36 ls st (130, P, az_uI I a x.toNatClampNeg y, L)) := ap_iast rfl (az_k1 hk)
theorem u_X10_findRight_36 : az_W C R k_X10_findRight 36 ls st h ↔ az_W C R k_X10_findRight 67 ls st h := ap_goto rfl
theorem u_X10_findRight_39 : az_W C R k_X10_findRight 39 (.ref a :: ls) st h ↔ az_W C R k_X10_findRight 40 (.ref a :: ls) (.ref a :: st) h := ap_aload rfl rfl
theorem u_X10_findRight_40 : az_W C R k_X10_findRight 40 ls (.ref 0 :: st) (130, az_Pf, I, L) ↔ az_W C R k_X10_findRight 43 ls (.ref 96 :: st) (130, az_Pf, I, L) := ap_getP rfl kn_0 pf_0_11
theorem u_X10_findRight_43 : az_W C R k_X10_findRight 43 (v0 :: v1 :: v2 :: .int x :: ls) st h ↔ az_W C R k_X10_findRight 44 (v0 :: v1 :: v2 :: .int x :: ls) (.int x :: st) h := ap_iload rfl rfl
theorem u_X10_findRight_44 : az_W C R k_X10_findRight 44 (v0 :: v1 :: v2 :: v3 :: .int x :: ls) st h ↔ az_W C R k_X10_findRight 46 (v0 :: v1 :: v2 :: v3 :: .int x :: ls) (.int x :: st) h := ap_iload rfl rfl
theorem u_X10_findRight_46 : az_W C R k_X10_findRight 46 ls (.int x :: st) h ↔ if x ≤ 0 then az_W C R k_X10_findRight 59 ls st h else az_W C R k_X10_findRight 49 ls st h := ap_ifle rfl
theorem u_X10_findRight_49 : az_W C R k_X10_findRight 49 (.ref a :: ls) st h ↔ az_W C R k_X10_findRight 50 (.ref a :: ls) (.ref a :: st) h := ap_aload rfl rfl
theorem u_X10_findRight_50 : az_W C R k_X10_findRight 50 ls (.ref 0 :: st) (130, az_Pf, I, L) ↔ az_W C R k_X10_findRight 53 ls (.ref 56 :: st) (130, az_Pf, I, L) := ap_getP rfl kn_0 pf_0_4
theorem u_X10_findRight_53 (hl : st.length ≤ 4) : az_W C R k_X10_findRight 53 ls (.ref 56 :: st) (130, P, I, L) ↔ az_F C R (az_W C R k_X10_findRight) (130, P, I, L) (az_cl 29 [.ref 56] 56 ls st) := ap_ivv rfl rfl kn_56 hl
theorem u_X10_findRight_56 : az_W C R k_X10_findRight 56 ls st h ↔ az_W C R k_X10_findRight 66 ls st h := ap_goto rfl
theorem u_X10_findRight_59 : az_W C R k_X10_findRight 59 (.ref a :: ls) st h ↔ az_W C R k_X10_findRight 60 (.ref a :: ls) (.ref a :: st) h := ap_aload rfl rfl
theorem u_X10_findRight_60 : az_W C R k_X10_findRight 60 ls (.ref 0 :: st) (130, az_Pf, I, L) ↔ az_W C R k_X10_findRight 63 ls (.ref 56 :: st) (130, az_Pf, I, L) := ap_getP rfl kn_0 pf_0_4
theorem u_X10_findRight_63 (hl : st.length ≤ 4) : az_W C R k_X10_findRight 63 ls (.ref 56 :: st) (130, P, I, L) ↔ az_F C R (az_W C R k_X10_findRight) (130, P, I, L) (az_cl 28 [.ref 56] 66 ls st) := ap_ivv rfl rfl kn_56 hl
theorem u_X10_findRight_66 (hk : (az_kn 130 a).1 = 1) : az_W C R k_X10_findRight 66 ls (.int y :: .int x :: .ref a :: st) (130, P, I, L) ↔ (az_in x (az_kn 130 a).2 ∧ az_W C R k_X10_findRight 67 ls st (130, P, az_uI I a x.toNatClampNeg y, L)) := ap_iast rfl (az_k1 hk)
theorem u_X10_findRight_67 : az_W C R k_X10_findRight 67 (v0 :: v1 :: v2 :: .int x :: ls) st h ↔ az_W C R k_X10_findRight 70 (v0 :: v1 :: az_un v2 :: .int (x + 1) :: ls) st h := ap_iinc rfl rfl rfl
theorem u_X10_findRight_70 : az_W C R k_X10_findRight 70 ls st h ↔ az_W C R k_X10_findRight 2 ls st h := ap_goto rfl
theorem u_X10_findRight_73 : az_W C R k_X10_findRight 73 (.ref a :: ls) st h ↔ az_W C R k_X10_findRight 74 (.ref a :: ls) (.ref a :: st) h := ap_aload rfl rfl
theorem u_X10_findRight_74 : az_W C R k_X10_findRight 74 ls (.ref 0 :: st) (130, az_Pf, I, L) ↔ az_W C R k_X10_findRight 77 ls (.ref 1 :: st) (130, az_Pf, I, L) := ap_getP rfl kn_0 pf_0_0
theorem u_X10_findRight_77 : az_W C R k_X10_findRight 77 (.ref a :: ls) st h ↔ az_W C R k_X10_findRight 78 (.ref a :: ls) (.ref a :: st) h := ap_aload rfl rfl
theorem u_X10_findRight_78 : az_W C R k_X10_findRight 78 ls (.ref 0 :: st) (130, az_Pf, I, L) ↔ az_W C R k_X10_findRight 81 ls (.ref 96 :: st) (130, az_Pf, I, L) := ap_getP rfl kn_0 pf_0_11
theorem u_X10_findRight_81 : az_W C R k_X10_findRight 81 (v0 :: .int x :: ls) st h ↔ az_W C R k_X10_findRight 82 (v0 :: .int x :: ls) (.int x :: st) h := ap_iload rfl rfl
theorem u_X10_findRight_82 : az_W C R k_X10_findRight 82 (v0 :: v1 :: .ref a :: ls) st h ↔ az_W C R k_X10_findRight 83 (v0 :: v1 :: .ref a :: ls) (.ref a :: st) h := ap_aload rfl rfl
theorem u_X10_findRight_83 (hl : st.length ≤ 4) : az_W C R k_X10_findRight 83 ls (v3 :: v2 :: v1 :: .ref 1 :: st) (130, P, I, L) ↔ az_F C R (az_W C R k_X10_findRight) (130, P, I, L) (az_cl 45 [.ref 1, v1, v2, v3] 86 ls st) := ap_ivv rfl rfl kn_1 hl
theorem u_X10_findRight_86 : az_W C R k_X10_findRight 86 ls [.int x] h ↔ ((x = 0 ∨ x = 1) ∧ R (some (.int x)) h) := ap_zret rfl
def k_X10_chance : Nat → az_P := (az_br 28 (az_br 14 (az_br 5 (az_br 2 (az_br 1 (az_lf 0 (az_const (.long 1) 1)) (az_lf 1 (az_lstore 2 2))) (az_br 3 (az_lf 2 (az_const (.long 0) 3)) (az_lf 3 (az_lstore 4 5)))) (az_br 8 (az_br 6 (az_lf 5 (az_const (.int 0) 6)) (az_lf 6 (az_istore 6 8))) (az_br 10 (az_lf 8 (az_iload 6 10)) (az_br 11 (az_lf 10 (az_iload 0 11)) (az_lf 11 (az_icgt 46 14)))))) (az_br 22 (az_br 17 (az_br 16 (az_lf 14 (az_iload 6 16)) (az_lf 16 (az_iload 1 17))) (az_br 20 (az_lf 17 (az_iclt 26 20)) (az_lf 20 (az_lload 4 22)))) (az_br 24 (az_br 23 (az_lf 22 (az_lload 2 23)) (az_lf 23 (az_ll (fun p q => p + q) 24))) (az_br 26 (az_lf 24 (az_lstore 4 26)) (az_br 27 (az_lf 26 (az_lload 2 27)) (az_lf 27 (az_iload 0 28))))))) (az_br 39 (az_br 33 (az_br 31 (az_br 30 (az_lf 28 (az_iload 6 30)) (az_lf 30 (az_ii (fun x y => x - y) 31))) (az_br 32 (az_lf 31 (az_i2l 32)) (az_lf 32 (az_ll (fun p q => p * q) 33)))) (az_br 36 (az_br 35 (az_lf 33 (az_iload 6 35)) (az_lf 35 (az_const (.int 1) 36))) (az_br 37 (az_lf 36 (az_ii (fun x y => x + y) 37)) (az_br 38 (az_lf 37 (az_i2l 38)) (az_lf 38 (az_ldiv 39)))))) (az_br 51 (az_br 43 (az_br 40 (az_lf 39 (az_lstore 2 40)) (az_lf 40 (az_iinc 6 1 43))) (az_br 46 (az_lf 43 (az_goto 8)) (az_br 48 (az_lf 46 (az_lload 4 48)) (az_lf 48 (az_const (.long 1000) 51))))) (az_br 53 (az_br 52 (az_lf 51 (az_ll (fun p q => p * q) 52)) (az_lf 52 (az_iload 0 53))) (az_br 54 (az_lf 53 (az_li (fun p y => p >>> (y.toInt64 &&& 63)) 54)) (az_br 55 (az_lf 54 (az_l2i 55)) (az_lf 55 (az_iret))))))))
theorem u_X10_chance_0 : az_W C R k_X10_chance 0 ls st h ↔ az_W C R k_X10_chance 1 ls (.long 1 :: st) h := ap_const rfl
theorem u_X10_chance_1 : az_W C R k_X10_chance 1 (v0 :: v1 :: v2 :: v3 :: ls) (.long p :: st) h ↔ az_W C R k_X10_chance 2 (v0 :: az_un v1 :: .long p :: .null :: ls) st h := ap_lstore rfl rfl
theorem u_X10_chance_2 : az_W C R k_X10_chance 2 ls st h ↔ az_W C R k_X10_chance 3 ls (.long 0 :: st) h := ap_const rfl
theorem u_X10_chance_3 : az_W C R k_X10_chance 3 (v0 :: v1 :: v2 :: v3 :: v4 :: v5 :: ls) (.long p :: st) h ↔ az_W C R k_X10_chance 5 (v0 :: v1 :: v2 :: az_un v3 :: .long p :: .null :: ls) st h := ap_lstore rfl rfl
theorem u_X10_chance_5 : az_W C R k_X10_chance 5 ls st h ↔ az_W C R k_X10_chance 6 ls (.int 0 :: st) h := ap_const rfl
theorem u_X10_chance_6 : az_W C R k_X10_chance 6 (v0 :: v1 :: v2 :: v3 :: v4 :: v5 :: v6 :: ls) (.int x :: st) h ↔ az_W C R k_X10_chance 8 (v0 :: v1 :: v2 :: v3 :: v4 :: az_un v5 :: .int x :: ls) st h := ap_istore rfl rfl
theorem u_X10_chance_8 : az_W C R k_X10_chance 8 (v0 :: v1 :: v2 :: v3 :: v4 :: v5 :: .int x :: ls) st h ↔ az_W C R k_X10_chance 10 (v0 :: v1 :: v2 :: v3 :: v4 :: v5 :: .int x :: ls) (.int x :: st) h := ap_iload rfl rfl
theorem u_X10_chance_10 : az_W C R k_X10_chance 10 (.int x :: ls) st h ↔ az_W C R k_X10_chance 11 (.int x :: ls) (.int x :: st) h := ap_iload rfl rfl
theorem u_X10_chance_11 : az_W C R k_X10_chance 11 ls (.int y :: .int x :: st) h ↔ if y < x then az_W C R k_X10_chance 46 ls st h else az_W C R k_X10_chance 14 ls st h := ap_icgt rfl
theorem u_X10_chance_14 : az_W C R k_X10_chance 14 (v0 :: v1 :: v2 :: v3 :: v4 :: v5 :: .int x :: ls) st h ↔ az_W C R k_X10_chance 16 (v0 :: v1 :: v2 :: v3 :: v4 :: v5 :: .int x :: ls) (.int x :: st) h := ap_iload rfl rfl
theorem u_X10_chance_16 : az_W C R k_X10_chance 16 (v0 :: .int x :: ls) st h ↔ az_W C R k_X10_chance 17 (v0 :: .int x :: ls) (.int x :: st) h := ap_iload rfl rfl
theorem u_X10_chance_17 : az_W C R k_X10_chance 17 ls (.int y :: .int x :: st) h ↔ if x < y then az_W C R k_X10_chance 26 ls st h else az_W C R k_X10_chance 20 ls st h := ap_iclt rfl
theorem u_X10_chance_20 : az_W C R k_X10_chance 20 (v0 :: v1 :: v2 :: v3 :: .long p :: ls) st h ↔ az_W C R k_X10_chance 22 (v0 :: v1 :: v2 :: v3 :: .long p :: ls) (.long p :: st) h := ap_lload rfl rfl
theorem u_X10_chance_22 : az_W C R k_X10_chance 22 (v0 :: v1 :: .long p :: ls) st h ↔ az_W C R k_X10_chance 23 (v0 :: v1 :: .long p :: ls) (.long p :: st) h := ap_lload rfl rfl
theorem u_X10_chance_23 : az_W C R k_X10_chance 23 ls (.long q :: .long p :: st) h ↔ az_W C R k_X10_chance 24 ls (.long (p + q) :: st) h := ap_ll (f := fun p q => p + q) rfl
theorem u_X10_chance_24 : az_W C R k_X10_chance 24 (v0 :: v1 :: v2 :: v3 :: v4 :: v5 :: ls) (.long p :: st) h ↔ az_W C R k_X10_chance 26 (v0 :: v1 :: v2 :: az_un v3 :: .long p :: .null :: ls) st h := ap_lstore rfl rfl
theorem u_X10_chance_26 : az_W C R k_X10_chance 26 (v0 :: v1 :: .long p :: ls) st h ↔ az_W C R k_X10_chance 27 (v0 :: v1 :: .long p :: ls) (.long p :: st) h := ap_lload rfl rfl
theorem u_X10_chance_27 : az_W C R k_X10_chance 27 (.int x :: ls) st h ↔ az_W C R k_X10_chance 28 (.int x :: ls) (.int x :: st) h := ap_iload rfl rfl
theorem u_X10_chance_28 : az_W C R k_X10_chance 28 (v0 :: v1 :: v2 :: v3 :: v4 :: v5 :: .int x :: ls) st h ↔ az_W C R k_X10_chance 30 (v0 :: v1 :: v2 :: v3 :: v4 :: v5 :: .int x :: ls) (.int x :: st) h := ap_iload rfl rfl
theorem u_X10_chance_30 : az_W C R k_X10_chance 30 ls (.int y :: .int x :: st) h ↔ az_W C R k_X10_chance 31 ls (.int (x - y) :: st) h := ap_ii (f := fun x y => x - y) rfl
theorem u_X10_chance_31 : az_W C R k_X10_chance 31 ls (.int x :: st) h ↔ az_W C R k_X10_chance 32 ls (.long x.toInt64 :: st) h := ap_i2l rfl
theorem u_X10_chance_32 : az_W C R k_X10_chance 32 ls (.long q :: .long p :: st) h ↔ az_W C R k_X10_chance 33 ls (.long (p * q) :: st) h := ap_ll (f := fun p q => p * q) rfl
theorem u_X10_chance_33 : az_W C R k_X10_chance 33 (v0 :: v1 :: v2 :: v3 :: v4 :: v5 :: .int x :: ls) st h ↔ az_W C R k_X10_chance 35 (v0 :: v1 :: v2 :: v3 :: v4 :: v5 :: .int x :: ls) (.int x :: st) h := ap_iload rfl rfl
theorem u_X10_chance_35 : az_W C R k_X10_chance 35 ls st h ↔ az_W C R k_X10_chance 36 ls (.int 1 :: st) h := ap_const rfl
theorem u_X10_chance_36 : az_W C R k_X10_chance 36 ls (.int y :: .int x :: st) h ↔ az_W C R k_X10_chance 37 ls (.int (x + y) :: st) h := ap_ii (f := fun x y => x + y) rfl
theorem u_X10_chance_37 : az_W C R k_X10_chance 37 ls (.int x :: st) h ↔ az_W C R k_X10_chance 38 ls (.long x.toInt64 :: st) h := ap_i2l rfl
theorem u_X10_chance_38 : az_W C R k_X10_chance 38 ls (.long q :: .long p :: st) h ↔ (¬ q = 0 ∧ az_W C R k_X10_chance 39 ls (.long (p / q) :: st) h) := ap_ldiv rfl
theorem u_X10_chance_39 : az_W C R k_X10_chance 39 (v0 :: v1 :: v2 :: v3 :: ls) (.long p :: st) h ↔ az_W C R k_X10_chance 40 (v0 :: az_un v1 :: .long p :: .null :: ls) st h := ap_lstore rfl rfl
theorem u_X10_chance_40 : az_W C R k_X10_chance 40 (v0 :: v1 :: v2 :: v3 :: v4 :: v5 :: .int x :: ls) st h ↔ az_W C R k_X10_chance 43 (v0 :: v1 :: v2 :: v3 :: v4 :: az_un v5 :: .int (x + 1) :: ls) st h := ap_iinc rfl rfl rfl
theorem u_X10_chance_43 : az_W C R k_X10_chance 43 ls st h ↔ az_W C R k_X10_chance 8 ls st h := ap_goto rfl
theorem u_X10_chance_46 : az_W C R k_X10_chance 46 (v0 :: v1 :: v2 :: v3 :: .long p :: ls) st h ↔ az_W C R k_X10_chance 48 (v0 :: v1 :: v2 :: v3 :: .long p :: ls) (.long p :: st) h := ap_lload rfl rfl
theorem u_X10_chance_48 : az_W C R k_X10_chance 48 ls st h ↔ az_W C R k_X10_chance 51 ls (.long 1000 :: st) h := ap_const rfl
theorem u_X10_chance_51 : az_W C R k_X10_chance 51 ls (.long q :: .long p :: st) h ↔ az_W C R k_X10_chance 52 ls (.long (p * q) :: st) h := ap_ll (f := fun p q => p * q) rfl
theorem u_X10_chance_52 : az_W C R k_X10_chance 52 (.int x :: ls) st h ↔ az_W C R k_X10_chance 53 (.int x :: ls) (.int x :: st) h := ap_iload rfl rfl
theorem u_X10_chance_53 : az_W C R k_X10_chance 53 ls (.int y :: .long p :: st) h ↔ az_W C R k_X10_chance 54 ls (.long (p >>> (y.toInt64 &&& 63)) :: st) h := ap_li (f := fun p y => p >>> (y.toInt64 &&& 63)) rfl
theorem u_X10_chance_54 : az_W C R k_X10_chance 54 ls (.long p :: st) h ↔ az_W C R k_X10_chance 55 ls (.int p.toInt32 :: st) h := ap_l2i rfl
theorem u_X10_chance_55 : az_W C R k_X10_chance 55 ls [.int x] h ↔ R (some (.int x)) h := ap_iret rfl
end
