section
variable {C : az_C} {R : az_R} {ls st : List Value} {h : az_H} {n : Nat} {P : Nat → Nat → Option Nat} {I : Nat → Nat → Int32} {L : Nat → Nat → Int64}
variable {v0 v1 v2 v3 v4 v5 v6 v7 v8 v9 v10 v11 v12 : Value} {x y z : Int32} {p q : Int64} {a b : Nat} {M : Nat} {xs : Nat → Int32}
def k_X2_init : Nat → az_P := (az_br 6 (az_br 4 (az_br 1 (az_lf 0 (az_aload 0 1)) (az_lf 1 (az_oin 4))) (az_br 5 (az_lf 4 (az_aload 0 5)) (az_lf 5 (az_const (.long 0) 6)))) (az_br 10 (az_br 9 (az_lf 6 (az_putL 2 0 9)) (az_lf 9 (az_aload 0 10))) (az_br 11 (az_lf 10 (az_const (.long 1) 11)) (az_br 14 (az_lf 11 (az_putL 2 1 14)) (az_lf 14 (az_ret))))))
theorem u_X2_init_0 : az_W C R k_X2_init 0 (.ref a :: ls) st h ↔ az_W C R k_X2_init 1 (.ref a :: ls) (.ref a :: st) h := ap_aload rfl rfl
theorem u_X2_init_1 (hl : st.length ≤ 4) : az_W C R k_X2_init 1 ls (.ref a :: st) h ↔ az_W C R k_X2_init 4 ls st h := ap_oin rfl hl
theorem u_X2_init_4 : az_W C R k_X2_init 4 (.ref a :: ls) st h ↔ az_W C R k_X2_init 5 (.ref a :: ls) (.ref a :: st) h := ap_aload rfl rfl
theorem u_X2_init_5 : az_W C R k_X2_init 5 ls st h ↔ az_W C R k_X2_init 6 ls (.long 0 :: st) h := ap_const rfl
theorem u_X2_init_6 (hk : az_kn n a = (0, 2)) : az_W C R k_X2_init 6 ls (.long p :: .ref a :: st) (n, P, I, L) ↔ az_W C R k_X2_init 9 ls st (n, P, I, az_uL L a 0 p) := ap_putL rfl hk
theorem u_X2_init_9 : az_W C R k_X2_init 9 (.ref a :: ls) st h ↔ az_W C R k_X2_init 10 (.ref a :: ls) (.ref a :: st) h := ap_aload rfl rfl
theorem u_X2_init_10 : az_W C R k_X2_init 10 ls st h ↔ az_W C R k_X2_init 11 ls (.long 1 :: st) h := ap_const rfl
theorem u_X2_init_11 (hk : az_kn n a = (0, 2)) : az_W C R k_X2_init 11 ls (.long p :: .ref a :: st) (n, P, I, L) ↔ az_W C R k_X2_init 14 ls st (n, P, I, az_uL L a 1 p) := ap_putL rfl hk
theorem u_X2_init_14 : az_W C R k_X2_init 14 ls [] h ↔ R none h := ap_ret rfl
def k_X2_put : Nat → az_P := (az_br 36 (az_br 17 (az_br 7 (az_br 3 (az_br 1 (az_lf 0 (az_lload 3 1)) (az_lf 1 (az_lstore 5 3))) (az_br 4 (az_lf 3 (az_lload 1 4)) (az_lf 4 (az_lm (fun p => if 0 < p then p else -p) 7)))) (az_br 10 (az_br 9 (az_lf 7 (az_lstore 7 9)) (az_lf 9 (az_const (.int 0) 10))) (az_br 12 (az_lf 10 (az_istore 9 12)) (az_br 14 (az_lf 12 (az_iload 9 14)) (az_lf 14 (az_const (.int 200) 17)))))) (az_br 27 (az_br 22 (az_br 20 (az_lf 17 (az_icge 48 20)) (az_lf 20 (az_lload 7 22))) (az_br 23 (az_lf 22 (az_const (.long 0) 23)) (az_br 24 (az_lf 23 (az_lcmp 24)) (az_lf 24 (az_ifeq 48 27))))) (az_br 31 (az_br 29 (az_lf 27 (az_lload 5 29)) (az_lf 29 (az_lload 7 31))) (az_br 32 (az_lf 31 (az_lrem 32)) (az_br 34 (az_lf 32 (az_lstore 10 34)) (az_lf 34 (az_lload 7 36))))))) (az_br 56 (az_br 48 (az_br 40 (az_br 38 (az_lf 36 (az_lstore 5 38)) (az_lf 38 (az_lload 10 40))) (az_br 42 (az_lf 40 (az_lstore 7 42)) (az_br 45 (az_lf 42 (az_iinc 9 1 45)) (az_lf 45 (az_goto 12))))) (az_br 51 (az_br 50 (az_lf 48 (az_lload 5 50)) (az_lf 50 (az_const (.long 0) 51))) (az_br 52 (az_lf 51 (az_lcmp 52)) (az_br 55 (az_lf 52 (az_ifle 71 55)) (az_lf 55 (az_aload 0 56)))))) (az_br 64 (az_br 59 (az_br 57 (az_lf 56 (az_lload 1 57)) (az_lf 57 (az_lload 5 59))) (az_br 60 (az_lf 59 (az_ldiv 60)) (az_br 63 (az_lf 60 (az_putL 2 0 63)) (az_lf 63 (az_aload 0 64))))) (az_br 67 (az_br 65 (az_lf 64 (az_lload 3 65)) (az_lf 65 (az_lload 5 67))) (az_br 68 (az_lf 67 (az_ldiv 68)) (az_br 71 (az_lf 68 (az_putL 2 1 71)) (az_lf 71 (az_ret))))))))
theorem u_X2_put_0 : az_W C R k_X2_put 0 (v0 :: v1 :: v2 :: .long p :: ls) st h ↔ az_W C R k_X2_put 1 (v0 :: v1 :: v2 :: .long p :: ls) (.long p :: st) h := ap_lload rfl rfl
theorem u_X2_put_1 : az_W C R k_X2_put 1 (v0 :: v1 :: v2 :: v3 :: v4 :: v5 :: v6 :: ls) (.long p :: st) h ↔ az_W C R k_X2_put 3 (v0 :: v1 :: v2 :: v3 :: az_un v4 :: .long p :: .null :: ls) st h := ap_lstore rfl rfl
theorem u_X2_put_3 : az_W C R k_X2_put 3 (v0 :: .long p :: ls) st h ↔ az_W C R k_X2_put 4 (v0 :: .long p :: ls) (.long p :: st) h := ap_lload rfl rfl
theorem u_X2_put_4 (hl : st.length ≤ 4) : az_W C R k_X2_put 4 ls (.long p :: st) h ↔ az_W C R k_X2_put 7 ls (.long (if 0 < p then p else -p) :: st) h := ap_lm (f := fun p => if 0 < p then p else -p) rfl hl
theorem u_X2_put_7 : az_W C R k_X2_put 7 (v0 :: v1 :: v2 :: v3 :: v4 :: v5 :: v6 :: v7 :: v8 :: ls) (.long p :: st) h ↔ az_W C R k_X2_put 9 (v0 :: v1 :: v2 :: v3 :: v4 :: v5 :: az_un v6 :: .long p :: .null :: ls) st h := ap_lstore rfl rfl
theorem u_X2_put_9 : az_W C R k_X2_put 9 ls st h ↔ az_W C R k_X2_put 10 ls (.int 0 :: st) h := ap_const rfl
theorem u_X2_put_10 : az_W C R k_X2_put 10 (v0 :: v1 :: v2 :: v3 :: v4 :: v5 :: v6 :: v7 :: v8 :: v9 :: ls) (.int x :: st) h ↔ az_W C R k_X2_put 12 (v0 :: v1 :: v2 :: v3 :: v4 :: v5 :: v6 :: v7 :: az_un v8 :: .int x :: ls) st h := ap_istore rfl rfl
theorem u_X2_put_12 : az_W C R k_X2_put 12 (v0 :: v1 :: v2 :: v3 :: v4 :: v5 :: v6 :: v7 :: v8 :: .int x :: ls) st h ↔ az_W C R k_X2_put 14 (v0 :: v1 :: v2 :: v3 :: v4 :: v5 :: v6 :: v7 :: v8 :: .int x :: ls) (.int x :: st) h := ap_iload rfl rfl
theorem u_X2_put_14 : az_W C R k_X2_put 14 ls st h ↔ az_W C R k_X2_put 17 ls (.int 200 :: st) h := ap_const rfl
theorem u_X2_put_17 : az_W C R k_X2_put 17 ls (.int y :: .int x :: st) h ↔ if y ≤ x then az_W C R k_X2_put 48 ls st h else az_W C R k_X2_put 20 ls st h := ap_icge rfl
theorem u_X2_put_20 : az_W C R k_X2_put 20 (v0 :: v1 :: v2 :: v3 :: v4 :: v5 :: v6 :: .long p :: ls) st h ↔ az_W C R k_X2_put 22 (v0 :: v1 :: v2 :: v3 :: v4 :: v5 :: v6 :: .long p :: ls) (.long p :: st) h := ap_lload rfl rfl
theorem u_X2_put_22 : az_W C R k_X2_put 22 ls st h ↔ az_W C R k_X2_put 23 ls (.long 0 :: st) h := ap_const rfl
theorem u_X2_put_23 : az_W C R k_X2_put 23 ls (.long q :: .long p :: st) h ↔ az_W C R k_X2_put 24 ls (.int (lg_cmp p q) :: st) h := ap_lcmp rfl
theorem u_X2_put_24 : az_W C R k_X2_put 24 ls (.int x :: st) h ↔ if x = 0 then az_W C R k_X2_put 48 ls st h else az_W C R k_X2_put 27 ls st h := ap_ifeq rfl
theorem u_X2_put_27 : az_W C R k_X2_put 27 (v0 :: v1 :: v2 :: v3 :: v4 :: .long p :: ls) st h ↔ az_W C R k_X2_put 29 (v0 :: v1 :: v2 :: v3 :: v4 :: .long p :: ls) (.long p :: st) h := ap_lload rfl rfl
theorem u_X2_put_29 : az_W C R k_X2_put 29 (v0 :: v1 :: v2 :: v3 :: v4 :: v5 :: v6 :: .long p :: ls) st h ↔ az_W C R k_X2_put 31 (v0 :: v1 :: v2 :: v3 :: v4 :: v5 :: v6 :: .long p :: ls) (.long p :: st) h := ap_lload rfl rfl
theorem u_X2_put_31 : az_W C R k_X2_put 31 ls (.long q :: .long p :: st) h ↔ (¬ q = 0 ∧ az_W C R k_X2_put 32 ls (.long (p - p / q * q) :: st) h) := ap_lrem rfl
theorem u_X2_put_32 : az_W C R k_X2_put 32 (v0 :: v1 :: v2 :: v3 :: v4 :: v5 :: v6 :: v7 :: v8 :: v9 :: v10 :: v11 :: ls) (.long p :: st) h ↔ az_W C R k_X2_put 34 (v0 :: v1 :: v2 :: v3 :: v4 :: v5 :: v6 :: v7 :: v8 :: az_un v9 :: .long p :: .null :: ls) st h := ap_lstore rfl rfl
theorem u_X2_put_34 : az_W C R k_X2_put 34 (v0 :: v1 :: v2 :: v3 :: v4 :: v5 :: v6 :: .long p :: ls) st h ↔ az_W C R k_X2_put 36 (v0 :: v1 :: v2 :: v3 :: v4 :: v5 :: v6 :: .long p :: ls) (.long p :: st) h := ap_lload rfl rfl
theorem u_X2_put_36 : az_W C R k_X2_put 36 (v0 :: v1 :: v2 :: v3 :: v4 :: v5 :: v6 :: ls) (.long p :: st) h ↔ az_W C R k_X2_put 38 (v0 :: v1 :: v2 :: v3 :: az_un v4 :: .long p :: .null :: ls) st h := ap_lstore rfl rfl
theorem u_X2_put_38 : az_W C R k_X2_put 38 (v0 :: v1 :: v2 :: v3 :: v4 :: v5 :: v6 :: v7 :: v8 :: v9 :: .long p :: ls) st h ↔ az_W C R k_X2_put 40 (v0 :: v1 :: v2 :: v3 :: v4 :: v5 :: v6 :: v7 :: v8 :: v9 :: .long p :: ls) (.long p :: st) h := ap_lload rfl rfl
theorem u_X2_put_40 : az_W C R k_X2_put 40 (v0 :: v1 :: v2 :: v3 :: v4 :: v5 :: v6 :: v7 :: v8 :: ls) (.long p :: st) h ↔ az_W C R k_X2_put 42 (v0 :: v1 :: v2 :: v3 :: v4 :: v5 :: az_un v6 :: .long p :: .null :: ls) st h := ap_lstore rfl rfl
theorem u_X2_put_42 : az_W C R k_X2_put 42 (v0 :: v1 :: v2 :: v3 :: v4 :: v5 :: v6 :: v7 :: v8 :: .int x :: ls) st h ↔ az_W C R k_X2_put 45 (v0 :: v1 :: v2 :: v3 :: v4 :: v5 :: v6 :: v7 :: az_un v8 :: .int (x + 1) :: ls) st h := ap_iinc rfl rfl rfl
theorem u_X2_put_45 : az_W C R k_X2_put 45 ls st h ↔ az_W C R k_X2_put 12 ls st h := ap_goto rfl
theorem u_X2_put_48 : az_W C R k_X2_put 48 (v0 :: v1 :: v2 :: v3 :: v4 :: .long p :: ls) st h ↔ az_W C R k_X2_put 50 (v0 :: v1 :: v2 :: v3 :: v4 :: .long p :: ls) (.long p :: st) h := ap_lload rfl rfl
theorem u_X2_put_50 : az_W C R k_X2_put 50 ls st h ↔ az_W C R k_X2_put 51 ls (.long 0 :: st) h := ap_const rfl
theorem u_X2_put_51 : az_W C R k_X2_put 51 ls (.long q :: .long p :: st) h ↔ az_W C R k_X2_put 52 ls (.int (lg_cmp p q) :: st) h := ap_lcmp rfl
theorem u_X2_put_52 : az_W C R k_X2_put 52 ls (.int x :: st) h ↔ if x ≤ 0 then az_W C R k_X2_put 71 ls st h else az_W C R k_X2_put 55 ls st h := ap_ifle rfl
theorem u_X2_put_55 : az_W C R k_X2_put 55 (.ref a :: ls) st h ↔ az_W C R k_X2_put 56 (.ref a :: ls) (.ref a :: st) h := ap_aload rfl rfl
theorem u_X2_put_56 : az_W C R k_X2_put 56 (v0 :: .long p :: ls) st h ↔ az_W C R k_X2_put 57 (v0 :: .long p :: ls) (.long p :: st) h := ap_lload rfl rfl
theorem u_X2_put_57 : az_W C R k_X2_put 57 (v0 :: v1 :: v2 :: v3 :: v4 :: .long p :: ls) st h ↔ az_W C R k_X2_put 59 (v0 :: v1 :: v2 :: v3 :: v4 :: .long p :: ls) (.long p :: st) h := ap_lload rfl rfl
theorem u_X2_put_59 : az_W C R k_X2_put 59 ls (.long q :: .long p :: st) h ↔ (¬ q = 0 ∧ az_W C R k_X2_put 60 ls (.long (p / q) :: st) h) := ap_ldiv rfl
theorem u_X2_put_60 (hk : az_kn 130 a = (0, 2)) : az_W C R k_X2_put 60 ls (.long p :: .ref a :: st) (130, P, I, L) ↔ az_W C R k_X2_put 63 ls st (130, P, I, az_uL L a 0 p) := ap_putL rfl hk
theorem u_X2_put_63 : az_W C R k_X2_put 63 (.ref a :: ls) st h ↔ az_W C R k_X2_put 64 (.ref a :: ls) (.ref a :: st) h := ap_aload rfl rfl
theorem u_X2_put_64 : az_W C R k_X2_put 64 (v0 :: v1 :: v2 :: .long p :: ls) st h ↔ az_W C R k_X2_put 65 (v0 :: v1 :: v2 :: .long p :: ls) (.long p :: st) h := ap_lload rfl rfl
theorem u_X2_put_65 : az_W C R k_X2_put 65 (v0 :: v1 :: v2 :: v3 :: v4 :: .long p :: ls) st h ↔ az_W C R k_X2_put 67 (v0 :: v1 :: v2 :: v3 :: v4 :: .long p :: ls) (.long p :: st) h := ap_lload rfl rfl
theorem u_X2_put_67 : az_W C R k_X2_put 67 ls (.long q :: .long p :: st) h ↔ (¬ q = 0 ∧ az_W C R k_X2_put 68 ls (.long (p / q) :: st) h) := ap_ldiv rfl
theorem u_X2_put_68 (hk : az_kn 130 a = (0, 2)) : az_W C R k_X2_put 68 ls (.long p :: .ref a :: st) (130, P, I, L) ↔ az_W C R k_X2_put 71 ls st (130, P, I, az_uL L a 1 p) := ap_putL rfl hk
theorem u_X2_put_71 : az_W C R k_X2_put 71 ls [] h ↔ R none h := ap_ret rfl
def k_X2_copy : Nat → az_P := (az_br 8 (az_br 2 (az_br 1 (az_lf 0 (az_aload 0 1)) (az_lf 1 (az_aload 1 2))) (az_br 5 (az_lf 2 (az_getL 2 0 5)) (az_lf 5 (az_putL 2 0 8)))) (az_br 10 (az_br 9 (az_lf 8 (az_aload 0 9)) (az_lf 9 (az_aload 1 10))) (az_br 13 (az_lf 10 (az_getL 2 1 13)) (az_br 16 (az_lf 13 (az_putL 2 1 16)) (az_lf 16 (az_ret))))))
theorem u_X2_copy_0 : az_W C R k_X2_copy 0 (.ref a :: ls) st h ↔ az_W C R k_X2_copy 1 (.ref a :: ls) (.ref a :: st) h := ap_aload rfl rfl
theorem u_X2_copy_1 : az_W C R k_X2_copy 1 (v0 :: .ref a :: ls) st h ↔ az_W C R k_X2_copy 2 (v0 :: .ref a :: ls) (.ref a :: st) h := ap_aload rfl rfl
theorem u_X2_copy_2 (hk : az_kn 130 a = (0, 2)) : az_W C R k_X2_copy 2 ls (.ref a :: st) (130, P, I, L) ↔ az_W C R k_X2_copy 5 ls (.long (L a 0) :: st) (130, P, I, L) := ap_getL rfl hk
theorem u_X2_copy_5 (hk : az_kn 130 a = (0, 2)) : az_W C R k_X2_copy 5 ls (.long p :: .ref a :: st) (130, P, I, L) ↔ az_W C R k_X2_copy 8 ls st (130, P, I, az_uL L a 0 p) := ap_putL rfl hk
theorem u_X2_copy_8 : az_W C R k_X2_copy 8 (.ref a :: ls) st h ↔ az_W C R k_X2_copy 9 (.ref a :: ls) (.ref a :: st) h := ap_aload rfl rfl
theorem u_X2_copy_9 : az_W C R k_X2_copy 9 (v0 :: .ref a :: ls) st h ↔ az_W C R k_X2_copy 10 (v0 :: .ref a :: ls) (.ref a :: st) h := ap_aload rfl rfl
theorem u_X2_copy_10 (hk : az_kn 130 a = (0, 2)) : az_W C R k_X2_copy 10 ls (.ref a :: st) (130, P, I, L) ↔ az_W C R k_X2_copy 13 ls (.long (L a 1) :: st) (130, P, I, L) := ap_getL rfl hk
theorem u_X2_copy_13 (hk : az_kn 130 a = (0, 2)) : az_W C R k_X2_copy 13 ls (.long p :: .ref a :: st) (130, P, I, L) ↔ az_W C R k_X2_copy 16 ls st (130, P, I, az_uL L a 1 p) := ap_putL rfl hk
theorem u_X2_copy_16 : az_W C R k_X2_copy 16 ls [] h ↔ R none h := ap_ret rfl
def k_X2_putDifference : Nat → az_P := (az_br 15 (az_br 6 (az_br 2 (az_br 1 (az_lf 0 (az_aload 0 1)) (az_lf 1 (az_aload 1 2))) (az_br 5 (az_lf 2 (az_getL 2 0 5)) (az_lf 5 (az_aload 2 6)))) (az_br 10 (az_br 9 (az_lf 6 (az_getL 2 1 9)) (az_lf 9 (az_ll (fun p q => p * q) 10))) (az_br 11 (az_lf 10 (az_aload 2 11)) (az_br 14 (az_lf 11 (az_getL 2 0 14)) (az_lf 14 (az_aload 1 15)))))) (az_br 24 (az_br 19 (az_br 18 (az_lf 15 (az_getL 2 1 18)) (az_lf 18 (az_ll (fun p q => p * q) 19))) (az_br 20 (az_lf 19 (az_ll (fun p q => p - q) 20)) (az_br 21 (az_lf 20 (az_aload 1 21)) (az_lf 21 (az_getL 2 1 24))))) (az_br 28 (az_br 25 (az_lf 24 (az_aload 2 25)) (az_lf 25 (az_getL 2 1 28))) (az_br 29 (az_lf 28 (az_ll (fun p q => p * q) 29)) (az_br 32 (az_lf 29 (az_ivv 19 2 2 32)) (az_lf 32 (az_ret)))))))
theorem u_X2_putDifference_0 : az_W C R k_X2_putDifference 0 (.ref a :: ls) st h ↔ az_W C R k_X2_putDifference 1 (.ref a :: ls) (.ref a :: st) h := ap_aload rfl rfl
theorem u_X2_putDifference_1 : az_W C R k_X2_putDifference 1 (v0 :: .ref a :: ls) st h ↔ az_W C R k_X2_putDifference 2 (v0 :: .ref a :: ls) (.ref a :: st) h := ap_aload rfl rfl
theorem u_X2_putDifference_2 (hk : az_kn 130 a = (0, 2)) : az_W C R k_X2_putDifference 2 ls (.ref a :: st) (130, P, I, L) ↔ az_W C R k_X2_putDifference 5 ls (.long (L a 0) :: st) (130, P, I, L) := ap_getL rfl hk
theorem u_X2_putDifference_5 : az_W C R k_X2_putDifference 5 (v0 :: v1 :: .ref a :: ls) st h ↔ az_W C R k_X2_putDifference 6 (v0 :: v1 :: .ref a :: ls) (.ref a :: st) h := ap_aload rfl rfl
theorem u_X2_putDifference_6 (hk : az_kn 130 a = (0, 2)) : az_W C R k_X2_putDifference 6 ls (.ref a :: st) (130, P, I, L) ↔ az_W C R k_X2_putDifference 9 ls (.long (L a 1) :: st) (130, P, I, L) := ap_getL rfl hk
theorem u_X2_putDifference_9 : az_W C R k_X2_putDifference 9 ls (.long q :: .long p :: st) h ↔ az_W C R k_X2_putDifference 10 ls (.long (p * q) :: st) h := ap_ll (f := fun p q => p * q) rfl
theorem u_X2_putDifference_10 : az_W C R k_X2_putDifference 10 (v0 :: v1 :: .ref a :: ls) st h ↔ az_W C R k_X2_putDifference 11 (v0 :: v1 :: .ref a :: ls) (.ref a :: st) h := ap_aload rfl rfl
theorem u_X2_putDifference_11 (hk : az_kn 130 a = (0, 2)) : az_W C R k_X2_putDifference 11 ls (.ref a :: st) (130, P, I, L) ↔ az_W C R k_X2_putDifference 14 ls (.long (L a 0) :: st) (130, P, I, L) := ap_getL rfl hk
theorem u_X2_putDifference_14 : az_W C R k_X2_putDifference 14 (v0 :: .ref a :: ls) st h ↔ az_W C R k_X2_putDifference 15 (v0 :: .ref a :: ls) (.ref a :: st) h := ap_aload rfl rfl
theorem u_X2_putDifference_15 (hk : az_kn 130 a = (0, 2)) : az_W C R k_X2_putDifference 15 ls (.ref a :: st) (130, P, I, L) ↔ az_W C R k_X2_putDifference 18 ls (.long (L a 1) :: st) (130, P, I, L) := ap_getL rfl hk
theorem u_X2_putDifference_18 : az_W C R k_X2_putDifference 18 ls (.long q :: .long p :: st) h ↔ az_W C R k_X2_putDifference 19 ls (.long (p * q) :: st) h := ap_ll (f := fun p q => p * q) rfl
theorem u_X2_putDifference_19 : az_W C R k_X2_putDifference 19 ls (.long q :: .long p :: st) h ↔ az_W C R k_X2_putDifference 20 ls (.long (p - q) :: st) h := ap_ll (f := fun p q => p - q) rfl
theorem u_X2_putDifference_20 : az_W C R k_X2_putDifference 20 (v0 :: .ref a :: ls) st h ↔ az_W C R k_X2_putDifference 21 (v0 :: .ref a :: ls) (.ref a :: st) h := ap_aload rfl rfl
theorem u_X2_putDifference_21 (hk : az_kn 130 a = (0, 2)) : az_W C R k_X2_putDifference 21 ls (.ref a :: st) (130, P, I, L) ↔ az_W C R k_X2_putDifference 24 ls (.long (L a 1) :: st) (130, P, I, L) := ap_getL rfl hk
theorem u_X2_putDifference_24 : az_W C R k_X2_putDifference 24 (v0 :: v1 :: .ref a :: ls) st h ↔ az_W C R k_X2_putDifference 25 (v0 :: v1 :: .ref a :: ls) (.ref a :: st) h := ap_aload rfl rfl
theorem u_X2_putDifference_25 (hk : az_kn 130 a = (0, 2)) : az_W C R k_X2_putDifference 25 ls (.ref a :: st) (130, P, I, L) ↔ az_W C R k_X2_putDifference 28 ls (.long (L a 1) :: st) (130, P, I, L) := ap_getL rfl hk
theorem u_X2_putDifference_28 : az_W C R k_X2_putDifference 28 ls (.long q :: .long p :: st) h ↔ az_W C R k_X2_putDifference 29 ls (.long (p * q) :: st) h := ap_ll (f := fun p q => p * q) rfl
theorem u_X2_putDifference_29 (hk : az_kn 130 a = (0, 2)) (hl : st.length ≤ 4) : az_W C R k_X2_putDifference 29 ls (v2 :: v1 :: .ref a :: st) (130, P, I, L) ↔ az_F C R (az_W C R k_X2_putDifference) (130, P, I, L) (az_cl 19 [.ref a, v1, v2] 32 ls st) := ap_ivv rfl rfl hk hl
theorem u_X2_putDifference_32 : az_W C R k_X2_putDifference 32 ls [] h ↔ R none h := ap_ret rfl
def k_X2_scale : Nat → az_P := (az_br 10 (az_br 4 (az_br 2 (az_br 1 (az_lf 0 (az_aload 0 1)) (az_lf 1 (az_iload 1 2))) (az_br 3 (az_lf 2 (az_i2l 3)) (az_lf 3 (az_aload 0 4)))) (az_br 8 (az_br 7 (az_lf 4 (az_getL 2 0 7)) (az_lf 7 (az_ll (fun p q => p * q) 8))) (az_br 9 (az_lf 8 (az_iload 2 9)) (az_lf 9 (az_i2l 10))))) (az_br 16 (az_br 14 (az_br 11 (az_lf 10 (az_aload 0 11)) (az_lf 11 (az_getL 2 1 14))) (az_br 15 (az_lf 14 (az_ll (fun p q => p * q) 15)) (az_lf 15 (az_ll (fun p q => p - q) 16)))) (az_br 20 (az_br 17 (az_lf 16 (az_aload 0 17)) (az_lf 17 (az_getL 2 1 20))) (az_br 23 (az_lf 20 (az_ivv 19 2 2 23)) (az_lf 23 (az_ret))))))
theorem u_X2_scale_0 : az_W C R k_X2_scale 0 (.ref a :: ls) st h ↔ az_W C R k_X2_scale 1 (.ref a :: ls) (.ref a :: st) h := ap_aload rfl rfl
theorem u_X2_scale_1 : az_W C R k_X2_scale 1 (v0 :: .int x :: ls) st h ↔ az_W C R k_X2_scale 2 (v0 :: .int x :: ls) (.int x :: st) h := ap_iload rfl rfl
theorem u_X2_scale_2 : az_W C R k_X2_scale 2 ls (.int x :: st) h ↔ az_W C R k_X2_scale 3 ls (.long x.toInt64 :: st) h := ap_i2l rfl
theorem u_X2_scale_3 : az_W C R k_X2_scale 3 (.ref a :: ls) st h ↔ az_W C R k_X2_scale 4 (.ref a :: ls) (.ref a :: st) h := ap_aload rfl rfl
theorem u_X2_scale_4 (hk : az_kn 130 a = (0, 2)) : az_W C R k_X2_scale 4 ls (.ref a :: st) (130, P, I, L) ↔ az_W C R k_X2_scale 7 ls (.long (L a 0) :: st) (130, P, I, L) := ap_getL rfl hk
theorem u_X2_scale_7 : az_W C R k_X2_scale 7 ls (.long q :: .long p :: st) h ↔ az_W C R k_X2_scale 8 ls (.long (p * q) :: st) h := ap_ll (f := fun p q => p * q) rfl
theorem u_X2_scale_8 : az_W C R k_X2_scale 8 (v0 :: v1 :: .int x :: ls) st h ↔ az_W C R k_X2_scale 9 (v0 :: v1 :: .int x :: ls) (.int x :: st) h := ap_iload rfl rfl
theorem u_X2_scale_9 : az_W C R k_X2_scale 9 ls (.int x :: st) h ↔ az_W C R k_X2_scale 10 ls (.long x.toInt64 :: st) h := ap_i2l rfl
theorem u_X2_scale_10 : az_W C R k_X2_scale 10 (.ref a :: ls) st h ↔ az_W C R k_X2_scale 11 (.ref a :: ls) (.ref a :: st) h := ap_aload rfl rfl
theorem u_X2_scale_11 (hk : az_kn 130 a = (0, 2)) : az_W C R k_X2_scale 11 ls (.ref a :: st) (130, P, I, L) ↔ az_W C R k_X2_scale 14 ls (.long (L a 1) :: st) (130, P, I, L) := ap_getL rfl hk
theorem u_X2_scale_14 : az_W C R k_X2_scale 14 ls (.long q :: .long p :: st) h ↔ az_W C R k_X2_scale 15 ls (.long (p * q) :: st) h := ap_ll (f := fun p q => p * q) rfl
theorem u_X2_scale_15 : az_W C R k_X2_scale 15 ls (.long q :: .long p :: st) h ↔ az_W C R k_X2_scale 16 ls (.long (p - q) :: st) h := ap_ll (f := fun p q => p - q) rfl
theorem u_X2_scale_16 : az_W C R k_X2_scale 16 (.ref a :: ls) st h ↔ az_W C R k_X2_scale 17 (.ref a :: ls) (.ref a :: st) h := ap_aload rfl rfl
theorem u_X2_scale_17 (hk : az_kn 130 a = (0, 2)) : az_W C R k_X2_scale 17 ls (.ref a :: st) (130, P, I, L) ↔ az_W C R k_X2_scale 20 ls (.long (L a 1) :: st) (130, P, I, L) := ap_getL rfl hk
theorem u_X2_scale_20 (hk : az_kn 130 a = (0, 2)) (hl : st.length ≤ 4) : az_W C R k_X2_scale 20 ls (v2 :: v1 :: .ref a :: st) (130, P, I, L) ↔ az_F C R (az_W C R k_X2_scale) (130, P, I, L) (az_cl 19 [.ref a, v1, v2] 23 ls st) := ap_ivv rfl rfl hk hl
theorem u_X2_scale_23 : az_W C R k_X2_scale 23 ls [] h ↔ R none h := ap_ret rfl
def k_X2_isAbove : Nat → az_P := (az_br 14 (az_br 8 (az_br 4 (az_br 1 (az_lf 0 (az_aload 0 1)) (az_lf 1 (az_getL 2 0 4))) (az_br 5 (az_lf 4 (az_aload 1 5)) (az_lf 5 (az_getL 2 1 8)))) (az_br 10 (az_br 9 (az_lf 8 (az_ll (fun p q => p * q) 9)) (az_lf 9 (az_aload 1 10))) (az_br 13 (az_lf 10 (az_getL 2 0 13)) (az_lf 13 (az_aload 0 14))))) (az_br 22 (az_br 18 (az_br 17 (az_lf 14 (az_getL 2 1 17)) (az_lf 17 (az_ll (fun p q => p * q) 18))) (az_br 19 (az_lf 18 (az_lcmp 19)) (az_lf 19 (az_ifle 26 22)))) (az_br 26 (az_br 23 (az_lf 22 (az_const (.int 1) 23)) (az_lf 23 (az_goto 27))) (az_br 27 (az_lf 26 (az_const (.int 0) 27)) (az_lf 27 (az_zret))))))
theorem u_X2_isAbove_0 : az_W C R k_X2_isAbove 0 (.ref a :: ls) st h ↔ az_W C R k_X2_isAbove 1 (.ref a :: ls) (.ref a :: st) h := ap_aload rfl rfl
theorem u_X2_isAbove_1 (hk : az_kn 130 a = (0, 2)) : az_W C R k_X2_isAbove 1 ls (.ref a :: st) (130, P, I, L) ↔ az_W C R k_X2_isAbove 4 ls (.long (L a 0) :: st) (130, P, I, L) := ap_getL rfl hk
theorem u_X2_isAbove_4 : az_W C R k_X2_isAbove 4 (v0 :: .ref a :: ls) st h ↔ az_W C R k_X2_isAbove 5 (v0 :: .ref a :: ls) (.ref a :: st) h := ap_aload rfl rfl
theorem u_X2_isAbove_5 (hk : az_kn 130 a = (0, 2)) : az_W C R k_X2_isAbove 5 ls (.ref a :: st) (130, P, I, L) ↔ az_W C R k_X2_isAbove 8 ls (.long (L a 1) :: st) (130, P, I, L) := ap_getL rfl hk
theorem u_X2_isAbove_8 : az_W C R k_X2_isAbove 8 ls (.long q :: .long p :: st) h ↔ az_W C R k_X2_isAbove 9 ls (.long (p * q) :: st) h := ap_ll (f := fun p q => p * q) rfl
theorem u_X2_isAbove_9 : az_W C R k_X2_isAbove 9 (v0 :: .ref a :: ls) st h ↔ az_W C R k_X2_isAbove 10 (v0 :: .ref a :: ls) (.ref a :: st) h := ap_aload rfl rfl
theorem u_X2_isAbove_10 (hk : az_kn 130 a = (0, 2)) : az_W C R k_X2_isAbove 10 ls (.ref a :: st) (130, P, I, L) ↔ az_W C R k_X2_isAbove 13 ls (.long (L a 0) :: st) (130, P, I, L) := ap_getL rfl hk
theorem u_X2_isAbove_13 : az_W C R k_X2_isAbove 13 (.ref a :: ls) st h ↔ az_W C R k_X2_isAbove 14 (.ref a :: ls) (.ref a :: st) h := ap_aload rfl rfl
theorem u_X2_isAbove_14 (hk : az_kn 130 a = (0, 2)) : az_W C R k_X2_isAbove 14 ls (.ref a :: st) (130, P, I, L) ↔ az_W C R k_X2_isAbove 17 ls (.long (L a 1) :: st) (130, P, I, L) := ap_getL rfl hk
theorem u_X2_isAbove_17 : az_W C R k_X2_isAbove 17 ls (.long q :: .long p :: st) h ↔ az_W C R k_X2_isAbove 18 ls (.long (p * q) :: st) h := ap_ll (f := fun p q => p * q) rfl
theorem u_X2_isAbove_18 : az_W C R k_X2_isAbove 18 ls (.long q :: .long p :: st) h ↔ az_W C R k_X2_isAbove 19 ls (.int (lg_cmp p q) :: st) h := ap_lcmp rfl
theorem u_X2_isAbove_19 : az_W C R k_X2_isAbove 19 ls (.int x :: st) h ↔ if x ≤ 0 then az_W C R k_X2_isAbove 26 ls st h else az_W C R k_X2_isAbove 22 ls st h := ap_ifle rfl
theorem u_X2_isAbove_22 : az_W C R k_X2_isAbove 22 ls st h ↔ az_W C R k_X2_isAbove 23 ls (.int 1 :: st) h := ap_const rfl
theorem u_X2_isAbove_23 : az_W C R k_X2_isAbove 23 ls st h ↔ az_W C R k_X2_isAbove 27 ls st h := ap_goto rfl
theorem u_X2_isAbove_26 : az_W C R k_X2_isAbove 26 ls st h ↔ az_W C R k_X2_isAbove 27 ls (.int 0 :: st) h := ap_const rfl
theorem u_X2_isAbove_27 : az_W C R k_X2_isAbove 27 ls [.int x] h ↔ ((x = 0 ∨ x = 1) ∧ R (some (.int x)) h) := ap_zret rfl
def k_X2_isAtLeast : Nat → az_P := (az_br 10 (az_br 5 (az_br 1 (az_lf 0 (az_aload 0 1)) (az_br 4 (az_lf 1 (az_getL 2 0 4)) (az_lf 4 (az_iload 1 5)))) (az_br 6 (az_lf 5 (az_i2l 6)) (az_br 7 (az_lf 6 (az_aload 0 7)) (az_lf 7 (az_getL 2 1 10))))) (az_br 15 (az_br 11 (az_lf 10 (az_ll (fun p q => p * q) 11)) (az_br 12 (az_lf 11 (az_lcmp 12)) (az_lf 12 (az_iflt 19 15)))) (az_br 19 (az_br 16 (az_lf 15 (az_const (.int 1) 16)) (az_lf 16 (az_goto 20))) (az_br 20 (az_lf 19 (az_const (.int 0) 20)) (az_lf 20 (az_zret))))))
theorem u_X2_isAtLeast_0 : az_W C R k_X2_isAtLeast 0 (.ref a :: ls) st h ↔ az_W C R k_X2_isAtLeast 1 (.ref a :: ls) (.ref a :: st) h := ap_aload rfl rfl
theorem u_X2_isAtLeast_1 (hk : az_kn 130 a = (0, 2)) : az_W C R k_X2_isAtLeast 1 ls (.ref a :: st) (130, P, I, L) ↔ az_W C R k_X2_isAtLeast 4 ls (.long (L a 0) :: st) (130, P, I, L) := ap_getL rfl hk
theorem u_X2_isAtLeast_4 : az_W C R k_X2_isAtLeast 4 (v0 :: .int x :: ls) st h ↔ az_W C R k_X2_isAtLeast 5 (v0 :: .int x :: ls) (.int x :: st) h := ap_iload rfl rfl
theorem u_X2_isAtLeast_5 : az_W C R k_X2_isAtLeast 5 ls (.int x :: st) h ↔ az_W C R k_X2_isAtLeast 6 ls (.long x.toInt64 :: st) h := ap_i2l rfl
theorem u_X2_isAtLeast_6 : az_W C R k_X2_isAtLeast 6 (.ref a :: ls) st h ↔ az_W C R k_X2_isAtLeast 7 (.ref a :: ls) (.ref a :: st) h := ap_aload rfl rfl
theorem u_X2_isAtLeast_7 (hk : az_kn 130 a = (0, 2)) : az_W C R k_X2_isAtLeast 7 ls (.ref a :: st) (130, P, I, L) ↔ az_W C R k_X2_isAtLeast 10 ls (.long (L a 1) :: st) (130, P, I, L) := ap_getL rfl hk
theorem u_X2_isAtLeast_10 : az_W C R k_X2_isAtLeast 10 ls (.long q :: .long p :: st) h ↔ az_W C R k_X2_isAtLeast 11 ls (.long (p * q) :: st) h := ap_ll (f := fun p q => p * q) rfl
theorem u_X2_isAtLeast_11 : az_W C R k_X2_isAtLeast 11 ls (.long q :: .long p :: st) h ↔ az_W C R k_X2_isAtLeast 12 ls (.int (lg_cmp p q) :: st) h := ap_lcmp rfl
theorem u_X2_isAtLeast_12 : az_W C R k_X2_isAtLeast 12 ls (.int x :: st) h ↔ if x < 0 then az_W C R k_X2_isAtLeast 19 ls st h else az_W C R k_X2_isAtLeast 15 ls st h := ap_iflt rfl
theorem u_X2_isAtLeast_15 : az_W C R k_X2_isAtLeast 15 ls st h ↔ az_W C R k_X2_isAtLeast 16 ls (.int 1 :: st) h := ap_const rfl
theorem u_X2_isAtLeast_16 : az_W C R k_X2_isAtLeast 16 ls st h ↔ az_W C R k_X2_isAtLeast 20 ls st h := ap_goto rfl
theorem u_X2_isAtLeast_19 : az_W C R k_X2_isAtLeast 19 ls st h ↔ az_W C R k_X2_isAtLeast 20 ls (.int 0 :: st) h := ap_const rfl
theorem u_X2_isAtLeast_20 : az_W C R k_X2_isAtLeast 20 ls [.int x] h ↔ ((x = 0 ∨ x = 1) ∧ R (some (.int x)) h) := ap_zret rfl
def k_X2_part : Nat → az_P := (az_br 8 (az_br 4 (az_br 1 (az_lf 0 (az_iload 1 1)) (az_lf 1 (az_ifne 11 4))) (az_br 5 (az_lf 4 (az_aload 0 5)) (az_lf 5 (az_getL 2 0 8)))) (az_br 12 (az_br 11 (az_lf 8 (az_goto 15)) (az_lf 11 (az_aload 0 12))) (az_br 15 (az_lf 12 (az_getL 2 1 15)) (az_lf 15 (az_lret)))))
theorem u_X2_part_0 : az_W C R k_X2_part 0 (v0 :: .int x :: ls) st h ↔ az_W C R k_X2_part 1 (v0 :: .int x :: ls) (.int x :: st) h := ap_iload rfl rfl
theorem u_X2_part_1 : az_W C R k_X2_part 1 ls (.int x :: st) h ↔ if x = 0 then az_W C R k_X2_part 4 ls st h else az_W C R k_X2_part 11 ls st h := ap_ifne rfl
theorem u_X2_part_4 : az_W C R k_X2_part 4 (.ref a :: ls) st h ↔ az_W C R k_X2_part 5 (.ref a :: ls) (.ref a :: st) h := ap_aload rfl rfl
theorem u_X2_part_5 (hk : az_kn 130 a = (0, 2)) : az_W C R k_X2_part 5 ls (.ref a :: st) (130, P, I, L) ↔ az_W C R k_X2_part 8 ls (.long (L a 0) :: st) (130, P, I, L) := ap_getL rfl hk
theorem u_X2_part_8 : az_W C R k_X2_part 8 ls st h ↔ az_W C R k_X2_part 15 ls st h := ap_goto rfl
theorem u_X2_part_11 : az_W C R k_X2_part 11 (.ref a :: ls) st h ↔ az_W C R k_X2_part 12 (.ref a :: ls) (.ref a :: st) h := ap_aload rfl rfl
theorem u_X2_part_12 (hk : az_kn 130 a = (0, 2)) : az_W C R k_X2_part 12 ls (.ref a :: st) (130, P, I, L) ↔ az_W C R k_X2_part 15 ls (.long (L a 1) :: st) (130, P, I, L) := ap_getL rfl hk
theorem u_X2_part_15 : az_W C R k_X2_part 15 ls [.long p] h ↔ R (some (.long p)) h := ap_lret rfl
end
