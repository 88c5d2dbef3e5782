section
variable {C : az_C} {R : az_R} {ls st : List Value} {h : az_H} {n : Nat} {P : Nat → Nat → Option Nat} {I : Nat → Nat → Int32} {L : Nat → Nat → Int64}
variable {v0 v1 v2 v3 v4 v5 v6 v7 v8 v9 v10 v11 v12 : Value} {x y z : Int32} {p q : Int64} {a b : Nat} {M : Nat} {xs : Nat → Int32}
def k_X6_init : Nat → az_P := (az_br 25 (az_br 13 (az_br 5 (az_br 1 (az_lf 0 (az_aload 0 1)) (az_br 4 (az_lf 1 (az_oin 4)) (az_lf 4 (az_aload 0 5)))) (az_br 9 (az_br 7 (az_lf 5 (az_const (.int 40) 7)) (az_lf 7 (az_newa 1 9))) (az_br 12 (az_lf 9 (az_putP 6 0 12)) (az_lf 12 (az_aload 0 13))))) (az_br 18 (az_br 14 (az_lf 13 (az_const (.int 0) 14)) (az_br 17 (az_lf 14 (az_putI 6 1 17)) (az_lf 17 (az_aload 0 18)))) (az_br 21 (az_br 19 (az_lf 18 (az_const (.int 4) 19)) (az_lf 19 (az_newa 1 21))) (az_br 24 (az_lf 21 (az_putP 6 2 24)) (az_lf 24 (az_aload 0 25)))))) (az_br 39 (az_br 31 (az_br 26 (az_lf 25 (az_const (.int 4) 26)) (az_br 27 (az_lf 26 (az_const (.int 3) 27)) (az_lf 27 (az_mna 31)))) (az_br 35 (az_br 34 (az_lf 31 (az_putP 6 3 34)) (az_lf 34 (az_aload 0 35))) (az_br 36 (az_lf 35 (az_const (.int 0) 36)) (az_lf 36 (az_putI 6 4 39))))) (az_br 46 (az_br 41 (az_br 40 (az_lf 39 (az_aload 0 40)) (az_lf 40 (az_const (.int 3) 41))) (az_br 43 (az_lf 41 (az_newa 1 43)) (az_lf 43 (az_putP 6 5 46)))) (az_br 48 (az_br 47 (az_lf 46 (az_aload 0 47)) (az_lf 47 (az_const (.int 0) 48))) (az_br 51 (az_lf 48 (az_putI 6 6 51)) (az_lf 51 (az_ret)))))))
theorem u_X6_init_0 : az_W C R k_X6_init 0 (.ref a :: ls) st h ↔ az_W C R k_X6_init 1 (.ref a :: ls) (.ref a :: st) h := ap_aload rfl rfl
theorem u_X6_init_1 (hl : st.length ≤ 4) : az_W C R k_X6_init 1 ls (.ref a :: st) h ↔ az_W C R k_X6_init 4 ls st h := ap_oin rfl hl
theorem u_X6_init_4 : az_W C R k_X6_init 4 (.ref a :: ls) st h ↔ az_W C R k_X6_init 5 (.ref a :: ls) (.ref a :: st) h := ap_aload rfl rfl
theorem u_X6_init_5 : az_W C R k_X6_init 5 ls st h ↔ az_W C R k_X6_init 7 ls (.int 40 :: st) h := ap_const rfl
theorem u_X6_init_7 : az_W C R k_X6_init 7 ls (.int 40 :: st) (36, P, I, L) ↔ az_W C R k_X6_init 9 ls (.ref 36 :: st) (37, P, I, L) := ap_newa rfl (by decide +kernel)
theorem u_X6_init_9 (hk : az_kn n a = (0, 6)) : az_W C R k_X6_init 9 ls (.ref b :: .ref a :: st) (n, P, I, L) ↔ az_W C R k_X6_init 12 ls st (n, az_uP P a 0 (some b), I, L) := ap_putP rfl hk
theorem u_X6_init_12 : az_W C R k_X6_init 12 (.ref a :: ls) st h ↔ az_W C R k_X6_init 13 (.ref a :: ls) (.ref a :: st) h := ap_aload rfl rfl
theorem u_X6_init_13 : az_W C R k_X6_init 13 ls st h ↔ az_W C R k_X6_init 14 ls (.int 0 :: st) h := ap_const rfl
theorem u_X6_init_14 (hk : az_kn n a = (0, 6)) : az_W C R k_X6_init 14 ls (.int x :: .ref a :: st) (n, P, I, L) ↔ az_W C R k_X6_init 17 ls st (n, P, az_uI I a 1 x, L) := ap_putI rfl hk
theorem u_X6_init_17 : az_W C R k_X6_init 17 (.ref a :: ls) st h ↔ az_W C R k_X6_init 18 (.ref a :: ls) (.ref a :: st) h := ap_aload rfl rfl
theorem u_X6_init_18 : az_W C R k_X6_init 18 ls st h ↔ az_W C R k_X6_init 19 ls (.int 4 :: st) h := ap_const rfl
theorem u_X6_init_19 : az_W C R k_X6_init 19 ls (.int 4 :: st) (37, P, I, L) ↔ az_W C R k_X6_init 21 ls (.ref 37 :: st) (38, P, I, L) := ap_newa rfl (by decide +kernel)
theorem u_X6_init_21 (hk : az_kn n a = (0, 6)) : az_W C R k_X6_init 21 ls (.ref b :: .ref a :: st) (n, P, I, L) ↔ az_W C R k_X6_init 24 ls st (n, az_uP P a 2 (some b), I, L) := ap_putP rfl hk
theorem u_X6_init_24 : az_W C R k_X6_init 24 (.ref a :: ls) st h ↔ az_W C R k_X6_init 25 (.ref a :: ls) (.ref a :: st) h := ap_aload rfl rfl
theorem u_X6_init_25 : az_W C R k_X6_init 25 ls st h ↔ az_W C R k_X6_init 26 ls (.int 4 :: st) h := ap_const rfl
theorem u_X6_init_26 : az_W C R k_X6_init 26 ls st h ↔ az_W C R k_X6_init 27 ls (.int 3 :: st) h := ap_const rfl
theorem u_X6_init_27 : az_W C R k_X6_init 27 ls (.int 3 :: .int 4 :: st) (38, P, I, L) ↔ az_W C R k_X6_init 31 ls (.ref 38 :: st) (43, az_uR P 38 4, I, L) := ap_mna rfl (by decide +kernel)
theorem u_X6_init_31 (hk : az_kn n a = (0, 6)) : az_W C R k_X6_init 31 ls (.ref b :: .ref a :: st) (n, P, I, L) ↔ az_W C R k_X6_init 34 ls st (n, az_uP P a 3 (some b), I, L) := ap_putP rfl hk
theorem u_X6_init_34 : az_W C R k_X6_init 34 (.ref a :: ls) st h ↔ az_W C R k_X6_init 35 (.ref a :: ls) (.ref a :: st) h := ap_aload rfl rfl
theorem u_X6_init_35 : az_W C R k_X6_init 35 ls st h ↔ az_W C R k_X6_init 36 ls (.int 0 :: st) h := ap_const rfl
theorem u_X6_init_36 (hk : az_kn n a = (0, 6)) : az_W C R k_X6_init 36 ls (.int x :: .ref a :: st) (n, P, I, L) ↔ az_W C R k_X6_init 39 ls st (n, P, az_uI I a 4 x, L) := ap_putI rfl hk
theorem u_X6_init_39 : az_W C R k_X6_init 39 (.ref a :: ls) st h ↔ az_W C R k_X6_init 40 (.ref a :: ls) (.ref a :: st) h := ap_aload rfl rfl
theorem u_X6_init_40 : az_W C R k_X6_init 40 ls st h ↔ az_W C R k_X6_init 41 ls (.int 3 :: st) h := ap_const rfl
theorem u_X6_init_41 : az_W C R k_X6_init 41 ls (.int 3 :: st) (43, P, I, L) ↔ az_W C R k_X6_init 43 ls (.ref 43 :: st) (44, P, I, L) := ap_newa rfl (by decide +kernel)
theorem u_X6_init_43 (hk : az_kn n a = (0, 6)) : az_W C R k_X6_init 43 ls (.ref b :: .ref a :: st) (n, P, I, L) ↔ az_W C R k_X6_init 46 ls st (n, az_uP P a 5 (some b), I, L) := ap_putP rfl hk
theorem u_X6_init_46 : az_W C R k_X6_init 46 (.ref a :: ls) st h ↔ az_W C R k_X6_init 47 (.ref a :: ls) (.ref a :: st) h := ap_aload rfl rfl
theorem u_X6_init_47 : az_W C R k_X6_init 47 ls st h ↔ az_W C R k_X6_init 48 ls (.int 0 :: st) h := ap_const rfl
theorem u_X6_init_48 (hk : az_kn n a = (0, 6)) : az_W C R k_X6_init 48 ls (.int x :: .ref a :: st) (n, P, I, L) ↔ az_W C R k_X6_init 51 ls st (n, P, az_uI I a 6 x, L) := ap_putI rfl hk
theorem u_X6_init_51 : az_W C R k_X6_init 51 ls [] h ↔ R none h := ap_ret rfl
def k_X6_isTypeable : Nat → az_P := (az_br 14 (az_br 4 (az_br 2 (az_br 1 (az_lf 0 (az_const (.int 0) 1)) (az_lf 1 (az_istore 3 2))) (az_br 3 (az_lf 2 (az_iload 3 3)) (az_lf 3 (az_iload 2 4)))) (az_br 8 (az_br 7 (az_lf 4 (az_icge 30 7)) (az_lf 7 (az_lload 0 8))) (az_br 9 (az_lf 8 (az_iload 3 9)) (az_br 12 (az_lf 9 (az_ivs 55 2 12)) (az_lf 12 (az_const (.int 32) 14)))))) (az_br 23 (az_br 19 (az_br 16 (az_lf 14 (az_const (.int 126) 16)) (az_lf 16 (az_ivs 129 3 19))) (az_br 22 (az_lf 19 (az_ifne 24 22)) (az_lf 22 (az_const (.int 0) 23)))) (az_br 27 (az_br 24 (az_lf 23 (az_zret)) (az_lf 24 (az_iinc 3 1 27))) (az_br 30 (az_lf 27 (az_goto 2)) (az_br 31 (az_lf 30 (az_const (.int 1) 31)) (az_lf 31 (az_zret)))))))
theorem u_X6_isTypeable_0 : az_W C R k_X6_isTypeable 0 ls st h ↔ az_W C R k_X6_isTypeable 1 ls (.int 0 :: st) h := ap_const rfl
theorem u_X6_isTypeable_1 : az_W C R k_X6_isTypeable 1 (v0 :: v1 :: v2 :: v3 :: ls) (.int x :: st) h ↔ az_W C R k_X6_isTypeable 2 (v0 :: v1 :: az_un v2 :: .int x :: ls) st h := ap_istore rfl rfl
theorem u_X6_isTypeable_2 : az_W C R k_X6_isTypeable 2 (v0 :: v1 :: v2 :: .int x :: ls) st h ↔ az_W C R k_X6_isTypeable 3 (v0 :: v1 :: v2 :: .int x :: ls) (.int x :: st) h := ap_iload rfl rfl
theorem u_X6_isTypeable_3 : az_W C R k_X6_isTypeable 3 (v0 :: v1 :: .int x :: ls) st h ↔ az_W C R k_X6_isTypeable 4 (v0 :: v1 :: .int x :: ls) (.int x :: st) h := ap_iload rfl rfl
theorem u_X6_isTypeable_4 : az_W C R k_X6_isTypeable 4 ls (.int y :: .int x :: st) h ↔ if y ≤ x then az_W C R k_X6_isTypeable 30 ls st h else az_W C R k_X6_isTypeable 7 ls st h := ap_icge rfl
theorem u_X6_isTypeable_7 : az_W C R k_X6_isTypeable 7 (.long p :: ls) st h ↔ az_W C R k_X6_isTypeable 8 (.long p :: ls) (.long p :: st) h := ap_lload rfl rfl
theorem u_X6_isTypeable_8 : az_W C R k_X6_isTypeable 8 (v0 :: v1 :: v2 :: .int x :: ls) st h ↔ az_W C R k_X6_isTypeable 9 (v0 :: v1 :: v2 :: .int x :: ls) (.int x :: st) h := ap_iload rfl rfl
theorem u_X6_isTypeable_9 (hl : st.length ≤ 4) : az_W C R k_X6_isTypeable 9 ls (v2 :: v1 :: st) h ↔ az_F C R (az_W C R k_X6_isTypeable) h (az_cl 55 [v1, v2] 12 ls st) := ap_ivs rfl rfl hl
theorem u_X6_isTypeable_12 : az_W C R k_X6_isTypeable 12 ls st h ↔ az_W C R k_X6_isTypeable 14 ls (.int 32 :: st) h := ap_const rfl
theorem u_X6_isTypeable_14 : az_W C R k_X6_isTypeable 14 ls st h ↔ az_W C R k_X6_isTypeable 16 ls (.int 126 :: st) h := ap_const rfl
theorem u_X6_isTypeable_16 (hl : st.length ≤ 4) : az_W C R k_X6_isTypeable 16 ls (v3 :: v2 :: v1 :: st) h ↔ az_F C R (az_W C R k_X6_isTypeable) h (az_cl 129 [v1, v2, v3] 19 ls st) := ap_ivs rfl rfl hl
theorem u_X6_isTypeable_19 : az_W C R k_X6_isTypeable 19 ls (.int x :: st) h ↔ if x = 0 then az_W C R k_X6_isTypeable 22 ls st h else az_W C R k_X6_isTypeable 24 ls st h := ap_ifne rfl
theorem u_X6_isTypeable_22 : az_W C R k_X6_isTypeable 22 ls st h ↔ az_W C R k_X6_isTypeable 23 ls (.int 0 :: st) h := ap_const rfl
theorem u_X6_isTypeable_23 : az_W C R k_X6_isTypeable 23 ls [.int x] h ↔ ((x = 0 ∨ x = 1) ∧ R (some (.int x)) h) := ap_zret rfl
theorem u_X6_isTypeable_24 : az_W C R k_X6_isTypeable 24 (v0 :: v1 :: v2 :: .int x :: ls) st h ↔ az_W C R k_X6_isTypeable 27 (v0 :: v1 :: az_un v2 :: .int (x + 1) :: ls) st h := ap_iinc rfl rfl rfl
theorem u_X6_isTypeable_27 : az_W C R k_X6_isTypeable 27 ls st h ↔ az_W C R k_X6_isTypeable 2 ls st h := ap_goto rfl
theorem u_X6_isTypeable_30 : az_W C R k_X6_isTypeable 30 ls st h ↔ az_W C R k_X6_isTypeable 31 ls (.int 1 :: st) h := ap_const rfl
theorem u_X6_isTypeable_31 : az_W C R k_X6_isTypeable 31 ls [.int x] h ↔ ((x = 0 ∨ x = 1) ∧ R (some (.int x)) h) := ap_zret rfl
def k_X6_byteOf : Nat → az_P := (az_br 5 (az_br 3 (az_br 1 (az_lf 0 (az_lload 0 1)) (az_lf 1 (az_const (.int 8) 3))) (az_br 4 (az_lf 3 (az_iload 2 4)) (az_lf 4 (az_ii (fun x y => x * y) 5)))) (az_br 9 (az_br 6 (az_lf 5 (az_li (fun p y => p >>> (y.toInt64 &&& 63)) 6)) (az_lf 6 (az_const (.long 255) 9))) (az_br 10 (az_lf 9 (az_ll (fun p q => p &&& q) 10)) (az_br 11 (az_lf 10 (az_l2i 11)) (az_lf 11 (az_iret))))))
theorem u_X6_byteOf_0 : az_W C R k_X6_byteOf 0 (.long p :: ls) st h ↔ az_W C R k_X6_byteOf 1 (.long p :: ls) (.long p :: st) h := ap_lload rfl rfl
theorem u_X6_byteOf_1 : az_W C R k_X6_byteOf 1 ls st h ↔ az_W C R k_X6_byteOf 3 ls (.int 8 :: st) h := ap_const rfl
theorem u_X6_byteOf_3 : az_W C R k_X6_byteOf 3 (v0 :: v1 :: .int x :: ls) st h ↔ az_W C R k_X6_byteOf 4 (v0 :: v1 :: .int x :: ls) (.int x :: st) h := ap_iload rfl rfl
theorem u_X6_byteOf_4 : az_W C R k_X6_byteOf 4 ls (.int y :: .int x :: st) h ↔ az_W C R k_X6_byteOf 5 ls (.int (x * y) :: st) h := ap_ii (f := fun x y => x * y) rfl
theorem u_X6_byteOf_5 : az_W C R k_X6_byteOf 5 ls (.int y :: .long p :: st) h ↔ az_W C R k_X6_byteOf 6 ls (.long (p >>> (y.toInt64 &&& 63)) :: st) h := ap_li (f := fun p y => p >>> (y.toInt64 &&& 63)) rfl
theorem u_X6_byteOf_6 : az_W C R k_X6_byteOf 6 ls st h ↔ az_W C R k_X6_byteOf 9 ls (.long 255 :: st) h := ap_const rfl
theorem u_X6_byteOf_9 : az_W C R k_X6_byteOf 9 ls (.long q :: .long p :: st) h ↔ az_W C R k_X6_byteOf 10 ls (.long (p &&& q) :: st) h := ap_ll (f := fun p q => p &&& q) rfl
theorem u_X6_byteOf_10 : az_W C R k_X6_byteOf 10 ls (.long p :: st) h ↔ az_W C R k_X6_byteOf 11 ls (.int p.toInt32 :: st) h := ap_l2i rfl
theorem u_X6_byteOf_11 : az_W C R k_X6_byteOf 11 ls [.int x] h ↔ R (some (.int x)) h := ap_iret rfl
def k_X6_addToTape : Nat → az_P := (az_br 28 (az_br 14 (az_br 6 (az_br 4 (az_br 1 (az_lf 0 (az_aload 0 1)) (az_lf 1 (az_getI 6 1 4))) (az_br 5 (az_lf 4 (az_iload 3 5)) (az_lf 5 (az_ii (fun x y => x + y) 6)))) (az_br 11 (az_br 8 (az_lf 6 (az_const (.int 40) 8)) (az_lf 8 (az_icle 14 11))) (az_br 13 (az_lf 11 (az_const (.int (-3)) 13)) (az_lf 13 (az_iret))))) (az_br 19 (az_br 16 (az_br 15 (az_lf 14 (az_iload 3 15)) (az_lf 15 (az_const (.int 1) 16))) (az_br 17 (az_lf 16 (az_ii (fun x y => x - y) 17)) (az_lf 17 (az_istore 4 19)))) (az_br 24 (az_br 21 (az_lf 19 (az_iload 4 21)) (az_lf 21 (az_iflt 55 24))) (az_br 25 (az_lf 24 (az_aload 0 25)) (az_lf 25 (az_getP 6 0 28)))))) (az_br 41 (az_br 35 (az_br 32 (az_br 29 (az_lf 28 (az_aload 0 29)) (az_lf 29 (az_getI 6 1 32))) (az_br 33 (az_lf 32 (az_lload 1 33)) (az_lf 33 (az_iload 4 35)))) (az_br 39 (az_br 38 (az_lf 35 (az_ivs 55 2 38)) (az_lf 38 (az_iast 39))) (az_br 40 (az_lf 39 (az_aload 0 40)) (az_lf 40 (az_dup 41))))) (az_br 49 (az_br 45 (az_br 44 (az_lf 41 (az_getI 6 1 44)) (az_lf 44 (az_const (.int 1) 45))) (az_br 46 (az_lf 45 (az_ii (fun x y => x + y) 46)) (az_lf 46 (az_putI 6 1 49)))) (az_br 55 (az_br 52 (az_lf 49 (az_iinc 4 (-1) 52)) (az_lf 52 (az_goto 19))) (az_br 56 (az_lf 55 (az_aload 0 56)) (az_br 59 (az_lf 56 (az_getI 6 1 59)) (az_lf 59 (az_iret))))))))
theorem u_X6_addToTape_0 : az_W C R k_X6_addToTape 0 (.ref a :: ls) st h ↔ az_W C R k_X6_addToTape 1 (.ref a :: ls) (.ref a :: st) h := ap_aload rfl rfl
theorem u_X6_addToTape_1 : az_W C R k_X6_addToTape 1 ls (.ref 35 :: st) (130, P, I, L) ↔ az_W C R k_X6_addToTape 4 ls (.int (I 35 1) :: st) (130, P, I, L) := ap_getI rfl kn_35
theorem u_X6_addToTape_4 : az_W C R k_X6_addToTape 4 (v0 :: v1 :: v2 :: .int x :: ls) st h ↔ az_W C R k_X6_addToTape 5 (v0 :: v1 :: v2 :: .int x :: ls) (.int x :: st) h := ap_iload rfl rfl
theorem u_X6_addToTape_5 : az_W C R k_X6_addToTape 5 ls (.int y :: .int x :: st) h ↔ az_W C R k_X6_addToTape 6 ls (.int (x + y) :: st) h := ap_ii (f := fun x y => x + y) rfl
theorem u_X6_addToTape_6 : az_W C R k_X6_addToTape 6 ls st h ↔ az_W C R k_X6_addToTape 8 ls (.int 40 :: st) h := ap_const rfl
theorem u_X6_addToTape_8 : az_W C R k_X6_addToTape 8 ls (.int y :: .int x :: st) h ↔ if x ≤ y then az_W C R k_X6_addToTape 14 ls st h else az_W C R k_X6_addToTape 11 ls st h := ap_icle rfl
theorem u_X6_addToTape_11 : az_W C R k_X6_addToTape 11 ls st h ↔ az_W C R k_X6_addToTape 13 ls (.int (-3) :: st) h := ap_const rfl
theorem u_X6_addToTape_13 : az_W C R k_X6_addToTape 13 ls [.int x] h ↔ R (some (.int x)) h := ap_iret rfl
theorem u_X6_addToTape_14 : az_W C R k_X6_addToTape 14 (v0 :: v1 :: v2 :: .int x :: ls) st h ↔ az_W C R k_X6_addToTape 15 (v0 :: v1 :: v2 :: .int x :: ls) (.int x :: st) h := ap_iload rfl rfl
theorem u_X6_addToTape_15 : az_W C R k_X6_addToTape 15 ls st h ↔ az_W C R k_X6_addToTape 16 ls (.int 1 :: st) h := ap_const rfl
theorem u_X6_addToTape_16 : az_W C R k_X6_addToTape 16 ls (.int y :: .int x :: st) h ↔ az_W C R k_X6_addToTape 17 ls (.int (x - y) :: st) h := ap_ii (f := fun x y => x - y) rfl
theorem u_X6_addToTape_17 : az_W C R k_X6_addToTape 17 (v0 :: v1 :: v2 :: v3 :: v4 :: ls) (.int x :: st) h ↔ az_W C R k_X6_addToTape 19 (v0 :: v1 :: v2 :: az_un v3 :: .int x :: ls) st h := ap_istore rfl rfl
theorem u_X6_addToTape_19 : az_W C R k_X6_addToTape 19 (v0 :: v1 :: v2 :: v3 :: .int x :: ls) st h ↔ az_W C R k_X6_addToTape 21 (v0 :: v1 :: v2 :: v3 :: .int x :: ls) (.int x :: st) h := ap_iload rfl rfl
theorem u_X6_addToTape_21 : az_W C R k_X6_addToTape 21 ls (.int x :: st) h ↔ if x < 0 then az_W C R k_X6_addToTape 55 ls st h else az_W C R k_X6_addToTape 24 ls st h := ap_iflt rfl
theorem u_X6_addToTape_24 : az_W C R k_X6_addToTape 24 (.ref a :: ls) st h ↔ az_W C R k_X6_addToTape 25 (.ref a :: ls) (.ref a :: st) h := ap_aload rfl rfl
theorem u_X6_addToTape_25 : az_W C R k_X6_addToTape 25 ls (.ref 35 :: st) (130, az_Pf, I, L) ↔ az_W C R k_X6_addToTape 28 ls (.ref 36 :: st) (130, az_Pf, I, L) := ap_getP rfl kn_35 pf_35_0
theorem u_X6_addToTape_28 : az_W C R k_X6_addToTape 28 (.ref a :: ls) st h ↔ az_W C R k_X6_addToTape 29 (.ref a :: ls) (.ref a :: st) h := ap_aload rfl rfl
theorem u_X6_addToTape_29 : az_W C R k_X6_addToTape 29 ls (.ref 35 :: st) (130, P, I, L) ↔ az_W C R k_X6_addToTape 32 ls (.int (I 35 1) :: st) (130, P, I, L) := ap_getI rfl kn_35
theorem u_X6_addToTape_32 : az_W C R k_X6_addToTape 32 (v0 :: .long p :: ls) st h ↔ az_W C R k_X6_addToTape 33 (v0 :: .long p :: ls) (.long p :: st) h := ap_lload rfl rfl
theorem u_X6_addToTape_33 : az_W C R k_X6_addToTape 33 (v0 :: v1 :: v2 :: v3 :: .int x :: ls) st h ↔ az_W C R k_X6_addToTape 35 (v0 :: v1 :: v2 :: v3 :: .int x :: ls) (.int x :: st) h := ap_iload rfl rfl
theorem u_X6_addToTape_35 (hl : st.length ≤ 4) : az_W C R k_X6_addToTape 35 ls (v2 :: v1 :: st) h ↔ az_F C R (az_W C R k_X6_addToTape) h (az_cl 55 [v1, v2] 38 ls st) := ap_ivs rfl rfl hl
theorem u_X6_addToTape_38 (hk : (az_kn 130 a).1 = 1) : az_W C R k_X6_addToTape 38 ls (.int y :: .int x :: .ref a :: st) (130, P, I, L) ↔ (az_in x (az_kn 130 a).2 ∧ az_W C R k_X6_addToTape 39 ls st (130, P, az_uI I a x.toNatClampNeg y, L)) := ap_iast rfl (az_k1 hk)
theorem u_X6_addToTape_39 : az_W C R k_X6_addToTape 39 (.ref a :: ls) st h ↔ az_W C R k_X6_addToTape 40 (.ref a :: ls) (.ref a :: st) h := ap_aload rfl rfl
theorem u_X6_addToTape_40 : az_W C R k_X6_addToTape 40 ls (.int x :: st) h ↔ az_W C R k_X6_addToTape 41 ls (.int x :: .int x :: st) h := ap_dupi rfl
theorem u_X6_addToTape_40r : az_W C R k_X6_addToTape 40 ls (.ref a :: st) h ↔ az_W C R k_X6_addToTape 41 ls (.ref a :: .ref a :: st) h := ap_dupr rfl
theorem u_X6_addToTape_41 : az_W C R k_X6_addToTape 41 ls (.ref 35 :: st) (130, P, I, L) ↔ az_W C R k_X6_addToTape 44 ls (.int (I 35 1) :: st) (130, P, I, L) := ap_getI rfl kn_35
theorem u_X6_addToTape_44 : az_W C R k_X6_addToTape 44 ls st h ↔ az_W C R k_X6_addToTape 45 ls (.int 1 :: st) h := ap_const rfl
theorem u_X6_addToTape_45 : az_W C R k_X6_addToTape 45 ls (.int y :: .int x :: st) h ↔ az_W C R k_X6_addToTape 46 ls (.int (x + y) :: st) h := ap_ii (f := fun x y => x + y) rfl
theorem u_X6_addToTape_46 : az_W C R k_X6_addToTape 46 ls (.int x :: .ref 35 :: st) (130, P, I, L) ↔ az_W C R k_X6_addToTape 49 ls st (130, P, az_uI I 35 1 x, L) := ap_putI rfl kn_35
theorem u_X6_addToTape_49 : az_W C R k_X6_addToTape 49 (v0 :: v1 :: v2 :: v3 :: .int x :: ls) st h ↔ az_W C R k_X6_addToTape 52 (v0 :: v1 :: v2 :: az_un v3 :: .int (x + (-1)) :: ls) st h := ap_iinc rfl rfl rfl
theorem u_X6_addToTape_52 : az_W C R k_X6_addToTape 52 ls st h ↔ az_W C R k_X6_addToTape 19 ls st h := ap_goto rfl
theorem u_X6_addToTape_55 : az_W C R k_X6_addToTape 55 (.ref a :: ls) st h ↔ az_W C R k_X6_addToTape 56 (.ref a :: ls) (.ref a :: st) h := ap_aload rfl rfl
theorem u_X6_addToTape_56 : az_W C R k_X6_addToTape 56 ls (.ref 35 :: st) (130, P, I, L) ↔ az_W C R k_X6_addToTape 59 ls (.int (I 35 1) :: st) (130, P, I, L) := ap_getI rfl kn_35
theorem u_X6_addToTape_59 : az_W C R k_X6_addToTape 59 ls [.int x] h ↔ R (some (.int x)) h := ap_iret rfl
def k_X6_editionCount : Nat → az_P := (az_br 1 (az_lf 0 (az_aload 0 1)) (az_br 4 (az_lf 1 (az_getI 6 4 4)) (az_lf 4 (az_iret))))
theorem u_X6_editionCount_0 : az_W C R k_X6_editionCount 0 (.ref a :: ls) st h ↔ az_W C R k_X6_editionCount 1 (.ref a :: ls) (.ref a :: st) h := ap_aload rfl rfl
theorem u_X6_editionCount_1 : az_W C R k_X6_editionCount 1 ls (.ref 35 :: st) (130, P, I, L) ↔ az_W C R k_X6_editionCount 4 ls (.int (I 35 4) :: st) (130, P, I, L) := ap_getI rfl kn_35
theorem u_X6_editionCount_4 : az_W C R k_X6_editionCount 4 ls [.int x] h ↔ R (some (.int x)) h := ap_iret rfl
def k_X6_mayStart : Nat → az_P := (az_br 16 (az_br 8 (az_br 4 (az_br 1 (az_lf 0 (az_aload 0 1)) (az_lf 1 (az_getI 6 4 4))) (az_br 7 (az_lf 4 (az_ifeq 22 7)) (az_lf 7 (az_iload 1 8)))) (az_br 12 (az_br 9 (az_lf 8 (az_aload 0 9)) (az_lf 9 (az_getP 6 2 12))) (az_br 13 (az_lf 12 (az_aload 0 13)) (az_lf 13 (az_getI 6 4 16))))) (az_br 22 (az_br 18 (az_br 17 (az_lf 16 (az_const (.int 1) 17)) (az_lf 17 (az_ii (fun x y => x - y) 18))) (az_br 19 (az_lf 18 (az_iald 19)) (az_lf 19 (az_iclt 26 22)))) (az_br 26 (az_br 23 (az_lf 22 (az_const (.int 1) 23)) (az_lf 23 (az_goto 27))) (az_br 27 (az_lf 26 (az_const (.int 0) 27)) (az_lf 27 (az_zret))))))
theorem u_X6_mayStart_0 : az_W C R k_X6_mayStart 0 (.ref a :: ls) st h ↔ az_W C R k_X6_mayStart 1 (.ref a :: ls) (.ref a :: st) h := ap_aload rfl rfl
theorem u_X6_mayStart_1 : az_W C R k_X6_mayStart 1 ls (.ref 35 :: st) (130, P, I, L) ↔ az_W C R k_X6_mayStart 4 ls (.int (I 35 4) :: st) (130, P, I, L) := ap_getI rfl kn_35
theorem u_X6_mayStart_4 : az_W C R k_X6_mayStart 4 ls (.int x :: st) h ↔ if x = 0 then az_W C R k_X6_mayStart 22 ls st h else az_W C R k_X6_mayStart 7 ls st h := ap_ifeq rfl
theorem u_X6_mayStart_7 : az_W C R k_X6_mayStart 7 (v0 :: .int x :: ls) st h ↔ az_W C R k_X6_mayStart 8 (v0 :: .int x :: ls) (.int x :: st) h := ap_iload rfl rfl
theorem u_X6_mayStart_8 : az_W C R k_X6_mayStart 8 (.ref a :: ls) st h ↔ az_W C R k_X6_mayStart 9 (.ref a :: ls) (.ref a :: st) h := ap_aload rfl rfl
theorem u_X6_mayStart_9 : az_W C R k_X6_mayStart 9 ls (.ref 35 :: st) (130, az_Pf, I, L) ↔ az_W C R k_X6_mayStart 12 ls (.ref 37 :: st) (130, az_Pf, I, L) := ap_getP rfl kn_35 pf_35_2
theorem u_X6_mayStart_12 : az_W C R k_X6_mayStart 12 (.ref a :: ls) st h ↔ az_W C R k_X6_mayStart 13 (.ref a :: ls) (.ref a :: st) h := ap_aload rfl rfl
theorem u_X6_mayStart_13 : az_W C R k_X6_mayStart 13 ls (.ref 35 :: st) (130, P, I, L) ↔ az_W C R k_X6_mayStart 16 ls (.int (I 35 4) :: st) (130, P, I, L) := ap_getI rfl kn_35
theorem u_X6_mayStart_16 : az_W C R k_X6_mayStart 16 ls st h ↔ az_W C R k_X6_mayStart 17 ls (.int 1 :: st) h := ap_const rfl
theorem u_X6_mayStart_17 : az_W C R k_X6_mayStart 17 ls (.int y :: .int x :: st) h ↔ az_W C R k_X6_mayStart 18 ls (.int (x - y) :: st) h := ap_ii (f := fun x y => x - y) rfl
theorem u_X6_mayStart_18 (hk : (az_kn 130 a).1 = 1) : az_W C R k_X6_mayStart 18 ls (.int x :: .ref a :: st) (130, P, I, L) ↔ (az_in x (az_kn 130 a).2 ∧ az_W C R k_X6_mayStart 19 ls (.int (I a x.toNatClampNeg) :: st) (130, P, I, L)) := ap_iald rfl (az_k1 hk)
theorem u_X6_mayStart_19 : az_W C R k_X6_mayStart 19 ls (.int y :: .int x :: st) h ↔ if x < y then az_W C R k_X6_mayStart 26 ls st h else az_W C R k_X6_mayStart 22 ls st h := ap_iclt rfl
theorem u_X6_mayStart_22 : az_W C R k_X6_mayStart 22 ls st h ↔ az_W C R k_X6_mayStart 23 ls (.int 1 :: st) h := ap_const rfl
theorem u_X6_mayStart_23 : az_W C R k_X6_mayStart 23 ls st h ↔ az_W C R k_X6_mayStart 27 ls st h := ap_goto rfl
theorem u_X6_mayStart_26 : az_W C R k_X6_mayStart 26 ls st h ↔ az_W C R k_X6_mayStart 27 ls (.int 0 :: st) h := ap_const rfl
theorem u_X6_mayStart_27 : az_W C R k_X6_mayStart 27 ls [.int x] h ↔ ((x = 0 ∨ x = 1) ∧ R (some (.int x)) h) := ap_zret rfl
def k_X6_addEdition : Nat → az_P := (az_br 40 (az_br 20 (az_br 10 (az_br 5 (az_br 1 (az_lf 0 (az_aload 0 1)) (az_br 4 (az_lf 1 (az_ivv 61 0 6 4)) (az_lf 4 (az_istore 2 5)))) (az_br 6 (az_lf 5 (az_aload 0 6)) (az_br 7 (az_lf 6 (az_const (.int 0) 7)) (az_lf 7 (az_putI 6 1 10))))) (az_br 15 (az_br 11 (az_lf 10 (az_iload 2 11)) (az_br 14 (az_lf 11 (az_ifeq 16 14)) (az_lf 14 (az_iload 2 15)))) (az_br 16 (az_lf 15 (az_iret)) (az_br 17 (az_lf 16 (az_aload 0 17)) (az_lf 17 (az_getI 6 4 20)))))) (az_br 31 (az_br 26 (az_br 21 (az_lf 20 (az_const (.int 4) 21)) (az_br 24 (az_lf 21 (az_iclt 27 24)) (az_lf 24 (az_const (.int (-3)) 26)))) (az_br 27 (az_lf 26 (az_iret)) (az_br 28 (az_lf 27 (az_aload 0 28)) (az_lf 28 (az_getP 6 2 31))))) (az_br 36 (az_br 32 (az_lf 31 (az_aload 0 32)) (az_br 35 (az_lf 32 (az_getI 6 4 35)) (az_lf 35 (az_iload 1 36)))) (az_br 38 (az_br 37 (az_lf 36 (az_iast 37)) (az_lf 37 (az_const (.int 0) 38))) (az_br 39 (az_lf 38 (az_istore 3 39)) (az_lf 39 (az_iload 3 40))))))) (az_br 61 (az_br 52 (az_br 45 (az_br 41 (az_lf 40 (az_const (.int 2) 41)) (az_br 44 (az_lf 41 (az_icgt 67 44)) (az_lf 44 (az_aload 0 45)))) (az_br 48 (az_lf 45 (az_getP 6 3 48)) (az_br 49 (az_lf 48 (az_aload 0 49)) (az_lf 49 (az_getI 6 4 52))))) (az_br 55 (az_br 53 (az_lf 52 (az_aald 53)) (az_br 54 (az_lf 53 (az_iload 3 54)) (az_lf 54 (az_aload 0 55)))) (az_br 59 (az_br 58 (az_lf 55 (az_getP 6 5 58)) (az_lf 58 (az_iload 3 59))) (az_br 60 (az_lf 59 (az_iald 60)) (az_lf 60 (az_iast 61)))))) (az_br 73 (az_br 68 (az_br 64 (az_lf 61 (az_iinc 3 1 64)) (az_br 67 (az_lf 64 (az_goto 39)) (az_lf 67 (az_aload 0 68)))) (az_br 69 (az_lf 68 (az_dup 69)) (az_br 72 (az_lf 69 (az_getI 6 4 72)) (az_lf 72 (az_const (.int 1) 73))))) (az_br 78 (az_br 74 (az_lf 73 (az_ii (fun x y => x + y) 74)) (az_br 77 (az_lf 74 (az_putI 6 4 77)) (az_lf 77 (az_aload 0 78)))) (az_br 82 (az_br 81 (az_lf 78 (az_getI 6 4 81)) (az_lf 81 (az_const (.int 1) 82))) (az_br 83 (az_lf 82 (az_ii (fun x y => x - y) 83)) (az_lf 83 (az_iret))))))))
theorem u_X6_addEdition_0 : az_W C R k_X6_addEdition 0 (.ref a :: ls) st h ↔ az_W C R k_X6_addEdition 1 (.ref a :: ls) (.ref a :: st) h := ap_aload rfl rfl
theorem u_X6_addEdition_1 (hl : st.length ≤ 4) : az_W C R k_X6_addEdition 1 ls (.ref 35 :: st) (130, P, I, L) ↔ az_F C R (az_W C R k_X6_addEdition) (130, P, I, L) (az_cl 61 [.ref 35] 4 ls st) := ap_ivv rfl rfl kn_35 hl
theorem u_X6_addEdition_4 : az_W C R k_X6_addEdition 4 (v0 :: v1 :: v2 :: ls) (.int x :: st) h ↔ az_W C R k_X6_addEdition 5 (v0 :: az_un v1 :: .int x :: ls) st h := ap_istore rfl rfl
theorem u_X6_addEdition_5 : az_W C R k_X6_addEdition 5 (.ref a :: ls) st h ↔ az_W C R k_X6_addEdition 6 (.ref a :: ls) (.ref a :: st) h := ap_aload rfl rfl
theorem u_X6_addEdition_6 : az_W C R k_X6_addEdition 6 ls st h ↔ az_W C R k_X6_addEdition 7 ls (.int 0 :: st) h := ap_const rfl
theorem u_X6_addEdition_7 : az_W C R k_X6_addEdition 7 ls (.int x :: .ref 35 :: st) (130, P, I, L) ↔ az_W C R k_X6_addEdition 10 ls st (130, P, az_uI I 35 1 x, L) := ap_putI rfl kn_35
theorem u_X6_addEdition_10 : az_W C R k_X6_addEdition 10 (v0 :: v1 :: .int x :: ls) st h ↔ az_W C R k_X6_addEdition 11 (v0 :: v1 :: .int x :: ls) (.int x :: st) h := ap_iload rfl rfl
theorem u_X6_addEdition_11 : az_W C R k_X6_addEdition 11 ls (.int x :: st) h ↔ if x = 0 then az_W C R k_X6_addEdition 16 ls st h else az_W C R k_X6_addEdition 14 ls st h := ap_ifeq rfl
theorem u_X6_addEdition_14 : az_W C R k_X6_addEdition 14 (v0 :: v1 :: .int x :: ls) st h ↔ az_W C R k_X6_addEdition 15 (v0 :: v1 :: .int x :: ls) (.int x :: st) h := ap_iload rfl rfl
theorem u_X6_addEdition_15 : az_W C R k_X6_addEdition 15 ls [.int x] h ↔ R (some (.int x)) h := ap_iret rfl
theorem u_X6_addEdition_16 : az_W C R k_X6_addEdition 16 (.ref a :: ls) st h ↔ az_W C R k_X6_addEdition 17 (.ref a :: ls) (.ref a :: st) h := ap_aload rfl rfl
theorem u_X6_addEdition_17 : az_W C R k_X6_addEdition 17 ls (.ref 35 :: st) (130, P, I, L) ↔ az_W C R k_X6_addEdition 20 ls (.int (I 35 4) :: st) (130, P, I, L) := ap_getI rfl kn_35
theorem u_X6_addEdition_20 : az_W C R k_X6_addEdition 20 ls st h ↔ az_W C R k_X6_addEdition 21 ls (.int 4 :: st) h := ap_const rfl
theorem u_X6_addEdition_21 : az_W C R k_X6_addEdition 21 ls (.int y :: .int x :: st) h ↔ if x < y then az_W C R k_X6_addEdition 27 ls st h else az_W C R k_X6_addEdition 24 ls st h := ap_iclt rfl
theorem u_X6_addEdition_24 : az_W C R k_X6_addEdition 24 ls st h ↔ az_W C R k_X6_addEdition 26 ls (.int (-3) :: st) h := ap_const rfl
theorem u_X6_addEdition_26 : az_W C R k_X6_addEdition 26 ls [.int x] h ↔ R (some (.int x)) h := ap_iret rfl
theorem u_X6_addEdition_27 : az_W C R k_X6_addEdition 27 (.ref a :: ls) st h ↔ az_W C R k_X6_addEdition 28 (.ref a :: ls) (.ref a :: st) h := ap_aload rfl rfl
theorem u_X6_addEdition_28 : az_W C R k_X6_addEdition 28 ls (.ref 35 :: st) (130, az_Pf, I, L) ↔ az_W C R k_X6_addEdition 31 ls (.ref 37 :: st) (130, az_Pf, I, L) := ap_getP rfl kn_35 pf_35_2
theorem u_X6_addEdition_31 : az_W C R k_X6_addEdition 31 (.ref a :: ls) st h ↔ az_W C R k_X6_addEdition 32 (.ref a :: ls) (.ref a :: st) h := ap_aload rfl rfl
theorem u_X6_addEdition_32 : az_W C R k_X6_addEdition 32 ls (.ref 35 :: st) (130, P, I, L) ↔ az_W C R k_X6_addEdition 35 ls (.int (I 35 4) :: st) (130, P, I, L) := ap_getI rfl kn_35
theorem u_X6_addEdition_35 : az_W C R k_X6_addEdition 35 (v0 :: .int x :: ls) st h ↔ az_W C R k_X6_addEdition 36 (v0 :: .int x :: ls) (.int x :: st) h := ap_iload rfl rfl
theorem u_X6_addEdition_36 (hk : (az_kn 130 a).1 = 1) : az_W C R k_X6_addEdition 36 ls (.int y :: .int x :: .ref a :: st) (130, P, I, L) ↔ (az_in x (az_kn 130 a).2 ∧ az_W C R k_X6_addEdition 37 ls st (130, P, az_uI I a x.toNatClampNeg y, L)) := ap_iast rfl (az_k1 hk)
theorem u_X6_addEdition_37 : az_W C R k_X6_addEdition 37 ls st h ↔ az_W C R k_X6_addEdition 38 ls (.int 0 :: st) h := ap_const rfl
theorem u_X6_addEdition_38 : az_W C R k_X6_addEdition 38 (v0 :: v1 :: v2 :: v3 :: ls) (.int x :: st) h ↔ az_W C R k_X6_addEdition 39 (v0 :: v1 :: az_un v2 :: .int x :: ls) st h := ap_istore rfl rfl
theorem u_X6_addEdition_39 : az_W C R k_X6_addEdition 39 (v0 :: v1 :: v2 :: .int x :: ls) st h ↔ az_W C R k_X6_addEdition 40 (v0 :: v1 :: v2 :: .int x :: ls) (.int x :: st) h := ap_iload rfl rfl
theorem u_X6_addEdition_40 : az_W C R k_X6_addEdition 40 ls st h ↔ az_W C R k_X6_addEdition 41 ls (.int 2 :: st) h := ap_const rfl
theorem u_X6_addEdition_41 : az_W C R k_X6_addEdition 41 ls (.int y :: .int x :: st) h ↔ if y < x then az_W C R k_X6_addEdition 67 ls st h else az_W C R k_X6_addEdition 44 ls st h := ap_icgt rfl
theorem u_X6_addEdition_44 : az_W C R k_X6_addEdition 44 (.ref a :: ls) st h ↔ az_W C R k_X6_addEdition 45 (.ref a :: ls) (.ref a :: st) h := ap_aload rfl rfl
theorem u_X6_addEdition_45 : az_W C R k_X6_addEdition 45 ls (.ref 35 :: st) (130, az_Pf, I, L) ↔ az_W C R k_X6_addEdition 48 ls (.ref 38 :: st) (130, az_Pf, I, L) := ap_getP rfl kn_35 pf_35_3
theorem u_X6_addEdition_48 : az_W C R k_X6_addEdition 48 (.ref a :: ls) st h ↔ az_W C R k_X6_addEdition 49 (.ref a :: ls) (.ref a :: st) h := ap_aload rfl rfl
theorem u_X6_addEdition_49 : az_W C R k_X6_addEdition 49 ls (.ref 35 :: st) (130, P, I, L) ↔ az_W C R k_X6_addEdition 52 ls (.int (I 35 4) :: st) (130, P, I, L) := ap_getI rfl kn_35
theorem u_X6_addEdition_52 (hk : (az_kn 130 a).1 = 3) : az_W C R k_X6_addEdition 52 ls (.int x :: .ref a :: st) (130, P, I, L) ↔ (az_in x (az_kn 130 a).2 ∧ ∃ b, P a x.toNatClampNeg = some b ∧ az_W C R k_X6_addEdition 53 ls (.ref b :: st) (130, P, I, L)) := ap_aald rfl (az_k1 hk)
theorem u_X6_addEdition_53 : az_W C R k_X6_addEdition 53 (v0 :: v1 :: v2 :: .int x :: ls) st h ↔ az_W C R k_X6_addEdition 54 (v0 :: v1 :: v2 :: .int x :: ls) (.int x :: st) h := ap_iload rfl rfl
theorem u_X6_addEdition_54 : az_W C R k_X6_addEdition 54 (.ref a :: ls) st h ↔ az_W C R k_X6_addEdition 55 (.ref a :: ls) (.ref a :: st) h := ap_aload rfl rfl
theorem u_X6_addEdition_55 : az_W C R k_X6_addEdition 55 ls (.ref 35 :: st) (130, az_Pf, I, L) ↔ az_W C R k_X6_addEdition 58 ls (.ref 43 :: st) (130, az_Pf, I, L) := ap_getP rfl kn_35 pf_35_5
theorem u_X6_addEdition_58 : az_W C R k_X6_addEdition 58 (v0 :: v1 :: v2 :: .int x :: ls) st h ↔ az_W C R k_X6_addEdition 59 (v0 :: v1 :: v2 :: .int x :: ls) (.int x :: st) h := ap_iload rfl rfl
theorem u_X6_addEdition_59 (hk : (az_kn 130 a).1 = 1) : az_W C R k_X6_addEdition 59 ls (.int x :: .ref a :: st) (130, P, I, L) ↔ (az_in x (az_kn 130 a).2 ∧ az_W C R k_X6_addEdition 60 ls (.int (I a x.toNatClampNeg) :: st) (130, P, I, L)) := ap_iald rfl (az_k1 hk)
theorem u_X6_addEdition_60 (hk : (az_kn 130 a).1 = 1) : az_W C R k_X6_addEdition 60 ls (.int y :: .int x :: .ref a :: st) (130, P, I, L) ↔ (az_in x (az_kn 130 a).2 ∧ az_W C R k_X6_addEdition 61 ls st (130, P, az_uI I a x.toNatClampNeg y, L)) := ap_iast rfl (az_k1 hk)
theorem u_X6_addEdition_61 : az_W C R k_X6_addEdition 61 (v0 :: v1 :: v2 :: .int x :: ls) st h ↔ az_W C R k_X6_addEdition 64 (v0 :: v1 :: az_un v2 :: .int (x + 1) :: ls) st h := ap_iinc rfl rfl rfl
theorem u_X6_addEdition_64 : az_W C R k_X6_addEdition 64 ls st h ↔ az_W C R k_X6_addEdition 39 ls st h := ap_goto rfl
theorem u_X6_addEdition_67 : az_W C R k_X6_addEdition 67 (.ref a :: ls) st h ↔ az_W C R k_X6_addEdition 68 (.ref a :: ls) (.ref a :: st) h := ap_aload rfl rfl
theorem u_X6_addEdition_68 : az_W C R k_X6_addEdition 68 ls (.int x :: st) h ↔ az_W C R k_X6_addEdition 69 ls (.int x :: .int x :: st) h := ap_dupi rfl
theorem u_X6_addEdition_68r : az_W C R k_X6_addEdition 68 ls (.ref a :: st) h ↔ az_W C R k_X6_addEdition 69 ls (.ref a :: .ref a :: st) h := ap_dupr rfl
theorem u_X6_addEdition_69 : az_W C R k_X6_addEdition 69 ls (.ref 35 :: st) (130, P, I, L) ↔ az_W C R k_X6_addEdition 72 ls (.int (I 35 4) :: st) (130, P, I, L) := ap_getI rfl kn_35
theorem u_X6_addEdition_72 : az_W C R k_X6_addEdition 72 ls st h ↔ az_W C R k_X6_addEdition 73 ls (.int 1 :: st) h := ap_const rfl
theorem u_X6_addEdition_73 : az_W C R k_X6_addEdition 73 ls (.int y :: .int x :: st) h ↔ az_W C R k_X6_addEdition 74 ls (.int (x + y) :: st) h := ap_ii (f := fun x y => x + y) rfl
theorem u_X6_addEdition_74 : az_W C R k_X6_addEdition 74 ls (.int x :: .ref 35 :: st) (130, P, I, L) ↔ az_W C R k_X6_addEdition 77 ls st (130, P, az_uI I 35 4 x, L) := ap_putI rfl kn_35
theorem u_X6_addEdition_77 : az_W C R k_X6_addEdition 77 (.ref a :: ls) st h ↔ az_W C R k_X6_addEdition 78 (.ref a :: ls) (.ref a :: st) h := ap_aload rfl rfl
theorem u_X6_addEdition_78 : az_W C R k_X6_addEdition 78 ls (.ref 35 :: st) (130, P, I, L) ↔ az_W C R k_X6_addEdition 81 ls (.int (I 35 4) :: st) (130, P, I, L) := ap_getI rfl kn_35
theorem u_X6_addEdition_81 : az_W C R k_X6_addEdition 81 ls st h ↔ az_W C R k_X6_addEdition 82 ls (.int 1 :: st) h := ap_const rfl
theorem u_X6_addEdition_82 : az_W C R k_X6_addEdition 82 ls (.int y :: .int x :: st) h ↔ az_W C R k_X6_addEdition 83 ls (.int (x - y) :: st) h := ap_ii (f := fun x y => x - y) rfl
theorem u_X6_addEdition_83 : az_W C R k_X6_addEdition 83 ls [.int x] h ↔ R (some (.int x)) h := ap_iret rfl
def k_X6_inForce : Nat → az_P := (az_br 21 (az_br 8 (az_br 5 (az_br 1 (az_lf 0 (az_aload 0 1)) (az_br 4 (az_lf 1 (az_getI 6 4 4)) (az_lf 4 (az_const (.int 1) 5)))) (az_br 6 (az_lf 5 (az_ii (fun x y => x - y) 6)) (az_br 7 (az_lf 6 (az_istore 3 7)) (az_lf 7 (az_iload 3 8))))) (az_br 15 (az_br 11 (az_lf 8 (az_iflt 36 11)) (az_br 12 (az_lf 11 (az_aload 0 12)) (az_lf 12 (az_getP 6 2 15)))) (az_br 17 (az_br 16 (az_lf 15 (az_iload 3 16)) (az_lf 16 (az_iald 17))) (az_br 18 (az_lf 17 (az_iload 1 18)) (az_lf 18 (az_icgt 30 21)))))) (az_br 29 (az_br 26 (az_br 22 (az_lf 21 (az_aload 0 22)) (az_br 25 (az_lf 22 (az_getP 6 3 25)) (az_lf 25 (az_iload 3 26)))) (az_br 27 (az_lf 26 (az_aald 27)) (az_br 28 (az_lf 27 (az_iload 2 28)) (az_lf 28 (az_iald 29))))) (az_br 36 (az_br 30 (az_lf 29 (az_iret)) (az_br 33 (az_lf 30 (az_iinc 3 (-1) 33)) (az_lf 33 (az_goto 7)))) (az_br 40 (az_br 39 (az_lf 36 (az_gets 9000 39)) (az_lf 39 (az_iload 2 40))) (az_br 41 (az_lf 40 (az_iald 41)) (az_lf 41 (az_iret)))))))
theorem u_X6_inForce_0 : az_W C R k_X6_inForce 0 (.ref a :: ls) st h ↔ az_W C R k_X6_inForce 1 (.ref a :: ls) (.ref a :: st) h := ap_aload rfl rfl
theorem u_X6_inForce_1 : az_W C R k_X6_inForce 1 ls (.ref 35 :: st) (130, P, I, L) ↔ az_W C R k_X6_inForce 4 ls (.int (I 35 4) :: st) (130, P, I, L) := ap_getI rfl kn_35
theorem u_X6_inForce_4 : az_W C R k_X6_inForce 4 ls st h ↔ az_W C R k_X6_inForce 5 ls (.int 1 :: st) h := ap_const rfl
theorem u_X6_inForce_5 : az_W C R k_X6_inForce 5 ls (.int y :: .int x :: st) h ↔ az_W C R k_X6_inForce 6 ls (.int (x - y) :: st) h := ap_ii (f := fun x y => x - y) rfl
theorem u_X6_inForce_6 : az_W C R k_X6_inForce 6 (v0 :: v1 :: v2 :: v3 :: ls) (.int x :: st) h ↔ az_W C R k_X6_inForce 7 (v0 :: v1 :: az_un v2 :: .int x :: ls) st h := ap_istore rfl rfl
theorem u_X6_inForce_7 : az_W C R k_X6_inForce 7 (v0 :: v1 :: v2 :: .int x :: ls) st h ↔ az_W C R k_X6_inForce 8 (v0 :: v1 :: v2 :: .int x :: ls) (.int x :: st) h := ap_iload rfl rfl
theorem u_X6_inForce_8 : az_W C R k_X6_inForce 8 ls (.int x :: st) h ↔ if x < 0 then az_W C R k_X6_inForce 36 ls st h else az_W C R k_X6_inForce 11 ls st h := ap_iflt rfl
theorem u_X6_inForce_11 : az_W C R k_X6_inForce 11 (.ref a :: ls) st h ↔ az_W C R k_X6_inForce 12 (.ref a :: ls) (.ref a :: st) h := ap_aload rfl rfl
theorem u_X6_inForce_12 : az_W C R k_X6_inForce 12 ls (.ref 35 :: st) (130, az_Pf, I, L) ↔ az_W C R k_X6_inForce 15 ls (.ref 37 :: st) (130, az_Pf, I, L) := ap_getP rfl kn_35 pf_35_2
theorem u_X6_inForce_15 : az_W C R k_X6_inForce 15 (v0 :: v1 :: v2 :: .int x :: ls) st h ↔ az_W C R k_X6_inForce 16 (v0 :: v1 :: v2 :: .int x :: ls) (.int x :: st) h := ap_iload rfl rfl
theorem u_X6_inForce_16 (hk : (az_kn 130 a).1 = 1) : az_W C R k_X6_inForce 16 ls (.int x :: .ref a :: st) (130, P, I, L) ↔ (az_in x (az_kn 130 a).2 ∧ az_W C R k_X6_inForce 17 ls (.int (I a x.toNatClampNeg) :: st) (130, P, I, L)) := ap_iald rfl (az_k1 hk)
theorem u_X6_inForce_16s (hk : (az_kn 130 a).1 = 4) : az_W C R k_X6_inForce 16 ls (.int x :: .ref a :: st) (130, P, I, L) ↔ (az_in x (az_kn 130 a).2 ∧ az_W C R k_X6_inForce 17 ls (.int (az_sc a x.toNatClampNeg) :: st) (130, P, I, L)) := ap_sald rfl (az_k1 hk)
theorem u_X6_inForce_17 : az_W C R k_X6_inForce 17 (v0 :: .int x :: ls) st h ↔ az_W C R k_X6_inForce 18 (v0 :: .int x :: ls) (.int x :: st) h := ap_iload rfl rfl
theorem u_X6_inForce_18 : az_W C R k_X6_inForce 18 ls (.int y :: .int x :: st) h ↔ if y < x then az_W C R k_X6_inForce 30 ls st h else az_W C R k_X6_inForce 21 ls st h := ap_icgt rfl
theorem u_X6_inForce_21 : az_W C R k_X6_inForce 21 (.ref a :: ls) st h ↔ az_W C R k_X6_inForce 22 (.ref a :: ls) (.ref a :: st) h := ap_aload rfl rfl
theorem u_X6_inForce_22 : az_W C R k_X6_inForce 22 ls (.ref 35 :: st) (130, az_Pf, I, L) ↔ az_W C R k_X6_inForce 25 ls (.ref 38 :: st) (130, az_Pf, I, L) := ap_getP rfl kn_35 pf_35_3
theorem u_X6_inForce_25 : az_W C R k_X6_inForce 25 (v0 :: v1 :: v2 :: .int x :: ls) st h ↔ az_W C R k_X6_inForce 26 (v0 :: v1 :: v2 :: .int x :: ls) (.int x :: st) h := ap_iload rfl rfl
theorem u_X6_inForce_26 (hk : (az_kn 130 a).1 = 3) : az_W C R k_X6_inForce 26 ls (.int x :: .ref a :: st) (130, P, I, L) ↔ (az_in x (az_kn 130 a).2 ∧ ∃ b, P a x.toNatClampNeg = some b ∧ az_W C R k_X6_inForce 27 ls (.ref b :: st) (130, P, I, L)) := ap_aald rfl (az_k1 hk)
theorem u_X6_inForce_27 : az_W C R k_X6_inForce 27 (v0 :: v1 :: .int x :: ls) st h ↔ az_W C R k_X6_inForce 28 (v0 :: v1 :: .int x :: ls) (.int x :: st) h := ap_iload rfl rfl
theorem u_X6_inForce_28 (hk : (az_kn 130 a).1 = 1) : az_W C R k_X6_inForce 28 ls (.int x :: .ref a :: st) (130, P, I, L) ↔ (az_in x (az_kn 130 a).2 ∧ az_W C R k_X6_inForce 29 ls (.int (I a x.toNatClampNeg) :: st) (130, P, I, L)) := ap_iald rfl (az_k1 hk)
theorem u_X6_inForce_28s (hk : (az_kn 130 a).1 = 4) : az_W C R k_X6_inForce 28 ls (.int x :: .ref a :: st) (130, P, I, L) ↔ (az_in x (az_kn 130 a).2 ∧ az_W C R k_X6_inForce 29 ls (.int (az_sc a x.toNatClampNeg) :: st) (130, P, I, L)) := ap_sald rfl (az_k1 hk)
theorem u_X6_inForce_29 : az_W C R k_X6_inForce 29 ls [.int x] h ↔ R (some (.int x)) h := ap_iret rfl
theorem u_X6_inForce_30 : az_W C R k_X6_inForce 30 (v0 :: v1 :: v2 :: .int x :: ls) st h ↔ az_W C R k_X6_inForce 33 (v0 :: v1 :: az_un v2 :: .int (x + (-1)) :: ls) st h := ap_iinc rfl rfl rfl
theorem u_X6_inForce_33 : az_W C R k_X6_inForce 33 ls st h ↔ az_W C R k_X6_inForce 7 ls st h := ap_goto rfl
theorem u_X6_inForce_36 : az_W C R k_X6_inForce 36 ls st h ↔ az_W C R k_X6_inForce 39 ls (.ref 9000 :: st) h := ap_gets rfl
theorem u_X6_inForce_39 : az_W C R k_X6_inForce 39 (v0 :: v1 :: .int x :: ls) st h ↔ az_W C R k_X6_inForce 40 (v0 :: v1 :: .int x :: ls) (.int x :: st) h := ap_iload rfl rfl
theorem u_X6_inForce_40 (hk : (az_kn 130 a).1 = 1) : az_W C R k_X6_inForce 40 ls (.int x :: .ref a :: st) (130, P, I, L) ↔ (az_in x (az_kn 130 a).2 ∧ az_W C R k_X6_inForce 41 ls (.int (I a x.toNatClampNeg) :: st) (130, P, I, L)) := ap_iald rfl (az_k1 hk)
theorem u_X6_inForce_40s (hk : (az_kn 130 a).1 = 4) : az_W C R k_X6_inForce 40 ls (.int x :: .ref a :: st) (130, P, I, L) ↔ (az_in x (az_kn 130 a).2 ∧ az_W C R k_X6_inForce 41 ls (.int (az_sc a x.toNatClampNeg) :: st) (130, P, I, L)) := ap_sald rfl (az_k1 hk)
theorem u_X6_inForce_41 : az_W C R k_X6_inForce 41 ls [.int x] h ↔ R (some (.int x)) h := ap_iret rfl
def k_X6_readTape : Nat → az_P := (az_br 64 (az_br 33 (az_br 13 (az_br 6 (az_br 2 (az_br 1 (az_lf 0 (az_aload 0 1)) (az_lf 1 (az_const (.int 0) 2))) (az_br 5 (az_lf 2 (az_putI 6 6 5)) (az_lf 5 (az_const (.int 0) 6)))) (az_br 8 (az_br 7 (az_lf 6 (az_istore 1 7)) (az_lf 7 (az_iload 1 8))) (az_br 9 (az_lf 8 (az_const (.int 2) 9)) (az_br 12 (az_lf 9 (az_icgt 52 12)) (az_lf 12 (az_aload 0 13)))))) (az_br 24 (az_br 17 (az_br 16 (az_lf 13 (az_getP 6 5 16)) (az_lf 16 (az_iload 1 17))) (az_br 18 (az_lf 17 (az_aload 0 18)) (az_br 21 (az_lf 18 (az_getI 6 4 21)) (az_lf 21 (az_ifne 32 24))))) (az_br 28 (az_br 27 (az_lf 24 (az_gets 9000 27)) (az_lf 27 (az_iload 1 28))) (az_br 29 (az_lf 28 (az_iald 29)) (az_br 32 (az_lf 29 (az_goto 45)) (az_lf 32 (az_aload 0 33))))))) (az_br 46 (az_br 41 (az_br 37 (az_br 36 (az_lf 33 (az_getP 6 3 36)) (az_lf 36 (az_aload 0 37))) (az_br 40 (az_lf 37 (az_getI 6 4 40)) (az_lf 40 (az_const (.int 1) 41)))) (az_br 43 (az_br 42 (az_lf 41 (az_ii (fun x y => x - y) 42)) (az_lf 42 (az_aald 43))) (az_br 44 (az_lf 43 (az_iload 1 44)) (az_br 45 (az_lf 44 (az_iald 45)) (az_lf 45 (az_iast 46)))))) (az_br 55 (az_br 52 (az_br 49 (az_lf 46 (az_iinc 1 1 49)) (az_lf 49 (az_goto 7))) (az_br 53 (az_lf 52 (az_const (.int 1) 53)) (az_br 54 (az_lf 53 (az_istore 1 54)) (az_lf 54 (az_iload 1 55))))) (az_br 59 (az_br 56 (az_lf 55 (az_const (.int 5) 56)) (az_lf 56 (az_icgt 130 59))) (az_br 60 (az_lf 59 (az_aload 0 60)) (az_br 63 (az_lf 60 (az_ivv 62 0 6 63)) (az_lf 63 (az_istore 2 64)))))))) (az_br 98 (az_br 79 (az_br 70 (az_br 68 (az_br 65 (az_lf 64 (az_iload 2 65)) (az_lf 65 (az_ifeq 70 68))) (az_br 69 (az_lf 68 (az_iload 2 69)) (az_lf 69 (az_iret)))) (az_br 74 (az_br 71 (az_lf 70 (az_aload 0 71)) (az_lf 71 (az_ivv 65 0 6 74))) (az_br 75 (az_lf 74 (az_aload 0 75)) (az_br 78 (az_lf 75 (az_getI 6 6 78)) (az_lf 78 (az_aload 0 79)))))) (az_br 88 (az_br 85 (az_br 82 (az_lf 79 (az_getI 6 1 82)) (az_lf 82 (az_icne 87 85))) (az_br 86 (az_lf 85 (az_const (.int 0) 86)) (az_br 87 (az_lf 86 (az_iret)) (az_lf 87 (az_aload 0 88))))) (az_br 92 (az_br 91 (az_lf 88 (az_getP 6 0 91)) (az_lf 91 (az_aload 0 92))) (az_br 95 (az_lf 92 (az_getI 6 6 95)) (az_br 96 (az_lf 95 (az_iald 96)) (az_lf 96 (az_const (.int 59) 98))))))) (az_br 114 (az_br 106 (az_br 102 (az_br 101 (az_lf 98 (az_icne 106 101)) (az_lf 101 (az_iload 1 102))) (az_br 103 (az_lf 102 (az_const (.int 5) 103)) (az_lf 103 (az_icne 114 106)))) (az_br 109 (az_br 108 (az_lf 106 (az_const (.int (-20)) 108)) (az_lf 108 (az_aload 0 109))) (az_br 112 (az_lf 109 (az_getI 6 6 112)) (az_br 113 (az_lf 112 (az_ii (fun x y => x - y) 113)) (az_lf 113 (az_iret)))))) (az_br 121 (az_br 116 (az_br 115 (az_lf 114 (az_aload 0 115)) (az_lf 115 (az_dup 116))) (az_br 119 (az_lf 116 (az_getI 6 6 119)) (az_br 120 (az_lf 119 (az_const (.int 1) 120)) (az_lf 120 (az_ii (fun x y => x + y) 121))))) (az_br 127 (az_br 124 (az_lf 121 (az_putI 6 6 124)) (az_lf 124 (az_iinc 1 1 127))) (az_br 130 (az_lf 127 (az_goto 54)) (az_br 131 (az_lf 130 (az_const (.int 0) 131)) (az_lf 131 (az_iret)))))))))
theorem u_X6_readTape_0 : az_W C R k_X6_readTape 0 (.ref a :: ls) st h ↔ az_W C R k_X6_readTape 1 (.ref a :: ls) (.ref a :: st) h := ap_aload rfl rfl
theorem u_X6_readTape_1 : az_W C R k_X6_readTape 1 ls st h ↔ az_W C R k_X6_readTape 2 ls (.int 0 :: st) h := ap_const rfl
theorem u_X6_readTape_2 : az_W C R k_X6_readTape 2 ls (.int x :: .ref 35 :: st) (130, P, I, L) ↔ az_W C R k_X6_readTape 5 ls st (130, P, az_uI I 35 6 x, L) := ap_putI rfl kn_35
theorem u_X6_readTape_5 : az_W C R k_X6_readTape 5 ls st h ↔ az_W C R k_X6_readTape 6 ls (.int 0 :: st) h := ap_const rfl
theorem u_X6_readTape_6 : az_W C R k_X6_readTape 6 (v0 :: v1 :: ls) (.int x :: st) h ↔ az_W C R k_X6_readTape 7 (az_un v0 :: .int x :: ls) st h := ap_istore rfl rfl
theorem u_X6_readTape_7 : az_W C R k_X6_readTape 7 (v0 :: .int x :: ls) st h ↔ az_W C R k_X6_readTape 8 (v0 :: .int x :: ls) (.int x :: st) h := ap_iload rfl rfl
theorem u_X6_readTape_8 : az_W C R k_X6_readTape 8 ls st h ↔ az_W C R k_X6_readTape 9 ls (.int 2 :: st) h := ap_const rfl
theorem u_X6_readTape_9 : az_W C R k_X6_readTape 9 ls (.int y :: .int x :: st) h ↔ if y < x then az_W C R k_X6_readTape 52 ls st h else az_W C R k_X6_readTape 12 ls st h := ap_icgt rfl
theorem u_X6_readTape_12 : az_W C R k_X6_readTape 12 (.ref a :: ls) st h ↔ az_W C R k_X6_readTape 13 (.ref a :: ls) (.ref a :: st) h := ap_aload rfl rfl
theorem u_X6_readTape_13 : az_W C R k_X6_readTape 13 ls (.ref 35 :: st) (130, az_Pf, I, L) ↔ az_W C R k_X6_readTape 16 ls (.ref 43 :: st) (130, az_Pf, I, L) := ap_getP rfl kn_35 pf_35_5
theorem u_X6_readTape_16 : az_W C R k_X6_readTape 16 (v0 :: .int x :: ls) st h ↔ az_W C R k_X6_readTape 17 (v0 :: .int x :: ls) (.int x :: st) h := ap_iload rfl rfl
theorem u_X6_readTape_17 : az_W C R k_X6_readTape 17 (.ref a :: ls) st h ↔ az_W C R k_X6_readTape 18 (.ref a :: ls) (.ref a :: st) h := ap_aload rfl rfl
theorem u_X6_readTape_18 : az_W C R k_X6_readTape 18 ls (.ref 35 :: st) (130, P, I, L) ↔ az_W C R k_X6_readTape 21 ls (.int (I 35 4) :: st) (130, P, I, L) := ap_getI rfl kn_35
theorem u_X6_readTape_21 : az_W C R k_X6_readTape 21 ls (.int x :: st) h ↔ if x = 0 then az_W C R k_X6_readTape 24 ls st h else az_W C R k_X6_readTape 32 ls st h := ap_ifne rfl
theorem u_X6_readTape_24 : az_W C R k_X6_readTape 24 ls st h ↔ az_W C R k_X6_readTape 27 ls (.ref 9000 :: st) h := ap_gets rfl
theorem u_X6_readTape_27 : az_W C R k_X6_readTape 27 (v0 :: .int x :: ls) st h ↔ az_W C R k_X6_readTape 28 (v0 :: .int x :: ls) (.int x :: st) h := ap_iload rfl rfl
theorem u_X6_readTape_28 (hk : (az_kn 130 a).1 = 1) : az_W C R k_X6_readTape 28 ls (.int x :: .ref a :: st) (130, P, I, L) ↔ (az_in x (az_kn 130 a).2 ∧ az_W C R k_X6_readTape 29 ls (.int (I a x.toNatClampNeg) :: st) (130, P, I, L)) := ap_iald rfl (az_k1 hk)
theorem u_X6_readTape_28s (hk : (az_kn 130 a).1 = 4) : az_W C R k_X6_readTape 28 ls (.int x :: .ref a :: st) (130, P, I, L) ↔ (az_in x (az_kn 130 a).2 ∧ az_W C R k_X6_readTape 29 ls (.int (az_sc a x.toNatClampNeg) :: st) (130, P, I, L)) := ap_sald rfl (az_k1 hk)
theorem u_X6_readTape_29 : az_W C R k_X6_readTape 29 ls st h ↔ az_W C R k_X6_readTape 45 ls st h := ap_goto rfl
theorem u_X6_readTape_32 : az_W C R k_X6_readTape 32 (.ref a :: ls) st h ↔ az_W C R k_X6_readTape 33 (.ref a :: ls) (.ref a :: st) h := ap_aload rfl rfl
theorem u_X6_readTape_33 : az_W C R k_X6_readTape 33 ls (.ref 35 :: st) (130, az_Pf, I, L) ↔ az_W C R k_X6_readTape 36 ls (.ref 38 :: st) (130, az_Pf, I, L) := ap_getP rfl kn_35 pf_35_3
theorem u_X6_readTape_36 : az_W C R k_X6_readTape 36 (.ref a :: ls) st h ↔ az_W C R k_X6_readTape 37 (.ref a :: ls) (.ref a :: st) h := ap_aload rfl rfl
theorem u_X6_readTape_37 : az_W C R k_X6_readTape 37 ls (.ref 35 :: st) (130, P, I, L) ↔ az_W C R k_X6_readTape 40 ls (.int (I 35 4) :: st) (130, P, I, L) := ap_getI rfl kn_35
theorem u_X6_readTape_40 : az_W C R k_X6_readTape 40 ls st h ↔ az_W C R k_X6_readTape 41 ls (.int 1 :: st) h := ap_const rfl
theorem u_X6_readTape_41 : az_W C R k_X6_readTape 41 ls (.int y :: .int x :: st) h ↔ az_W C R k_X6_readTape 42 ls (.int (x - y) :: st) h := ap_ii (f := fun x y => x - y) rfl
theorem u_X6_readTape_42 (hk : (az_kn 130 a).1 = 3) : az_W C R k_X6_readTape 42 ls (.int x :: .ref a :: st) (130, P, I, L) ↔ (az_in x (az_kn 130 a).2 ∧ ∃ b, P a x.toNatClampNeg = some b ∧ az_W C R k_X6_readTape 43 ls (.ref b :: st) (130, P, I, L)) := ap_aald rfl (az_k1 hk)
theorem u_X6_readTape_43 : az_W C R k_X6_readTape 43 (v0 :: .int x :: ls) st h ↔ az_W C R k_X6_readTape 44 (v0 :: .int x :: ls) (.int x :: st) h := ap_iload rfl rfl
theorem u_X6_readTape_44 (hk : (az_kn 130 a).1 = 1) : az_W C R k_X6_readTape 44 ls (.int x :: .ref a :: st) (130, P, I, L) ↔ (az_in x (az_kn 130 a).2 ∧ az_W C R k_X6_readTape 45 ls (.int (I a x.toNatClampNeg) :: st) (130, P, I, L)) := ap_iald rfl (az_k1 hk)
theorem u_X6_readTape_44s (hk : (az_kn 130 a).1 = 4) : az_W C R k_X6_readTape 44 ls (.int x :: .ref a :: st) (130, P, I, L) ↔ (az_in x (az_kn 130 a).2 ∧ az_W C R k_X6_readTape 45 ls (.int (az_sc a x.toNatClampNeg) :: st) (130, P, I, L)) := ap_sald rfl (az_k1 hk)
theorem u_X6_readTape_45 (hk : (az_kn 130 a).1 = 1) : az_W C R k_X6_readTape 45 ls (.int y :: .int x :: .ref a :: st) (130, P, I, L) ↔ (az_in x (az_kn 130 a).2 ∧ az_W C R k_X6_readTape 46 ls st (130, P, az_uI I a x.toNatClampNeg y, L)) := ap_iast rfl (az_k1 hk)
theorem u_X6_readTape_46 : az_W C R k_X6_readTape 46 (v0 :: .int x :: ls) st h ↔ az_W C R k_X6_readTape 49 (az_un v0 :: .int (x + 1) :: ls) st h := ap_iinc rfl rfl rfl
theorem u_X6_readTape_49 : az_W C R k_X6_readTape 49 ls st h ↔ az_W C R k_X6_readTape 7 ls st h := ap_goto rfl
theorem u_X6_readTape_52 : az_W C R k_X6_readTape 52 ls st h ↔ az_W C R k_X6_readTape 53 ls (.int 1 :: st) h := ap_const rfl
theorem u_X6_readTape_53 : az_W C R k_X6_readTape 53 (v0 :: v1 :: ls) (.int x :: st) h ↔ az_W C R k_X6_readTape 54 (az_un v0 :: .int x :: ls) st h := ap_istore rfl rfl
theorem u_X6_readTape_54 : az_W C R k_X6_readTape 54 (v0 :: .int x :: ls) st h ↔ az_W C R k_X6_readTape 55 (v0 :: .int x :: ls) (.int x :: st) h := ap_iload rfl rfl
theorem u_X6_readTape_55 : az_W C R k_X6_readTape 55 ls st h ↔ az_W C R k_X6_readTape 56 ls (.int 5 :: st) h := ap_const rfl
theorem u_X6_readTape_56 : az_W C R k_X6_readTape 56 ls (.int y :: .int x :: st) h ↔ if y < x then az_W C R k_X6_readTape 130 ls st h else az_W C R k_X6_readTape 59 ls st h := ap_icgt rfl
theorem u_X6_readTape_59 : az_W C R k_X6_readTape 59 (.ref a :: ls) st h ↔ az_W C R k_X6_readTape 60 (.ref a :: ls) (.ref a :: st) h := ap_aload rfl rfl
theorem u_X6_readTape_60 (hl : st.length ≤ 4) : az_W C R k_X6_readTape 60 ls (.ref 35 :: st) (130, P, I, L) ↔ az_F C R (az_W C R k_X6_readTape) (130, P, I, L) (az_cl 62 [.ref 35] 63 ls st) := ap_ivv rfl rfl kn_35 hl
theorem u_X6_readTape_63 : az_W C R k_X6_readTape 63 (v0 :: v1 :: v2 :: ls) (.int x :: st) h ↔ az_W C R k_X6_readTape 64 (v0 :: az_un v1 :: .int x :: ls) st h := ap_istore rfl rfl
theorem u_X6_readTape_64 : az_W C R k_X6_readTape 64 (v0 :: v1 :: .int x :: ls) st h ↔ az_W C R k_X6_readTape 65 (v0 :: v1 :: .int x :: ls) (.int x :: st) h := ap_iload rfl rfl
theorem u_X6_readTape_65 : az_W C R k_X6_readTape 65 ls (.int x :: st) h ↔ if x = 0 then az_W C R k_X6_readTape 70 ls st h else az_W C R k_X6_readTape 68 ls st h := ap_ifeq rfl
theorem u_X6_readTape_68 : az_W C R k_X6_readTape 68 (v0 :: v1 :: .int x :: ls) st h ↔ az_W C R k_X6_readTape 69 (v0 :: v1 :: .int x :: ls) (.int x :: st) h := ap_iload rfl rfl
theorem u_X6_readTape_69 : az_W C R k_X6_readTape 69 ls [.int x] h ↔ R (some (.int x)) h := ap_iret rfl
theorem u_X6_readTape_70 : az_W C R k_X6_readTape 70 (.ref a :: ls) st h ↔ az_W C R k_X6_readTape 71 (.ref a :: ls) (.ref a :: st) h := ap_aload rfl rfl
theorem u_X6_readTape_71 (hl : st.length ≤ 4) : az_W C R k_X6_readTape 71 ls (.ref 35 :: st) (130, P, I, L) ↔ az_F C R (az_W C R k_X6_readTape) (130, P, I, L) (az_cl 65 [.ref 35] 74 ls st) := ap_ivv rfl rfl kn_35 hl
theorem u_X6_readTape_74 : az_W C R k_X6_readTape 74 (.ref a :: ls) st h ↔ az_W C R k_X6_readTape 75 (.ref a :: ls) (.ref a :: st) h := ap_aload rfl rfl
theorem u_X6_readTape_75 : az_W C R k_X6_readTape 75 ls (.ref 35 :: st) (130, P, I, L) ↔ az_W C R k_X6_readTape 78 ls (.int (I 35 6) :: st) (130, P, I, L) := ap_getI rfl kn_35
theorem u_X6_readTape_78 : az_W C R k_X6_readTape 78 (.ref a :: ls) st h ↔ az_W C R k_X6_readTape 79 (.ref a :: ls) (.ref a :: st) h := ap_aload rfl rfl
theorem u_X6_readTape_79 : az_W C R k_X6_readTape 79 ls (.ref 35 :: st) (130, P, I, L) ↔ az_W C R k_X6_readTape 82 ls (.int (I 35 1) :: st) (130, P, I, L) := ap_getI rfl kn_35
theorem u_X6_readTape_82 : az_W C R k_X6_readTape 82 ls (.int y :: .int x :: st) h ↔ if x = y then az_W C R k_X6_readTape 85 ls st h else az_W C R k_X6_readTape 87 ls st h := ap_icne rfl
theorem u_X6_readTape_85 : az_W C R k_X6_readTape 85 ls st h ↔ az_W C R k_X6_readTape 86 ls (.int 0 :: st) h := ap_const rfl
theorem u_X6_readTape_86 : az_W C R k_X6_readTape 86 ls [.int x] h ↔ R (some (.int x)) h := ap_iret rfl
theorem u_X6_readTape_87 : az_W C R k_X6_readTape 87 (.ref a :: ls) st h ↔ az_W C R k_X6_readTape 88 (.ref a :: ls) (.ref a :: st) h := ap_aload rfl rfl
theorem u_X6_readTape_88 : az_W C R k_X6_readTape 88 ls (.ref 35 :: st) (130, az_Pf, I, L) ↔ az_W C R k_X6_readTape 91 ls (.ref 36 :: st) (130, az_Pf, I, L) := ap_getP rfl kn_35 pf_35_0
theorem u_X6_readTape_91 : az_W C R k_X6_readTape 91 (.ref a :: ls) st h ↔ az_W C R k_X6_readTape 92 (.ref a :: ls) (.ref a :: st) h := ap_aload rfl rfl
theorem u_X6_readTape_92 : az_W C R k_X6_readTape 92 ls (.ref 35 :: st) (130, P, I, L) ↔ az_W C R k_X6_readTape 95 ls (.int (I 35 6) :: st) (130, P, I, L) := ap_getI rfl kn_35
theorem u_X6_readTape_95 (hk : (az_kn 130 a).1 = 1) : az_W C R k_X6_readTape 95 ls (.int x :: .ref a :: st) (130, P, I, L) ↔ (az_in x (az_kn 130 a).2 ∧ az_W C R k_X6_readTape 96 ls (.int (I a x.toNatClampNeg) :: st) (130, P, I, L)) := ap_iald rfl (az_k1 hk)
theorem u_X6_readTape_95s (hk : (az_kn 130 a).1 = 4) : az_W C R k_X6_readTape 95 ls (.int x :: .ref a :: st) (130, P, I, L) ↔ (az_in x (az_kn 130 a).2 ∧ az_W C R k_X6_readTape 96 ls (.int (az_sc a x.toNatClampNeg) :: st) (130, P, I, L)) := ap_sald rfl (az_k1 hk)
theorem u_X6_readTape_96 : az_W C R k_X6_readTape 96 ls st h ↔ az_W C R k_X6_readTape 98 ls (.int 59 :: st) h := ap_const rfl
theorem u_X6_readTape_98 : az_W C R k_X6_readTape 98 ls (.int y :: .int x :: st) h ↔ if x = y then az_W C R k_X6_readTape 101 ls st h else az_W C R k_X6_readTape 106 ls st h := ap_icne rfl
theorem u_X6_readTape_101 : az_W C R k_X6_readTape 101 (v0 :: .int x :: ls) st h ↔ az_W C R k_X6_readTape 102 (v0 :: .int x :: ls) (.int x :: st) h := ap_iload rfl rfl
theorem u_X6_readTape_102 : az_W C R k_X6_readTape 102 ls st h ↔ az_W C R k_X6_readTape 103 ls (.int 5 :: st) h := ap_const rfl
theorem u_X6_readTape_103 : az_W C R k_X6_readTape 103 ls (.int y :: .int x :: st) h ↔ if x = y then az_W C R k_X6_readTape 106 ls st h else az_W C R k_X6_readTape 114 ls st h := ap_icne rfl
theorem u_X6_readTape_106 : az_W C R k_X6_readTape 106 ls st h ↔ az_W C R k_X6_readTape 108 ls (.int (-20) :: st) h := ap_const rfl
theorem u_X6_readTape_108 : az_W C R k_X6_readTape 108 (.ref a :: ls) st h ↔ az_W C R k_X6_readTape 109 (.ref a :: ls) (.ref a :: st) h := ap_aload rfl rfl
theorem u_X6_readTape_109 : az_W C R k_X6_readTape 109 ls (.ref 35 :: st) (130, P, I, L) ↔ az_W C R k_X6_readTape 112 ls (.int (I 35 6) :: st) (130, P, I, L) := ap_getI rfl kn_35
theorem u_X6_readTape_112 : az_W C R k_X6_readTape 112 ls (.int y :: .int x :: st) h ↔ az_W C R k_X6_readTape 113 ls (.int (x - y) :: st) h := ap_ii (f := fun x y => x - y) rfl
theorem u_X6_readTape_113 : az_W C R k_X6_readTape 113 ls [.int x] h ↔ R (some (.int x)) h := ap_iret rfl
theorem u_X6_readTape_114 : az_W C R k_X6_readTape 114 (.ref a :: ls) st h ↔ az_W C R k_X6_readTape 115 (.ref a :: ls) (.ref a :: st) h := ap_aload rfl rfl
theorem u_X6_readTape_115 : az_W C R k_X6_readTape 115 ls (.int x :: st) h ↔ az_W C R k_X6_readTape 116 ls (.int x :: .int x :: st) h := ap_dupi rfl
theorem u_X6_readTape_115r : az_W C R k_X6_readTape 115 ls (.ref a :: st) h ↔ az_W C R k_X6_readTape 116 ls (.ref a :: .ref a :: st) h := ap_dupr rfl
theorem u_X6_readTape_116 : az_W C R k_X6_readTape 116 ls (.ref 35 :: st) (130, P, I, L) ↔ az_W C R k_X6_readTape 119 ls (.int (I 35 6) :: st) (130, P, I, L) := ap_getI rfl kn_35
theorem u_X6_readTape_119 : az_W C R k_X6_readTape 119 ls st h ↔ az_W C R k_X6_readTape 120 ls (.int 1 :: st) h := ap_const rfl
theorem u_X6_readTape_120 : az_W C R k_X6_readTape 120 ls (.int y :: .int x :: st) h ↔ az_W C R k_X6_readTape 121 ls (.int (x + y) :: st) h := ap_ii (f := fun x y => x + y) rfl
theorem u_X6_readTape_121 : az_W C R k_X6_readTape 121 ls (.int x :: .ref 35 :: st) (130, P, I, L) ↔ az_W C R k_X6_readTape 124 ls st (130, P, az_uI I 35 6 x, L) := ap_putI rfl kn_35
theorem u_X6_readTape_124 : az_W C R k_X6_readTape 124 (v0 :: .int x :: ls) st h ↔ az_W C R k_X6_readTape 127 (az_un v0 :: .int (x + 1) :: ls) st h := ap_iinc rfl rfl rfl
theorem u_X6_readTape_127 : az_W C R k_X6_readTape 127 ls st h ↔ az_W C R k_X6_readTape 54 ls st h := ap_goto rfl
theorem u_X6_readTape_130 : az_W C R k_X6_readTape 130 ls st h ↔ az_W C R k_X6_readTape 131 ls (.int 0 :: st) h := ap_const rfl
theorem u_X6_readTape_131 : az_W C R k_X6_readTape 131 ls [.int x] h ↔ R (some (.int x)) h := ap_iret rfl
def k_X6_readClause : Nat → az_P := (az_br 58 (az_br 32 (az_br 15 (az_br 5 (az_br 1 (az_lf 0 (az_aload 0 1)) (az_br 4 (az_lf 1 (az_ivv 65 0 6 4)) (az_lf 4 (az_aload 0 5)))) (az_br 9 (az_br 8 (az_lf 5 (az_getI 6 6 8)) (az_lf 8 (az_aload 0 9))) (az_br 12 (az_lf 9 (az_getI 6 1 12)) (az_lf 12 (az_icge 30 15))))) (az_br 23 (az_br 19 (az_br 16 (az_lf 15 (az_aload 0 16)) (az_lf 16 (az_getP 6 0 19))) (az_br 20 (az_lf 19 (az_aload 0 20)) (az_lf 20 (az_getI 6 6 23)))) (az_br 27 (az_br 24 (az_lf 23 (az_iald 24)) (az_lf 24 (az_ivs 63 1 27))) (az_br 30 (az_lf 27 (az_goto 32)) (az_lf 30 (az_const (.int (-4)) 32)))))) (az_br 46 (az_br 39 (az_br 34 (az_br 33 (az_lf 32 (az_istore 1 33)) (az_lf 33 (az_iload 1 34))) (az_br 36 (az_lf 34 (az_const (.int (-4)) 36)) (az_lf 36 (az_icne 47 39)))) (az_br 42 (az_br 41 (az_lf 39 (az_const (.int (-20)) 41)) (az_lf 41 (az_aload 0 42))) (az_br 45 (az_lf 42 (az_getI 6 6 45)) (az_lf 45 (az_ii (fun x y => x - y) 46))))) (az_br 52 (az_br 48 (az_br 47 (az_lf 46 (az_iret)) (az_lf 47 (az_aload 0 48))) (az_br 49 (az_lf 48 (az_dup 49)) (az_lf 49 (az_getI 6 6 52)))) (az_br 54 (az_br 53 (az_lf 52 (az_const (.int 1) 53)) (az_lf 53 (az_ii (fun x y => x + y) 54))) (az_br 57 (az_lf 54 (az_putI 6 6 57)) (az_lf 57 (az_aload 0 58))))))) (az_br 85 (az_br 71 (az_br 65 (az_br 61 (az_lf 58 (az_ivv 65 0 6 61)) (az_br 62 (az_lf 61 (az_aload 0 62)) (az_lf 62 (az_getI 6 6 65)))) (az_br 67 (az_br 66 (az_lf 65 (az_istore 2 66)) (az_lf 66 (az_aload 0 67))) (az_br 70 (az_lf 67 (az_ivv 64 0 6 70)) (az_lf 70 (az_istore 3 71))))) (az_br 79 (az_br 75 (az_br 72 (az_lf 71 (az_aload 0 72)) (az_lf 72 (az_getI 6 6 75))) (az_br 76 (az_lf 75 (az_iload 2 76)) (az_lf 76 (az_iceq 96 79)))) (az_br 83 (az_br 80 (az_lf 79 (az_iload 3 80)) (az_lf 80 (az_gets 9001 83))) (az_br 84 (az_lf 83 (az_iload 1 84)) (az_lf 84 (az_iald 85)))))) (az_br 100 (az_br 93 (az_br 89 (az_br 88 (az_lf 85 (az_gets 9002 88)) (az_lf 88 (az_iload 1 89))) (az_br 90 (az_lf 89 (az_iald 90)) (az_lf 90 (az_ivs 129 3 93)))) (az_br 98 (az_br 96 (az_lf 93 (az_ifne 101 96)) (az_lf 96 (az_const (.int (-20)) 98))) (az_br 99 (az_lf 98 (az_iload 2 99)) (az_lf 99 (az_ii (fun x y => x - y) 100))))) (az_br 106 (az_br 102 (az_br 101 (az_lf 100 (az_iret)) (az_lf 101 (az_aload 0 102))) (az_br 105 (az_lf 102 (az_getP 6 5 105)) (az_lf 105 (az_iload 1 106)))) (az_br 108 (az_br 107 (az_lf 106 (az_iload 3 107)) (az_lf 107 (az_iast 108))) (az_br 109 (az_lf 108 (az_const (.int 0) 109)) (az_lf 109 (az_iret))))))))
theorem u_X6_readClause_0 : az_W C R k_X6_readClause 0 (.ref a :: ls) st h ↔ az_W C R k_X6_readClause 1 (.ref a :: ls) (.ref a :: st) h := ap_aload rfl rfl
theorem u_X6_readClause_1 (hl : st.length ≤ 4) : az_W C R k_X6_readClause 1 ls (.ref 35 :: st) (130, P, I, L) ↔ az_F C R (az_W C R k_X6_readClause) (130, P, I, L) (az_cl 65 [.ref 35] 4 ls st) := ap_ivv rfl rfl kn_35 hl
theorem u_X6_readClause_4 : az_W C R k_X6_readClause 4 (.ref a :: ls) st h ↔ az_W C R k_X6_readClause 5 (.ref a :: ls) (.ref a :: st) h := ap_aload rfl rfl
theorem u_X6_readClause_5 : az_W C R k_X6_readClause 5 ls (.ref 35 :: st) (130, P, I, L) ↔ az_W C R k_X6_readClause 8 ls (.int (I 35 6) :: st) (130, P, I, L) := ap_getI rfl kn_35
theorem u_X6_readClause_8 : az_W C R k_X6_readClause 8 (.ref a :: ls) st h ↔ az_W C R k_X6_readClause 9 (.ref a :: ls) (.ref a :: st) h := ap_aload rfl rfl
theorem u_X6_readClause_9 : az_W C R k_X6_readClause 9 ls (.ref 35 :: st) (130, P, I, L) ↔ az_W C R k_X6_readClause 12 ls (.int (I 35 1) :: st) (130, P, I, L) := ap_getI rfl kn_35
theorem u_X6_readClause_12 : az_W C R k_X6_readClause 12 ls (.int y :: .int x :: st) h ↔ if y ≤ x then az_W C R k_X6_readClause 30 ls st h else az_W C R k_X6_readClause 15 ls st h := ap_icge rfl
theorem u_X6_readClause_15 : az_W C R k_X6_readClause 15 (.ref a :: ls) st h ↔ az_W C R k_X6_readClause 16 (.ref a :: ls) (.ref a :: st) h := ap_aload rfl rfl
theorem u_X6_readClause_16 : az_W C R k_X6_readClause 16 ls (.ref 35 :: st) (130, az_Pf, I, L) ↔ az_W C R k_X6_readClause 19 ls (.ref 36 :: st) (130, az_Pf, I, L) := ap_getP rfl kn_35 pf_35_0
theorem u_X6_readClause_19 : az_W C R k_X6_readClause 19 (.ref a :: ls) st h ↔ az_W C R k_X6_readClause 20 (.ref a :: ls) (.ref a :: st) h := ap_aload rfl rfl
theorem u_X6_readClause_20 : az_W C R k_X6_readClause 20 ls (.ref 35 :: st) (130, P, I, L) ↔ az_W C R k_X6_readClause 23 ls (.int (I 35 6) :: st) (130, P, I, L) := ap_getI rfl kn_35
theorem u_X6_readClause_23 (hk : (az_kn 130 a).1 = 1) : az_W C R k_X6_readClause 23 ls (.int x :: .ref a :: st) (130, P, I, L) ↔ (az_in x (az_kn 130 a).2 ∧ az_W C R k_X6_readClause 24 ls (.int (I a x.toNatClampNeg) :: st) (130, P, I, L)) := ap_iald rfl (az_k1 hk)
theorem u_X6_readClause_23s (hk : (az_kn 130 a).1 = 4) : az_W C R k_X6_readClause 23 ls (.int x :: .ref a :: st) (130, P, I, L) ↔ (az_in x (az_kn 130 a).2 ∧ az_W C R k_X6_readClause 24 ls (.int (az_sc a x.toNatClampNeg) :: st) (130, P, I, L)) := ap_sald rfl (az_k1 hk)
theorem u_X6_readClause_24 (hl : st.length ≤ 4) : az_W C R k_X6_readClause 24 ls (v1 :: st) h ↔ az_F C R (az_W C R k_X6_readClause) h (az_cl 63 [v1] 27 ls st) := ap_ivs rfl rfl hl
theorem u_X6_readClause_27 : az_W C R k_X6_readClause 27 ls st h ↔ az_W C R k_X6_readClause 32 ls st h := ap_goto rfl
theorem u_X6_readClause_30 : az_W C R k_X6_readClause 30 ls st h ↔ az_W C R k_X6_readClause 32 ls (.int (-4) :: st) h := ap_const rfl
theorem u_X6_readClause_32 : az_W C R k_X6_readClause 32 (v0 :: v1 :: ls) (.int x :: st) h ↔ az_W C R k_X6_readClause 33 (az_un v0 :: .int x :: ls) st h := ap_istore rfl rfl
theorem u_X6_readClause_33 : az_W C R k_X6_readClause 33 (v0 :: .int x :: ls) st h ↔ az_W C R k_X6_readClause 34 (v0 :: .int x :: ls) (.int x :: st) h := ap_iload rfl rfl
theorem u_X6_readClause_34 : az_W C R k_X6_readClause 34 ls st h ↔ az_W C R k_X6_readClause 36 ls (.int (-4) :: st) h := ap_const rfl
theorem u_X6_readClause_36 : az_W C R k_X6_readClause 36 ls (.int y :: .int x :: st) h ↔ if x = y then az_W C R k_X6_readClause 39 ls st h else az_W C R k_X6_readClause 47 ls st h := ap_icne rfl
theorem u_X6_readClause_39 : az_W C R k_X6_readClause 39 ls st h ↔ az_W C R k_X6_readClause 41 ls (.int (-20) :: st) h := ap_const rfl
theorem u_X6_readClause_41 : az_W C R k_X6_readClause 41 (.ref a :: ls) st h ↔ az_W C R k_X6_readClause 42 (.ref a :: ls) (.ref a :: st) h := ap_aload rfl rfl
theorem u_X6_readClause_42 : az_W C R k_X6_readClause 42 ls (.ref 35 :: st) (130, P, I, L) ↔ az_W C R k_X6_readClause 45 ls (.int (I 35 6) :: st) (130, P, I, L) := ap_getI rfl kn_35
theorem u_X6_readClause_45 : az_W C R k_X6_readClause 45 ls (.int y :: .int x :: st) h ↔ az_W C R k_X6_readClause 46 ls (.int (x - y) :: st) h := ap_ii (f := fun x y => x - y) rfl
theorem u_X6_readClause_46 : az_W C R k_X6_readClause 46 ls [.int x] h ↔ R (some (.int x)) h := ap_iret rfl
theorem u_X6_readClause_47 : az_W C R k_X6_readClause 47 (.ref a :: ls) st h ↔ az_W C R k_X6_readClause 48 (.ref a :: ls) (.ref a :: st) h := ap_aload rfl rfl
theorem u_X6_readClause_48 : az_W C R k_X6_readClause 48 ls (.int x :: st) h ↔ az_W C R k_X6_readClause 49 ls (.int x :: .int x :: st) h := ap_dupi rfl
theorem u_X6_readClause_48r : az_W C R k_X6_readClause 48 ls (.ref a :: st) h ↔ az_W C R k_X6_readClause 49 ls (.ref a :: .ref a :: st) h := ap_dupr rfl
theorem u_X6_readClause_49 : az_W C R k_X6_readClause 49 ls (.ref 35 :: st) (130, P, I, L) ↔ az_W C R k_X6_readClause 52 ls (.int (I 35 6) :: st) (130, P, I, L) := ap_getI rfl kn_35
theorem u_X6_readClause_52 : az_W C R k_X6_readClause 52 ls st h ↔ az_W C R k_X6_readClause 53 ls (.int 1 :: st) h := ap_const rfl
theorem u_X6_readClause_53 : az_W C R k_X6_readClause 53 ls (.int y :: .int x :: st) h ↔ az_W C R k_X6_readClause 54 ls (.int (x + y) :: st) h := ap_ii (f := fun x y => x + y) rfl
theorem u_X6_readClause_54 : az_W C R k_X6_readClause 54 ls (.int x :: .ref 35 :: st) (130, P, I, L) ↔ az_W C R k_X6_readClause 57 ls st (130, P, az_uI I 35 6 x, L) := ap_putI rfl kn_35
theorem u_X6_readClause_57 : az_W C R k_X6_readClause 57 (.ref a :: ls) st h ↔ az_W C R k_X6_readClause 58 (.ref a :: ls) (.ref a :: st) h := ap_aload rfl rfl
theorem u_X6_readClause_58 (hl : st.length ≤ 4) : az_W C R k_X6_readClause 58 ls (.ref 35 :: st) (130, P, I, L) ↔ az_F C R (az_W C R k_X6_readClause) (130, P, I, L) (az_cl 65 [.ref 35] 61 ls st) := ap_ivv rfl rfl kn_35 hl
theorem u_X6_readClause_61 : az_W C R k_X6_readClause 61 (.ref a :: ls) st h ↔ az_W C R k_X6_readClause 62 (.ref a :: ls) (.ref a :: st) h := ap_aload rfl rfl
theorem u_X6_readClause_62 : az_W C R k_X6_readClause 62 ls (.ref 35 :: st) (130, P, I, L) ↔ az_W C R k_X6_readClause 65 ls (.int (I 35 6) :: st) (130, P, I, L) := ap_getI rfl kn_35
theorem u_X6_readClause_65 : az_W C R k_X6_readClause 65 (v0 :: v1 :: v2 :: ls) (.int x :: st) h ↔ az_W C R k_X6_readClause 66 (v0 :: az_un v1 :: .int x :: ls) st h := ap_istore rfl rfl
theorem u_X6_readClause_66 : az_W C R k_X6_readClause 66 (.ref a :: ls) st h ↔ az_W C R k_X6_readClause 67 (.ref a :: ls) (.ref a :: st) h := ap_aload rfl rfl
theorem u_X6_readClause_67 (hl : st.length ≤ 4) : az_W C R k_X6_readClause 67 ls (.ref 35 :: st) (130, P, I, L) ↔ az_F C R (az_W C R k_X6_readClause) (130, P, I, L) (az_cl 64 [.ref 35] 70 ls st) := ap_ivv rfl rfl kn_35 hl
theorem u_X6_readClause_70 : az_W C R k_X6_readClause 70 (v0 :: v1 :: v2 :: v3 :: ls) (.int x :: st) h ↔ az_W C R k_X6_readClause 71 (v0 :: v1 :: az_un v2 :: .int x :: ls) st h := ap_istore rfl rfl
theorem u_X6_readClause_71 : az_W C R k_X6_readClause 71 (.ref a :: ls) st h ↔ az_W C R k_X6_readClause 72 (.ref a :: ls) (.ref a :: st) h := ap_aload rfl rfl
theorem u_X6_readClause_72 : az_W C R k_X6_readClause 72 ls (.ref 35 :: st) (130, P, I, L) ↔ az_W C R k_X6_readClause 75 ls (.int (I 35 6) :: st) (130, P, I, L) := ap_getI rfl kn_35
theorem u_X6_readClause_75 : az_W C R k_X6_readClause 75 (v0 :: v1 :: .int x :: ls) st h ↔ az_W C R k_X6_readClause 76 (v0 :: v1 :: .int x :: ls) (.int x :: st) h := ap_iload rfl rfl
theorem u_X6_readClause_76 : az_W C R k_X6_readClause 76 ls (.int y :: .int x :: st) h ↔ if x = y then az_W C R k_X6_readClause 96 ls st h else az_W C R k_X6_readClause 79 ls st h := ap_iceq rfl
theorem u_X6_readClause_79 : az_W C R k_X6_readClause 79 (v0 :: v1 :: v2 :: .int x :: ls) st h ↔ az_W C R k_X6_readClause 80 (v0 :: v1 :: v2 :: .int x :: ls) (.int x :: st) h := ap_iload rfl rfl
theorem u_X6_readClause_80 : az_W C R k_X6_readClause 80 ls st h ↔ az_W C R k_X6_readClause 83 ls (.ref 9001 :: st) h := ap_gets rfl
theorem u_X6_readClause_83 : az_W C R k_X6_readClause 83 (v0 :: .int x :: ls) st h ↔ az_W C R k_X6_readClause 84 (v0 :: .int x :: ls) (.int x :: st) h := ap_iload rfl rfl
theorem u_X6_readClause_84 (hk : (az_kn 130 a).1 = 1) : az_W C R k_X6_readClause 84 ls (.int x :: .ref a :: st) (130, P, I, L) ↔ (az_in x (az_kn 130 a).2 ∧ az_W C R k_X6_readClause 85 ls (.int (I a x.toNatClampNeg) :: st) (130, P, I, L)) := ap_iald rfl (az_k1 hk)
theorem u_X6_readClause_84s (hk : (az_kn 130 a).1 = 4) : az_W C R k_X6_readClause 84 ls (.int x :: .ref a :: st) (130, P, I, L) ↔ (az_in x (az_kn 130 a).2 ∧ az_W C R k_X6_readClause 85 ls (.int (az_sc a x.toNatClampNeg) :: st) (130, P, I, L)) := ap_sald rfl (az_k1 hk)
theorem u_X6_readClause_85 : az_W C R k_X6_readClause 85 ls st h ↔ az_W C R k_X6_readClause 88 ls (.ref 9002 :: st) h := ap_gets rfl
theorem u_X6_readClause_88 : az_W C R k_X6_readClause 88 (v0 :: .int x :: ls) st h ↔ az_W C R k_X6_readClause 89 (v0 :: .int x :: ls) (.int x :: st) h := ap_iload rfl rfl
theorem u_X6_readClause_89 (hk : (az_kn 130 a).1 = 1) : az_W C R k_X6_readClause 89 ls (.int x :: .ref a :: st) (130, P, I, L) ↔ (az_in x (az_kn 130 a).2 ∧ az_W C R k_X6_readClause 90 ls (.int (I a x.toNatClampNeg) :: st) (130, P, I, L)) := ap_iald rfl (az_k1 hk)
theorem u_X6_readClause_89s (hk : (az_kn 130 a).1 = 4) : az_W C R k_X6_readClause 89 ls (.int x :: .ref a :: st) (130, P, I, L) ↔ (az_in x (az_kn 130 a).2 ∧ az_W C R k_X6_readClause 90 ls (.int (az_sc a x.toNatClampNeg) :: st) (130, P, I, L)) := ap_sald rfl (az_k1 hk)
theorem u_X6_readClause_90 (hl : st.length ≤ 4) : az_W C R k_X6_readClause 90 ls (v3 :: v2 :: v1 :: st) h ↔ az_F C R (az_W C R k_X6_readClause) h (az_cl 129 [v1, v2, v3] 93 ls st) := ap_ivs rfl rfl hl
theorem u_X6_readClause_93 : az_W C R k_X6_readClause 93 ls (.int x :: st) h ↔ if x = 0 then az_W C R k_X6_readClause 96 ls st h else az_W C R k_X6_readClause 101 ls st h := ap_ifne rfl
theorem u_X6_readClause_96 : az_W C R k_X6_readClause 96 ls st h ↔ az_W C R k_X6_readClause 98 ls (.int (-20) :: st) h := ap_const rfl
theorem u_X6_readClause_98 : az_W C R k_X6_readClause 98 (v0 :: v1 :: .int x :: ls) st h ↔ az_W C R k_X6_readClause 99 (v0 :: v1 :: .int x :: ls) (.int x :: st) h := ap_iload rfl rfl
theorem u_X6_readClause_99 : az_W C R k_X6_readClause 99 ls (.int y :: .int x :: st) h ↔ az_W C R k_X6_readClause 100 ls (.int (x - y) :: st) h := ap_ii (f := fun x y => x - y) rfl
theorem u_X6_readClause_100 : az_W C R k_X6_readClause 100 ls [.int x] h ↔ R (some (.int x)) h := ap_iret rfl
theorem u_X6_readClause_101 : az_W C R k_X6_readClause 101 (.ref a :: ls) st h ↔ az_W C R k_X6_readClause 102 (.ref a :: ls) (.ref a :: st) h := ap_aload rfl rfl
theorem u_X6_readClause_102 : az_W C R k_X6_readClause 102 ls (.ref 35 :: st) (130, az_Pf, I, L) ↔ az_W C R k_X6_readClause 105 ls (.ref 43 :: st) (130, az_Pf, I, L) := ap_getP rfl kn_35 pf_35_5
theorem u_X6_readClause_105 : az_W C R k_X6_readClause 105 (v0 :: .int x :: ls) st h ↔ az_W C R k_X6_readClause 106 (v0 :: .int x :: ls) (.int x :: st) h := ap_iload rfl rfl
theorem u_X6_readClause_106 : az_W C R k_X6_readClause 106 (v0 :: v1 :: v2 :: .int x :: ls) st h ↔ az_W C R k_X6_readClause 107 (v0 :: v1 :: v2 :: .int x :: ls) (.int x :: st) h := ap_iload rfl rfl
theorem u_X6_readClause_107 (hk : (az_kn 130 a).1 = 1) : az_W C R k_X6_readClause 107 ls (.int y :: .int x :: .ref a :: st) (130, P, I, L) ↔ (az_in x (az_kn 130 a).2 ∧ az_W C R k_X6_readClause 108 ls st (130, P, az_uI I a x.toNatClampNeg y, L)) := ap_iast rfl (az_k1 hk)
theorem u_X6_readClause_108 : az_W C R k_X6_readClause 108 ls st h ↔ az_W C R k_X6_readClause 109 ls (.int 0 :: st) h := ap_const rfl
theorem u_X6_readClause_109 : az_W C R k_X6_readClause 109 ls [.int x] h ↔ R (some (.int x)) h := ap_iret rfl
def k_X6_ruleNamed : Nat → az_P := (az_br 39 (az_br 36 (az_br 1 (az_lf 0 (az_iload 0 1)) (az_lf 1 (az_switch [(99, 36), (108, 38), (115, 40)] 42))) (az_br 37 (az_lf 36 (az_const (.int 0) 37)) (az_br 38 (az_lf 37 (az_iret)) (az_lf 38 (az_const (.int 1) 39))))) (az_br 41 (az_br 40 (az_lf 39 (az_iret)) (az_lf 40 (az_const (.int 2) 41))) (az_br 42 (az_lf 41 (az_iret)) (az_br 44 (az_lf 42 (az_const (.int (-4)) 44)) (az_lf 44 (az_iret))))))
theorem u_X6_ruleNamed_0 : az_W C R k_X6_ruleNamed 0 (.int x :: ls) st h ↔ az_W C R k_X6_ruleNamed 1 (.int x :: ls) (.int x :: st) h := ap_iload rfl rfl
theorem u_X6_ruleNamed_1 : az_W C R k_X6_ruleNamed 1 ls (.int x :: st) h ↔ az_W C R k_X6_ruleNamed (az_pick x 42 [(99, 36), (108, 38), (115, 40)]) ls st h := ap_switch rfl
theorem u_X6_ruleNamed_36 : az_W C R k_X6_ruleNamed 36 ls st h ↔ az_W C R k_X6_ruleNamed 37 ls (.int 0 :: st) h := ap_const rfl
theorem u_X6_ruleNamed_37 : az_W C R k_X6_ruleNamed 37 ls [.int x] h ↔ R (some (.int x)) h := ap_iret rfl
theorem u_X6_ruleNamed_38 : az_W C R k_X6_ruleNamed 38 ls st h ↔ az_W C R k_X6_ruleNamed 39 ls (.int 1 :: st) h := ap_const rfl
theorem u_X6_ruleNamed_39 : az_W C R k_X6_ruleNamed 39 ls [.int x] h ↔ R (some (.int x)) h := ap_iret rfl
theorem u_X6_ruleNamed_40 : az_W C R k_X6_ruleNamed 40 ls st h ↔ az_W C R k_X6_ruleNamed 41 ls (.int 2 :: st) h := ap_const rfl
theorem u_X6_ruleNamed_41 : az_W C R k_X6_ruleNamed 41 ls [.int x] h ↔ R (some (.int x)) h := ap_iret rfl
theorem u_X6_ruleNamed_42 : az_W C R k_X6_ruleNamed 42 ls st h ↔ az_W C R k_X6_ruleNamed 44 ls (.int (-4) :: st) h := ap_const rfl
theorem u_X6_ruleNamed_44 : az_W C R k_X6_ruleNamed 44 ls [.int x] h ↔ R (some (.int x)) h := ap_iret rfl
def k_X6_readNumber : Nat → az_P := (az_br 36 (az_br 17 (az_br 6 (az_br 2 (az_br 1 (az_lf 0 (az_const (.int 0) 1)) (az_lf 1 (az_istore 1 2))) (az_br 3 (az_lf 2 (az_aload 0 3)) (az_lf 3 (az_getI 6 6 6)))) (az_br 10 (az_br 7 (az_lf 6 (az_aload 0 7)) (az_lf 7 (az_getI 6 1 10))) (az_br 13 (az_lf 10 (az_icge 68 13)) (az_br 14 (az_lf 13 (az_aload 0 14)) (az_lf 14 (az_getP 6 0 17)))))) (az_br 26 (az_br 21 (az_br 18 (az_lf 17 (az_aload 0 18)) (az_lf 18 (az_getI 6 6 21))) (az_br 22 (az_lf 21 (az_iald 22)) (az_br 24 (az_lf 22 (az_const (.int 48) 24)) (az_lf 24 (az_const (.int 57) 26))))) (az_br 32 (az_br 29 (az_lf 26 (az_ivs 129 3 29)) (az_lf 29 (az_ifeq 68 32))) (az_br 33 (az_lf 32 (az_iload 1 33)) (az_br 35 (az_lf 33 (az_const (.int 10) 35)) (az_lf 35 (az_ii (fun x y => x * y) 36))))))) (az_br 54 (az_br 45 (az_br 40 (az_br 37 (az_lf 36 (az_aload 0 37)) (az_lf 37 (az_getP 6 0 40))) (az_br 41 (az_lf 40 (az_aload 0 41)) (az_br 44 (az_lf 41 (az_getI 6 6 44)) (az_lf 44 (az_iald 45))))) (az_br 48 (az_br 46 (az_lf 45 (az_ii (fun x y => x + y) 46)) (az_lf 46 (az_const (.int 48) 48))) (az_br 49 (az_lf 48 (az_ii (fun x y => x - y) 49)) (az_br 51 (az_lf 49 (az_const (.int 100) 51)) (az_lf 51 (az_iim (fun x y => if y < x then y else x) 54)))))) (az_br 61 (az_br 56 (az_br 55 (az_lf 54 (az_istore 1 55)) (az_lf 55 (az_aload 0 56))) (az_br 57 (az_lf 56 (az_dup 57)) (az_br 60 (az_lf 57 (az_getI 6 6 60)) (az_lf 60 (az_const (.int 1) 61))))) (az_br 65 (az_br 62 (az_lf 61 (az_ii (fun x y => x + y) 62)) (az_lf 62 (az_putI 6 6 65))) (az_br 68 (az_lf 65 (az_goto 2)) (az_br 69 (az_lf 68 (az_iload 1 69)) (az_lf 69 (az_iret))))))))
theorem u_X6_readNumber_0 : az_W C R k_X6_readNumber 0 ls st h ↔ az_W C R k_X6_readNumber 1 ls (.int 0 :: st) h := ap_const rfl
theorem u_X6_readNumber_1 : az_W C R k_X6_readNumber 1 (v0 :: v1 :: ls) (.int x :: st) h ↔ az_W C R k_X6_readNumber 2 (az_un v0 :: .int x :: ls) st h := ap_istore rfl rfl
theorem u_X6_readNumber_2 : az_W C R k_X6_readNumber 2 (.ref a :: ls) st h ↔ az_W C R k_X6_readNumber 3 (.ref a :: ls) (.ref a :: st) h := ap_aload rfl rfl
theorem u_X6_readNumber_3 : az_W C R k_X6_readNumber 3 ls (.ref 35 :: st) (130, P, I, L) ↔ az_W C R k_X6_readNumber 6 ls (.int (I 35 6) :: st) (130, P, I, L) := ap_getI rfl kn_35
theorem u_X6_readNumber_6 : az_W C R k_X6_readNumber 6 (.ref a :: ls) st h ↔ az_W C R k_X6_readNumber 7 (.ref a :: ls) (.ref a :: st) h := ap_aload rfl rfl
theorem u_X6_readNumber_7 : az_W C R k_X6_readNumber 7 ls (.ref 35 :: st) (130, P, I, L) ↔ az_W C R k_X6_readNumber 10 ls (.int (I 35 1) :: st) (130, P, I, L) := ap_getI rfl kn_35
theorem u_X6_readNumber_10 : az_W C R k_X6_readNumber 10 ls (.int y :: .int x :: st) h ↔ if y ≤ x then az_W C R k_X6_readNumber 68 ls st h else az_W C R k_X6_readNumber 13 ls st h := ap_icge rfl
theorem u_X6_readNumber_13 : az_W C R k_X6_readNumber 13 (.ref a :: ls) st h ↔ az_W C R k_X6_readNumber 14 (.ref a :: ls) (.ref a :: st) h := ap_aload rfl rfl
theorem u_X6_readNumber_14 : az_W C R k_X6_readNumber 14 ls (.ref 35 :: st) (130, az_Pf, I, L) ↔ az_W C R k_X6_readNumber 17 ls (.ref 36 :: st) (130, az_Pf, I, L) := ap_getP rfl kn_35 pf_35_0
theorem u_X6_readNumber_17 : az_W C R k_X6_readNumber 17 (.ref a :: ls) st h ↔ az_W C R k_X6_readNumber 18 (.ref a :: ls) (.ref a :: st) h := ap_aload rfl rfl
theorem u_X6_readNumber_18 : az_W C R k_X6_readNumber 18 ls (.ref 35 :: st) (130, P, I, L) ↔ az_W C R k_X6_readNumber 21 ls (.int (I 35 6) :: st) (130, P, I, L) := ap_getI rfl kn_35
theorem u_X6_readNumber_21 (hk : (az_kn 130 a).1 = 1) : az_W C R k_X6_readNumber 21 ls (.int x :: .ref a :: st) (130, P, I, L) ↔ (az_in x (az_kn 130 a).2 ∧ az_W C R k_X6_readNumber 22 ls (.int (I a x.toNatClampNeg) :: st) (130, P, I, L)) := ap_iald rfl (az_k1 hk)
theorem u_X6_readNumber_22 : az_W C R k_X6_readNumber 22 ls st h ↔ az_W C R k_X6_readNumber 24 ls (.int 48 :: st) h := ap_const rfl
theorem u_X6_readNumber_24 : az_W C R k_X6_readNumber 24 ls st h ↔ az_W C R k_X6_readNumber 26 ls (.int 57 :: st) h := ap_const rfl
theorem u_X6_readNumber_26 (hl : st.length ≤ 4) : az_W C R k_X6_readNumber 26 ls (v3 :: v2 :: v1 :: st) h ↔ az_F C R (az_W C R k_X6_readNumber) h (az_cl 129 [v1, v2, v3] 29 ls st) := ap_ivs rfl rfl hl
theorem u_X6_readNumber_29 : az_W C R k_X6_readNumber 29 ls (.int x :: st) h ↔ if x = 0 then az_W C R k_X6_readNumber 68 ls st h else az_W C R k_X6_readNumber 32 ls st h := ap_ifeq rfl
theorem u_X6_readNumber_32 : az_W C R k_X6_readNumber 32 (v0 :: .int x :: ls) st h ↔ az_W C R k_X6_readNumber 33 (v0 :: .int x :: ls) (.int x :: st) h := ap_iload rfl rfl
theorem u_X6_readNumber_33 : az_W C R k_X6_readNumber 33 ls st h ↔ az_W C R k_X6_readNumber 35 ls (.int 10 :: st) h := ap_const rfl
theorem u_X6_readNumber_35 : az_W C R k_X6_readNumber 35 ls (.int y :: .int x :: st) h ↔ az_W C R k_X6_readNumber 36 ls (.int (x * y) :: st) h := ap_ii (f := fun x y => x * y) rfl
theorem u_X6_readNumber_36 : az_W C R k_X6_readNumber 36 (.ref a :: ls) st h ↔ az_W C R k_X6_readNumber 37 (.ref a :: ls) (.ref a :: st) h := ap_aload rfl rfl
theorem u_X6_readNumber_37 : az_W C R k_X6_readNumber 37 ls (.ref 35 :: st) (130, az_Pf, I, L) ↔ az_W C R k_X6_readNumber 40 ls (.ref 36 :: st) (130, az_Pf, I, L) := ap_getP rfl kn_35 pf_35_0
theorem u_X6_readNumber_40 : az_W C R k_X6_readNumber 40 (.ref a :: ls) st h ↔ az_W C R k_X6_readNumber 41 (.ref a :: ls) (.ref a :: st) h := ap_aload rfl rfl
theorem u_X6_readNumber_41 : az_W C R k_X6_readNumber 41 ls (.ref 35 :: st) (130, P, I, L) ↔ az_W C R k_X6_readNumber 44 ls (.int (I 35 6) :: st) (130, P, I, L) := ap_getI rfl kn_35
theorem u_X6_readNumber_44 (hk : (az_kn 130 a).1 = 1) : az_W C R k_X6_readNumber 44 ls (.int x :: .ref a :: st) (130, P, I, L) ↔ (az_in x (az_kn 130 a).2 ∧ az_W C R k_X6_readNumber 45 ls (.int (I a x.toNatClampNeg) :: st) (130, P, I, L)) := ap_iald rfl (az_k1 hk)
theorem u_X6_readNumber_45 : az_W C R k_X6_readNumber 45 ls (.int y :: .int x :: st) h ↔ az_W C R k_X6_readNumber 46 ls (.int (x + y) :: st) h := ap_ii (f := fun x y => x + y) rfl
theorem u_X6_readNumber_46 : az_W C R k_X6_readNumber 46 ls st h ↔ az_W C R k_X6_readNumber 48 ls (.int 48 :: st) h := ap_const rfl
theorem u_X6_readNumber_48 : az_W C R k_X6_readNumber 48 ls (.int y :: .int x :: st) h ↔ az_W C R k_X6_readNumber 49 ls (.int (x - y) :: st) h := ap_ii (f := fun x y => x - y) rfl
theorem u_X6_readNumber_49 : az_W C R k_X6_readNumber 49 ls st h ↔ az_W C R k_X6_readNumber 51 ls (.int 100 :: st) h := ap_const rfl
theorem u_X6_readNumber_51 (hl : st.length ≤ 4) : az_W C R k_X6_readNumber 51 ls (.int y :: .int x :: st) h ↔ az_W C R k_X6_readNumber 54 ls (.int (if y < x then y else x) :: st) h := ap_iim (f := fun x y => if y < x then y else x) rfl hl
theorem u_X6_readNumber_54 : az_W C R k_X6_readNumber 54 (v0 :: v1 :: ls) (.int x :: st) h ↔ az_W C R k_X6_readNumber 55 (az_un v0 :: .int x :: ls) st h := ap_istore rfl rfl
theorem u_X6_readNumber_55 : az_W C R k_X6_readNumber 55 (.ref a :: ls) st h ↔ az_W C R k_X6_readNumber 56 (.ref a :: ls) (.ref a :: st) h := ap_aload rfl rfl
theorem u_X6_readNumber_56 : az_W C R k_X6_readNumber 56 ls (.int x :: st) h ↔ az_W C R k_X6_readNumber 57 ls (.int x :: .int x :: st) h := ap_dupi rfl
theorem u_X6_readNumber_56r : az_W C R k_X6_readNumber 56 ls (.ref a :: st) h ↔ az_W C R k_X6_readNumber 57 ls (.ref a :: .ref a :: st) h := ap_dupr rfl
theorem u_X6_readNumber_57 : az_W C R k_X6_readNumber 57 ls (.ref 35 :: st) (130, P, I, L) ↔ az_W C R k_X6_readNumber 60 ls (.int (I 35 6) :: st) (130, P, I, L) := ap_getI rfl kn_35
theorem u_X6_readNumber_60 : az_W C R k_X6_readNumber 60 ls st h ↔ az_W C R k_X6_readNumber 61 ls (.int 1 :: st) h := ap_const rfl
theorem u_X6_readNumber_61 : az_W C R k_X6_readNumber 61 ls (.int y :: .int x :: st) h ↔ az_W C R k_X6_readNumber 62 ls (.int (x + y) :: st) h := ap_ii (f := fun x y => x + y) rfl
theorem u_X6_readNumber_62 : az_W C R k_X6_readNumber 62 ls (.int x :: .ref 35 :: st) (130, P, I, L) ↔ az_W C R k_X6_readNumber 65 ls st (130, P, az_uI I 35 6 x, L) := ap_putI rfl kn_35
theorem u_X6_readNumber_65 : az_W C R k_X6_readNumber 65 ls st h ↔ az_W C R k_X6_readNumber 2 ls st h := ap_goto rfl
theorem u_X6_readNumber_68 : az_W C R k_X6_readNumber 68 (v0 :: .int x :: ls) st h ↔ az_W C R k_X6_readNumber 69 (v0 :: .int x :: ls) (.int x :: st) h := ap_iload rfl rfl
theorem u_X6_readNumber_69 : az_W C R k_X6_readNumber 69 ls [.int x] h ↔ R (some (.int x)) h := ap_iret rfl
def k_X6_skipBlanks : Nat → az_P := (az_br 20 (az_br 11 (az_br 4 (az_br 1 (az_lf 0 (az_aload 0 1)) (az_lf 1 (az_getI 6 6 4))) (az_br 5 (az_lf 4 (az_aload 0 5)) (az_br 8 (az_lf 5 (az_getI 6 1 8)) (az_lf 8 (az_icge 38 11))))) (az_br 15 (az_br 12 (az_lf 11 (az_aload 0 12)) (az_lf 12 (az_getP 6 0 15))) (az_br 16 (az_lf 15 (az_aload 0 16)) (az_br 19 (az_lf 16 (az_getI 6 6 19)) (az_lf 19 (az_iald 20)))))) (az_br 30 (az_br 25 (az_br 22 (az_lf 20 (az_const (.int 32) 22)) (az_lf 22 (az_icne 38 25))) (az_br 26 (az_lf 25 (az_aload 0 26)) (az_br 27 (az_lf 26 (az_dup 27)) (az_lf 27 (az_getI 6 6 30))))) (az_br 32 (az_br 31 (az_lf 30 (az_const (.int 1) 31)) (az_lf 31 (az_ii (fun x y => x + y) 32))) (az_br 35 (az_lf 32 (az_putI 6 6 35)) (az_br 38 (az_lf 35 (az_goto 0)) (az_lf 38 (az_ret)))))))
theorem u_X6_skipBlanks_0 : az_W C R k_X6_skipBlanks 0 (.ref a :: ls) st h ↔ az_W C R k_X6_skipBlanks 1 (.ref a :: ls) (.ref a :: st) h := ap_aload rfl rfl
theorem u_X6_skipBlanks_1 : az_W C R k_X6_skipBlanks 1 ls (.ref 35 :: st) (130, P, I, L) ↔ az_W C R k_X6_skipBlanks 4 ls (.int (I 35 6) :: st) (130, P, I, L) := ap_getI rfl kn_35
theorem u_X6_skipBlanks_4 : az_W C R k_X6_skipBlanks 4 (.ref a :: ls) st h ↔ az_W C R k_X6_skipBlanks 5 (.ref a :: ls) (.ref a :: st) h := ap_aload rfl rfl
theorem u_X6_skipBlanks_5 : az_W C R k_X6_skipBlanks 5 ls (.ref 35 :: st) (130, P, I, L) ↔ az_W C R k_X6_skipBlanks 8 ls (.int (I 35 1) :: st) (130, P, I, L) := ap_getI rfl kn_35
theorem u_X6_skipBlanks_8 : az_W C R k_X6_skipBlanks 8 ls (.int y :: .int x :: st) h ↔ if y ≤ x then az_W C R k_X6_skipBlanks 38 ls st h else az_W C R k_X6_skipBlanks 11 ls st h := ap_icge rfl
theorem u_X6_skipBlanks_11 : az_W C R k_X6_skipBlanks 11 (.ref a :: ls) st h ↔ az_W C R k_X6_skipBlanks 12 (.ref a :: ls) (.ref a :: st) h := ap_aload rfl rfl
theorem u_X6_skipBlanks_12 : az_W C R k_X6_skipBlanks 12 ls (.ref 35 :: st) (130, az_Pf, I, L) ↔ az_W C R k_X6_skipBlanks 15 ls (.ref 36 :: st) (130, az_Pf, I, L) := ap_getP rfl kn_35 pf_35_0
theorem u_X6_skipBlanks_15 : az_W C R k_X6_skipBlanks 15 (.ref a :: ls) st h ↔ az_W C R k_X6_skipBlanks 16 (.ref a :: ls) (.ref a :: st) h := ap_aload rfl rfl
theorem u_X6_skipBlanks_16 : az_W C R k_X6_skipBlanks 16 ls (.ref 35 :: st) (130, P, I, L) ↔ az_W C R k_X6_skipBlanks 19 ls (.int (I 35 6) :: st) (130, P, I, L) := ap_getI rfl kn_35
theorem u_X6_skipBlanks_19 (hk : (az_kn 130 a).1 = 1) : az_W C R k_X6_skipBlanks 19 ls (.int x :: .ref a :: st) (130, P, I, L) ↔ (az_in x (az_kn 130 a).2 ∧ az_W C R k_X6_skipBlanks 20 ls (.int (I a x.toNatClampNeg) :: st) (130, P, I, L)) := ap_iald rfl (az_k1 hk)
theorem u_X6_skipBlanks_20 : az_W C R k_X6_skipBlanks 20 ls st h ↔ az_W C R k_X6_skipBlanks 22 ls (.int 32 :: st) h := ap_const rfl
theorem u_X6_skipBlanks_22 : az_W C R k_X6_skipBlanks 22 ls (.int y :: .int x :: st) h ↔ if x = y then az_W C R k_X6_skipBlanks 25 ls st h else az_W C R k_X6_skipBlanks 38 ls st h := ap_icne rfl
theorem u_X6_skipBlanks_25 : az_W C R k_X6_skipBlanks 25 (.ref a :: ls) st h ↔ az_W C R k_X6_skipBlanks 26 (.ref a :: ls) (.ref a :: st) h := ap_aload rfl rfl
theorem u_X6_skipBlanks_26 : az_W C R k_X6_skipBlanks 26 ls (.int x :: st) h ↔ az_W C R k_X6_skipBlanks 27 ls (.int x :: .int x :: st) h := ap_dupi rfl
theorem u_X6_skipBlanks_26r : az_W C R k_X6_skipBlanks 26 ls (.ref a :: st) h ↔ az_W C R k_X6_skipBlanks 27 ls (.ref a :: .ref a :: st) h := ap_dupr rfl
theorem u_X6_skipBlanks_27 : az_W C R k_X6_skipBlanks 27 ls (.ref 35 :: st) (130, P, I, L) ↔ az_W C R k_X6_skipBlanks 30 ls (.int (I 35 6) :: st) (130, P, I, L) := ap_getI rfl kn_35
theorem u_X6_skipBlanks_30 : az_W C R k_X6_skipBlanks 30 ls st h ↔ az_W C R k_X6_skipBlanks 31 ls (.int 1 :: st) h := ap_const rfl
theorem u_X6_skipBlanks_31 : az_W C R k_X6_skipBlanks 31 ls (.int y :: .int x :: st) h ↔ az_W C R k_X6_skipBlanks 32 ls (.int (x + y) :: st) h := ap_ii (f := fun x y => x + y) rfl
theorem u_X6_skipBlanks_32 : az_W C R k_X6_skipBlanks 32 ls (.int x :: .ref 35 :: st) (130, P, I, L) ↔ az_W C R k_X6_skipBlanks 35 ls st (130, P, az_uI I 35 6 x, L) := ap_putI rfl kn_35
theorem u_X6_skipBlanks_35 : az_W C R k_X6_skipBlanks 35 ls st h ↔ az_W C R k_X6_skipBlanks 0 ls st h := ap_goto rfl
theorem u_X6_skipBlanks_38 : az_W C R k_X6_skipBlanks 38 ls [] h ↔ R none h := ap_ret rfl
end
