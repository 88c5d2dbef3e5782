section
variable {C : az_C} {R : az_R} {ls st : List Value} {h : az_H} {n : Nat} {P : Nat → Nat → Option Nat} {I : Nat → Nat → Int32} {L : Nat → Nat → Int64}
variable {v0 v1 v2 v3 v4 v5 v6 v7 v8 v9 v10 v11 v12 : Value} {x y z : Int32} {p q : Int64} {a b : Nat} {M : Nat} {xs : Nat → Int32}
def k_X10_init : Nat → az_P := (az_br 67 (az_br 31 (az_br 15 (az_br 5 (az_br 1 (az_lf 0 (az_aload 0 1)) (az_br 4 (az_lf 1 (az_oin 4)) (az_lf 4 (az_aload 0 5)))) (az_br 9 (az_br 8 (az_lf 5 (az_new 5 8)) (az_lf 8 (az_dup 9))) (az_br 12 (az_lf 9 (az_ivi 43 12)) (az_lf 12 (az_putP 10 0 15))))) (az_br 23 (az_br 17 (az_br 16 (az_lf 15 (az_aload 0 16)) (az_lf 16 (az_aload 0 17))) (az_br 20 (az_lf 17 (az_getP 10 0 20)) (az_lf 20 (az_getP 5 0 23)))) (az_br 27 (az_br 26 (az_lf 23 (az_putP 10 1 26)) (az_lf 26 (az_aload 0 27))) (az_br 28 (az_lf 27 (az_aload 0 28)) (az_lf 28 (az_getP 10 0 31)))))) (az_br 49 (az_br 41 (az_br 37 (az_br 34 (az_lf 31 (az_getP 5 1 34)) (az_lf 34 (az_putP 10 2 37))) (az_br 38 (az_lf 37 (az_aload 0 38)) (az_lf 38 (az_new 0 41)))) (az_br 45 (az_br 42 (az_lf 41 (az_dup 42)) (az_lf 42 (az_ivi 0 45))) (az_br 48 (az_lf 45 (az_putP 10 3 48)) (az_lf 48 (az_aload 0 49))))) (az_br 59 (az_br 53 (az_br 52 (az_lf 49 (az_new 3 52)) (az_lf 52 (az_dup 53))) (az_br 56 (az_lf 53 (az_ivi 26 56)) (az_lf 56 (az_putP 10 4 59)))) (az_br 63 (az_br 60 (az_lf 59 (az_aload 0 60)) (az_lf 60 (az_new 7 63))) (az_br 64 (az_lf 63 (az_dup 64)) (az_lf 64 (az_ivi 66 67))))))) (az_br 100 (az_br 82 (az_br 74 (az_br 70 (az_lf 67 (az_putP 10 5 70)) (az_br 71 (az_lf 70 (az_aload 0 71)) (az_lf 71 (az_new 9 74)))) (az_br 78 (az_br 75 (az_lf 74 (az_dup 75)) (az_lf 75 (az_ivi 80 78))) (az_br 81 (az_lf 78 (az_putP 10 6 81)) (az_lf 81 (az_aload 0 82))))) (az_br 92 (az_br 86 (az_br 85 (az_lf 82 (az_new 1 85)) (az_lf 85 (az_dup 86))) (az_br 89 (az_lf 86 (az_ivi 13 89)) (az_lf 89 (az_putP 10 7 92)))) (az_br 96 (az_br 93 (az_lf 92 (az_aload 0 93)) (az_lf 93 (az_new 8 96))) (az_br 97 (az_lf 96 (az_dup 97)) (az_lf 97 (az_ivi 72 100)))))) (az_br 118 (az_br 108 (az_br 104 (az_br 103 (az_lf 100 (az_putP 10 8 103)) (az_lf 103 (az_aload 0 104))) (az_br 107 (az_lf 104 (az_new 2 107)) (az_lf 107 (az_dup 108)))) (az_br 114 (az_br 111 (az_lf 108 (az_ivi 18 111)) (az_lf 111 (az_putP 10 9 114))) (az_br 115 (az_lf 114 (az_aload 0 115)) (az_lf 115 (az_new 2 118))))) (az_br 126 (az_br 122 (az_br 119 (az_lf 118 (az_dup 119)) (az_lf 119 (az_ivi 18 122))) (az_br 125 (az_lf 122 (az_putP 10 10 125)) (az_lf 125 (az_aload 0 126)))) (az_br 130 (az_br 128 (az_lf 126 (az_const (.int 8) 128)) (az_lf 128 (az_newa 1 130))) (az_br 133 (az_lf 130 (az_putP 10 11 133)) (az_lf 133 (az_ret))))))))
theorem u_X10_init_0 : az_W C R k_X10_init 0 (.ref a :: ls) st h ↔ az_W C R k_X10_init 1 (.ref a :: ls) (.ref a :: st) h := ap_aload rfl rfl
theorem u_X10_init_1 (hl : st.length ≤ 4) : az_W C R k_X10_init 1 ls (.ref a :: st) h ↔ az_W C R k_X10_init 4 ls st h := ap_oin rfl hl
theorem u_X10_init_4 : az_W C R k_X10_init 4 (.ref a :: ls) st h ↔ az_W C R k_X10_init 5 (.ref a :: ls) (.ref a :: st) h := ap_aload rfl rfl
theorem u_X10_init_5 : az_W C R k_X10_init 5 ls st (1, P, I, L) ↔ az_W C R k_X10_init 8 ls (.ref 1 :: st) (2, P, I, L) := ap_new rfl rfl
theorem u_X10_init_8 : az_W C R k_X10_init 8 ls (.int x :: st) h ↔ az_W C R k_X10_init 9 ls (.int x :: .int x :: st) h := ap_dupi rfl
theorem u_X10_init_8r : az_W C R k_X10_init 8 ls (.ref a :: st) h ↔ az_W C R k_X10_init 9 ls (.ref a :: .ref a :: st) h := ap_dupr rfl
theorem u_X10_init_9 (hl : st.length ≤ 4) : az_W C R k_X10_init 9 ls (.ref a :: st) h ↔ az_F C R (az_W C R k_X10_init) h (az_cl 43 [.ref a] 12 ls st) := ap_ivi rfl hl
theorem u_X10_init_12 (hk : az_kn n a = (0, 10)) : az_W C R k_X10_init 12 ls (.ref b :: .ref a :: st) (n, P, I, L) ↔ az_W C R k_X10_init 15 ls st (n, az_uP P a 0 (some b), I, L) := ap_putP rfl hk
theorem u_X10_init_15 : az_W C R k_X10_init 15 (.ref a :: ls) st h ↔ az_W C R k_X10_init 16 (.ref a :: ls) (.ref a :: st) h := ap_aload rfl rfl
theorem u_X10_init_16 : az_W C R k_X10_init 16 (.ref a :: ls) st h ↔ az_W C R k_X10_init 17 (.ref a :: ls) (.ref a :: st) h := ap_aload rfl rfl
theorem u_X10_init_17 (hk : az_kn n a = (0, 10)) (hp : P a 0 = some b) : az_W C R k_X10_init 17 ls (.ref a :: st) (n, P, I, L) ↔ az_W C R k_X10_init 20 ls (.ref b :: st) (n, P, I, L) := ap_getP rfl hk hp
theorem u_X10_init_20 (hk : az_kn n a = (0, 5)) (hp : P a 0 = some b) : az_W C R k_X10_init 20 ls (.ref a :: st) (n, P, I, L) ↔ az_W C R k_X10_init 23 ls (.ref b :: st) (n, P, I, L) := ap_getP rfl hk hp
theorem u_X10_init_23 (hk : az_kn n a = (0, 10)) : az_W C R k_X10_init 23 ls (.ref b :: .ref a :: st) (n, P, I, L) ↔ az_W C R k_X10_init 26 ls st (n, az_uP P a 1 (some b), I, L) := ap_putP rfl hk
theorem u_X10_init_26 : az_W C R k_X10_init 26 (.ref a :: ls) st h ↔ az_W C R k_X10_init 27 (.ref a :: ls) (.ref a :: st) h := ap_aload rfl rfl
theorem u_X10_init_27 : az_W C R k_X10_init 27 (.ref a :: ls) st h ↔ az_W C R k_X10_init 28 (.ref a :: ls) (.ref a :: st) h := ap_aload rfl rfl
theorem u_X10_init_28 (hk : az_kn n a = (0, 10)) (hp : P a 0 = some b) : az_W C R k_X10_init 28 ls (.ref a :: st) (n, P, I, L) ↔ az_W C R k_X10_init 31 ls (.ref b :: st) (n, P, I, L) := ap_getP rfl hk hp
theorem u_X10_init_31 (hk : az_kn n a = (0, 5)) (hp : P a 1 = some b) : az_W C R k_X10_init 31 ls (.ref a :: st) (n, P, I, L) ↔ az_W C R k_X10_init 34 ls (.ref b :: st) (n, P, I, L) := ap_getP rfl hk hp
theorem u_X10_init_34 (hk : az_kn n a = (0, 10)) : az_W C R k_X10_init 34 ls (.ref b :: .ref a :: st) (n, P, I, L) ↔ az_W C R k_X10_init 37 ls st (n, az_uP P a 2 (some b), I, L) := ap_putP rfl hk
theorem u_X10_init_37 : az_W C R k_X10_init 37 (.ref a :: ls) st h ↔ az_W C R k_X10_init 38 (.ref a :: ls) (.ref a :: st) h := ap_aload rfl rfl
theorem u_X10_init_38 : az_W C R k_X10_init 38 ls st (49, P, I, L) ↔ az_W C R k_X10_init 41 ls (.ref 49 :: st) (50, P, I, L) := ap_new rfl rfl
theorem u_X10_init_41 : az_W C R k_X10_init 41 ls (.int x :: st) h ↔ az_W C R k_X10_init 42 ls (.int x :: .int x :: st) h := ap_dupi rfl
theorem u_X10_init_41r : az_W C R k_X10_init 41 ls (.ref a :: st) h ↔ az_W C R k_X10_init 42 ls (.ref a :: .ref a :: st) h := ap_dupr rfl
theorem u_X10_init_42 (hl : st.length ≤ 4) : az_W C R k_X10_init 42 ls (.ref a :: st) h ↔ az_F C R (az_W C R k_X10_init) h (az_cl 0 [.ref a] 45 ls st) := ap_ivi rfl hl
theorem u_X10_init_45 (hk : az_kn n a = (0, 10)) : az_W C R k_X10_init 45 ls (.ref b :: .ref a :: st) (n, P, I, L) ↔ az_W C R k_X10_init 48 ls st (n, az_uP P a 3 (some b), I, L) := ap_putP rfl hk
theorem u_X10_init_48 : az_W C R k_X10_init 48 (.ref a :: ls) st h ↔ az_W C R k_X10_init 49 (.ref a :: ls) (.ref a :: st) h := ap_aload rfl rfl
theorem u_X10_init_49 : az_W C R k_X10_init 49 ls st (56, P, I, L) ↔ az_W C R k_X10_init 52 ls (.ref 56 :: st) (57, P, I, L) := ap_new rfl rfl
theorem u_X10_init_52 : az_W C R k_X10_init 52 ls (.int x :: st) h ↔ az_W C R k_X10_init 53 ls (.int x :: .int x :: st) h := ap_dupi rfl
theorem u_X10_init_52r : az_W C R k_X10_init 52 ls (.ref a :: st) h ↔ az_W C R k_X10_init 53 ls (.ref a :: .ref a :: st) h := ap_dupr rfl
theorem u_X10_init_53 (hl : st.length ≤ 4) : az_W C R k_X10_init 53 ls (.ref a :: st) h ↔ az_F C R (az_W C R k_X10_init) h (az_cl 26 [.ref a] 56 ls st) := ap_ivi rfl hl
theorem u_X10_init_56 (hk : az_kn n a = (0, 10)) : az_W C R k_X10_init 56 ls (.ref b :: .ref a :: st) (n, P, I, L) ↔ az_W C R k_X10_init 59 ls st (n, az_uP P a 4 (some b), I, L) := ap_putP rfl hk
theorem u_X10_init_59 : az_W C R k_X10_init 59 (.ref a :: ls) st h ↔ az_W C R k_X10_init 60 (.ref a :: ls) (.ref a :: st) h := ap_aload rfl rfl
theorem u_X10_init_60 : az_W C R k_X10_init 60 ls st (60, P, I, L) ↔ az_W C R k_X10_init 63 ls (.ref 60 :: st) (61, P, I, L) := ap_new rfl rfl
theorem u_X10_init_63 : az_W C R k_X10_init 63 ls (.int x :: st) h ↔ az_W C R k_X10_init 64 ls (.int x :: .int x :: st) h := ap_dupi rfl
theorem u_X10_init_63r : az_W C R k_X10_init 63 ls (.ref a :: st) h ↔ az_W C R k_X10_init 64 ls (.ref a :: .ref a :: st) h := ap_dupr rfl
theorem u_X10_init_64 (hl : st.length ≤ 4) : az_W C R k_X10_init 64 ls (.ref a :: st) h ↔ az_F C R (az_W C R k_X10_init) h (az_cl 66 [.ref a] 67 ls st) := ap_ivi rfl hl
theorem u_X10_init_67 (hk : az_kn n a = (0, 10)) : az_W C R k_X10_init 67 ls (.ref b :: .ref a :: st) (n, P, I, L) ↔ az_W C R k_X10_init 70 ls st (n, az_uP P a 5 (some b), I, L) := ap_putP rfl hk
theorem u_X10_init_70 : az_W C R k_X10_init 70 (.ref a :: ls) st h ↔ az_W C R k_X10_init 71 (.ref a :: ls) (.ref a :: st) h := ap_aload rfl rfl
theorem u_X10_init_71 : az_W C R k_X10_init 71 ls st (63, P, I, L) ↔ az_W C R k_X10_init 74 ls (.ref 63 :: st) (64, P, I, L) := ap_new rfl rfl
theorem u_X10_init_74 : az_W C R k_X10_init 74 ls (.int x :: st) h ↔ az_W C R k_X10_init 75 ls (.int x :: .int x :: st) h := ap_dupi rfl
theorem u_X10_init_74r : az_W C R k_X10_init 74 ls (.ref a :: st) h ↔ az_W C R k_X10_init 75 ls (.ref a :: .ref a :: st) h := ap_dupr rfl
theorem u_X10_init_75 (hl : st.length ≤ 4) : az_W C R k_X10_init 75 ls (.ref a :: st) h ↔ az_F C R (az_W C R k_X10_init) h (az_cl 80 [.ref a] 78 ls st) := ap_ivi rfl hl
theorem u_X10_init_78 (hk : az_kn n a = (0, 10)) : az_W C R k_X10_init 78 ls (.ref b :: .ref a :: st) (n, P, I, L) ↔ az_W C R k_X10_init 81 ls st (n, az_uP P a 6 (some b), I, L) := ap_putP rfl hk
theorem u_X10_init_81 : az_W C R k_X10_init 81 (.ref a :: ls) st h ↔ az_W C R k_X10_init 82 (.ref a :: ls) (.ref a :: st) h := ap_aload rfl rfl
theorem u_X10_init_82 : az_W C R k_X10_init 82 ls st (71, P, I, L) ↔ az_W C R k_X10_init 85 ls (.ref 71 :: st) (72, P, I, L) := ap_new rfl rfl
theorem u_X10_init_85 : az_W C R k_X10_init 85 ls (.int x :: st) h ↔ az_W C R k_X10_init 86 ls (.int x :: .int x :: st) h := ap_dupi rfl
theorem u_X10_init_85r : az_W C R k_X10_init 85 ls (.ref a :: st) h ↔ az_W C R k_X10_init 86 ls (.ref a :: .ref a :: st) h := ap_dupr rfl
theorem u_X10_init_86 (hl : st.length ≤ 4) : az_W C R k_X10_init 86 ls (.ref a :: st) h ↔ az_F C R (az_W C R k_X10_init) h (az_cl 13 [.ref a] 89 ls st) := ap_ivi rfl hl
theorem u_X10_init_89 (hk : az_kn n a = (0, 10)) : az_W C R k_X10_init 89 ls (.ref b :: .ref a :: st) (n, P, I, L) ↔ az_W C R k_X10_init 92 ls st (n, az_uP P a 7 (some b), I, L) := ap_putP rfl hk
theorem u_X10_init_92 : az_W C R k_X10_init 92 (.ref a :: ls) st h ↔ az_W C R k_X10_init 93 (.ref a :: ls) (.ref a :: st) h := ap_aload rfl rfl
theorem u_X10_init_93 : az_W C R k_X10_init 93 ls st (86, P, I, L) ↔ az_W C R k_X10_init 96 ls (.ref 86 :: st) (87, P, I, L) := ap_new rfl rfl
theorem u_X10_init_96 : az_W C R k_X10_init 96 ls (.int x :: st) h ↔ az_W C R k_X10_init 97 ls (.int x :: .int x :: st) h := ap_dupi rfl
theorem u_X10_init_96r : az_W C R k_X10_init 96 ls (.ref a :: st) h ↔ az_W C R k_X10_init 97 ls (.ref a :: .ref a :: st) h := ap_dupr rfl
theorem u_X10_init_97 (hl : st.length ≤ 4) : az_W C R k_X10_init 97 ls (.ref a :: st) h ↔ az_F C R (az_W C R k_X10_init) h (az_cl 72 [.ref a] 100 ls st) := ap_ivi rfl hl
theorem u_X10_init_100 (hk : az_kn n a = (0, 10)) : az_W C R k_X10_init 100 ls (.ref b :: .ref a :: st) (n, P, I, L) ↔ az_W C R k_X10_init 103 ls st (n, az_uP P a 8 (some b), I, L) := ap_putP rfl hk
theorem u_X10_init_103 : az_W C R k_X10_init 103 (.ref a :: ls) st h ↔ az_W C R k_X10_init 104 (.ref a :: ls) (.ref a :: st) h := ap_aload rfl rfl
theorem u_X10_init_104 : az_W C R k_X10_init 104 ls st (94, P, I, L) ↔ az_W C R k_X10_init 107 ls (.ref 94 :: st) (95, P, I, L) := ap_new rfl rfl
theorem u_X10_init_107 : az_W C R k_X10_init 107 ls (.int x :: st) h ↔ az_W C R k_X10_init 108 ls (.int x :: .int x :: st) h := ap_dupi rfl
theorem u_X10_init_107r : az_W C R k_X10_init 107 ls (.ref a :: st) h ↔ az_W C R k_X10_init 108 ls (.ref a :: .ref a :: st) h := ap_dupr rfl
theorem u_X10_init_108 (hl : st.length ≤ 4) : az_W C R k_X10_init 108 ls (.ref a :: st) h ↔ az_F C R (az_W C R k_X10_init) h (az_cl 18 [.ref a] 111 ls st) := ap_ivi rfl hl
theorem u_X10_init_111 (hk : az_kn n a = (0, 10)) : az_W C R k_X10_init 111 ls (.ref b :: .ref a :: st) (n, P, I, L) ↔ az_W C R k_X10_init 114 ls st (n, az_uP P a 9 (some b), I, L) := ap_putP rfl hk
theorem u_X10_init_114 : az_W C R k_X10_init 114 (.ref a :: ls) st h ↔ az_W C R k_X10_init 115 (.ref a :: ls) (.ref a :: st) h := ap_aload rfl rfl
theorem u_X10_init_115 : az_W C R k_X10_init 115 ls st (95, P, I, L) ↔ az_W C R k_X10_init 118 ls (.ref 95 :: st) (96, P, I, L) := ap_new rfl rfl
theorem u_X10_init_118 : az_W C R k_X10_init 118 ls (.int x :: st) h ↔ az_W C R k_X10_init 119 ls (.int x :: .int x :: st) h := ap_dupi rfl
theorem u_X10_init_118r : az_W C R k_X10_init 118 ls (.ref a :: st) h ↔ az_W C R k_X10_init 119 ls (.ref a :: .ref a :: st) h := ap_dupr rfl
theorem u_X10_init_119 (hl : st.length ≤ 4) : az_W C R k_X10_init 119 ls (.ref a :: st) h ↔ az_F C R (az_W C R k_X10_init) h (az_cl 18 [.ref a] 122 ls st) := ap_ivi rfl hl
theorem u_X10_init_122 (hk : az_kn n a = (0, 10)) : az_W C R k_X10_init 122 ls (.ref b :: .ref a :: st) (n, P, I, L) ↔ az_W C R k_X10_init 125 ls st (n, az_uP P a 10 (some b), I, L) := ap_putP rfl hk
theorem u_X10_init_125 : az_W C R k_X10_init 125 (.ref a :: ls) st h ↔ az_W C R k_X10_init 126 (.ref a :: ls) (.ref a :: st) h := ap_aload rfl rfl
theorem u_X10_init_126 : az_W C R k_X10_init 126 ls st h ↔ az_W C R k_X10_init 128 ls (.int 8 :: st) h := ap_const rfl
theorem u_X10_init_128 : az_W C R k_X10_init 128 ls (.int 8 :: st) (96, P, I, L) ↔ az_W C R k_X10_init 130 ls (.ref 96 :: st) (97, P, I, L) := ap_newa rfl (by decide +kernel)
theorem u_X10_init_130 (hk : az_kn n a = (0, 10)) : az_W C R k_X10_init 130 ls (.ref b :: .ref a :: st) (n, P, I, L) ↔ az_W C R k_X10_init 133 ls st (n, az_uP P a 11 (some b), I, L) := ap_putP rfl hk
theorem u_X10_init_133 : az_W C R k_X10_init 133 ls [] h ↔ R none h := ap_ret rfl
def k_X10_say : Nat → az_P := (az_br 25 (az_br 14 (az_br 7 (az_br 1 (az_lf 0 (az_iload 1 1)) (az_br 4 (az_lf 1 (az_ivs 131 1 4)) (az_lf 4 (az_ifeq 21 7)))) (az_br 8 (az_lf 7 (az_iload 2 8)) (az_br 11 (az_lf 8 (az_ivs 132 1 11)) (az_lf 11 (az_ifeq 21 14))))) (az_br 21 (az_br 15 (az_lf 14 (az_iload 3 15)) (az_br 18 (az_lf 15 (az_ivs 133 1 18)) (az_lf 18 (az_ifne 24 21)))) (az_br 23 (az_lf 21 (az_const (.int (-11)) 23)) (az_br 24 (az_lf 23 (az_iret)) (az_lf 24 (az_aload 0 25)))))) (az_br 36 (az_br 30 (az_br 28 (az_lf 25 (az_getP 10 1 28)) (az_br 29 (az_lf 28 (az_iload 1 29)) (az_lf 29 (az_iload 2 30)))) (az_br 33 (az_lf 30 (az_ivv 35 2 4 33)) (az_br 35 (az_lf 33 (az_istore 4 35)) (az_lf 35 (az_aload 0 36))))) (az_br 41 (az_br 39 (az_lf 36 (az_getP 10 1 39)) (az_br 40 (az_lf 39 (az_iload 1 40)) (az_lf 40 (az_iload 2 41)))) (az_br 45 (az_br 42 (az_lf 41 (az_iload 3 42)) (az_lf 42 (az_ivv 36 3 4 45))) (az_br 47 (az_lf 45 (az_iload 4 47)) (az_lf 47 (az_iret)))))))
theorem u_X10_say_0 : az_W C R k_X10_say 0 (v0 :: .int x :: ls) st h ↔ az_W C R k_X10_say 1 (v0 :: .int x :: ls) (.int x :: st) h := ap_iload rfl rfl
theorem u_X10_say_1 (hl : st.length ≤ 4) : az_W C R k_X10_say 1 ls (v1 :: st) h ↔ az_F C R (az_W C R k_X10_say) h (az_cl 131 [v1] 4 ls st) := ap_ivs rfl rfl hl
theorem u_X10_say_4 : az_W C R k_X10_say 4 ls (.int x :: st) h ↔ if x = 0 then az_W C R k_X10_say 21 ls st h else az_W C R k_X10_say 7 ls st h := ap_ifeq rfl
theorem u_X10_say_7 : az_W C R k_X10_say 7 (v0 :: v1 :: .int x :: ls) st h ↔ az_W C R k_X10_say 8 (v0 :: v1 :: .int x :: ls) (.int x :: st) h := ap_iload rfl rfl
theorem u_X10_say_8 (hl : st.length ≤ 4) : az_W C R k_X10_say 8 ls (v1 :: st) h ↔ az_F C R (az_W C R k_X10_say) h (az_cl 132 [v1] 11 ls st) := ap_ivs rfl rfl hl
theorem u_X10_say_11 : az_W C R k_X10_say 11 ls (.int x :: st) h ↔ if x = 0 then az_W C R k_X10_say 21 ls st h else az_W C R k_X10_say 14 ls st h := ap_ifeq rfl
theorem u_X10_say_14 : az_W C R k_X10_say 14 (v0 :: v1 :: v2 :: .int x :: ls) st h ↔ az_W C R k_X10_say 15 (v0 :: v1 :: v2 :: .int x :: ls) (.int x :: st) h := ap_iload rfl rfl
theorem u_X10_say_15 (hl : st.length ≤ 4) : az_W C R k_X10_say 15 ls (v1 :: st) h ↔ az_F C R (az_W C R k_X10_say) h (az_cl 133 [v1] 18 ls st) := ap_ivs rfl rfl hl
theorem u_X10_say_18 : az_W C R k_X10_say 18 ls (.int x :: st) h ↔ if x = 0 then az_W C R k_X10_say 21 ls st h else az_W C R k_X10_say 24 ls st h := ap_ifne rfl
theorem u_X10_say_21 : az_W C R k_X10_say 21 ls st h ↔ az_W C R k_X10_say 23 ls (.int (-11) :: st) h := ap_const rfl
theorem u_X10_say_23 : az_W C R k_X10_say 23 ls [.int x] h ↔ R (some (.int x)) h := ap_iret rfl
theorem u_X10_say_24 : az_W C R k_X10_say 24 (.ref a :: ls) st h ↔ az_W C R k_X10_say 25 (.ref a :: ls) (.ref a :: st) h := ap_aload rfl rfl
theorem u_X10_say_25 : az_W C R k_X10_say 25 ls (.ref 0 :: st) (130, az_Pf, I, L) ↔ az_W C R k_X10_say 28 ls (.ref 2 :: st) (130, az_Pf, I, L) := ap_getP rfl kn_0 pf_0_1
theorem u_X10_say_28 : az_W C R k_X10_say 28 (v0 :: .int x :: ls) st h ↔ az_W C R k_X10_say 29 (v0 :: .int x :: ls) (.int x :: st) h := ap_iload rfl rfl
theorem u_X10_say_29 : az_W C R k_X10_say 29 (v0 :: v1 :: .int x :: ls) st h ↔ az_W C R k_X10_say 30 (v0 :: v1 :: .int x :: ls) (.int x :: st) h := ap_iload rfl rfl
theorem u_X10_say_30 (hl : st.length ≤ 4) : az_W C R k_X10_say 30 ls (v2 :: v1 :: .ref 2 :: st) (130, P, I, L) ↔ az_F C R (az_W C R k_X10_say) (130, P, I, L) (az_cl 35 [.ref 2, v1, v2] 33 ls st) := ap_ivv rfl rfl kn_2 hl
theorem u_X10_say_33 : az_W C R k_X10_say 33 (v0 :: v1 :: v2 :: v3 :: v4 :: ls) (.int x :: st) h ↔ az_W C R k_X10_say 35 (v0 :: v1 :: v2 :: az_un v3 :: .int x :: ls) st h := ap_istore rfl rfl
theorem u_X10_say_35 : az_W C R k_X10_say 35 (.ref a :: ls) st h ↔ az_W C R k_X10_say 36 (.ref a :: ls) (.ref a :: st) h := ap_aload rfl rfl
theorem u_X10_say_36 : az_W C R k_X10_say 36 ls (.ref 0 :: st) (130, az_Pf, I, L) ↔ az_W C R k_X10_say 39 ls (.ref 2 :: st) (130, az_Pf, I, L) := ap_getP rfl kn_0 pf_0_1
theorem u_X10_say_39 : az_W C R k_X10_say 39 (v0 :: .int x :: ls) st h ↔ az_W C R k_X10_say 40 (v0 :: .int x :: ls) (.int x :: st) h := ap_iload rfl rfl
theorem u_X10_say_40 : az_W C R k_X10_say 40 (v0 :: v1 :: .int x :: ls) st h ↔ az_W C R k_X10_say 41 (v0 :: v1 :: .int x :: ls) (.int x :: st) h := ap_iload rfl rfl
theorem u_X10_say_41 : az_W C R k_X10_say 41 (v0 :: v1 :: v2 :: .int x :: ls) st h ↔ az_W C R k_X10_say 42 (v0 :: v1 :: v2 :: .int x :: ls) (.int x :: st) h := ap_iload rfl rfl
theorem u_X10_say_42 (hl : st.length ≤ 4) : az_W C R k_X10_say 42 ls (v3 :: v2 :: v1 :: .ref 2 :: st) (130, P, I, L) ↔ az_F C R (az_W C R k_X10_say) (130, P, I, L) (az_cl 36 [.ref 2, v1, v2, v3] 45 ls st) := ap_ivv rfl rfl kn_2 hl
theorem u_X10_say_45 : az_W C R k_X10_say 45 (v0 :: v1 :: v2 :: v3 :: .int x :: ls) st h ↔ az_W C R k_X10_say 47 (v0 :: v1 :: v2 :: v3 :: .int x :: ls) (.int x :: st) h := ap_iload rfl rfl
theorem u_X10_say_47 : az_W C R k_X10_say 47 ls [.int x] h ↔ R (some (.int x)) h := ap_iret rfl
def k_X10_said : Nat → az_P := (az_br 16 (az_br 7 (az_br 1 (az_lf 0 (az_iload 1 1)) (az_br 4 (az_lf 1 (az_ivs 131 1 4)) (az_lf 4 (az_ifeq 14 7)))) (az_br 11 (az_br 8 (az_lf 7 (az_iload 2 8)) (az_lf 8 (az_ivs 132 1 11))) (az_br 14 (az_lf 11 (az_ifne 17 14)) (az_lf 14 (az_const (.int (-11)) 16))))) (az_br 21 (az_br 17 (az_lf 16 (az_iret)) (az_br 18 (az_lf 17 (az_aload 0 18)) (az_lf 18 (az_getP 10 1 21)))) (az_br 23 (az_br 22 (az_lf 21 (az_iload 1 22)) (az_lf 22 (az_iload 2 23))) (az_br 26 (az_lf 23 (az_ivv 35 2 4 26)) (az_lf 26 (az_iret))))))
theorem u_X10_said_0 : az_W C R k_X10_said 0 (v0 :: .int x :: ls) st h ↔ az_W C R k_X10_said 1 (v0 :: .int x :: ls) (.int x :: st) h := ap_iload rfl rfl
theorem u_X10_said_1 (hl : st.length ≤ 4) : az_W C R k_X10_said 1 ls (v1 :: st) h ↔ az_F C R (az_W C R k_X10_said) h (az_cl 131 [v1] 4 ls st) := ap_ivs rfl rfl hl
theorem u_X10_said_4 : az_W C R k_X10_said 4 ls (.int x :: st) h ↔ if x = 0 then az_W C R k_X10_said 14 ls st h else az_W C R k_X10_said 7 ls st h := ap_ifeq rfl
theorem u_X10_said_7 : az_W C R k_X10_said 7 (v0 :: v1 :: .int x :: ls) st h ↔ az_W C R k_X10_said 8 (v0 :: v1 :: .int x :: ls) (.int x :: st) h := ap_iload rfl rfl
theorem u_X10_said_8 (hl : st.length ≤ 4) : az_W C R k_X10_said 8 ls (v1 :: st) h ↔ az_F C R (az_W C R k_X10_said) h (az_cl 132 [v1] 11 ls st) := ap_ivs rfl rfl hl
theorem u_X10_said_11 : az_W C R k_X10_said 11 ls (.int x :: st) h ↔ if x = 0 then az_W C R k_X10_said 14 ls st h else az_W C R k_X10_said 17 ls st h := ap_ifne rfl
theorem u_X10_said_14 : az_W C R k_X10_said 14 ls st h ↔ az_W C R k_X10_said 16 ls (.int (-11) :: st) h := ap_const rfl
theorem u_X10_said_16 : az_W C R k_X10_said 16 ls [.int x] h ↔ R (some (.int x)) h := ap_iret rfl
theorem u_X10_said_17 : az_W C R k_X10_said 17 (.ref a :: ls) st h ↔ az_W C R k_X10_said 18 (.ref a :: ls) (.ref a :: st) h := ap_aload rfl rfl
theorem u_X10_said_18 : az_W C R k_X10_said 18 ls (.ref 0 :: st) (130, az_Pf, I, L) ↔ az_W C R k_X10_said 21 ls (.ref 2 :: st) (130, az_Pf, I, L) := ap_getP rfl kn_0 pf_0_1
theorem u_X10_said_21 : az_W C R k_X10_said 21 (v0 :: .int x :: ls) st h ↔ az_W C R k_X10_said 22 (v0 :: .int x :: ls) (.int x :: st) h := ap_iload rfl rfl
theorem u_X10_said_22 : az_W C R k_X10_said 22 (v0 :: v1 :: .int x :: ls) st h ↔ az_W C R k_X10_said 23 (v0 :: v1 :: .int x :: ls) (.int x :: st) h := ap_iload rfl rfl
theorem u_X10_said_23 (hl : st.length ≤ 4) : az_W C R k_X10_said 23 ls (v2 :: v1 :: .ref 2 :: st) (130, P, I, L) ↔ az_F C R (az_W C R k_X10_said) (130, P, I, L) (az_cl 35 [.ref 2, v1, v2] 26 ls st) := ap_ivv rfl rfl kn_2 hl
theorem u_X10_said_26 : az_W C R k_X10_said 26 ls [.int x] h ↔ R (some (.int x)) h := ap_iret rfl
def k_X10_all : Nat → az_P := (az_br 52 (az_br 26 (az_br 13 (az_br 7 (az_br 1 (az_lf 0 (az_iload 1 1)) (az_br 4 (az_lf 1 (az_ivs 132 1 4)) (az_lf 4 (az_ifne 9 7)))) (az_br 9 (az_br 8 (az_lf 7 (az_const (.int (-1)) 8)) (az_lf 8 (az_iret))) (az_br 10 (az_lf 9 (az_aload 0 10)) (az_lf 10 (az_getP 10 8 13))))) (az_br 17 (az_br 14 (az_lf 13 (az_iload 2 14)) (az_br 15 (az_lf 14 (az_iload 3 15)) (az_lf 15 (az_iload 4 17)))) (az_br 22 (az_br 19 (az_lf 17 (az_const (.int 8) 19)) (az_lf 19 (az_ivv 74 4 8 22))) (az_br 24 (az_lf 22 (az_istore 5 24)) (az_lf 24 (az_iload 5 26)))))) (az_br 39 (az_br 32 (az_br 29 (az_lf 26 (az_ifeq 32 29)) (az_br 31 (az_lf 29 (az_iload 5 31)) (az_lf 31 (az_iret)))) (az_br 35 (az_br 33 (az_lf 32 (az_const (.int 0) 33)) (az_lf 33 (az_istore 6 35))) (az_br 37 (az_lf 35 (az_iload 6 37)) (az_lf 37 (az_const (.int 8) 39))))) (az_br 46 (az_br 42 (az_lf 39 (az_icge 70 42)) (az_br 43 (az_lf 42 (az_aload 0 43)) (az_lf 43 (az_getP 10 8 46)))) (az_br 49 (az_br 47 (az_lf 46 (az_iload 2 47)) (az_lf 47 (az_iload 4 49))) (az_br 51 (az_lf 49 (az_iload 6 51)) (az_lf 51 (az_ii (fun x y => x + y) 52))))))) (az_br 84 (az_br 70 (az_br 61 (az_br 55 (az_lf 52 (az_ivv 77 2 8 55)) (az_br 58 (az_lf 55 (az_ivs 133 1 58)) (az_lf 58 (az_ifne 64 61)))) (az_br 64 (az_br 63 (az_lf 61 (az_const (.int (-2)) 63)) (az_lf 63 (az_iret))) (az_br 67 (az_lf 64 (az_iinc 6 1 67)) (az_lf 67 (az_goto 35))))) (az_br 75 (az_br 71 (az_lf 70 (az_const (.int 0) 71)) (az_br 73 (az_lf 71 (az_istore 6 73)) (az_lf 73 (az_iload 6 75)))) (az_br 80 (az_br 77 (az_lf 75 (az_const (.int 8) 77)) (az_lf 77 (az_icge 109 80))) (az_br 81 (az_lf 80 (az_aload 0 81)) (az_lf 81 (az_getP 10 1 84)))))) (az_br 96 (az_br 88 (az_br 86 (az_lf 84 (az_iload 6 86)) (az_br 87 (az_lf 86 (az_iload 1 87)) (az_lf 87 (az_aload 0 88)))) (az_br 92 (az_br 91 (az_lf 88 (az_getP 10 8 91)) (az_lf 91 (az_iload 2 92))) (az_br 94 (az_lf 92 (az_iload 4 94)) (az_lf 94 (az_iload 6 96))))) (az_br 103 (az_br 97 (az_lf 96 (az_ii (fun x y => x + y) 97)) (az_br 100 (az_lf 97 (az_ivv 77 2 8 100)) (az_lf 100 (az_ivv 36 3 4 103)))) (az_br 109 (az_br 106 (az_lf 103 (az_iinc 6 1 106)) (az_lf 106 (az_goto 73))) (az_br 111 (az_lf 109 (az_const (.int 8) 111)) (az_lf 111 (az_iret))))))))
theorem u_X10_all_0 : az_W C R k_X10_all 0 (v0 :: .int x :: ls) st h ↔ az_W C R k_X10_all 1 (v0 :: .int x :: ls) (.int x :: st) h := ap_iload rfl rfl
theorem u_X10_all_1 (hl : st.length ≤ 4) : az_W C R k_X10_all 1 ls (v1 :: st) h ↔ az_F C R (az_W C R k_X10_all) h (az_cl 132 [v1] 4 ls st) := ap_ivs rfl rfl hl
theorem u_X10_all_4 : az_W C R k_X10_all 4 ls (.int x :: st) h ↔ if x = 0 then az_W C R k_X10_all 7 ls st h else az_W C R k_X10_all 9 ls st h := ap_ifne rfl
theorem u_X10_all_7 : az_W C R k_X10_all 7 ls st h ↔ az_W C R k_X10_all 8 ls (.int (-1) :: st) h := ap_const rfl
theorem u_X10_all_8 : az_W C R k_X10_all 8 ls [.int x] h ↔ R (some (.int x)) h := ap_iret rfl
theorem u_X10_all_9 : az_W C R k_X10_all 9 (.ref a :: ls) st h ↔ az_W C R k_X10_all 10 (.ref a :: ls) (.ref a :: st) h := ap_aload rfl rfl
theorem u_X10_all_10 : az_W C R k_X10_all 10 ls (.ref 0 :: st) (130, az_Pf, I, L) ↔ az_W C R k_X10_all 13 ls (.ref 86 :: st) (130, az_Pf, I, L) := ap_getP rfl kn_0 pf_0_8
theorem u_X10_all_13 : az_W C R k_X10_all 13 (v0 :: v1 :: .int x :: ls) st h ↔ az_W C R k_X10_all 14 (v0 :: v1 :: .int x :: ls) (.int x :: st) h := ap_iload rfl rfl
theorem u_X10_all_14 : az_W C R k_X10_all 14 (v0 :: v1 :: v2 :: .int x :: ls) st h ↔ az_W C R k_X10_all 15 (v0 :: v1 :: v2 :: .int x :: ls) (.int x :: st) h := ap_iload rfl rfl
theorem u_X10_all_15 : az_W C R k_X10_all 15 (v0 :: v1 :: v2 :: v3 :: .int x :: ls) st h ↔ az_W C R k_X10_all 17 (v0 :: v1 :: v2 :: v3 :: .int x :: ls) (.int x :: st) h := ap_iload rfl rfl
theorem u_X10_all_17 : az_W C R k_X10_all 17 ls st h ↔ az_W C R k_X10_all 19 ls (.int 8 :: st) h := ap_const rfl
theorem u_X10_all_19 (hl : st.length ≤ 4) : az_W C R k_X10_all 19 ls (v4 :: v3 :: v2 :: v1 :: .ref 86 :: st) (130, P, I, L) ↔ az_F C R (az_W C R k_X10_all) (130, P, I, L) (az_cl 74 [.ref 86, v1, v2, v3, v4] 22 ls st) := ap_ivv rfl rfl kn_86 hl
theorem u_X10_all_22 : az_W C R k_X10_all 22 (v0 :: v1 :: v2 :: v3 :: v4 :: v5 :: ls) (.int x :: st) h ↔ az_W C R k_X10_all 24 (v0 :: v1 :: v2 :: v3 :: az_un v4 :: .int x :: ls) st h := ap_istore rfl rfl
theorem u_X10_all_24 : az_W C R k_X10_all 24 (v0 :: v1 :: v2 :: v3 :: v4 :: .int x :: ls) st h ↔ az_W C R k_X10_all 26 (v0 :: v1 :: v2 :: v3 :: v4 :: .int x :: ls) (.int x :: st) h := ap_iload rfl rfl
theorem u_X10_all_26 : az_W C R k_X10_all 26 ls (.int x :: st) h ↔ if x = 0 then az_W C R k_X10_all 32 ls st h else az_W C R k_X10_all 29 ls st h := ap_ifeq rfl
theorem u_X10_all_29 : az_W C R k_X10_all 29 (v0 :: v1 :: v2 :: v3 :: v4 :: .int x :: ls) st h ↔ az_W C R k_X10_all 31 (v0 :: v1 :: v2 :: v3 :: v4 :: .int x :: ls) (.int x :: st) h := ap_iload rfl rfl
theorem u_X10_all_31 : az_W C R k_X10_all 31 ls [.int x] h ↔ R (some (.int x)) h := ap_iret rfl
theorem u_X10_all_32 : az_W C R k_X10_all 32 ls st h ↔ az_W C R k_X10_all 33 ls (.int 0 :: st) h := ap_const rfl
theorem u_X10_all_33 : az_W C R k_X10_all 33 (v0 :: v1 :: v2 :: v3 :: v4 :: v5 :: v6 :: ls) (.int x :: st) h ↔ az_W C R k_X10_all 35 (v0 :: v1 :: v2 :: v3 :: v4 :: az_un v5 :: .int x :: ls) st h := ap_istore rfl rfl
theorem u_X10_all_35 : az_W C R k_X10_all 35 (v0 :: v1 :: v2 :: v3 :: v4 :: v5 :: .int x :: ls) st h ↔ az_W C R k_X10_all 37 (v0 :: v1 :: v2 :: v3 :: v4 :: v5 :: .int x :: ls) (.int x :: st) h := ap_iload rfl rfl
theorem u_X10_all_37 : az_W C R k_X10_all 37 ls st h ↔ az_W C R k_X10_all 39 ls (.int 8 :: st) h := ap_const rfl
theorem u_X10_all_39 : az_W C R k_X10_all 39 ls (.int y :: .int x :: st) h ↔ if y ≤ x then az_W C R k_X10_all 70 ls st h else az_W C R k_X10_all 42 ls st h := ap_icge rfl
theorem u_X10_all_42 : az_W C R k_X10_all 42 (.ref a :: ls) st h ↔ az_W C R k_X10_all 43 (.ref a :: ls) (.ref a :: st) h := ap_aload rfl rfl
theorem u_X10_all_43 : az_W C R k_X10_all 43 ls (.ref 0 :: st) (130, az_Pf, I, L) ↔ az_W C R k_X10_all 46 ls (.ref 86 :: st) (130, az_Pf, I, L) := ap_getP rfl kn_0 pf_0_8
theorem u_X10_all_46 : az_W C R k_X10_all 46 (v0 :: v1 :: .int x :: ls) st h ↔ az_W C R k_X10_all 47 (v0 :: v1 :: .int x :: ls) (.int x :: st) h := ap_iload rfl rfl
theorem u_X10_all_47 : az_W C R k_X10_all 47 (v0 :: v1 :: v2 :: v3 :: .int x :: ls) st h ↔ az_W C R k_X10_all 49 (v0 :: v1 :: v2 :: v3 :: .int x :: ls) (.int x :: st) h := ap_iload rfl rfl
theorem u_X10_all_49 : az_W C R k_X10_all 49 (v0 :: v1 :: v2 :: v3 :: v4 :: v5 :: .int x :: ls) st h ↔ az_W C R k_X10_all 51 (v0 :: v1 :: v2 :: v3 :: v4 :: v5 :: .int x :: ls) (.int x :: st) h := ap_iload rfl rfl
theorem u_X10_all_51 : az_W C R k_X10_all 51 ls (.int y :: .int x :: st) h ↔ az_W C R k_X10_all 52 ls (.int (x + y) :: st) h := ap_ii (f := fun x y => x + y) rfl
theorem u_X10_all_52 (hl : st.length ≤ 4) : az_W C R k_X10_all 52 ls (v2 :: v1 :: .ref 86 :: st) (130, P, I, L) ↔ az_F C R (az_W C R k_X10_all) (130, P, I, L) (az_cl 77 [.ref 86, v1, v2] 55 ls st) := ap_ivv rfl rfl kn_86 hl
theorem u_X10_all_55 (hl : st.length ≤ 4) : az_W C R k_X10_all 55 ls (v1 :: st) h ↔ az_F C R (az_W C R k_X10_all) h (az_cl 133 [v1] 58 ls st) := ap_ivs rfl rfl hl
theorem u_X10_all_58 : az_W C R k_X10_all 58 ls (.int x :: st) h ↔ if x = 0 then az_W C R k_X10_all 61 ls st h else az_W C R k_X10_all 64 ls st h := ap_ifne rfl
theorem u_X10_all_61 : az_W C R k_X10_all 61 ls st h ↔ az_W C R k_X10_all 63 ls (.int (-2) :: st) h := ap_const rfl
theorem u_X10_all_63 : az_W C R k_X10_all 63 ls [.int x] h ↔ R (some (.int x)) h := ap_iret rfl
theorem u_X10_all_64 : az_W C R k_X10_all 64 (v0 :: v1 :: v2 :: v3 :: v4 :: v5 :: .int x :: ls) st h ↔ az_W C R k_X10_all 67 (v0 :: v1 :: v2 :: v3 :: v4 :: az_un v5 :: .int (x + 1) :: ls) st h := ap_iinc rfl rfl rfl
theorem u_X10_all_67 : az_W C R k_X10_all 67 ls st h ↔ az_W C R k_X10_all 35 ls st h := ap_goto rfl
theorem u_X10_all_70 : az_W C R k_X10_all 70 ls st h ↔ az_W C R k_X10_all 71 ls (.int 0 :: st) h := ap_const rfl
theorem u_X10_all_71 : az_W C R k_X10_all 71 (v0 :: v1 :: v2 :: v3 :: v4 :: v5 :: v6 :: ls) (.int x :: st) h ↔ az_W C R k_X10_all 73 (v0 :: v1 :: v2 :: v3 :: v4 :: az_un v5 :: .int x :: ls) st h := ap_istore rfl rfl
theorem u_X10_all_73 : az_W C R k_X10_all 73 (v0 :: v1 :: v2 :: v3 :: v4 :: v5 :: .int x :: ls) st h ↔ az_W C R k_X10_all 75 (v0 :: v1 :: v2 :: v3 :: v4 :: v5 :: .int x :: ls) (.int x :: st) h := ap_iload rfl rfl
theorem u_X10_all_75 : az_W C R k_X10_all 75 ls st h ↔ az_W C R k_X10_all 77 ls (.int 8 :: st) h := ap_const rfl
theorem u_X10_all_77 : az_W C R k_X10_all 77 ls (.int y :: .int x :: st) h ↔ if y ≤ x then az_W C R k_X10_all 109 ls st h else az_W C R k_X10_all 80 ls st h := ap_icge rfl
theorem u_X10_all_80 : az_W C R k_X10_all 80 (.ref a :: ls) st h ↔ az_W C R k_X10_all 81 (.ref a :: ls) (.ref a :: st) h := ap_aload rfl rfl
theorem u_X10_all_81 : az_W C R k_X10_all 81 ls (.ref 0 :: st) (130, az_Pf, I, L) ↔ az_W C R k_X10_all 84 ls (.ref 2 :: st) (130, az_Pf, I, L) := ap_getP rfl kn_0 pf_0_1
theorem u_X10_all_84 : az_W C R k_X10_all 84 (v0 :: v1 :: v2 :: v3 :: v4 :: v5 :: .int x :: ls) st h ↔ az_W C R k_X10_all 86 (v0 :: v1 :: v2 :: v3 :: v4 :: v5 :: .int x :: ls) (.int x :: st) h := ap_iload rfl rfl
theorem u_X10_all_86 : az_W C R k_X10_all 86 (v0 :: .int x :: ls) st h ↔ az_W C R k_X10_all 87 (v0 :: .int x :: ls) (.int x :: st) h := ap_iload rfl rfl
theorem u_X10_all_87 : az_W C R k_X10_all 87 (.ref a :: ls) st h ↔ az_W C R k_X10_all 88 (.ref a :: ls) (.ref a :: st) h := ap_aload rfl rfl
theorem u_X10_all_88 : az_W C R k_X10_all 88 ls (.ref 0 :: st) (130, az_Pf, I, L) ↔ az_W C R k_X10_all 91 ls (.ref 86 :: st) (130, az_Pf, I, L) := ap_getP rfl kn_0 pf_0_8
theorem u_X10_all_91 : az_W C R k_X10_all 91 (v0 :: v1 :: .int x :: ls) st h ↔ az_W C R k_X10_all 92 (v0 :: v1 :: .int x :: ls) (.int x :: st) h := ap_iload rfl rfl
theorem u_X10_all_92 : az_W C R k_X10_all 92 (v0 :: v1 :: v2 :: v3 :: .int x :: ls) st h ↔ az_W C R k_X10_all 94 (v0 :: v1 :: v2 :: v3 :: .int x :: ls) (.int x :: st) h := ap_iload rfl rfl
theorem u_X10_all_94 : az_W C R k_X10_all 94 (v0 :: v1 :: v2 :: v3 :: v4 :: v5 :: .int x :: ls) st h ↔ az_W C R k_X10_all 96 (v0 :: v1 :: v2 :: v3 :: v4 :: v5 :: .int x :: ls) (.int x :: st) h := ap_iload rfl rfl
theorem u_X10_all_96 : az_W C R k_X10_all 96 ls (.int y :: .int x :: st) h ↔ az_W C R k_X10_all 97 ls (.int (x + y) :: st) h := ap_ii (f := fun x y => x + y) rfl
theorem u_X10_all_97 (hl : st.length ≤ 4) : az_W C R k_X10_all 97 ls (v2 :: v1 :: .ref 86 :: st) (130, P, I, L) ↔ az_F C R (az_W C R k_X10_all) (130, P, I, L) (az_cl 77 [.ref 86, v1, v2] 100 ls st) := ap_ivv rfl rfl kn_86 hl
theorem u_X10_all_100 (hl : st.length ≤ 4) : az_W C R k_X10_all 100 ls (v3 :: v2 :: v1 :: .ref 2 :: st) (130, P, I, L) ↔ az_F C R (az_W C R k_X10_all) (130, P, I, L) (az_cl 36 [.ref 2, v1, v2, v3] 103 ls st) := ap_ivv rfl rfl kn_2 hl
theorem u_X10_all_103 : az_W C R k_X10_all 103 (v0 :: v1 :: v2 :: v3 :: v4 :: v5 :: .int x :: ls) st h ↔ az_W C R k_X10_all 106 (v0 :: v1 :: v2 :: v3 :: v4 :: az_un v5 :: .int (x + 1) :: ls) st h := ap_iinc rfl rfl rfl
theorem u_X10_all_106 : az_W C R k_X10_all 106 ls st h ↔ az_W C R k_X10_all 73 ls st h := ap_goto rfl
theorem u_X10_all_109 : az_W C R k_X10_all 109 ls st h ↔ az_W C R k_X10_all 111 ls (.int 8 :: st) h := ap_const rfl
theorem u_X10_all_111 : az_W C R k_X10_all 111 ls [.int x] h ↔ R (some (.int x)) h := ap_iret rfl
def k_X10_type : Nat → az_P := (az_br 15 (az_br 7 (az_br 2 (az_br 1 (az_lf 0 (az_iload 3 1)) (az_lf 1 (az_const (.int 1) 2))) (az_br 4 (az_lf 2 (az_const (.int 8) 4)) (az_lf 4 (az_ivs 129 3 7)))) (az_br 11 (az_br 10 (az_lf 7 (az_ifeq 18 10)) (az_lf 10 (az_lload 1 11))) (az_br 12 (az_lf 11 (az_iload 3 12)) (az_lf 12 (az_ivs 54 2 15))))) (az_br 21 (az_br 19 (az_br 18 (az_lf 15 (az_ifne 20 18)) (az_lf 18 (az_const (.int (-1)) 19))) (az_br 20 (az_lf 19 (az_iret)) (az_lf 20 (az_aload 0 21)))) (az_br 25 (az_br 24 (az_lf 21 (az_getP 10 2 24)) (az_lf 24 (az_lload 1 25))) (az_br 26 (az_lf 25 (az_iload 3 26)) (az_br 29 (az_lf 26 (az_ivv 56 2 6 29)) (az_lf 29 (az_iret)))))))
theorem u_X10_type_0 : az_W C R k_X10_type 0 (v0 :: v1 :: v2 :: .int x :: ls) st h ↔ az_W C R k_X10_type 1 (v0 :: v1 :: v2 :: .int x :: ls) (.int x :: st) h := ap_iload rfl rfl
theorem u_X10_type_1 : az_W C R k_X10_type 1 ls st h ↔ az_W C R k_X10_type 2 ls (.int 1 :: st) h := ap_const rfl
theorem u_X10_type_2 : az_W C R k_X10_type 2 ls st h ↔ az_W C R k_X10_type 4 ls (.int 8 :: st) h := ap_const rfl
theorem u_X10_type_4 (hl : st.length ≤ 4) : az_W C R k_X10_type 4 ls (v3 :: v2 :: v1 :: st) h ↔ az_F C R (az_W C R k_X10_type) h (az_cl 129 [v1, v2, v3] 7 ls st) := ap_ivs rfl rfl hl
theorem u_X10_type_7 : az_W C R k_X10_type 7 ls (.int x :: st) h ↔ if x = 0 then az_W C R k_X10_type 18 ls st h else az_W C R k_X10_type 10 ls st h := ap_ifeq rfl
theorem u_X10_type_10 : az_W C R k_X10_type 10 (v0 :: .long p :: ls) st h ↔ az_W C R k_X10_type 11 (v0 :: .long p :: ls) (.long p :: st) h := ap_lload rfl rfl
theorem u_X10_type_11 : az_W C R k_X10_type 11 (v0 :: v1 :: v2 :: .int x :: ls) st h ↔ az_W C R k_X10_type 12 (v0 :: v1 :: v2 :: .int x :: ls) (.int x :: st) h := ap_iload rfl rfl
theorem u_X10_type_12 (hl : st.length ≤ 4) : az_W C R k_X10_type 12 ls (v2 :: v1 :: st) h ↔ az_F C R (az_W C R k_X10_type) h (az_cl 54 [v1, v2] 15 ls st) := ap_ivs rfl rfl hl
theorem u_X10_type_15 : az_W C R k_X10_type 15 ls (.int x :: st) h ↔ if x = 0 then az_W C R k_X10_type 18 ls st h else az_W C R k_X10_type 20 ls st h := ap_ifne rfl
theorem u_X10_type_18 : az_W C R k_X10_type 18 ls st h ↔ az_W C R k_X10_type 19 ls (.int (-1) :: st) h := ap_const rfl
theorem u_X10_type_19 : az_W C R k_X10_type 19 ls [.int x] h ↔ R (some (.int x)) h := ap_iret rfl
theorem u_X10_type_20 : az_W C R k_X10_type 20 (.ref a :: ls) st h ↔ az_W C R k_X10_type 21 (.ref a :: ls) (.ref a :: st) h := ap_aload rfl rfl
theorem u_X10_type_21 : az_W C R k_X10_type 21 ls (.ref 0 :: st) (130, az_Pf, I, L) ↔ az_W C R k_X10_type 24 ls (.ref 35 :: st) (130, az_Pf, I, L) := ap_getP rfl kn_0 pf_0_2
theorem u_X10_type_24 : az_W C R k_X10_type 24 (v0 :: .long p :: ls) st h ↔ az_W C R k_X10_type 25 (v0 :: .long p :: ls) (.long p :: st) h := ap_lload rfl rfl
theorem u_X10_type_25 : az_W C R k_X10_type 25 (v0 :: v1 :: v2 :: .int x :: ls) st h ↔ az_W C R k_X10_type 26 (v0 :: v1 :: v2 :: .int x :: ls) (.int x :: st) h := ap_iload rfl rfl
theorem u_X10_type_26 (hl : st.length ≤ 4) : az_W C R k_X10_type 26 ls (v2 :: v1 :: .ref 35 :: st) (130, P, I, L) ↔ az_F C R (az_W C R k_X10_type) (130, P, I, L) (az_cl 56 [.ref 35, v1, v2] 29 ls st) := ap_ivv rfl rfl kn_35 hl
theorem u_X10_type_29 : az_W C R k_X10_type 29 ls [.int x] h ↔ R (some (.int x)) h := ap_iret rfl
def k_X10_rules : Nat → az_P := (az_br 15 (az_br 7 (az_br 1 (az_lf 0 (az_iload 1 1)) (az_br 4 (az_lf 1 (az_ivs 132 1 4)) (az_lf 4 (az_ifeq 18 7)))) (az_br 11 (az_br 8 (az_lf 7 (az_aload 0 8)) (az_lf 8 (az_getP 10 2 11))) (az_br 12 (az_lf 11 (az_iload 1 12)) (az_lf 12 (az_ivv 58 1 6 15))))) (az_br 21 (az_br 19 (az_br 18 (az_lf 15 (az_ifne 20 18)) (az_lf 18 (az_const (.int (-1)) 19))) (az_br 20 (az_lf 19 (az_iret)) (az_lf 20 (az_aload 0 21)))) (az_br 25 (az_br 24 (az_lf 21 (az_getP 10 2 24)) (az_lf 24 (az_iload 1 25))) (az_br 28 (az_lf 25 (az_ivv 59 1 6 28)) (az_lf 28 (az_iret))))))
theorem u_X10_rules_0 : az_W C R k_X10_rules 0 (v0 :: .int x :: ls) st h ↔ az_W C R k_X10_rules 1 (v0 :: .int x :: ls) (.int x :: st) h := ap_iload rfl rfl
theorem u_X10_rules_1 (hl : st.length ≤ 4) : az_W C R k_X10_rules 1 ls (v1 :: st) h ↔ az_F C R (az_W C R k_X10_rules) h (az_cl 132 [v1] 4 ls st) := ap_ivs rfl rfl hl
theorem u_X10_rules_4 : az_W C R k_X10_rules 4 ls (.int x :: st) h ↔ if x = 0 then az_W C R k_X10_rules 18 ls st h else az_W C R k_X10_rules 7 ls st h := ap_ifeq rfl
theorem u_X10_rules_7 : az_W C R k_X10_rules 7 (.ref a :: ls) st h ↔ az_W C R k_X10_rules 8 (.ref a :: ls) (.ref a :: st) h := ap_aload rfl rfl
theorem u_X10_rules_8 : az_W C R k_X10_rules 8 ls (.ref 0 :: st) (130, az_Pf, I, L) ↔ az_W C R k_X10_rules 11 ls (.ref 35 :: st) (130, az_Pf, I, L) := ap_getP rfl kn_0 pf_0_2
theorem u_X10_rules_11 : az_W C R k_X10_rules 11 (v0 :: .int x :: ls) st h ↔ az_W C R k_X10_rules 12 (v0 :: .int x :: ls) (.int x :: st) h := ap_iload rfl rfl
theorem u_X10_rules_12 (hl : st.length ≤ 4) : az_W C R k_X10_rules 12 ls (v1 :: .ref 35 :: st) (130, P, I, L) ↔ az_F C R (az_W C R k_X10_rules) (130, P, I, L) (az_cl 58 [.ref 35, v1] 15 ls st) := ap_ivv rfl rfl kn_35 hl
theorem u_X10_rules_15 : az_W C R k_X10_rules 15 ls (.int x :: st) h ↔ if x = 0 then az_W C R k_X10_rules 18 ls st h else az_W C R k_X10_rules 20 ls st h := ap_ifne rfl
theorem u_X10_rules_18 : az_W C R k_X10_rules 18 ls st h ↔ az_W C R k_X10_rules 19 ls (.int (-1) :: st) h := ap_const rfl
theorem u_X10_rules_19 : az_W C R k_X10_rules 19 ls [.int x] h ↔ R (some (.int x)) h := ap_iret rfl
theorem u_X10_rules_20 : az_W C R k_X10_rules 20 (.ref a :: ls) st h ↔ az_W C R k_X10_rules 21 (.ref a :: ls) (.ref a :: st) h := ap_aload rfl rfl
theorem u_X10_rules_21 : az_W C R k_X10_rules 21 ls (.ref 0 :: st) (130, az_Pf, I, L) ↔ az_W C R k_X10_rules 24 ls (.ref 35 :: st) (130, az_Pf, I, L) := ap_getP rfl kn_0 pf_0_2
theorem u_X10_rules_24 : az_W C R k_X10_rules 24 (v0 :: .int x :: ls) st h ↔ az_W C R k_X10_rules 25 (v0 :: .int x :: ls) (.int x :: st) h := ap_iload rfl rfl
theorem u_X10_rules_25 (hl : st.length ≤ 4) : az_W C R k_X10_rules 25 ls (v1 :: .ref 35 :: st) (130, P, I, L) ↔ az_F C R (az_W C R k_X10_rules) (130, P, I, L) (az_cl 59 [.ref 35, v1] 28 ls st) := ap_ivv rfl rfl kn_35 hl
theorem u_X10_rules_28 : az_W C R k_X10_rules 28 ls [.int x] h ↔ R (some (.int x)) h := ap_iret rfl
def k_X10_rule : Nat → az_P := (az_br 16 (az_br 8 (az_br 4 (az_br 1 (az_lf 0 (az_iload 1 1)) (az_lf 1 (az_ivs 132 1 4))) (az_br 7 (az_lf 4 (az_ifeq 16 7)) (az_lf 7 (az_iload 2 8)))) (az_br 10 (az_br 9 (az_lf 8 (az_const (.int 0) 9)) (az_lf 9 (az_const (.int 2) 10))) (az_br 13 (az_lf 10 (az_ivs 129 3 13)) (az_lf 13 (az_ifne 18 16))))) (az_br 22 (az_br 18 (az_br 17 (az_lf 16 (az_const (.int (-1)) 17)) (az_lf 17 (az_iret))) (az_br 19 (az_lf 18 (az_aload 0 19)) (az_lf 19 (az_getP 10 2 22)))) (az_br 24 (az_br 23 (az_lf 22 (az_iload 1 23)) (az_lf 23 (az_iload 2 24))) (az_br 27 (az_lf 24 (az_ivv 60 2 6 27)) (az_lf 27 (az_iret))))))
theorem u_X10_rule_0 : az_W C R k_X10_rule 0 (v0 :: .int x :: ls) st h ↔ az_W C R k_X10_rule 1 (v0 :: .int x :: ls) (.int x :: st) h := ap_iload rfl rfl
theorem u_X10_rule_1 (hl : st.length ≤ 4) : az_W C R k_X10_rule 1 ls (v1 :: st) h ↔ az_F C R (az_W C R k_X10_rule) h (az_cl 132 [v1] 4 ls st) := ap_ivs rfl rfl hl
theorem u_X10_rule_4 : az_W C R k_X10_rule 4 ls (.int x :: st) h ↔ if x = 0 then az_W C R k_X10_rule 16 ls st h else az_W C R k_X10_rule 7 ls st h := ap_ifeq rfl
theorem u_X10_rule_7 : az_W C R k_X10_rule 7 (v0 :: v1 :: .int x :: ls) st h ↔ az_W C R k_X10_rule 8 (v0 :: v1 :: .int x :: ls) (.int x :: st) h := ap_iload rfl rfl
theorem u_X10_rule_8 : az_W C R k_X10_rule 8 ls st h ↔ az_W C R k_X10_rule 9 ls (.int 0 :: st) h := ap_const rfl
theorem u_X10_rule_9 : az_W C R k_X10_rule 9 ls st h ↔ az_W C R k_X10_rule 10 ls (.int 2 :: st) h := ap_const rfl
theorem u_X10_rule_10 (hl : st.length ≤ 4) : az_W C R k_X10_rule 10 ls (v3 :: v2 :: v1 :: st) h ↔ az_F C R (az_W C R k_X10_rule) h (az_cl 129 [v1, v2, v3] 13 ls st) := ap_ivs rfl rfl hl
theorem u_X10_rule_13 : az_W C R k_X10_rule 13 ls (.int x :: st) h ↔ if x = 0 then az_W C R k_X10_rule 16 ls st h else az_W C R k_X10_rule 18 ls st h := ap_ifne rfl
theorem u_X10_rule_16 : az_W C R k_X10_rule 16 ls st h ↔ az_W C R k_X10_rule 17 ls (.int (-1) :: st) h := ap_const rfl
theorem u_X10_rule_17 : az_W C R k_X10_rule 17 ls [.int x] h ↔ R (some (.int x)) h := ap_iret rfl
theorem u_X10_rule_18 : az_W C R k_X10_rule 18 (.ref a :: ls) st h ↔ az_W C R k_X10_rule 19 (.ref a :: ls) (.ref a :: st) h := ap_aload rfl rfl
theorem u_X10_rule_19 : az_W C R k_X10_rule 19 ls (.ref 0 :: st) (130, az_Pf, I, L) ↔ az_W C R k_X10_rule 22 ls (.ref 35 :: st) (130, az_Pf, I, L) := ap_getP rfl kn_0 pf_0_2
theorem u_X10_rule_22 : az_W C R k_X10_rule 22 (v0 :: .int x :: ls) st h ↔ az_W C R k_X10_rule 23 (v0 :: .int x :: ls) (.int x :: st) h := ap_iload rfl rfl
theorem u_X10_rule_23 : az_W C R k_X10_rule 23 (v0 :: v1 :: .int x :: ls) st h ↔ az_W C R k_X10_rule 24 (v0 :: v1 :: .int x :: ls) (.int x :: st) h := ap_iload rfl rfl
theorem u_X10_rule_24 (hl : st.length ≤ 4) : az_W C R k_X10_rule 24 ls (v2 :: v1 :: .ref 35 :: st) (130, P, I, L) ↔ az_F C R (az_W C R k_X10_rule) (130, P, I, L) (az_cl 60 [.ref 35, v1, v2] 27 ls st) := ap_ivv rfl rfl kn_35 hl
theorem u_X10_rule_27 : az_W C R k_X10_rule 27 ls [.int x] h ↔ R (some (.int x)) h := ap_iret rfl
def k_X10_rate : Nat → az_P := (az_br 23 (az_br 11 (az_br 4 (az_br 1 (az_lf 0 (az_iload 1 1)) (az_lf 1 (az_ivs 132 1 4))) (az_br 7 (az_lf 4 (az_ifeq 14 7)) (az_br 8 (az_lf 7 (az_iload 2 8)) (az_lf 8 (az_ivs 130 1 11))))) (az_br 18 (az_br 14 (az_lf 11 (az_ifne 18 14)) (az_br 17 (az_lf 14 (az_const (.long (-1099511627777)) 17)) (az_lf 17 (az_lret)))) (az_br 19 (az_lf 18 (az_aload 0 19)) (az_br 22 (az_lf 19 (az_getP 10 0 22)) (az_lf 22 (az_iload 1 23)))))) (az_br 34 (az_br 27 (az_br 24 (az_lf 23 (az_aload 0 24)) (az_lf 24 (az_getP 10 9 27))) (az_br 30 (az_lf 27 (az_ivv 44 2 5 30)) (az_br 33 (az_lf 30 (az_ifeq 44 33)) (az_lf 33 (az_aload 0 34))))) (az_br 41 (az_br 37 (az_lf 34 (az_getP 10 9 37)) (az_br 38 (az_lf 37 (az_iload 2 38)) (az_lf 38 (az_ivv 25 1 2 41)))) (az_br 44 (az_lf 41 (az_goto 47)) (az_br 47 (az_lf 44 (az_const (.long (-1099511627780)) 47)) (az_lf 47 (az_lret)))))))
theorem u_X10_rate_0 : az_W C R k_X10_rate 0 (v0 :: .int x :: ls) st h ↔ az_W C R k_X10_rate 1 (v0 :: .int x :: ls) (.int x :: st) h := ap_iload rfl rfl
theorem u_X10_rate_1 (hl : st.length ≤ 4) : az_W C R k_X10_rate 1 ls (v1 :: st) h ↔ az_F C R (az_W C R k_X10_rate) h (az_cl 132 [v1] 4 ls st) := ap_ivs rfl rfl hl
theorem u_X10_rate_4 : az_W C R k_X10_rate 4 ls (.int x :: st) h ↔ if x = 0 then az_W C R k_X10_rate 14 ls st h else az_W C R k_X10_rate 7 ls st h := ap_ifeq rfl
theorem u_X10_rate_7 : az_W C R k_X10_rate 7 (v0 :: v1 :: .int x :: ls) st h ↔ az_W C R k_X10_rate 8 (v0 :: v1 :: .int x :: ls) (.int x :: st) h := ap_iload rfl rfl
theorem u_X10_rate_8 (hl : st.length ≤ 4) : az_W C R k_X10_rate 8 ls (v1 :: st) h ↔ az_F C R (az_W C R k_X10_rate) h (az_cl 130 [v1] 11 ls st) := ap_ivs rfl rfl hl
theorem u_X10_rate_11 : az_W C R k_X10_rate 11 ls (.int x :: st) h ↔ if x = 0 then az_W C R k_X10_rate 14 ls st h else az_W C R k_X10_rate 18 ls st h := ap_ifne rfl
theorem u_X10_rate_14 : az_W C R k_X10_rate 14 ls st h ↔ az_W C R k_X10_rate 17 ls (.long (-1099511627777) :: st) h := ap_const rfl
theorem u_X10_rate_17 : az_W C R k_X10_rate 17 ls [.long p] h ↔ R (some (.long p)) h := ap_lret rfl
theorem u_X10_rate_18 : az_W C R k_X10_rate 18 (.ref a :: ls) st h ↔ az_W C R k_X10_rate 19 (.ref a :: ls) (.ref a :: st) h := ap_aload rfl rfl
theorem u_X10_rate_19 : az_W C R k_X10_rate 19 ls (.ref 0 :: st) (130, az_Pf, I, L) ↔ az_W C R k_X10_rate 22 ls (.ref 1 :: st) (130, az_Pf, I, L) := ap_getP rfl kn_0 pf_0_0
theorem u_X10_rate_22 : az_W C R k_X10_rate 22 (v0 :: .int x :: ls) st h ↔ az_W C R k_X10_rate 23 (v0 :: .int x :: ls) (.int x :: st) h := ap_iload rfl rfl
theorem u_X10_rate_23 : az_W C R k_X10_rate 23 (.ref a :: ls) st h ↔ az_W C R k_X10_rate 24 (.ref a :: ls) (.ref a :: st) h := ap_aload rfl rfl
theorem u_X10_rate_24 : az_W C R k_X10_rate 24 ls (.ref 0 :: st) (130, az_Pf, I, L) ↔ az_W C R k_X10_rate 27 ls (.ref 94 :: st) (130, az_Pf, I, L) := ap_getP rfl kn_0 pf_0_9
theorem u_X10_rate_27 (hl : st.length ≤ 4) : az_W C R k_X10_rate 27 ls (v2 :: v1 :: .ref 1 :: st) (130, P, I, L) ↔ az_F C R (az_W C R k_X10_rate) (130, P, I, L) (az_cl 44 [.ref 1, v1, v2] 30 ls st) := ap_ivv rfl rfl kn_1 hl
theorem u_X10_rate_30 : az_W C R k_X10_rate 30 ls (.int x :: st) h ↔ if x = 0 then az_W C R k_X10_rate 44 ls st h else az_W C R k_X10_rate 33 ls st h := ap_ifeq rfl
theorem u_X10_rate_33 : az_W C R k_X10_rate 33 (.ref a :: ls) st h ↔ az_W C R k_X10_rate 34 (.ref a :: ls) (.ref a :: st) h := ap_aload rfl rfl
theorem u_X10_rate_34 : az_W C R k_X10_rate 34 ls (.ref 0 :: st) (130, az_Pf, I, L) ↔ az_W C R k_X10_rate 37 ls (.ref 94 :: st) (130, az_Pf, I, L) := ap_getP rfl kn_0 pf_0_9
theorem u_X10_rate_37 : az_W C R k_X10_rate 37 (v0 :: v1 :: .int x :: ls) st h ↔ az_W C R k_X10_rate 38 (v0 :: v1 :: .int x :: ls) (.int x :: st) h := ap_iload rfl rfl
theorem u_X10_rate_38 (hk : az_kn 130 a = (0, 2)) (hl : st.length ≤ 4) : az_W C R k_X10_rate 38 ls (v1 :: .ref a :: st) (130, P, I, L) ↔ az_F C R (az_W C R k_X10_rate) (130, P, I, L) (az_cl 25 [.ref a, v1] 41 ls st) := ap_ivv rfl rfl hk hl
theorem u_X10_rate_41 : az_W C R k_X10_rate 41 ls st h ↔ az_W C R k_X10_rate 47 ls st h := ap_goto rfl
theorem u_X10_rate_44 : az_W C R k_X10_rate 44 ls st h ↔ az_W C R k_X10_rate 47 ls (.long (-1099511627780) :: st) h := ap_const rfl
theorem u_X10_rate_47 : az_W C R k_X10_rate 47 ls [.long p] h ↔ R (some (.long p)) h := ap_lret rfl
def k_X10_thrown : Nat → az_P := (az_br 34 (az_br 18 (az_br 8 (az_br 4 (az_br 1 (az_lf 0 (az_iload 1 1)) (az_lf 1 (az_ivs 131 1 4))) (az_br 7 (az_lf 4 (az_ifeq 14 7)) (az_lf 7 (az_iload 2 8)))) (az_br 14 (az_br 11 (az_lf 8 (az_ivs 132 1 11)) (az_lf 11 (az_ifne 17 14))) (az_br 16 (az_lf 14 (az_const (.int (-11)) 16)) (az_br 17 (az_lf 16 (az_iret)) (az_lf 17 (az_aload 0 18)))))) (az_br 26 (az_br 22 (az_br 21 (az_lf 18 (az_getP 10 1 21)) (az_lf 21 (az_iload 1 22))) (az_br 23 (az_lf 22 (az_iload 2 23)) (az_lf 23 (az_ivv 35 2 4 26)))) (az_br 30 (az_br 27 (az_lf 26 (az_const (.int (-1)) 27)) (az_lf 27 (az_icne 33 30))) (az_br 32 (az_lf 30 (az_const (.int (-12)) 32)) (az_br 33 (az_lf 32 (az_iret)) (az_lf 33 (az_aload 0 34))))))) (az_br 52 (az_br 42 (az_br 38 (az_br 37 (az_lf 34 (az_getP 10 0 37)) (az_lf 37 (az_iload 2 38))) (az_br 39 (az_lf 38 (az_aload 0 39)) (az_lf 39 (az_getP 10 9 42)))) (az_br 48 (az_br 45 (az_lf 42 (az_ivv 44 2 5 45)) (az_lf 45 (az_ifne 51 48))) (az_br 50 (az_lf 48 (az_const (.int (-14)) 50)) (az_br 51 (az_lf 50 (az_iret)) (az_lf 51 (az_aload 0 52)))))) (az_br 60 (az_br 56 (az_br 55 (az_lf 52 (az_getP 10 1 55)) (az_lf 55 (az_iload 1 56))) (az_br 57 (az_lf 56 (az_aload 0 57)) (az_lf 57 (az_getP 10 2 60)))) (az_br 62 (az_br 61 (az_lf 60 (az_iload 2 61)) (az_lf 61 (az_const (.int 0) 62))) (az_br 65 (az_lf 62 (az_ivv 60 2 6 65)) (az_br 68 (az_lf 65 (az_ivv 41 2 4 68)) (az_lf 68 (az_iret))))))))
theorem u_X10_thrown_0 : az_W C R k_X10_thrown 0 (v0 :: .int x :: ls) st h ↔ az_W C R k_X10_thrown 1 (v0 :: .int x :: ls) (.int x :: st) h := ap_iload rfl rfl
theorem u_X10_thrown_1 (hl : st.length ≤ 4) : az_W C R k_X10_thrown 1 ls (v1 :: st) h ↔ az_F C R (az_W C R k_X10_thrown) h (az_cl 131 [v1] 4 ls st) := ap_ivs rfl rfl hl
theorem u_X10_thrown_4 : az_W C R k_X10_thrown 4 ls (.int x :: st) h ↔ if x = 0 then az_W C R k_X10_thrown 14 ls st h else az_W C R k_X10_thrown 7 ls st h := ap_ifeq rfl
theorem u_X10_thrown_7 : az_W C R k_X10_thrown 7 (v0 :: v1 :: .int x :: ls) st h ↔ az_W C R k_X10_thrown 8 (v0 :: v1 :: .int x :: ls) (.int x :: st) h := ap_iload rfl rfl
theorem u_X10_thrown_8 (hl : st.length ≤ 4) : az_W C R k_X10_thrown 8 ls (v1 :: st) h ↔ az_F C R (az_W C R k_X10_thrown) h (az_cl 132 [v1] 11 ls st) := ap_ivs rfl rfl hl
theorem u_X10_thrown_11 : az_W C R k_X10_thrown 11 ls (.int x :: st) h ↔ if x = 0 then az_W C R k_X10_thrown 14 ls st h else az_W C R k_X10_thrown 17 ls st h := ap_ifne rfl
theorem u_X10_thrown_14 : az_W C R k_X10_thrown 14 ls st h ↔ az_W C R k_X10_thrown 16 ls (.int (-11) :: st) h := ap_const rfl
theorem u_X10_thrown_16 : az_W C R k_X10_thrown 16 ls [.int x] h ↔ R (some (.int x)) h := ap_iret rfl
theorem u_X10_thrown_17 : az_W C R k_X10_thrown 17 (.ref a :: ls) st h ↔ az_W C R k_X10_thrown 18 (.ref a :: ls) (.ref a :: st) h := ap_aload rfl rfl
theorem u_X10_thrown_18 : az_W C R k_X10_thrown 18 ls (.ref 0 :: st) (130, az_Pf, I, L) ↔ az_W C R k_X10_thrown 21 ls (.ref 2 :: st) (130, az_Pf, I, L) := ap_getP rfl kn_0 pf_0_1
theorem u_X10_thrown_21 : az_W C R k_X10_thrown 21 (v0 :: .int x :: ls) st h ↔ az_W C R k_X10_thrown 22 (v0 :: .int x :: ls) (.int x :: st) h := ap_iload rfl rfl
theorem u_X10_thrown_22 : az_W C R k_X10_thrown 22 (v0 :: v1 :: .int x :: ls) st h ↔ az_W C R k_X10_thrown 23 (v0 :: v1 :: .int x :: ls) (.int x :: st) h := ap_iload rfl rfl
theorem u_X10_thrown_23 (hl : st.length ≤ 4) : az_W C R k_X10_thrown 23 ls (v2 :: v1 :: .ref 2 :: st) (130, P, I, L) ↔ az_F C R (az_W C R k_X10_thrown) (130, P, I, L) (az_cl 35 [.ref 2, v1, v2] 26 ls st) := ap_ivv rfl rfl kn_2 hl
theorem u_X10_thrown_26 : az_W C R k_X10_thrown 26 ls st h ↔ az_W C R k_X10_thrown 27 ls (.int (-1) :: st) h := ap_const rfl
theorem u_X10_thrown_27 : az_W C R k_X10_thrown 27 ls (.int y :: .int x :: st) h ↔ if x = y then az_W C R k_X10_thrown 30 ls st h else az_W C R k_X10_thrown 33 ls st h := ap_icne rfl
theorem u_X10_thrown_30 : az_W C R k_X10_thrown 30 ls st h ↔ az_W C R k_X10_thrown 32 ls (.int (-12) :: st) h := ap_const rfl
theorem u_X10_thrown_32 : az_W C R k_X10_thrown 32 ls [.int x] h ↔ R (some (.int x)) h := ap_iret rfl
theorem u_X10_thrown_33 : az_W C R k_X10_thrown 33 (.ref a :: ls) st h ↔ az_W C R k_X10_thrown 34 (.ref a :: ls) (.ref a :: st) h := ap_aload rfl rfl
theorem u_X10_thrown_34 : az_W C R k_X10_thrown 34 ls (.ref 0 :: st) (130, az_Pf, I, L) ↔ az_W C R k_X10_thrown 37 ls (.ref 1 :: st) (130, az_Pf, I, L) := ap_getP rfl kn_0 pf_0_0
theorem u_X10_thrown_37 : az_W C R k_X10_thrown 37 (v0 :: v1 :: .int x :: ls) st h ↔ az_W C R k_X10_thrown 38 (v0 :: v1 :: .int x :: ls) (.int x :: st) h := ap_iload rfl rfl
theorem u_X10_thrown_38 : az_W C R k_X10_thrown 38 (.ref a :: ls) st h ↔ az_W C R k_X10_thrown 39 (.ref a :: ls) (.ref a :: st) h := ap_aload rfl rfl
theorem u_X10_thrown_39 : az_W C R k_X10_thrown 39 ls (.ref 0 :: st) (130, az_Pf, I, L) ↔ az_W C R k_X10_thrown 42 ls (.ref 94 :: st) (130, az_Pf, I, L) := ap_getP rfl kn_0 pf_0_9
theorem u_X10_thrown_42 (hl : st.length ≤ 4) : az_W C R k_X10_thrown 42 ls (v2 :: v1 :: .ref 1 :: st) (130, P, I, L) ↔ az_F C R (az_W C R k_X10_thrown) (130, P, I, L) (az_cl 44 [.ref 1, v1, v2] 45 ls st) := ap_ivv rfl rfl kn_1 hl
theorem u_X10_thrown_45 : az_W C R k_X10_thrown 45 ls (.int x :: st) h ↔ if x = 0 then az_W C R k_X10_thrown 48 ls st h else az_W C R k_X10_thrown 51 ls st h := ap_ifne rfl
theorem u_X10_thrown_48 : az_W C R k_X10_thrown 48 ls st h ↔ az_W C R k_X10_thrown 50 ls (.int (-14) :: st) h := ap_const rfl
theorem u_X10_thrown_50 : az_W C R k_X10_thrown 50 ls [.int x] h ↔ R (some (.int x)) h := ap_iret rfl
theorem u_X10_thrown_51 : az_W C R k_X10_thrown 51 (.ref a :: ls) st h ↔ az_W C R k_X10_thrown 52 (.ref a :: ls) (.ref a :: st) h := ap_aload rfl rfl
theorem u_X10_thrown_52 : az_W C R k_X10_thrown 52 ls (.ref 0 :: st) (130, az_Pf, I, L) ↔ az_W C R k_X10_thrown 55 ls (.ref 2 :: st) (130, az_Pf, I, L) := ap_getP rfl kn_0 pf_0_1
theorem u_X10_thrown_55 : az_W C R k_X10_thrown 55 (v0 :: .int x :: ls) st h ↔ az_W C R k_X10_thrown 56 (v0 :: .int x :: ls) (.int x :: st) h := ap_iload rfl rfl
theorem u_X10_thrown_56 : az_W C R k_X10_thrown 56 (.ref a :: ls) st h ↔ az_W C R k_X10_thrown 57 (.ref a :: ls) (.ref a :: st) h := ap_aload rfl rfl
theorem u_X10_thrown_57 : az_W C R k_X10_thrown 57 ls (.ref 0 :: st) (130, az_Pf, I, L) ↔ az_W C R k_X10_thrown 60 ls (.ref 35 :: st) (130, az_Pf, I, L) := ap_getP rfl kn_0 pf_0_2
theorem u_X10_thrown_60 : az_W C R k_X10_thrown 60 (v0 :: v1 :: .int x :: ls) st h ↔ az_W C R k_X10_thrown 61 (v0 :: v1 :: .int x :: ls) (.int x :: st) h := ap_iload rfl rfl
theorem u_X10_thrown_61 : az_W C R k_X10_thrown 61 ls st h ↔ az_W C R k_X10_thrown 62 ls (.int 0 :: st) h := ap_const rfl
theorem u_X10_thrown_62 (hl : st.length ≤ 4) : az_W C R k_X10_thrown 62 ls (v2 :: v1 :: .ref 35 :: st) (130, P, I, L) ↔ az_F C R (az_W C R k_X10_thrown) (130, P, I, L) (az_cl 60 [.ref 35, v1, v2] 65 ls st) := ap_ivv rfl rfl kn_35 hl
theorem u_X10_thrown_65 (hl : st.length ≤ 4) : az_W C R k_X10_thrown 65 ls (v2 :: v1 :: .ref 2 :: st) (130, P, I, L) ↔ az_F C R (az_W C R k_X10_thrown) (130, P, I, L) (az_cl 41 [.ref 2, v1, v2] 68 ls st) := ap_ivv rfl rfl kn_2 hl
theorem u_X10_thrown_68 : az_W C R k_X10_thrown 68 ls [.int x] h ↔ R (some (.int x)) h := ap_iret rfl
def k_X10_reach : Nat → az_P := (az_br 34 (az_br 15 (az_br 7 (az_br 1 (az_lf 0 (az_iload 1 1)) (az_br 4 (az_lf 1 (az_ivs 131 1 4)) (az_lf 4 (az_ifeq 29 7)))) (az_br 11 (az_br 8 (az_lf 7 (az_iload 2 8)) (az_lf 8 (az_ivs 132 1 11))) (az_br 14 (az_lf 11 (az_ifeq 29 14)) (az_lf 14 (az_iload 3 15))))) (az_br 26 (az_br 21 (az_br 18 (az_lf 15 (az_ivs 130 1 18)) (az_lf 18 (az_ifeq 29 21))) (az_br 23 (az_lf 21 (az_iload 4 23)) (az_lf 23 (az_ivs 130 1 26)))) (az_br 32 (az_br 29 (az_lf 26 (az_ifne 33 29)) (az_lf 29 (az_const (.long (-1099511627777)) 32))) (az_br 33 (az_lf 32 (az_lret)) (az_lf 33 (az_aload 0 34)))))) (az_br 47 (az_br 39 (az_br 37 (az_lf 34 (az_getP 10 0 37)) (az_br 38 (az_lf 37 (az_iload 1 38)) (az_lf 38 (az_iload 2 39)))) (az_br 41 (az_br 40 (az_lf 39 (az_iload 3 40)) (az_lf 40 (az_aload 0 41))) (az_br 44 (az_lf 41 (az_getP 10 9 44)) (az_lf 44 (az_ivv 46 4 5 47))))) (az_br 56 (az_br 51 (az_br 50 (az_lf 47 (az_ifeq 62 50)) (az_lf 50 (az_aload 0 51))) (az_br 54 (az_lf 51 (az_getP 10 9 54)) (az_lf 54 (az_iload 4 56)))) (az_br 62 (az_br 59 (az_lf 56 (az_ivv 25 1 2 59)) (az_lf 59 (az_goto 65))) (az_br 65 (az_lf 62 (az_const (.long (-1099511627780)) 65)) (az_lf 65 (az_lret)))))))
theorem u_X10_reach_0 : az_W C R k_X10_reach 0 (v0 :: .int x :: ls) st h ↔ az_W C R k_X10_reach 1 (v0 :: .int x :: ls) (.int x :: st) h := ap_iload rfl rfl
theorem u_X10_reach_1 (hl : st.length ≤ 4) : az_W C R k_X10_reach 1 ls (v1 :: st) h ↔ az_F C R (az_W C R k_X10_reach) h (az_cl 131 [v1] 4 ls st) := ap_ivs rfl rfl hl
theorem u_X10_reach_4 : az_W C R k_X10_reach 4 ls (.int x :: st) h ↔ if x = 0 then az_W C R k_X10_reach 29 ls st h else az_W C R k_X10_reach 7 ls st h := ap_ifeq rfl
theorem u_X10_reach_7 : az_W C R k_X10_reach 7 (v0 :: v1 :: .int x :: ls) st h ↔ az_W C R k_X10_reach 8 (v0 :: v1 :: .int x :: ls) (.int x :: st) h := ap_iload rfl rfl
theorem u_X10_reach_8 (hl : st.length ≤ 4) : az_W C R k_X10_reach 8 ls (v1 :: st) h ↔ az_F C R (az_W C R k_X10_reach) h (az_cl 132 [v1] 11 ls st) := ap_ivs rfl rfl hl
theorem u_X10_reach_11 : az_W C R k_X10_reach 11 ls (.int x :: st) h ↔ if x = 0 then az_W C R k_X10_reach 29 ls st h else az_W C R k_X10_reach 14 ls st h := ap_ifeq rfl
theorem u_X10_reach_14 : az_W C R k_X10_reach 14 (v0 :: v1 :: v2 :: .int x :: ls) st h ↔ az_W C R k_X10_reach 15 (v0 :: v1 :: v2 :: .int x :: ls) (.int x :: st) h := ap_iload rfl rfl
theorem u_X10_reach_15 (hl : st.length ≤ 4) : az_W C R k_X10_reach 15 ls (v1 :: st) h ↔ az_F C R (az_W C R k_X10_reach) h (az_cl 130 [v1] 18 ls st) := ap_ivs rfl rfl hl
theorem u_X10_reach_18 : az_W C R k_X10_reach 18 ls (.int x :: st) h ↔ if x = 0 then az_W C R k_X10_reach 29 ls st h else az_W C R k_X10_reach 21 ls st h := ap_ifeq rfl
theorem u_X10_reach_21 : az_W C R k_X10_reach 21 (v0 :: v1 :: v2 :: v3 :: .int x :: ls) st h ↔ az_W C R k_X10_reach 23 (v0 :: v1 :: v2 :: v3 :: .int x :: ls) (.int x :: st) h := ap_iload rfl rfl
theorem u_X10_reach_23 (hl : st.length ≤ 4) : az_W C R k_X10_reach 23 ls (v1 :: st) h ↔ az_F C R (az_W C R k_X10_reach) h (az_cl 130 [v1] 26 ls st) := ap_ivs rfl rfl hl
theorem u_X10_reach_26 : az_W C R k_X10_reach 26 ls (.int x :: st) h ↔ if x = 0 then az_W C R k_X10_reach 29 ls st h else az_W C R k_X10_reach 33 ls st h := ap_ifne rfl
theorem u_X10_reach_29 : az_W C R k_X10_reach 29 ls st h ↔ az_W C R k_X10_reach 32 ls (.long (-1099511627777) :: st) h := ap_const rfl
theorem u_X10_reach_32 : az_W C R k_X10_reach 32 ls [.long p] h ↔ R (some (.long p)) h := ap_lret rfl
theorem u_X10_reach_33 : az_W C R k_X10_reach 33 (.ref a :: ls) st h ↔ az_W C R k_X10_reach 34 (.ref a :: ls) (.ref a :: st) h := ap_aload rfl rfl
theorem u_X10_reach_34 : az_W C R k_X10_reach 34 ls (.ref 0 :: st) (130, az_Pf, I, L) ↔ az_W C R k_X10_reach 37 ls (.ref 1 :: st) (130, az_Pf, I, L) := ap_getP rfl kn_0 pf_0_0
theorem u_X10_reach_37 : az_W C R k_X10_reach 37 (v0 :: .int x :: ls) st h ↔ az_W C R k_X10_reach 38 (v0 :: .int x :: ls) (.int x :: st) h := ap_iload rfl rfl
theorem u_X10_reach_38 : az_W C R k_X10_reach 38 (v0 :: v1 :: .int x :: ls) st h ↔ az_W C R k_X10_reach 39 (v0 :: v1 :: .int x :: ls) (.int x :: st) h := ap_iload rfl rfl
theorem u_X10_reach_39 : az_W C R k_X10_reach 39 (v0 :: v1 :: v2 :: .int x :: ls) st h ↔ az_W C R k_X10_reach 40 (v0 :: v1 :: v2 :: .int x :: ls) (.int x :: st) h := ap_iload rfl rfl
theorem u_X10_reach_40 : az_W C R k_X10_reach 40 (.ref a :: ls) st h ↔ az_W C R k_X10_reach 41 (.ref a :: ls) (.ref a :: st) h := ap_aload rfl rfl
theorem u_X10_reach_41 : az_W C R k_X10_reach 41 ls (.ref 0 :: st) (130, az_Pf, I, L) ↔ az_W C R k_X10_reach 44 ls (.ref 94 :: st) (130, az_Pf, I, L) := ap_getP rfl kn_0 pf_0_9
theorem u_X10_reach_44 (hl : st.length ≤ 4) : az_W C R k_X10_reach 44 ls (v4 :: v3 :: v2 :: v1 :: .ref 1 :: st) (130, P, I, L) ↔ az_F C R (az_W C R k_X10_reach) (130, P, I, L) (az_cl 46 [.ref 1, v1, v2, v3, v4] 47 ls st) := ap_ivv rfl rfl kn_1 hl
theorem u_X10_reach_47 : az_W C R k_X10_reach 47 ls (.int x :: st) h ↔ if x = 0 then az_W C R k_X10_reach 62 ls st h else az_W C R k_X10_reach 50 ls st h := ap_ifeq rfl
theorem u_X10_reach_50 : az_W C R k_X10_reach 50 (.ref a :: ls) st h ↔ az_W C R k_X10_reach 51 (.ref a :: ls) (.ref a :: st) h := ap_aload rfl rfl
theorem u_X10_reach_51 : az_W C R k_X10_reach 51 ls (.ref 0 :: st) (130, az_Pf, I, L) ↔ az_W C R k_X10_reach 54 ls (.ref 94 :: st) (130, az_Pf, I, L) := ap_getP rfl kn_0 pf_0_9
theorem u_X10_reach_54 : az_W C R k_X10_reach 54 (v0 :: v1 :: v2 :: v3 :: .int x :: ls) st h ↔ az_W C R k_X10_reach 56 (v0 :: v1 :: v2 :: v3 :: .int x :: ls) (.int x :: st) h := ap_iload rfl rfl
theorem u_X10_reach_56 (hk : az_kn 130 a = (0, 2)) (hl : st.length ≤ 4) : az_W C R k_X10_reach 56 ls (v1 :: .ref a :: st) (130, P, I, L) ↔ az_F C R (az_W C R k_X10_reach) (130, P, I, L) (az_cl 25 [.ref a, v1] 59 ls st) := ap_ivv rfl rfl hk hl
theorem u_X10_reach_59 : az_W C R k_X10_reach 59 ls st h ↔ az_W C R k_X10_reach 65 ls st h := ap_goto rfl
theorem u_X10_reach_62 : az_W C R k_X10_reach 62 ls st h ↔ az_W C R k_X10_reach 65 ls (.long (-1099511627780) :: st) h := ap_const rfl
theorem u_X10_reach_65 : az_W C R k_X10_reach 65 ls [.long p] h ↔ R (some (.long p)) h := ap_lret rfl
def k_X10_move : Nat → az_P := (az_br 42 (az_br 19 (az_br 8 (az_br 2 (az_br 1 (az_lf 0 (az_iload 1 1)) (az_lf 1 (az_const (.int 1) 2))) (az_br 5 (az_lf 2 (az_const (.int 255) 5)) (az_lf 5 (az_ivs 129 3 8)))) (az_br 12 (az_br 11 (az_lf 8 (az_ifeq 33 11)) (az_lf 11 (az_iload 2 12))) (az_br 15 (az_lf 12 (az_ivs 132 1 15)) (az_br 18 (az_lf 15 (az_ifeq 33 18)) (az_lf 18 (az_iload 3 19)))))) (az_br 33 (az_br 25 (az_br 22 (az_lf 19 (az_ivs 130 1 22)) (az_lf 22 (az_ifeq 33 25))) (az_br 27 (az_lf 25 (az_iload 4 27)) (az_br 30 (az_lf 27 (az_ivs 130 1 30)) (az_lf 30 (az_ifne 37 33))))) (az_br 37 (az_br 36 (az_lf 33 (az_const (.long (-1099511627777)) 36)) (az_lf 36 (az_lret))) (az_br 38 (az_lf 37 (az_aload 0 38)) (az_br 41 (az_lf 38 (az_getP 10 0 41)) (az_lf 41 (az_iload 1 42))))))) (az_br 60 (az_br 49 (az_br 44 (az_br 43 (az_lf 42 (az_iload 2 43)) (az_lf 43 (az_iload 3 44))) (az_br 45 (az_lf 44 (az_aload 0 45)) (az_br 48 (az_lf 45 (az_getP 10 2 48)) (az_lf 48 (az_iload 2 49))))) (az_br 53 (az_br 50 (az_lf 49 (az_const (.int 0) 50)) (az_lf 50 (az_ivv 60 2 6 53))) (az_br 54 (az_lf 53 (az_aload 0 54)) (az_br 57 (az_lf 54 (az_getP 10 9 57)) (az_lf 57 (az_ivv 47 5 5 60)))))) (az_br 71 (az_br 64 (az_br 62 (az_lf 60 (az_istore 5 62)) (az_lf 62 (az_iload 5 64))) (az_br 67 (az_lf 64 (az_ifeq 79 67)) (az_br 68 (az_lf 67 (az_aload 0 68)) (az_lf 68 (az_getP 10 9 71))))) (az_br 76 (az_br 73 (az_lf 71 (az_iload 4 73)) (az_lf 73 (az_ivv 25 1 2 76))) (az_br 79 (az_lf 76 (az_goto 82)) (az_br 82 (az_lf 79 (az_const (.long (-1099511627780)) 82)) (az_lf 82 (az_lret))))))))
theorem u_X10_move_0 : az_W C R k_X10_move 0 (v0 :: .int x :: ls) st h ↔ az_W C R k_X10_move 1 (v0 :: .int x :: ls) (.int x :: st) h := ap_iload rfl rfl
theorem u_X10_move_1 : az_W C R k_X10_move 1 ls st h ↔ az_W C R k_X10_move 2 ls (.int 1 :: st) h := ap_const rfl
theorem u_X10_move_2 : az_W C R k_X10_move 2 ls st h ↔ az_W C R k_X10_move 5 ls (.int 255 :: st) h := ap_const rfl
theorem u_X10_move_5 (hl : st.length ≤ 4) : az_W C R k_X10_move 5 ls (v3 :: v2 :: v1 :: st) h ↔ az_F C R (az_W C R k_X10_move) h (az_cl 129 [v1, v2, v3] 8 ls st) := ap_ivs rfl rfl hl
theorem u_X10_move_8 : az_W C R k_X10_move 8 ls (.int x :: st) h ↔ if x = 0 then az_W C R k_X10_move 33 ls st h else az_W C R k_X10_move 11 ls st h := ap_ifeq rfl
theorem u_X10_move_11 : az_W C R k_X10_move 11 (v0 :: v1 :: .int x :: ls) st h ↔ az_W C R k_X10_move 12 (v0 :: v1 :: .int x :: ls) (.int x :: st) h := ap_iload rfl rfl
theorem u_X10_move_12 (hl : st.length ≤ 4) : az_W C R k_X10_move 12 ls (v1 :: st) h ↔ az_F C R (az_W C R k_X10_move) h (az_cl 132 [v1] 15 ls st) := ap_ivs rfl rfl hl
theorem u_X10_move_15 : az_W C R k_X10_move 15 ls (.int x :: st) h ↔ if x = 0 then az_W C R k_X10_move 33 ls st h else az_W C R k_X10_move 18 ls st h := ap_ifeq rfl
theorem u_X10_move_18 : az_W C R k_X10_move 18 (v0 :: v1 :: v2 :: .int x :: ls) st h ↔ az_W C R k_X10_move 19 (v0 :: v1 :: v2 :: .int x :: ls) (.int x :: st) h := ap_iload rfl rfl
theorem u_X10_move_19 (hl : st.length ≤ 4) : az_W C R k_X10_move 19 ls (v1 :: st) h ↔ az_F C R (az_W C R k_X10_move) h (az_cl 130 [v1] 22 ls st) := ap_ivs rfl rfl hl
theorem u_X10_move_22 : az_W C R k_X10_move 22 ls (.int x :: st) h ↔ if x = 0 then az_W C R k_X10_move 33 ls st h else az_W C R k_X10_move 25 ls st h := ap_ifeq rfl
theorem u_X10_move_25 : az_W C R k_X10_move 25 (v0 :: v1 :: v2 :: v3 :: .int x :: ls) st h ↔ az_W C R k_X10_move 27 (v0 :: v1 :: v2 :: v3 :: .int x :: ls) (.int x :: st) h := ap_iload rfl rfl
theorem u_X10_move_27 (hl : st.length ≤ 4) : az_W C R k_X10_move 27 ls (v1 :: st) h ↔ az_F C R (az_W C R k_X10_move) h (az_cl 130 [v1] 30 ls st) := ap_ivs rfl rfl hl
theorem u_X10_move_30 : az_W C R k_X10_move 30 ls (.int x :: st) h ↔ if x = 0 then az_W C R k_X10_move 33 ls st h else az_W C R k_X10_move 37 ls st h := ap_ifne rfl
theorem u_X10_move_33 : az_W C R k_X10_move 33 ls st h ↔ az_W C R k_X10_move 36 ls (.long (-1099511627777) :: st) h := ap_const rfl
theorem u_X10_move_36 : az_W C R k_X10_move 36 ls [.long p] h ↔ R (some (.long p)) h := ap_lret rfl
theorem u_X10_move_37 : az_W C R k_X10_move 37 (.ref a :: ls) st h ↔ az_W C R k_X10_move 38 (.ref a :: ls) (.ref a :: st) h := ap_aload rfl rfl
theorem u_X10_move_38 : az_W C R k_X10_move 38 ls (.ref 0 :: st) (130, az_Pf, I, L) ↔ az_W C R k_X10_move 41 ls (.ref 1 :: st) (130, az_Pf, I, L) := ap_getP rfl kn_0 pf_0_0
theorem u_X10_move_41 : az_W C R k_X10_move 41 (v0 :: .int x :: ls) st h ↔ az_W C R k_X10_move 42 (v0 :: .int x :: ls) (.int x :: st) h := ap_iload rfl rfl
theorem u_X10_move_42 : az_W C R k_X10_move 42 (v0 :: v1 :: .int x :: ls) st h ↔ az_W C R k_X10_move 43 (v0 :: v1 :: .int x :: ls) (.int x :: st) h := ap_iload rfl rfl
theorem u_X10_move_43 : az_W C R k_X10_move 43 (v0 :: v1 :: v2 :: .int x :: ls) st h ↔ az_W C R k_X10_move 44 (v0 :: v1 :: v2 :: .int x :: ls) (.int x :: st) h := ap_iload rfl rfl
theorem u_X10_move_44 : az_W C R k_X10_move 44 (.ref a :: ls) st h ↔ az_W C R k_X10_move 45 (.ref a :: ls) (.ref a :: st) h := ap_aload rfl rfl
theorem u_X10_move_45 : az_W C R k_X10_move 45 ls (.ref 0 :: st) (130, az_Pf, I, L) ↔ az_W C R k_X10_move 48 ls (.ref 35 :: st) (130, az_Pf, I, L) := ap_getP rfl kn_0 pf_0_2
theorem u_X10_move_48 : az_W C R k_X10_move 48 (v0 :: v1 :: .int x :: ls) st h ↔ az_W C R k_X10_move 49 (v0 :: v1 :: .int x :: ls) (.int x :: st) h := ap_iload rfl rfl
theorem u_X10_move_49 : az_W C R k_X10_move 49 ls st h ↔ az_W C R k_X10_move 50 ls (.int 0 :: st) h := ap_const rfl
theorem u_X10_move_50 (hl : st.length ≤ 4) : az_W C R k_X10_move 50 ls (v2 :: v1 :: .ref 35 :: st) (130, P, I, L) ↔ az_F C R (az_W C R k_X10_move) (130, P, I, L) (az_cl 60 [.ref 35, v1, v2] 53 ls st) := ap_ivv rfl rfl kn_35 hl
theorem u_X10_move_53 : az_W C R k_X10_move 53 (.ref a :: ls) st h ↔ az_W C R k_X10_move 54 (.ref a :: ls) (.ref a :: st) h := ap_aload rfl rfl
theorem u_X10_move_54 : az_W C R k_X10_move 54 ls (.ref 0 :: st) (130, az_Pf, I, L) ↔ az_W C R k_X10_move 57 ls (.ref 94 :: st) (130, az_Pf, I, L) := ap_getP rfl kn_0 pf_0_9
theorem u_X10_move_57 (hl : st.length ≤ 4) : az_W C R k_X10_move 57 ls (v5 :: v4 :: v3 :: v2 :: v1 :: .ref 1 :: st) (130, P, I, L) ↔ az_F C R (az_W C R k_X10_move) (130, P, I, L) (az_cl 47 [.ref 1, v1, v2, v3, v4, v5] 60 ls st) := ap_ivv rfl rfl kn_1 hl
theorem u_X10_move_60 : az_W C R k_X10_move 60 (v0 :: v1 :: v2 :: v3 :: v4 :: v5 :: ls) (.int x :: st) h ↔ az_W C R k_X10_move 62 (v0 :: v1 :: v2 :: v3 :: az_un v4 :: .int x :: ls) st h := ap_istore rfl rfl
theorem u_X10_move_62 : az_W C R k_X10_move 62 (v0 :: v1 :: v2 :: v3 :: v4 :: .int x :: ls) st h ↔ az_W C R k_X10_move 64 (v0 :: v1 :: v2 :: v3 :: v4 :: .int x :: ls) (.int x :: st) h := ap_iload rfl rfl
theorem u_X10_move_64 : az_W C R k_X10_move 64 ls (.int x :: st) h ↔ if x = 0 then az_W C R k_X10_move 79 ls st h else az_W C R k_X10_move 67 ls st h := ap_ifeq rfl
theorem u_X10_move_67 : az_W C R k_X10_move 67 (.ref a :: ls) st h ↔ az_W C R k_X10_move 68 (.ref a :: ls) (.ref a :: st) h := ap_aload rfl rfl
theorem u_X10_move_68 : az_W C R k_X10_move 68 ls (.ref 0 :: st) (130, az_Pf, I, L) ↔ az_W C R k_X10_move 71 ls (.ref 94 :: st) (130, az_Pf, I, L) := ap_getP rfl kn_0 pf_0_9
theorem u_X10_move_71 : az_W C R k_X10_move 71 (v0 :: v1 :: v2 :: v3 :: .int x :: ls) st h ↔ az_W C R k_X10_move 73 (v0 :: v1 :: v2 :: v3 :: .int x :: ls) (.int x :: st) h := ap_iload rfl rfl
theorem u_X10_move_73 (hk : az_kn 130 a = (0, 2)) (hl : st.length ≤ 4) : az_W C R k_X10_move 73 ls (v1 :: .ref a :: st) (130, P, I, L) ↔ az_F C R (az_W C R k_X10_move) (130, P, I, L) (az_cl 25 [.ref a, v1] 76 ls st) := ap_ivv rfl rfl hk hl
theorem u_X10_move_76 : az_W C R k_X10_move 76 ls st h ↔ az_W C R k_X10_move 82 ls st h := ap_goto rfl
theorem u_X10_move_79 : az_W C R k_X10_move 79 ls st h ↔ az_W C R k_X10_move 82 ls (.long (-1099511627780) :: st) h := ap_const rfl
theorem u_X10_move_82 : az_W C R k_X10_move 82 ls [.long p] h ↔ R (some (.long p)) h := ap_lret rfl
def k_X10_many : Nat → az_P := (az_br 22 (az_br 11 (az_br 4 (az_br 1 (az_lf 0 (az_iload 1 1)) (az_lf 1 (az_ivs 132 1 4))) (az_br 7 (az_lf 4 (az_ifeq 25 7)) (az_br 8 (az_lf 7 (az_iload 2 8)) (az_lf 8 (az_ivs 130 1 11))))) (az_br 15 (az_br 14 (az_lf 11 (az_ifeq 25 14)) (az_lf 14 (az_iload 3 15))) (az_br 16 (az_lf 15 (az_const (.int 1) 16)) (az_br 19 (az_lf 16 (az_const (.int 999) 19)) (az_lf 19 (az_ivs 129 3 22)))))) (az_br 31 (az_br 26 (az_br 25 (az_lf 22 (az_ifne 27 25)) (az_lf 25 (az_const (.int (-1)) 26))) (az_br 27 (az_lf 26 (az_iret)) (az_br 28 (az_lf 27 (az_aload 0 28)) (az_lf 28 (az_getP 10 0 31))))) (az_br 33 (az_br 32 (az_lf 31 (az_iload 1 32)) (az_lf 32 (az_iload 2 33))) (az_br 34 (az_lf 33 (az_iload 3 34)) (az_br 37 (az_lf 34 (az_ivv 48 3 5 37)) (az_lf 37 (az_iret)))))))
theorem u_X10_many_0 : az_W C R k_X10_many 0 (v0 :: .int x :: ls) st h ↔ az_W C R k_X10_many 1 (v0 :: .int x :: ls) (.int x :: st) h := ap_iload rfl rfl
theorem u_X10_many_1 (hl : st.length ≤ 4) : az_W C R k_X10_many 1 ls (v1 :: st) h ↔ az_F C R (az_W C R k_X10_many) h (az_cl 132 [v1] 4 ls st) := ap_ivs rfl rfl hl
theorem u_X10_many_4 : az_W C R k_X10_many 4 ls (.int x :: st) h ↔ if x = 0 then az_W C R k_X10_many 25 ls st h else az_W C R k_X10_many 7 ls st h := ap_ifeq rfl
theorem u_X10_many_7 : az_W C R k_X10_many 7 (v0 :: v1 :: .int x :: ls) st h ↔ az_W C R k_X10_many 8 (v0 :: v1 :: .int x :: ls) (.int x :: st) h := ap_iload rfl rfl
theorem u_X10_many_8 (hl : st.length ≤ 4) : az_W C R k_X10_many 8 ls (v1 :: st) h ↔ az_F C R (az_W C R k_X10_many) h (az_cl 130 [v1] 11 ls st) := ap_ivs rfl rfl hl
theorem u_X10_many_11 : az_W C R k_X10_many 11 ls (.int x :: st) h ↔ if x = 0 then az_W C R k_X10_many 25 ls st h else az_W C R k_X10_many 14 ls st h := ap_ifeq rfl
theorem u_X10_many_14 : az_W C R k_X10_many 14 (v0 :: v1 :: v2 :: .int x :: ls) st h ↔ az_W C R k_X10_many 15 (v0 :: v1 :: v2 :: .int x :: ls) (.int x :: st) h := ap_iload rfl rfl
theorem u_X10_many_15 : az_W C R k_X10_many 15 ls st h ↔ az_W C R k_X10_many 16 ls (.int 1 :: st) h := ap_const rfl
theorem u_X10_many_16 : az_W C R k_X10_many 16 ls st h ↔ az_W C R k_X10_many 19 ls (.int 999 :: st) h := ap_const rfl
theorem u_X10_many_19 (hl : st.length ≤ 4) : az_W C R k_X10_many 19 ls (v3 :: v2 :: v1 :: st) h ↔ az_F C R (az_W C R k_X10_many) h (az_cl 129 [v1, v2, v3] 22 ls st) := ap_ivs rfl rfl hl
theorem u_X10_many_22 : az_W C R k_X10_many 22 ls (.int x :: st) h ↔ if x = 0 then az_W C R k_X10_many 25 ls st h else az_W C R k_X10_many 27 ls st h := ap_ifne rfl
theorem u_X10_many_25 : az_W C R k_X10_many 25 ls st h ↔ az_W C R k_X10_many 26 ls (.int (-1) :: st) h := ap_const rfl
theorem u_X10_many_26 : az_W C R k_X10_many 26 ls [.int x] h ↔ R (some (.int x)) h := ap_iret rfl
theorem u_X10_many_27 : az_W C R k_X10_many 27 (.ref a :: ls) st h ↔ az_W C R k_X10_many 28 (.ref a :: ls) (.ref a :: st) h := ap_aload rfl rfl
theorem u_X10_many_28 : az_W C R k_X10_many 28 ls (.ref 0 :: st) (130, az_Pf, I, L) ↔ az_W C R k_X10_many 31 ls (.ref 1 :: st) (130, az_Pf, I, L) := ap_getP rfl kn_0 pf_0_0
theorem u_X10_many_31 : az_W C R k_X10_many 31 (v0 :: .int x :: ls) st h ↔ az_W C R k_X10_many 32 (v0 :: .int x :: ls) (.int x :: st) h := ap_iload rfl rfl
theorem u_X10_many_32 : az_W C R k_X10_many 32 (v0 :: v1 :: .int x :: ls) st h ↔ az_W C R k_X10_many 33 (v0 :: v1 :: .int x :: ls) (.int x :: st) h := ap_iload rfl rfl
theorem u_X10_many_33 : az_W C R k_X10_many 33 (v0 :: v1 :: v2 :: .int x :: ls) st h ↔ az_W C R k_X10_many 34 (v0 :: v1 :: v2 :: .int x :: ls) (.int x :: st) h := ap_iload rfl rfl
theorem u_X10_many_34 (hl : st.length ≤ 4) : az_W C R k_X10_many 34 ls (v3 :: v2 :: v1 :: .ref 1 :: st) (130, P, I, L) ↔ az_F C R (az_W C R k_X10_many) (130, P, I, L) (az_cl 48 [.ref 1, v1, v2, v3] 37 ls st) := ap_ivv rfl rfl kn_1 hl
theorem u_X10_many_37 : az_W C R k_X10_many 37 ls [.int x] h ↔ R (some (.int x)) h := ap_iret rfl
def k_X10_desk : Nat → az_P := (az_br 9 (az_br 4 (az_br 1 (az_lf 0 (az_iload 1 1)) (az_lf 1 (az_ivs 131 1 4))) (az_br 7 (az_lf 4 (az_ifne 9 7)) (az_br 8 (az_lf 7 (az_const (.int (-1)) 8)) (az_lf 8 (az_iret))))) (az_br 13 (az_br 10 (az_lf 9 (az_aload 0 10)) (az_lf 10 (az_getP 10 3 13))) (az_br 14 (az_lf 13 (az_iload 1 14)) (az_br 17 (az_lf 14 (az_ivv 6 1 0 17)) (az_lf 17 (az_iret))))))
theorem u_X10_desk_0 : az_W C R k_X10_desk 0 (v0 :: .int x :: ls) st h ↔ az_W C R k_X10_desk 1 (v0 :: .int x :: ls) (.int x :: st) h := ap_iload rfl rfl
theorem u_X10_desk_1 (hl : st.length ≤ 4) : az_W C R k_X10_desk 1 ls (v1 :: st) h ↔ az_F C R (az_W C R k_X10_desk) h (az_cl 131 [v1] 4 ls st) := ap_ivs rfl rfl hl
theorem u_X10_desk_4 : az_W C R k_X10_desk 4 ls (.int x :: st) h ↔ if x = 0 then az_W C R k_X10_desk 7 ls st h else az_W C R k_X10_desk 9 ls st h := ap_ifne rfl
theorem u_X10_desk_7 : az_W C R k_X10_desk 7 ls st h ↔ az_W C R k_X10_desk 8 ls (.int (-1) :: st) h := ap_const rfl
theorem u_X10_desk_8 : az_W C R k_X10_desk 8 ls [.int x] h ↔ R (some (.int x)) h := ap_iret rfl
theorem u_X10_desk_9 : az_W C R k_X10_desk 9 (.ref a :: ls) st h ↔ az_W C R k_X10_desk 10 (.ref a :: ls) (.ref a :: st) h := ap_aload rfl rfl
theorem u_X10_desk_10 : az_W C R k_X10_desk 10 ls (.ref 0 :: st) (130, az_Pf, I, L) ↔ az_W C R k_X10_desk 13 ls (.ref 49 :: st) (130, az_Pf, I, L) := ap_getP rfl kn_0 pf_0_3
theorem u_X10_desk_13 : az_W C R k_X10_desk 13 (v0 :: .int x :: ls) st h ↔ az_W C R k_X10_desk 14 (v0 :: .int x :: ls) (.int x :: st) h := ap_iload rfl rfl
theorem u_X10_desk_14 (hl : st.length ≤ 4) : az_W C R k_X10_desk 14 ls (v1 :: .ref 49 :: st) (130, P, I, L) ↔ az_F C R (az_W C R k_X10_desk) (130, P, I, L) (az_cl 6 [.ref 49, v1] 17 ls st) := ap_ivv rfl rfl kn_49 hl
theorem u_X10_desk_17 : az_W C R k_X10_desk 17 ls [.int x] h ↔ R (some (.int x)) h := ap_iret rfl
def k_X10_contract : Nat → az_P := (az_br 32 (az_br 13 (az_br 5 (az_br 1 (az_lf 0 (az_aload 0 1)) (az_br 4 (az_lf 1 (az_getP 10 3 4)) (az_lf 4 (az_iload 1 5)))) (az_br 9 (az_br 6 (az_lf 5 (az_iload 2 6)) (az_lf 6 (az_ivv 4 2 0 9))) (az_br 12 (az_lf 9 (az_ifeq 42 12)) (az_lf 12 (az_iload 3 13))))) (az_br 22 (az_br 19 (az_br 16 (az_lf 13 (az_ivs 132 1 16)) (az_lf 16 (az_ifeq 42 19))) (az_br 21 (az_lf 19 (az_iload 4 21)) (az_lf 21 (az_const (.int 1) 22)))) (az_br 27 (az_br 24 (az_lf 22 (az_const (.int 99) 24)) (az_lf 24 (az_ivs 129 3 27))) (az_br 30 (az_lf 27 (az_ifeq 42 30)) (az_lf 30 (az_iload 5 32)))))) (az_br 45 (az_br 39 (az_br 33 (az_lf 32 (az_const (.int 0) 33)) (az_br 36 (az_lf 33 (az_const (.int 999) 36)) (az_lf 36 (az_ivs 129 3 39)))) (az_br 43 (az_br 42 (az_lf 39 (az_ifne 44 42)) (az_lf 42 (az_const (.int (-1)) 43))) (az_br 44 (az_lf 43 (az_iret)) (az_lf 44 (az_aload 0 45))))) (az_br 51 (az_br 49 (az_br 48 (az_lf 45 (az_getP 10 3 48)) (az_lf 48 (az_iload 1 49))) (az_br 50 (az_lf 49 (az_iload 2 50)) (az_lf 50 (az_iload 3 51)))) (az_br 55 (az_br 53 (az_lf 51 (az_iload 4 53)) (az_lf 53 (az_iload 5 55))) (az_br 58 (az_lf 55 (az_ivv 7 5 0 58)) (az_lf 58 (az_iret)))))))
theorem u_X10_contract_0 : az_W C R k_X10_contract 0 (.ref a :: ls) st h ↔ az_W C R k_X10_contract 1 (.ref a :: ls) (.ref a :: st) h := ap_aload rfl rfl
theorem u_X10_contract_1 : az_W C R k_X10_contract 1 ls (.ref 0 :: st) (130, az_Pf, I, L) ↔ az_W C R k_X10_contract 4 ls (.ref 49 :: st) (130, az_Pf, I, L) := ap_getP rfl kn_0 pf_0_3
theorem u_X10_contract_4 : az_W C R k_X10_contract 4 (v0 :: .int x :: ls) st h ↔ az_W C R k_X10_contract 5 (v0 :: .int x :: ls) (.int x :: st) h := ap_iload rfl rfl
theorem u_X10_contract_5 : az_W C R k_X10_contract 5 (v0 :: v1 :: .int x :: ls) st h ↔ az_W C R k_X10_contract 6 (v0 :: v1 :: .int x :: ls) (.int x :: st) h := ap_iload rfl rfl
theorem u_X10_contract_6 (hl : st.length ≤ 4) : az_W C R k_X10_contract 6 ls (v2 :: v1 :: .ref 49 :: st) (130, P, I, L) ↔ az_F C R (az_W C R k_X10_contract) (130, P, I, L) (az_cl 4 [.ref 49, v1, v2] 9 ls st) := ap_ivv rfl rfl kn_49 hl
theorem u_X10_contract_9 : az_W C R k_X10_contract 9 ls (.int x :: st) h ↔ if x = 0 then az_W C R k_X10_contract 42 ls st h else az_W C R k_X10_contract 12 ls st h := ap_ifeq rfl
theorem u_X10_contract_12 : az_W C R k_X10_contract 12 (v0 :: v1 :: v2 :: .int x :: ls) st h ↔ az_W C R k_X10_contract 13 (v0 :: v1 :: v2 :: .int x :: ls) (.int x :: st) h := ap_iload rfl rfl
theorem u_X10_contract_13 (hl : st.length ≤ 4) : az_W C R k_X10_contract 13 ls (v1 :: st) h ↔ az_F C R (az_W C R k_X10_contract) h (az_cl 132 [v1] 16 ls st) := ap_ivs rfl rfl hl
theorem u_X10_contract_16 : az_W C R k_X10_contract 16 ls (.int x :: st) h ↔ if x = 0 then az_W C R k_X10_contract 42 ls st h else az_W C R k_X10_contract 19 ls st h := ap_ifeq rfl
theorem u_X10_contract_19 : az_W C R k_X10_contract 19 (v0 :: v1 :: v2 :: v3 :: .int x :: ls) st h ↔ az_W C R k_X10_contract 21 (v0 :: v1 :: v2 :: v3 :: .int x :: ls) (.int x :: st) h := ap_iload rfl rfl
theorem u_X10_contract_21 : az_W C R k_X10_contract 21 ls st h ↔ az_W C R k_X10_contract 22 ls (.int 1 :: st) h := ap_const rfl
theorem u_X10_contract_22 : az_W C R k_X10_contract 22 ls st h ↔ az_W C R k_X10_contract 24 ls (.int 99 :: st) h := ap_const rfl
theorem u_X10_contract_24 (hl : st.length ≤ 4) : az_W C R k_X10_contract 24 ls (v3 :: v2 :: v1 :: st) h ↔ az_F C R (az_W C R k_X10_contract) h (az_cl 129 [v1, v2, v3] 27 ls st) := ap_ivs rfl rfl hl
theorem u_X10_contract_27 : az_W C R k_X10_contract 27 ls (.int x :: st) h ↔ if x = 0 then az_W C R k_X10_contract 42 ls st h else az_W C R k_X10_contract 30 ls st h := ap_ifeq rfl
theorem u_X10_contract_30 : az_W C R k_X10_contract 30 (v0 :: v1 :: v2 :: v3 :: v4 :: .int x :: ls) st h ↔ az_W C R k_X10_contract 32 (v0 :: v1 :: v2 :: v3 :: v4 :: .int x :: ls) (.int x :: st) h := ap_iload rfl rfl
theorem u_X10_contract_32 : az_W C R k_X10_contract 32 ls st h ↔ az_W C R k_X10_contract 33 ls (.int 0 :: st) h := ap_const rfl
theorem u_X10_contract_33 : az_W C R k_X10_contract 33 ls st h ↔ az_W C R k_X10_contract 36 ls (.int 999 :: st) h := ap_const rfl
theorem u_X10_contract_36 (hl : st.length ≤ 4) : az_W C R k_X10_contract 36 ls (v3 :: v2 :: v1 :: st) h ↔ az_F C R (az_W C R k_X10_contract) h (az_cl 129 [v1, v2, v3] 39 ls st) := ap_ivs rfl rfl hl
theorem u_X10_contract_39 : az_W C R k_X10_contract 39 ls (.int x :: st) h ↔ if x = 0 then az_W C R k_X10_contract 42 ls st h else az_W C R k_X10_contract 44 ls st h := ap_ifne rfl
theorem u_X10_contract_42 : az_W C R k_X10_contract 42 ls st h ↔ az_W C R k_X10_contract 43 ls (.int (-1) :: st) h := ap_const rfl
theorem u_X10_contract_43 : az_W C R k_X10_contract 43 ls [.int x] h ↔ R (some (.int x)) h := ap_iret rfl
theorem u_X10_contract_44 : az_W C R k_X10_contract 44 (.ref a :: ls) st h ↔ az_W C R k_X10_contract 45 (.ref a :: ls) (.ref a :: st) h := ap_aload rfl rfl
theorem u_X10_contract_45 : az_W C R k_X10_contract 45 ls (.ref 0 :: st) (130, az_Pf, I, L) ↔ az_W C R k_X10_contract 48 ls (.ref 49 :: st) (130, az_Pf, I, L) := ap_getP rfl kn_0 pf_0_3
theorem u_X10_contract_48 : az_W C R k_X10_contract 48 (v0 :: .int x :: ls) st h ↔ az_W C R k_X10_contract 49 (v0 :: .int x :: ls) (.int x :: st) h := ap_iload rfl rfl
theorem u_X10_contract_49 : az_W C R k_X10_contract 49 (v0 :: v1 :: .int x :: ls) st h ↔ az_W C R k_X10_contract 50 (v0 :: v1 :: .int x :: ls) (.int x :: st) h := ap_iload rfl rfl
theorem u_X10_contract_50 : az_W C R k_X10_contract 50 (v0 :: v1 :: v2 :: .int x :: ls) st h ↔ az_W C R k_X10_contract 51 (v0 :: v1 :: v2 :: .int x :: ls) (.int x :: st) h := ap_iload rfl rfl
theorem u_X10_contract_51 : az_W C R k_X10_contract 51 (v0 :: v1 :: v2 :: v3 :: .int x :: ls) st h ↔ az_W C R k_X10_contract 53 (v0 :: v1 :: v2 :: v3 :: .int x :: ls) (.int x :: st) h := ap_iload rfl rfl
theorem u_X10_contract_53 : az_W C R k_X10_contract 53 (v0 :: v1 :: v2 :: v3 :: v4 :: .int x :: ls) st h ↔ az_W C R k_X10_contract 55 (v0 :: v1 :: v2 :: v3 :: v4 :: .int x :: ls) (.int x :: st) h := ap_iload rfl rfl
theorem u_X10_contract_55 (hl : st.length ≤ 4) : az_W C R k_X10_contract 55 ls (v5 :: v4 :: v3 :: v2 :: v1 :: .ref 49 :: st) (130, P, I, L) ↔ az_F C R (az_W C R k_X10_contract) (130, P, I, L) (az_cl 7 [.ref 49, v1, v2, v3, v4, v5] 58 ls st) := ap_ivv rfl rfl kn_49 hl
theorem u_X10_contract_58 : az_W C R k_X10_contract 58 ls [.int x] h ↔ R (some (.int x)) h := ap_iret rfl
def k_X10_gain : Nat → az_P := (az_br 33 (az_br 15 (az_br 5 (az_br 1 (az_lf 0 (az_aload 0 1)) (az_br 4 (az_lf 1 (az_getP 10 3 4)) (az_lf 4 (az_iload 1 5)))) (az_br 11 (az_br 8 (az_lf 5 (az_ivv 3 1 0 8)) (az_lf 8 (az_ifeq 25 11))) (az_br 12 (az_lf 11 (az_iload 2 12)) (az_lf 12 (az_ivs 132 1 15))))) (az_br 25 (az_br 19 (az_br 18 (az_lf 15 (az_ifeq 25 18)) (az_lf 18 (az_iload 3 19))) (az_br 22 (az_lf 19 (az_ivs 130 1 22)) (az_lf 22 (az_ifne 29 25)))) (az_br 29 (az_br 28 (az_lf 25 (az_const (.int (-10001)) 28)) (az_lf 28 (az_iret))) (az_br 30 (az_lf 29 (az_iload 3 30)) (az_lf 30 (az_ifne 45 33)))))) (az_br 46 (az_br 38 (az_br 34 (az_lf 33 (az_aload 0 34)) (az_br 37 (az_lf 34 (az_getP 10 3 37)) (az_lf 37 (az_iload 1 38)))) (az_br 42 (az_br 39 (az_lf 38 (az_iload 2 39)) (az_lf 39 (az_ivv 8 2 0 42))) (az_br 45 (az_lf 42 (az_goto 61)) (az_lf 45 (az_aload 0 46))))) (az_br 54 (az_br 50 (az_br 49 (az_lf 46 (az_getP 10 3 49)) (az_lf 49 (az_aload 0 50))) (az_br 53 (az_lf 50 (az_getP 10 3 53)) (az_lf 53 (az_iload 1 54)))) (az_br 58 (az_br 57 (az_lf 54 (az_ivv 5 1 0 57)) (az_lf 57 (az_iload 2 58))) (az_br 61 (az_lf 58 (az_ivv 9 2 0 61)) (az_lf 61 (az_iret)))))))
theorem u_X10_gain_0 : az_W C R k_X10_gain 0 (.ref a :: ls) st h ↔ az_W C R k_X10_gain 1 (.ref a :: ls) (.ref a :: st) h := ap_aload rfl rfl
theorem u_X10_gain_1 : az_W C R k_X10_gain 1 ls (.ref 0 :: st) (130, az_Pf, I, L) ↔ az_W C R k_X10_gain 4 ls (.ref 49 :: st) (130, az_Pf, I, L) := ap_getP rfl kn_0 pf_0_3
theorem u_X10_gain_4 : az_W C R k_X10_gain 4 (v0 :: .int x :: ls) st h ↔ az_W C R k_X10_gain 5 (v0 :: .int x :: ls) (.int x :: st) h := ap_iload rfl rfl
theorem u_X10_gain_5 (hl : st.length ≤ 4) : az_W C R k_X10_gain 5 ls (v1 :: .ref 49 :: st) (130, P, I, L) ↔ az_F C R (az_W C R k_X10_gain) (130, P, I, L) (az_cl 3 [.ref 49, v1] 8 ls st) := ap_ivv rfl rfl kn_49 hl
theorem u_X10_gain_8 : az_W C R k_X10_gain 8 ls (.int x :: st) h ↔ if x = 0 then az_W C R k_X10_gain 25 ls st h else az_W C R k_X10_gain 11 ls st h := ap_ifeq rfl
theorem u_X10_gain_11 : az_W C R k_X10_gain 11 (v0 :: v1 :: .int x :: ls) st h ↔ az_W C R k_X10_gain 12 (v0 :: v1 :: .int x :: ls) (.int x :: st) h := ap_iload rfl rfl
theorem u_X10_gain_12 (hl : st.length ≤ 4) : az_W C R k_X10_gain 12 ls (v1 :: st) h ↔ az_F C R (az_W C R k_X10_gain) h (az_cl 132 [v1] 15 ls st) := ap_ivs rfl rfl hl
theorem u_X10_gain_15 : az_W C R k_X10_gain 15 ls (.int x :: st) h ↔ if x = 0 then az_W C R k_X10_gain 25 ls st h else az_W C R k_X10_gain 18 ls st h := ap_ifeq rfl
theorem u_X10_gain_18 : az_W C R k_X10_gain 18 (v0 :: v1 :: v2 :: .int x :: ls) st h ↔ az_W C R k_X10_gain 19 (v0 :: v1 :: v2 :: .int x :: ls) (.int x :: st) h := ap_iload rfl rfl
theorem u_X10_gain_19 (hl : st.length ≤ 4) : az_W C R k_X10_gain 19 ls (v1 :: st) h ↔ az_F C R (az_W C R k_X10_gain) h (az_cl 130 [v1] 22 ls st) := ap_ivs rfl rfl hl
theorem u_X10_gain_22 : az_W C R k_X10_gain 22 ls (.int x :: st) h ↔ if x = 0 then az_W C R k_X10_gain 25 ls st h else az_W C R k_X10_gain 29 ls st h := ap_ifne rfl
theorem u_X10_gain_25 : az_W C R k_X10_gain 25 ls st h ↔ az_W C R k_X10_gain 28 ls (.int (-10001) :: st) h := ap_const rfl
theorem u_X10_gain_28 : az_W C R k_X10_gain 28 ls [.int x] h ↔ R (some (.int x)) h := ap_iret rfl
theorem u_X10_gain_29 : az_W C R k_X10_gain 29 (v0 :: v1 :: v2 :: .int x :: ls) st h ↔ az_W C R k_X10_gain 30 (v0 :: v1 :: v2 :: .int x :: ls) (.int x :: st) h := ap_iload rfl rfl
theorem u_X10_gain_30 : az_W C R k_X10_gain 30 ls (.int x :: st) h ↔ if x = 0 then az_W C R k_X10_gain 33 ls st h else az_W C R k_X10_gain 45 ls st h := ap_ifne rfl
theorem u_X10_gain_33 : az_W C R k_X10_gain 33 (.ref a :: ls) st h ↔ az_W C R k_X10_gain 34 (.ref a :: ls) (.ref a :: st) h := ap_aload rfl rfl
theorem u_X10_gain_34 : az_W C R k_X10_gain 34 ls (.ref 0 :: st) (130, az_Pf, I, L) ↔ az_W C R k_X10_gain 37 ls (.ref 49 :: st) (130, az_Pf, I, L) := ap_getP rfl kn_0 pf_0_3
theorem u_X10_gain_37 : az_W C R k_X10_gain 37 (v0 :: .int x :: ls) st h ↔ az_W C R k_X10_gain 38 (v0 :: .int x :: ls) (.int x :: st) h := ap_iload rfl rfl
theorem u_X10_gain_38 : az_W C R k_X10_gain 38 (v0 :: v1 :: .int x :: ls) st h ↔ az_W C R k_X10_gain 39 (v0 :: v1 :: .int x :: ls) (.int x :: st) h := ap_iload rfl rfl
theorem u_X10_gain_39 (hl : st.length ≤ 4) : az_W C R k_X10_gain 39 ls (v2 :: v1 :: .ref 49 :: st) (130, P, I, L) ↔ az_F C R (az_W C R k_X10_gain) (130, P, I, L) (az_cl 8 [.ref 49, v1, v2] 42 ls st) := ap_ivv rfl rfl kn_49 hl
theorem u_X10_gain_42 : az_W C R k_X10_gain 42 ls st h ↔ az_W C R k_X10_gain 61 ls st h := ap_goto rfl
theorem u_X10_gain_45 : az_W C R k_X10_gain 45 (.ref a :: ls) st h ↔ az_W C R k_X10_gain 46 (.ref a :: ls) (.ref a :: st) h := ap_aload rfl rfl
theorem u_X10_gain_46 : az_W C R k_X10_gain 46 ls (.ref 0 :: st) (130, az_Pf, I, L) ↔ az_W C R k_X10_gain 49 ls (.ref 49 :: st) (130, az_Pf, I, L) := ap_getP rfl kn_0 pf_0_3
theorem u_X10_gain_49 : az_W C R k_X10_gain 49 (.ref a :: ls) st h ↔ az_W C R k_X10_gain 50 (.ref a :: ls) (.ref a :: st) h := ap_aload rfl rfl
theorem u_X10_gain_50 : az_W C R k_X10_gain 50 ls (.ref 0 :: st) (130, az_Pf, I, L) ↔ az_W C R k_X10_gain 53 ls (.ref 49 :: st) (130, az_Pf, I, L) := ap_getP rfl kn_0 pf_0_3
theorem u_X10_gain_53 : az_W C R k_X10_gain 53 (v0 :: .int x :: ls) st h ↔ az_W C R k_X10_gain 54 (v0 :: .int x :: ls) (.int x :: st) h := ap_iload rfl rfl
theorem u_X10_gain_54 (hl : st.length ≤ 4) : az_W C R k_X10_gain 54 ls (v1 :: .ref 49 :: st) (130, P, I, L) ↔ az_F C R (az_W C R k_X10_gain) (130, P, I, L) (az_cl 5 [.ref 49, v1] 57 ls st) := ap_ivv rfl rfl kn_49 hl
theorem u_X10_gain_57 : az_W C R k_X10_gain 57 (v0 :: v1 :: .int x :: ls) st h ↔ az_W C R k_X10_gain 58 (v0 :: v1 :: .int x :: ls) (.int x :: st) h := ap_iload rfl rfl
theorem u_X10_gain_58 (hl : st.length ≤ 4) : az_W C R k_X10_gain 58 ls (v2 :: v1 :: .ref 49 :: st) (130, P, I, L) ↔ az_F C R (az_W C R k_X10_gain) (130, P, I, L) (az_cl 9 [.ref 49, v1, v2] 61 ls st) := ap_ivv rfl rfl kn_49 hl
theorem u_X10_gain_61 : az_W C R k_X10_gain 61 ls [.int x] h ↔ R (some (.int x)) h := ap_iret rfl
def k_X10_paid : Nat → az_P := (az_br 48 (az_br 25 (az_br 11 (az_br 4 (az_br 1 (az_lf 0 (az_aload 0 1)) (az_lf 1 (az_getP 10 3 4))) (az_br 5 (az_lf 4 (az_iload 1 5)) (az_br 8 (az_lf 5 (az_ivv 3 1 0 8)) (az_lf 8 (az_ifeq 25 11))))) (az_br 18 (az_br 12 (az_lf 11 (az_iload 2 12)) (az_br 15 (az_lf 12 (az_ivs 132 1 15)) (az_lf 15 (az_ifeq 25 18)))) (az_br 19 (az_lf 18 (az_iload 3 19)) (az_br 22 (az_lf 19 (az_ivs 130 1 22)) (az_lf 22 (az_ifne 29 25)))))) (az_br 34 (az_br 29 (az_br 28 (az_lf 25 (az_const (.long (-1099511627777)) 28)) (az_lf 28 (az_lret))) (az_br 30 (az_lf 29 (az_aload 0 30)) (az_br 33 (az_lf 30 (az_getP 10 0 33)) (az_lf 33 (az_iload 2 34))))) (az_br 41 (az_br 35 (az_lf 34 (az_aload 0 35)) (az_br 38 (az_lf 35 (az_getP 10 9 38)) (az_lf 38 (az_ivv 44 2 5 41)))) (az_br 44 (az_lf 41 (az_ifne 56 44)) (az_br 45 (az_lf 44 (az_aload 0 45)) (az_lf 45 (az_getP 10 9 48))))))) (az_br 69 (az_br 57 (az_br 50 (az_br 49 (az_lf 48 (az_const (.long 0) 49)) (az_lf 49 (az_const (.long 1) 50))) (az_br 53 (az_lf 50 (az_ivv 19 2 2 53)) (az_br 56 (az_lf 53 (az_goto 81)) (az_lf 56 (az_aload 0 57))))) (az_br 64 (az_br 60 (az_lf 57 (az_getP 10 9 60)) (az_br 61 (az_lf 60 (az_aload 0 61)) (az_lf 61 (az_getP 10 3 64)))) (az_br 65 (az_lf 64 (az_iload 1 65)) (az_br 66 (az_lf 65 (az_iload 2 66)) (az_lf 66 (az_ivv 8 2 0 69)))))) (az_br 78 (az_br 73 (az_br 70 (az_lf 69 (az_aload 0 70)) (az_lf 70 (az_getP 10 3 73))) (az_br 74 (az_lf 73 (az_iload 1 74)) (az_br 75 (az_lf 74 (az_iload 2 75)) (az_lf 75 (az_ivv 10 2 0 78))))) (az_br 85 (az_br 81 (az_lf 78 (az_ivv 22 2 2 81)) (az_br 82 (az_lf 81 (az_aload 0 82)) (az_lf 82 (az_getP 10 9 85)))) (az_br 86 (az_lf 85 (az_iload 3 86)) (az_br 89 (az_lf 86 (az_ivv 25 1 2 89)) (az_lf 89 (az_lret))))))))
theorem u_X10_paid_0 : az_W C R k_X10_paid 0 (.ref a :: ls) st h ↔ az_W C R k_X10_paid 1 (.ref a :: ls) (.ref a :: st) h := ap_aload rfl rfl
theorem u_X10_paid_1 : az_W C R k_X10_paid 1 ls (.ref 0 :: st) (130, az_Pf, I, L) ↔ az_W C R k_X10_paid 4 ls (.ref 49 :: st) (130, az_Pf, I, L) := ap_getP rfl kn_0 pf_0_3
theorem u_X10_paid_4 : az_W C R k_X10_paid 4 (v0 :: .int x :: ls) st h ↔ az_W C R k_X10_paid 5 (v0 :: .int x :: ls) (.int x :: st) h := ap_iload rfl rfl
theorem u_X10_paid_5 (hl : st.length ≤ 4) : az_W C R k_X10_paid 5 ls (v1 :: .ref 49 :: st) (130, P, I, L) ↔ az_F C R (az_W C R k_X10_paid) (130, P, I, L) (az_cl 3 [.ref 49, v1] 8 ls st) := ap_ivv rfl rfl kn_49 hl
theorem u_X10_paid_8 : az_W C R k_X10_paid 8 ls (.int x :: st) h ↔ if x = 0 then az_W C R k_X10_paid 25 ls st h else az_W C R k_X10_paid 11 ls st h := ap_ifeq rfl
theorem u_X10_paid_11 : az_W C R k_X10_paid 11 (v0 :: v1 :: .int x :: ls) st h ↔ az_W C R k_X10_paid 12 (v0 :: v1 :: .int x :: ls) (.int x :: st) h := ap_iload rfl rfl
theorem u_X10_paid_12 (hl : st.length ≤ 4) : az_W C R k_X10_paid 12 ls (v1 :: st) h ↔ az_F C R (az_W C R k_X10_paid) h (az_cl 132 [v1] 15 ls st) := ap_ivs rfl rfl hl
theorem u_X10_paid_15 : az_W C R k_X10_paid 15 ls (.int x :: st) h ↔ if x = 0 then az_W C R k_X10_paid 25 ls st h else az_W C R k_X10_paid 18 ls st h := ap_ifeq rfl
theorem u_X10_paid_18 : az_W C R k_X10_paid 18 (v0 :: v1 :: v2 :: .int x :: ls) st h ↔ az_W C R k_X10_paid 19 (v0 :: v1 :: v2 :: .int x :: ls) (.int x :: st) h := ap_iload rfl rfl
theorem u_X10_paid_19 (hl : st.length ≤ 4) : az_W C R k_X10_paid 19 ls (v1 :: st) h ↔ az_F C R (az_W C R k_X10_paid) h (az_cl 130 [v1] 22 ls st) := ap_ivs rfl rfl hl
theorem u_X10_paid_22 : az_W C R k_X10_paid 22 ls (.int x :: st) h ↔ if x = 0 then az_W C R k_X10_paid 25 ls st h else az_W C R k_X10_paid 29 ls st h := ap_ifne rfl
theorem u_X10_paid_25 : az_W C R k_X10_paid 25 ls st h ↔ az_W C R k_X10_paid 28 ls (.long (-1099511627777) :: st) h := ap_const rfl
theorem u_X10_paid_28 : az_W C R k_X10_paid 28 ls [.long p] h ↔ R (some (.long p)) h := ap_lret rfl
theorem u_X10_paid_29 : az_W C R k_X10_paid 29 (.ref a :: ls) st h ↔ az_W C R k_X10_paid 30 (.ref a :: ls) (.ref a :: st) h := ap_aload rfl rfl
theorem u_X10_paid_30 : az_W C R k_X10_paid 30 ls (.ref 0 :: st) (130, az_Pf, I, L) ↔ az_W C R k_X10_paid 33 ls (.ref 1 :: st) (130, az_Pf, I, L) := ap_getP rfl kn_0 pf_0_0
theorem u_X10_paid_33 : az_W C R k_X10_paid 33 (v0 :: v1 :: .int x :: ls) st h ↔ az_W C R k_X10_paid 34 (v0 :: v1 :: .int x :: ls) (.int x :: st) h := ap_iload rfl rfl
theorem u_X10_paid_34 : az_W C R k_X10_paid 34 (.ref a :: ls) st h ↔ az_W C R k_X10_paid 35 (.ref a :: ls) (.ref a :: st) h := ap_aload rfl rfl
theorem u_X10_paid_35 : az_W C R k_X10_paid 35 ls (.ref 0 :: st) (130, az_Pf, I, L) ↔ az_W C R k_X10_paid 38 ls (.ref 94 :: st) (130, az_Pf, I, L) := ap_getP rfl kn_0 pf_0_9
theorem u_X10_paid_38 (hl : st.length ≤ 4) : az_W C R k_X10_paid 38 ls (v2 :: v1 :: .ref 1 :: st) (130, P, I, L) ↔ az_F C R (az_W C R k_X10_paid) (130, P, I, L) (az_cl 44 [.ref 1, v1, v2] 41 ls st) := ap_ivv rfl rfl kn_1 hl
theorem u_X10_paid_41 : az_W C R k_X10_paid 41 ls (.int x :: st) h ↔ if x = 0 then az_W C R k_X10_paid 44 ls st h else az_W C R k_X10_paid 56 ls st h := ap_ifne rfl
theorem u_X10_paid_44 : az_W C R k_X10_paid 44 (.ref a :: ls) st h ↔ az_W C R k_X10_paid 45 (.ref a :: ls) (.ref a :: st) h := ap_aload rfl rfl
theorem u_X10_paid_45 : az_W C R k_X10_paid 45 ls (.ref 0 :: st) (130, az_Pf, I, L) ↔ az_W C R k_X10_paid 48 ls (.ref 94 :: st) (130, az_Pf, I, L) := ap_getP rfl kn_0 pf_0_9
theorem u_X10_paid_48 : az_W C R k_X10_paid 48 ls st h ↔ az_W C R k_X10_paid 49 ls (.long 0 :: st) h := ap_const rfl
theorem u_X10_paid_49 : az_W C R k_X10_paid 49 ls st h ↔ az_W C R k_X10_paid 50 ls (.long 1 :: st) h := ap_const rfl
theorem u_X10_paid_50 (hk : az_kn 130 a = (0, 2)) (hl : st.length ≤ 4) : az_W C R k_X10_paid 50 ls (v2 :: v1 :: .ref a :: st) (130, P, I, L) ↔ az_F C R (az_W C R k_X10_paid) (130, P, I, L) (az_cl 19 [.ref a, v1, v2] 53 ls st) := ap_ivv rfl rfl hk hl
theorem u_X10_paid_53 : az_W C R k_X10_paid 53 ls st h ↔ az_W C R k_X10_paid 81 ls st h := ap_goto rfl
theorem u_X10_paid_56 : az_W C R k_X10_paid 56 (.ref a :: ls) st h ↔ az_W C R k_X10_paid 57 (.ref a :: ls) (.ref a :: st) h := ap_aload rfl rfl
theorem u_X10_paid_57 : az_W C R k_X10_paid 57 ls (.ref 0 :: st) (130, az_Pf, I, L) ↔ az_W C R k_X10_paid 60 ls (.ref 94 :: st) (130, az_Pf, I, L) := ap_getP rfl kn_0 pf_0_9
theorem u_X10_paid_60 : az_W C R k_X10_paid 60 (.ref a :: ls) st h ↔ az_W C R k_X10_paid 61 (.ref a :: ls) (.ref a :: st) h := ap_aload rfl rfl
theorem u_X10_paid_61 : az_W C R k_X10_paid 61 ls (.ref 0 :: st) (130, az_Pf, I, L) ↔ az_W C R k_X10_paid 64 ls (.ref 49 :: st) (130, az_Pf, I, L) := ap_getP rfl kn_0 pf_0_3
theorem u_X10_paid_64 : az_W C R k_X10_paid 64 (v0 :: .int x :: ls) st h ↔ az_W C R k_X10_paid 65 (v0 :: .int x :: ls) (.int x :: st) h := ap_iload rfl rfl
theorem u_X10_paid_65 : az_W C R k_X10_paid 65 (v0 :: v1 :: .int x :: ls) st h ↔ az_W C R k_X10_paid 66 (v0 :: v1 :: .int x :: ls) (.int x :: st) h := ap_iload rfl rfl
theorem u_X10_paid_66 (hl : st.length ≤ 4) : az_W C R k_X10_paid 66 ls (v2 :: v1 :: .ref 49 :: st) (130, P, I, L) ↔ az_F C R (az_W C R k_X10_paid) (130, P, I, L) (az_cl 8 [.ref 49, v1, v2] 69 ls st) := ap_ivv rfl rfl kn_49 hl
theorem u_X10_paid_69 : az_W C R k_X10_paid 69 (.ref a :: ls) st h ↔ az_W C R k_X10_paid 70 (.ref a :: ls) (.ref a :: st) h := ap_aload rfl rfl
theorem u_X10_paid_70 : az_W C R k_X10_paid 70 ls (.ref 0 :: st) (130, az_Pf, I, L) ↔ az_W C R k_X10_paid 73 ls (.ref 49 :: st) (130, az_Pf, I, L) := ap_getP rfl kn_0 pf_0_3
theorem u_X10_paid_73 : az_W C R k_X10_paid 73 (v0 :: .int x :: ls) st h ↔ az_W C R k_X10_paid 74 (v0 :: .int x :: ls) (.int x :: st) h := ap_iload rfl rfl
theorem u_X10_paid_74 : az_W C R k_X10_paid 74 (v0 :: v1 :: .int x :: ls) st h ↔ az_W C R k_X10_paid 75 (v0 :: v1 :: .int x :: ls) (.int x :: st) h := ap_iload rfl rfl
theorem u_X10_paid_75 (hl : st.length ≤ 4) : az_W C R k_X10_paid 75 ls (v2 :: v1 :: .ref 49 :: st) (130, P, I, L) ↔ az_F C R (az_W C R k_X10_paid) (130, P, I, L) (az_cl 10 [.ref 49, v1, v2] 78 ls st) := ap_ivv rfl rfl kn_49 hl
theorem u_X10_paid_78 (hk : az_kn 130 a = (0, 2)) (hl : st.length ≤ 4) : az_W C R k_X10_paid 78 ls (v2 :: v1 :: .ref a :: st) (130, P, I, L) ↔ az_F C R (az_W C R k_X10_paid) (130, P, I, L) (az_cl 22 [.ref a, v1, v2] 81 ls st) := ap_ivv rfl rfl hk hl
theorem u_X10_paid_81 : az_W C R k_X10_paid 81 (.ref a :: ls) st h ↔ az_W C R k_X10_paid 82 (.ref a :: ls) (.ref a :: st) h := ap_aload rfl rfl
theorem u_X10_paid_82 : az_W C R k_X10_paid 82 ls (.ref 0 :: st) (130, az_Pf, I, L) ↔ az_W C R k_X10_paid 85 ls (.ref 94 :: st) (130, az_Pf, I, L) := ap_getP rfl kn_0 pf_0_9
theorem u_X10_paid_85 : az_W C R k_X10_paid 85 (v0 :: v1 :: v2 :: .int x :: ls) st h ↔ az_W C R k_X10_paid 86 (v0 :: v1 :: v2 :: .int x :: ls) (.int x :: st) h := ap_iload rfl rfl
theorem u_X10_paid_86 (hk : az_kn 130 a = (0, 2)) (hl : st.length ≤ 4) : az_W C R k_X10_paid 86 ls (v1 :: .ref a :: st) (130, P, I, L) ↔ az_F C R (az_W C R k_X10_paid) (130, P, I, L) (az_cl 25 [.ref a, v1] 89 ls st) := ap_ivv rfl rfl hk hl
theorem u_X10_paid_89 : az_W C R k_X10_paid 89 ls [.long p] h ↔ R (some (.long p)) h := ap_lret rfl
def k_X10_unlike : Nat → az_P := (az_br 14 (az_br 8 (az_br 4 (az_br 1 (az_lf 0 (az_iload 1 1)) (az_lf 1 (az_ivs 132 1 4))) (az_br 7 (az_lf 4 (az_ifne 9 7)) (az_lf 7 (az_const (.int (-1)) 8)))) (az_br 10 (az_br 9 (az_lf 8 (az_iret)) (az_lf 9 (az_aload 0 10))) (az_br 13 (az_lf 10 (az_getP 10 3 13)) (az_lf 13 (az_iload 1 14))))) (az_br 22 (az_br 18 (az_br 15 (az_lf 14 (az_const (.int 1) 15)) (az_lf 15 (az_ivv 11 2 0 18))) (az_br 19 (az_lf 18 (az_aload 0 19)) (az_lf 19 (az_getP 10 3 22)))) (az_br 24 (az_br 23 (az_lf 22 (az_iload 1 23)) (az_lf 23 (az_const (.int (-1)) 24))) (az_br 27 (az_lf 24 (az_ivv 11 2 0 27)) (az_br 28 (az_lf 27 (az_ii (fun x y => x &&& y) 28)) (az_lf 28 (az_iret)))))))
theorem u_X10_unlike_0 : az_W C R k_X10_unlike 0 (v0 :: .int x :: ls) st h ↔ az_W C R k_X10_unlike 1 (v0 :: .int x :: ls) (.int x :: st) h := ap_iload rfl rfl
theorem u_X10_unlike_1 (hl : st.length ≤ 4) : az_W C R k_X10_unlike 1 ls (v1 :: st) h ↔ az_F C R (az_W C R k_X10_unlike) h (az_cl 132 [v1] 4 ls st) := ap_ivs rfl rfl hl
theorem u_X10_unlike_4 : az_W C R k_X10_unlike 4 ls (.int x :: st) h ↔ if x = 0 then az_W C R k_X10_unlike 7 ls st h else az_W C R k_X10_unlike 9 ls st h := ap_ifne rfl
theorem u_X10_unlike_7 : az_W C R k_X10_unlike 7 ls st h ↔ az_W C R k_X10_unlike 8 ls (.int (-1) :: st) h := ap_const rfl
theorem u_X10_unlike_8 : az_W C R k_X10_unlike 8 ls [.int x] h ↔ R (some (.int x)) h := ap_iret rfl
theorem u_X10_unlike_9 : az_W C R k_X10_unlike 9 (.ref a :: ls) st h ↔ az_W C R k_X10_unlike 10 (.ref a :: ls) (.ref a :: st) h := ap_aload rfl rfl
theorem u_X10_unlike_10 : az_W C R k_X10_unlike 10 ls (.ref 0 :: st) (130, az_Pf, I, L) ↔ az_W C R k_X10_unlike 13 ls (.ref 49 :: st) (130, az_Pf, I, L) := ap_getP rfl kn_0 pf_0_3
theorem u_X10_unlike_13 : az_W C R k_X10_unlike 13 (v0 :: .int x :: ls) st h ↔ az_W C R k_X10_unlike 14 (v0 :: .int x :: ls) (.int x :: st) h := ap_iload rfl rfl
theorem u_X10_unlike_14 : az_W C R k_X10_unlike 14 ls st h ↔ az_W C R k_X10_unlike 15 ls (.int 1 :: st) h := ap_const rfl
theorem u_X10_unlike_15 (hl : st.length ≤ 4) : az_W C R k_X10_unlike 15 ls (v2 :: v1 :: .ref 49 :: st) (130, P, I, L) ↔ az_F C R (az_W C R k_X10_unlike) (130, P, I, L) (az_cl 11 [.ref 49, v1, v2] 18 ls st) := ap_ivv rfl rfl kn_49 hl
theorem u_X10_unlike_18 : az_W C R k_X10_unlike 18 (.ref a :: ls) st h ↔ az_W C R k_X10_unlike 19 (.ref a :: ls) (.ref a :: st) h := ap_aload rfl rfl
theorem u_X10_unlike_19 : az_W C R k_X10_unlike 19 ls (.ref 0 :: st) (130, az_Pf, I, L) ↔ az_W C R k_X10_unlike 22 ls (.ref 49 :: st) (130, az_Pf, I, L) := ap_getP rfl kn_0 pf_0_3
theorem u_X10_unlike_22 : az_W C R k_X10_unlike 22 (v0 :: .int x :: ls) st h ↔ az_W C R k_X10_unlike 23 (v0 :: .int x :: ls) (.int x :: st) h := ap_iload rfl rfl
theorem u_X10_unlike_23 : az_W C R k_X10_unlike 23 ls st h ↔ az_W C R k_X10_unlike 24 ls (.int (-1) :: st) h := ap_const rfl
theorem u_X10_unlike_24 (hl : st.length ≤ 4) : az_W C R k_X10_unlike 24 ls (v2 :: v1 :: .ref 49 :: st) (130, P, I, L) ↔ az_F C R (az_W C R k_X10_unlike) (130, P, I, L) (az_cl 11 [.ref 49, v1, v2] 27 ls st) := ap_ivv rfl rfl kn_49 hl
theorem u_X10_unlike_27 : az_W C R k_X10_unlike 27 ls (.int y :: .int x :: st) h ↔ az_W C R k_X10_unlike 28 ls (.int (x &&& y) :: st) h := ap_ii (f := fun x y => x &&& y) rfl
theorem u_X10_unlike_28 : az_W C R k_X10_unlike 28 ls [.int x] h ↔ R (some (.int x)) h := ap_iret rfl
def k_X10_count : Nat → az_P := (az_br 64 (az_br 49 (az_br 41 (az_br 1 (az_lf 0 (az_iload 1 1)) (az_br 40 (az_lf 1 (az_switch [(0, 40), (1, 48), (2, 56), (3, 64), (4, 72), (5, 80)] 88)) (az_lf 40 (az_aload 0 41)))) (az_br 47 (az_br 44 (az_lf 41 (az_getP 10 3 44)) (az_lf 44 (az_ivv 1 0 0 47))) (az_br 48 (az_lf 47 (az_iret)) (az_lf 48 (az_aload 0 49))))) (az_br 56 (az_br 52 (az_lf 49 (az_getP 10 3 52)) (az_br 55 (az_lf 52 (az_ivv 2 0 0 55)) (az_lf 55 (az_iret)))) (az_br 60 (az_br 57 (az_lf 56 (az_aload 0 57)) (az_lf 57 (az_getP 10 4 60))) (az_br 63 (az_lf 60 (az_ivv 27 0 3 63)) (az_lf 63 (az_iret)))))) (az_br 79 (az_br 71 (az_br 65 (az_lf 64 (az_aload 0 65)) (az_br 68 (az_lf 65 (az_getP 10 5 68)) (az_lf 68 (az_ivv 67 0 7 71)))) (az_br 73 (az_br 72 (az_lf 71 (az_iret)) (az_lf 72 (az_aload 0 73))) (az_br 76 (az_lf 73 (az_getP 10 6 76)) (az_lf 76 (az_ivv 81 0 9 79))))) (az_br 84 (az_br 80 (az_lf 79 (az_iret)) (az_br 81 (az_lf 80 (az_aload 0 81)) (az_lf 81 (az_getP 10 2 84)))) (az_br 88 (az_br 87 (az_lf 84 (az_ivv 57 0 6 87)) (az_lf 87 (az_iret))) (az_br 89 (az_lf 88 (az_const (.int (-1)) 89)) (az_lf 89 (az_iret)))))))
theorem u_X10_count_0 : az_W C R k_X10_count 0 (v0 :: .int x :: ls) st h ↔ az_W C R k_X10_count 1 (v0 :: .int x :: ls) (.int x :: st) h := ap_iload rfl rfl
theorem u_X10_count_1 : az_W C R k_X10_count 1 ls (.int x :: st) h ↔ az_W C R k_X10_count (az_pick x 88 [(0, 40), (1, 48), (2, 56), (3, 64), (4, 72), (5, 80)]) ls st h := ap_switch rfl
theorem u_X10_count_40 : az_W C R k_X10_count 40 (.ref a :: ls) st h ↔ az_W C R k_X10_count 41 (.ref a :: ls) (.ref a :: st) h := ap_aload rfl rfl
theorem u_X10_count_41 : az_W C R k_X10_count 41 ls (.ref 0 :: st) (130, az_Pf, I, L) ↔ az_W C R k_X10_count 44 ls (.ref 49 :: st) (130, az_Pf, I, L) := ap_getP rfl kn_0 pf_0_3
theorem u_X10_count_44 (hl : st.length ≤ 4) : az_W C R k_X10_count 44 ls (.ref 49 :: st) (130, P, I, L) ↔ az_F C R (az_W C R k_X10_count) (130, P, I, L) (az_cl 1 [.ref 49] 47 ls st) := ap_ivv rfl rfl kn_49 hl
theorem u_X10_count_47 : az_W C R k_X10_count 47 ls [.int x] h ↔ R (some (.int x)) h := ap_iret rfl
theorem u_X10_count_48 : az_W C R k_X10_count 48 (.ref a :: ls) st h ↔ az_W C R k_X10_count 49 (.ref a :: ls) (.ref a :: st) h := ap_aload rfl rfl
theorem u_X10_count_49 : az_W C R k_X10_count 49 ls (.ref 0 :: st) (130, az_Pf, I, L) ↔ az_W C R k_X10_count 52 ls (.ref 49 :: st) (130, az_Pf, I, L) := ap_getP rfl kn_0 pf_0_3
theorem u_X10_count_52 (hl : st.length ≤ 4) : az_W C R k_X10_count 52 ls (.ref 49 :: st) (130, P, I, L) ↔ az_F C R (az_W C R k_X10_count) (130, P, I, L) (az_cl 2 [.ref 49] 55 ls st) := ap_ivv rfl rfl kn_49 hl
theorem u_X10_count_55 : az_W C R k_X10_count 55 ls [.int x] h ↔ R (some (.int x)) h := ap_iret rfl
theorem u_X10_count_56 : az_W C R k_X10_count 56 (.ref a :: ls) st h ↔ az_W C R k_X10_count 57 (.ref a :: ls) (.ref a :: st) h := ap_aload rfl rfl
theorem u_X10_count_57 : az_W C R k_X10_count 57 ls (.ref 0 :: st) (130, az_Pf, I, L) ↔ az_W C R k_X10_count 60 ls (.ref 56 :: st) (130, az_Pf, I, L) := ap_getP rfl kn_0 pf_0_4
theorem u_X10_count_60 (hl : st.length ≤ 4) : az_W C R k_X10_count 60 ls (.ref 56 :: st) (130, P, I, L) ↔ az_F C R (az_W C R k_X10_count) (130, P, I, L) (az_cl 27 [.ref 56] 63 ls st) := ap_ivv rfl rfl kn_56 hl
theorem u_X10_count_63 : az_W C R k_X10_count 63 ls [.int x] h ↔ R (some (.int x)) h := ap_iret rfl
theorem u_X10_count_64 : az_W C R k_X10_count 64 (.ref a :: ls) st h ↔ az_W C R k_X10_count 65 (.ref a :: ls) (.ref a :: st) h := ap_aload rfl rfl
theorem u_X10_count_65 : az_W C R k_X10_count 65 ls (.ref 0 :: st) (130, az_Pf, I, L) ↔ az_W C R k_X10_count 68 ls (.ref 60 :: st) (130, az_Pf, I, L) := ap_getP rfl kn_0 pf_0_5
theorem u_X10_count_68 (hl : st.length ≤ 4) : az_W C R k_X10_count 68 ls (.ref 60 :: st) (130, P, I, L) ↔ az_F C R (az_W C R k_X10_count) (130, P, I, L) (az_cl 67 [.ref 60] 71 ls st) := ap_ivv rfl rfl kn_60 hl
theorem u_X10_count_71 : az_W C R k_X10_count 71 ls [.int x] h ↔ R (some (.int x)) h := ap_iret rfl
theorem u_X10_count_72 : az_W C R k_X10_count 72 (.ref a :: ls) st h ↔ az_W C R k_X10_count 73 (.ref a :: ls) (.ref a :: st) h := ap_aload rfl rfl
theorem u_X10_count_73 : az_W C R k_X10_count 73 ls (.ref 0 :: st) (130, az_Pf, I, L) ↔ az_W C R k_X10_count 76 ls (.ref 63 :: st) (130, az_Pf, I, L) := ap_getP rfl kn_0 pf_0_6
theorem u_X10_count_76 (hl : st.length ≤ 4) : az_W C R k_X10_count 76 ls (.ref 63 :: st) (130, P, I, L) ↔ az_F C R (az_W C R k_X10_count) (130, P, I, L) (az_cl 81 [.ref 63] 79 ls st) := ap_ivv rfl rfl kn_63 hl
theorem u_X10_count_79 : az_W C R k_X10_count 79 ls [.int x] h ↔ R (some (.int x)) h := ap_iret rfl
theorem u_X10_count_80 : az_W C R k_X10_count 80 (.ref a :: ls) st h ↔ az_W C R k_X10_count 81 (.ref a :: ls) (.ref a :: st) h := ap_aload rfl rfl
theorem u_X10_count_81 : az_W C R k_X10_count 81 ls (.ref 0 :: st) (130, az_Pf, I, L) ↔ az_W C R k_X10_count 84 ls (.ref 35 :: st) (130, az_Pf, I, L) := ap_getP rfl kn_0 pf_0_2
theorem u_X10_count_84 (hl : st.length ≤ 4) : az_W C R k_X10_count 84 ls (.ref 35 :: st) (130, P, I, L) ↔ az_F C R (az_W C R k_X10_count) (130, P, I, L) (az_cl 57 [.ref 35] 87 ls st) := ap_ivv rfl rfl kn_35 hl
theorem u_X10_count_87 : az_W C R k_X10_count 87 ls [.int x] h ↔ R (some (.int x)) h := ap_iret rfl
theorem u_X10_count_88 : az_W C R k_X10_count 88 ls st h ↔ az_W C R k_X10_count 89 ls (.int (-1) :: st) h := ap_const rfl
theorem u_X10_count_89 : az_W C R k_X10_count 89 ls [.int x] h ↔ R (some (.int x)) h := ap_iret rfl
def k_X10_lent : Nat → az_P := (az_br 22 (az_br 11 (az_br 4 (az_br 1 (az_lf 0 (az_iload 1 1)) (az_lf 1 (az_ivs 131 1 4))) (az_br 7 (az_lf 4 (az_ifeq 25 7)) (az_br 8 (az_lf 7 (az_iload 2 8)) (az_lf 8 (az_ivs 132 1 11))))) (az_br 15 (az_br 14 (az_lf 11 (az_ifeq 25 14)) (az_lf 14 (az_iload 3 15))) (az_br 16 (az_lf 15 (az_const (.int 0) 16)) (az_br 19 (az_lf 16 (az_const (.int 999) 19)) (az_lf 19 (az_ivs 129 3 22)))))) (az_br 31 (az_br 26 (az_br 25 (az_lf 22 (az_ifne 27 25)) (az_lf 25 (az_const (.int (-1)) 26))) (az_br 27 (az_lf 26 (az_iret)) (az_br 28 (az_lf 27 (az_aload 0 28)) (az_lf 28 (az_getP 10 4 31))))) (az_br 33 (az_br 32 (az_lf 31 (az_iload 1 32)) (az_lf 32 (az_iload 2 33))) (az_br 34 (az_lf 33 (az_iload 3 34)) (az_br 37 (az_lf 34 (az_ivv 30 3 3 37)) (az_lf 37 (az_iret)))))))
theorem u_X10_lent_0 : az_W C R k_X10_lent 0 (v0 :: .int x :: ls) st h ↔ az_W C R k_X10_lent 1 (v0 :: .int x :: ls) (.int x :: st) h := ap_iload rfl rfl
theorem u_X10_lent_1 (hl : st.length ≤ 4) : az_W C R k_X10_lent 1 ls (v1 :: st) h ↔ az_F C R (az_W C R k_X10_lent) h (az_cl 131 [v1] 4 ls st) := ap_ivs rfl rfl hl
theorem u_X10_lent_4 : az_W C R k_X10_lent 4 ls (.int x :: st) h ↔ if x = 0 then az_W C R k_X10_lent 25 ls st h else az_W C R k_X10_lent 7 ls st h := ap_ifeq rfl
theorem u_X10_lent_7 : az_W C R k_X10_lent 7 (v0 :: v1 :: .int x :: ls) st h ↔ az_W C R k_X10_lent 8 (v0 :: v1 :: .int x :: ls) (.int x :: st) h := ap_iload rfl rfl
theorem u_X10_lent_8 (hl : st.length ≤ 4) : az_W C R k_X10_lent 8 ls (v1 :: st) h ↔ az_F C R (az_W C R k_X10_lent) h (az_cl 132 [v1] 11 ls st) := ap_ivs rfl rfl hl
theorem u_X10_lent_11 : az_W C R k_X10_lent 11 ls (.int x :: st) h ↔ if x = 0 then az_W C R k_X10_lent 25 ls st h else az_W C R k_X10_lent 14 ls st h := ap_ifeq rfl
theorem u_X10_lent_14 : az_W C R k_X10_lent 14 (v0 :: v1 :: v2 :: .int x :: ls) st h ↔ az_W C R k_X10_lent 15 (v0 :: v1 :: v2 :: .int x :: ls) (.int x :: st) h := ap_iload rfl rfl
theorem u_X10_lent_15 : az_W C R k_X10_lent 15 ls st h ↔ az_W C R k_X10_lent 16 ls (.int 0 :: st) h := ap_const rfl
theorem u_X10_lent_16 : az_W C R k_X10_lent 16 ls st h ↔ az_W C R k_X10_lent 19 ls (.int 999 :: st) h := ap_const rfl
theorem u_X10_lent_19 (hl : st.length ≤ 4) : az_W C R k_X10_lent 19 ls (v3 :: v2 :: v1 :: st) h ↔ az_F C R (az_W C R k_X10_lent) h (az_cl 129 [v1, v2, v3] 22 ls st) := ap_ivs rfl rfl hl
theorem u_X10_lent_22 : az_W C R k_X10_lent 22 ls (.int x :: st) h ↔ if x = 0 then az_W C R k_X10_lent 25 ls st h else az_W C R k_X10_lent 27 ls st h := ap_ifne rfl
theorem u_X10_lent_25 : az_W C R k_X10_lent 25 ls st h ↔ az_W C R k_X10_lent 26 ls (.int (-1) :: st) h := ap_const rfl
theorem u_X10_lent_26 : az_W C R k_X10_lent 26 ls [.int x] h ↔ R (some (.int x)) h := ap_iret rfl
theorem u_X10_lent_27 : az_W C R k_X10_lent 27 (.ref a :: ls) st h ↔ az_W C R k_X10_lent 28 (.ref a :: ls) (.ref a :: st) h := ap_aload rfl rfl
theorem u_X10_lent_28 : az_W C R k_X10_lent 28 ls (.ref 0 :: st) (130, az_Pf, I, L) ↔ az_W C R k_X10_lent 31 ls (.ref 56 :: st) (130, az_Pf, I, L) := ap_getP rfl kn_0 pf_0_4
theorem u_X10_lent_31 : az_W C R k_X10_lent 31 (v0 :: .int x :: ls) st h ↔ az_W C R k_X10_lent 32 (v0 :: .int x :: ls) (.int x :: st) h := ap_iload rfl rfl
theorem u_X10_lent_32 : az_W C R k_X10_lent 32 (v0 :: v1 :: .int x :: ls) st h ↔ az_W C R k_X10_lent 33 (v0 :: v1 :: .int x :: ls) (.int x :: st) h := ap_iload rfl rfl
theorem u_X10_lent_33 : az_W C R k_X10_lent 33 (v0 :: v1 :: v2 :: .int x :: ls) st h ↔ az_W C R k_X10_lent 34 (v0 :: v1 :: v2 :: .int x :: ls) (.int x :: st) h := ap_iload rfl rfl
theorem u_X10_lent_34 (hl : st.length ≤ 4) : az_W C R k_X10_lent 34 ls (v3 :: v2 :: v1 :: .ref 56 :: st) (130, P, I, L) ↔ az_F C R (az_W C R k_X10_lent) (130, P, I, L) (az_cl 30 [.ref 56, v1, v2, v3] 37 ls st) := ap_ivv rfl rfl kn_56 hl
theorem u_X10_lent_37 : az_W C R k_X10_lent 37 ls [.int x] h ↔ R (some (.int x)) h := ap_iret rfl
def k_X10_truth : Nat → az_P := (az_br 26 (az_br 15 (az_br 7 (az_br 1 (az_lf 0 (az_iload 1 1)) (az_br 4 (az_lf 1 (az_ivs 131 1 4)) (az_lf 4 (az_ifeq 21 7)))) (az_br 11 (az_br 8 (az_lf 7 (az_iload 2 8)) (az_lf 8 (az_ivs 132 1 11))) (az_br 14 (az_lf 11 (az_ifeq 21 14)) (az_lf 14 (az_iload 3 15))))) (az_br 22 (az_br 18 (az_lf 15 (az_ivs 130 1 18)) (az_br 21 (az_lf 18 (az_ifne 23 21)) (az_lf 21 (az_const (.int (-1)) 22)))) (az_br 24 (az_br 23 (az_lf 22 (az_iret)) (az_lf 23 (az_aload 0 24))) (az_br 25 (az_lf 24 (az_iload 1 25)) (az_lf 25 (az_iload 2 26)))))) (az_br 40 (az_br 34 (az_br 29 (az_lf 26 (az_ivv 135 2 10 29)) (az_br 32 (az_lf 29 (az_ifne 35 32)) (az_lf 32 (az_const (.int (-4)) 34)))) (az_br 36 (az_br 35 (az_lf 34 (az_iret)) (az_lf 35 (az_iload 3 36))) (az_br 39 (az_lf 36 (az_ifne 49 39)) (az_lf 39 (az_aload 0 40))))) (az_br 49 (az_br 43 (az_lf 40 (az_getP 10 4 43)) (az_br 46 (az_lf 43 (az_ivv 28 0 3 46)) (az_lf 46 (az_goto 56)))) (az_br 53 (az_br 50 (az_lf 49 (az_aload 0 50)) (az_lf 50 (az_getP 10 4 53))) (az_br 56 (az_lf 53 (az_ivv 29 0 3 56)) (az_lf 56 (az_iret)))))))
theorem u_X10_truth_0 : az_W C R k_X10_truth 0 (v0 :: .int x :: ls) st h ↔ az_W C R k_X10_truth 1 (v0 :: .int x :: ls) (.int x :: st) h := ap_iload rfl rfl
theorem u_X10_truth_1 (hl : st.length ≤ 4) : az_W C R k_X10_truth 1 ls (v1 :: st) h ↔ az_F C R (az_W C R k_X10_truth) h (az_cl 131 [v1] 4 ls st) := ap_ivs rfl rfl hl
theorem u_X10_truth_4 : az_W C R k_X10_truth 4 ls (.int x :: st) h ↔ if x = 0 then az_W C R k_X10_truth 21 ls st h else az_W C R k_X10_truth 7 ls st h := ap_ifeq rfl
theorem u_X10_truth_7 : az_W C R k_X10_truth 7 (v0 :: v1 :: .int x :: ls) st h ↔ az_W C R k_X10_truth 8 (v0 :: v1 :: .int x :: ls) (.int x :: st) h := ap_iload rfl rfl
theorem u_X10_truth_8 (hl : st.length ≤ 4) : az_W C R k_X10_truth 8 ls (v1 :: st) h ↔ az_F C R (az_W C R k_X10_truth) h (az_cl 132 [v1] 11 ls st) := ap_ivs rfl rfl hl
theorem u_X10_truth_11 : az_W C R k_X10_truth 11 ls (.int x :: st) h ↔ if x = 0 then az_W C R k_X10_truth 21 ls st h else az_W C R k_X10_truth 14 ls st h := ap_ifeq rfl
theorem u_X10_truth_14 : az_W C R k_X10_truth 14 (v0 :: v1 :: v2 :: .int x :: ls) st h ↔ az_W C R k_X10_truth 15 (v0 :: v1 :: v2 :: .int x :: ls) (.int x :: st) h := ap_iload rfl rfl
theorem u_X10_truth_15 (hl : st.length ≤ 4) : az_W C R k_X10_truth 15 ls (v1 :: st) h ↔ az_F C R (az_W C R k_X10_truth) h (az_cl 130 [v1] 18 ls st) := ap_ivs rfl rfl hl
theorem u_X10_truth_18 : az_W C R k_X10_truth 18 ls (.int x :: st) h ↔ if x = 0 then az_W C R k_X10_truth 21 ls st h else az_W C R k_X10_truth 23 ls st h := ap_ifne rfl
theorem u_X10_truth_21 : az_W C R k_X10_truth 21 ls st h ↔ az_W C R k_X10_truth 22 ls (.int (-1) :: st) h := ap_const rfl
theorem u_X10_truth_22 : az_W C R k_X10_truth 22 ls [.int x] h ↔ R (some (.int x)) h := ap_iret rfl
theorem u_X10_truth_23 : az_W C R k_X10_truth 23 (.ref a :: ls) st h ↔ az_W C R k_X10_truth 24 (.ref a :: ls) (.ref a :: st) h := ap_aload rfl rfl
theorem u_X10_truth_24 : az_W C R k_X10_truth 24 (v0 :: .int x :: ls) st h ↔ az_W C R k_X10_truth 25 (v0 :: .int x :: ls) (.int x :: st) h := ap_iload rfl rfl
theorem u_X10_truth_25 : az_W C R k_X10_truth 25 (v0 :: v1 :: .int x :: ls) st h ↔ az_W C R k_X10_truth 26 (v0 :: v1 :: .int x :: ls) (.int x :: st) h := ap_iload rfl rfl
theorem u_X10_truth_26 (hl : st.length ≤ 4) : az_W C R k_X10_truth 26 ls (v2 :: v1 :: .ref 0 :: st) (130, P, I, L) ↔ az_F C R (az_W C R k_X10_truth) (130, P, I, L) (az_cl 135 [.ref 0, v1, v2] 29 ls st) := ap_ivv rfl rfl kn_0 hl
theorem u_X10_truth_29 : az_W C R k_X10_truth 29 ls (.int x :: st) h ↔ if x = 0 then az_W C R k_X10_truth 32 ls st h else az_W C R k_X10_truth 35 ls st h := ap_ifne rfl
theorem u_X10_truth_32 : az_W C R k_X10_truth 32 ls st h ↔ az_W C R k_X10_truth 34 ls (.int (-4) :: st) h := ap_const rfl
theorem u_X10_truth_34 : az_W C R k_X10_truth 34 ls [.int x] h ↔ R (some (.int x)) h := ap_iret rfl
theorem u_X10_truth_35 : az_W C R k_X10_truth 35 (v0 :: v1 :: v2 :: .int x :: ls) st h ↔ az_W C R k_X10_truth 36 (v0 :: v1 :: v2 :: .int x :: ls) (.int x :: st) h := ap_iload rfl rfl
theorem u_X10_truth_36 : az_W C R k_X10_truth 36 ls (.int x :: st) h ↔ if x = 0 then az_W C R k_X10_truth 39 ls st h else az_W C R k_X10_truth 49 ls st h := ap_ifne rfl
theorem u_X10_truth_39 : az_W C R k_X10_truth 39 (.ref a :: ls) st h ↔ az_W C R k_X10_truth 40 (.ref a :: ls) (.ref a :: st) h := ap_aload rfl rfl
theorem u_X10_truth_40 : az_W C R k_X10_truth 40 ls (.ref 0 :: st) (130, az_Pf, I, L) ↔ az_W C R k_X10_truth 43 ls (.ref 56 :: st) (130, az_Pf, I, L) := ap_getP rfl kn_0 pf_0_4
theorem u_X10_truth_43 (hl : st.length ≤ 4) : az_W C R k_X10_truth 43 ls (.ref 56 :: st) (130, P, I, L) ↔ az_F C R (az_W C R k_X10_truth) (130, P, I, L) (az_cl 28 [.ref 56] 46 ls st) := ap_ivv rfl rfl kn_56 hl
theorem u_X10_truth_46 : az_W C R k_X10_truth 46 ls st h ↔ az_W C R k_X10_truth 56 ls st h := ap_goto rfl
theorem u_X10_truth_49 : az_W C R k_X10_truth 49 (.ref a :: ls) st h ↔ az_W C R k_X10_truth 50 (.ref a :: ls) (.ref a :: st) h := ap_aload rfl rfl
theorem u_X10_truth_50 : az_W C R k_X10_truth 50 ls (.ref 0 :: st) (130, az_Pf, I, L) ↔ az_W C R k_X10_truth 53 ls (.ref 56 :: st) (130, az_Pf, I, L) := ap_getP rfl kn_0 pf_0_4
theorem u_X10_truth_53 (hl : st.length ≤ 4) : az_W C R k_X10_truth 53 ls (.ref 56 :: st) (130, P, I, L) ↔ az_F C R (az_W C R k_X10_truth) (130, P, I, L) (az_cl 29 [.ref 56] 56 ls st) := ap_ivv rfl rfl kn_56 hl
theorem u_X10_truth_56 : az_W C R k_X10_truth 56 ls [.int x] h ↔ R (some (.int x)) h := ap_iret rfl
def k_X10_out : Nat → az_P := (az_br 14 (az_br 7 (az_br 1 (az_lf 0 (az_iload 1 1)) (az_br 4 (az_lf 1 (az_ivs 131 1 4)) (az_lf 4 (az_ifeq 14 7)))) (az_br 8 (az_lf 7 (az_iload 2 8)) (az_br 11 (az_lf 8 (az_ivs 132 1 11)) (az_lf 11 (az_ifne 17 14))))) (az_br 18 (az_br 16 (az_lf 14 (az_const (.int (-11)) 16)) (az_br 17 (az_lf 16 (az_iret)) (az_lf 17 (az_aload 0 18)))) (az_br 20 (az_br 19 (az_lf 18 (az_iload 1 19)) (az_lf 19 (az_iload 2 20))) (az_br 23 (az_lf 20 (az_ivv 136 2 10 23)) (az_lf 23 (az_iret))))))
theorem u_X10_out_0 : az_W C R k_X10_out 0 (v0 :: .int x :: ls) st h ↔ az_W C R k_X10_out 1 (v0 :: .int x :: ls) (.int x :: st) h := ap_iload rfl rfl
theorem u_X10_out_1 (hl : st.length ≤ 4) : az_W C R k_X10_out 1 ls (v1 :: st) h ↔ az_F C R (az_W C R k_X10_out) h (az_cl 131 [v1] 4 ls st) := ap_ivs rfl rfl hl
theorem u_X10_out_4 : az_W C R k_X10_out 4 ls (.int x :: st) h ↔ if x = 0 then az_W C R k_X10_out 14 ls st h else az_W C R k_X10_out 7 ls st h := ap_ifeq rfl
theorem u_X10_out_7 : az_W C R k_X10_out 7 (v0 :: v1 :: .int x :: ls) st h ↔ az_W C R k_X10_out 8 (v0 :: v1 :: .int x :: ls) (.int x :: st) h := ap_iload rfl rfl
theorem u_X10_out_8 (hl : st.length ≤ 4) : az_W C R k_X10_out 8 ls (v1 :: st) h ↔ az_F C R (az_W C R k_X10_out) h (az_cl 132 [v1] 11 ls st) := ap_ivs rfl rfl hl
theorem u_X10_out_11 : az_W C R k_X10_out 11 ls (.int x :: st) h ↔ if x = 0 then az_W C R k_X10_out 14 ls st h else az_W C R k_X10_out 17 ls st h := ap_ifne rfl
theorem u_X10_out_14 : az_W C R k_X10_out 14 ls st h ↔ az_W C R k_X10_out 16 ls (.int (-11) :: st) h := ap_const rfl
theorem u_X10_out_16 : az_W C R k_X10_out 16 ls [.int x] h ↔ R (some (.int x)) h := ap_iret rfl
theorem u_X10_out_17 : az_W C R k_X10_out 17 (.ref a :: ls) st h ↔ az_W C R k_X10_out 18 (.ref a :: ls) (.ref a :: st) h := ap_aload rfl rfl
theorem u_X10_out_18 : az_W C R k_X10_out 18 (v0 :: .int x :: ls) st h ↔ az_W C R k_X10_out 19 (v0 :: .int x :: ls) (.int x :: st) h := ap_iload rfl rfl
theorem u_X10_out_19 : az_W C R k_X10_out 19 (v0 :: v1 :: .int x :: ls) st h ↔ az_W C R k_X10_out 20 (v0 :: v1 :: .int x :: ls) (.int x :: st) h := ap_iload rfl rfl
theorem u_X10_out_20 (hl : st.length ≤ 4) : az_W C R k_X10_out 20 ls (v2 :: v1 :: .ref 0 :: st) (130, P, I, L) ↔ az_F C R (az_W C R k_X10_out) (130, P, I, L) (az_cl 136 [.ref 0, v1, v2] 23 ls st) := ap_ivv rfl rfl kn_0 hl
theorem u_X10_out_23 : az_W C R k_X10_out 23 ls [.int x] h ↔ R (some (.int x)) h := ap_iret rfl
def k_X10_right : Nat → az_P := (az_br 20 (az_br 11 (az_br 4 (az_br 1 (az_lf 0 (az_iload 1 1)) (az_lf 1 (az_ivs 132 1 4))) (az_br 7 (az_lf 4 (az_ifeq 14 7)) (az_br 8 (az_lf 7 (az_iload 2 8)) (az_lf 8 (az_ivs 130 1 11))))) (az_br 17 (az_br 14 (az_lf 11 (az_ifne 18 14)) (az_lf 14 (az_const (.long (-1099511627777)) 17))) (az_br 18 (az_lf 17 (az_lret)) (az_br 19 (az_lf 18 (az_aload 0 19)) (az_lf 19 (az_iload 1 20)))))) (az_br 31 (az_br 24 (az_br 21 (az_lf 20 (az_aload 0 21)) (az_lf 21 (az_getP 10 9 24))) (az_br 27 (az_lf 24 (az_ivv 137 2 10 27)) (az_br 30 (az_lf 27 (az_ifeq 41 30)) (az_lf 30 (az_aload 0 31))))) (az_br 38 (az_br 34 (az_lf 31 (az_getP 10 9 34)) (az_br 35 (az_lf 34 (az_iload 2 35)) (az_lf 35 (az_ivv 25 1 2 38)))) (az_br 41 (az_lf 38 (az_goto 44)) (az_br 44 (az_lf 41 (az_const (.long (-1099511627780)) 44)) (az_lf 44 (az_lret)))))))
theorem u_X10_right_0 : az_W C R k_X10_right 0 (v0 :: .int x :: ls) st h ↔ az_W C R k_X10_right 1 (v0 :: .int x :: ls) (.int x :: st) h := ap_iload rfl rfl
theorem u_X10_right_1 (hl : st.length ≤ 4) : az_W C R k_X10_right 1 ls (v1 :: st) h ↔ az_F C R (az_W C R k_X10_right) h (az_cl 132 [v1] 4 ls st) := ap_ivs rfl rfl hl
theorem u_X10_right_4 : az_W C R k_X10_right 4 ls (.int x :: st) h ↔ if x = 0 then az_W C R k_X10_right 14 ls st h else az_W C R k_X10_right 7 ls st h := ap_ifeq rfl
theorem u_X10_right_7 : az_W C R k_X10_right 7 (v0 :: v1 :: .int x :: ls) st h ↔ az_W C R k_X10_right 8 (v0 :: v1 :: .int x :: ls) (.int x :: st) h := ap_iload rfl rfl
theorem u_X10_right_8 (hl : st.length ≤ 4) : az_W C R k_X10_right 8 ls (v1 :: st) h ↔ az_F C R (az_W C R k_X10_right) h (az_cl 130 [v1] 11 ls st) := ap_ivs rfl rfl hl
theorem u_X10_right_11 : az_W C R k_X10_right 11 ls (.int x :: st) h ↔ if x = 0 then az_W C R k_X10_right 14 ls st h else az_W C R k_X10_right 18 ls st h := ap_ifne rfl
theorem u_X10_right_14 : az_W C R k_X10_right 14 ls st h ↔ az_W C R k_X10_right 17 ls (.long (-1099511627777) :: st) h := ap_const rfl
theorem u_X10_right_17 : az_W C R k_X10_right 17 ls [.long p] h ↔ R (some (.long p)) h := ap_lret rfl
theorem u_X10_right_18 : az_W C R k_X10_right 18 (.ref a :: ls) st h ↔ az_W C R k_X10_right 19 (.ref a :: ls) (.ref a :: st) h := ap_aload rfl rfl
theorem u_X10_right_19 : az_W C R k_X10_right 19 (v0 :: .int x :: ls) st h ↔ az_W C R k_X10_right 20 (v0 :: .int x :: ls) (.int x :: st) h := ap_iload rfl rfl
theorem u_X10_right_20 : az_W C R k_X10_right 20 (.ref a :: ls) st h ↔ az_W C R k_X10_right 21 (.ref a :: ls) (.ref a :: st) h := ap_aload rfl rfl
theorem u_X10_right_21 : az_W C R k_X10_right 21 ls (.ref 0 :: st) (130, az_Pf, I, L) ↔ az_W C R k_X10_right 24 ls (.ref 94 :: st) (130, az_Pf, I, L) := ap_getP rfl kn_0 pf_0_9
theorem u_X10_right_24 (hl : st.length ≤ 4) : az_W C R k_X10_right 24 ls (v2 :: v1 :: .ref 0 :: st) (130, P, I, L) ↔ az_F C R (az_W C R k_X10_right) (130, P, I, L) (az_cl 137 [.ref 0, v1, v2] 27 ls st) := ap_ivv rfl rfl kn_0 hl
theorem u_X10_right_27 : az_W C R k_X10_right 27 ls (.int x :: st) h ↔ if x = 0 then az_W C R k_X10_right 41 ls st h else az_W C R k_X10_right 30 ls st h := ap_ifeq rfl
theorem u_X10_right_30 : az_W C R k_X10_right 30 (.ref a :: ls) st h ↔ az_W C R k_X10_right 31 (.ref a :: ls) (.ref a :: st) h := ap_aload rfl rfl
theorem u_X10_right_31 : az_W C R k_X10_right 31 ls (.ref 0 :: st) (130, az_Pf, I, L) ↔ az_W C R k_X10_right 34 ls (.ref 94 :: st) (130, az_Pf, I, L) := ap_getP rfl kn_0 pf_0_9
theorem u_X10_right_34 : az_W C R k_X10_right 34 (v0 :: v1 :: .int x :: ls) st h ↔ az_W C R k_X10_right 35 (v0 :: v1 :: .int x :: ls) (.int x :: st) h := ap_iload rfl rfl
theorem u_X10_right_35 (hk : az_kn 130 a = (0, 2)) (hl : st.length ≤ 4) : az_W C R k_X10_right 35 ls (v1 :: .ref a :: st) (130, P, I, L) ↔ az_F C R (az_W C R k_X10_right) (130, P, I, L) (az_cl 25 [.ref a, v1] 38 ls st) := ap_ivv rfl rfl hk hl
theorem u_X10_right_38 : az_W C R k_X10_right 38 ls st h ↔ az_W C R k_X10_right 44 ls st h := ap_goto rfl
theorem u_X10_right_41 : az_W C R k_X10_right 41 ls st h ↔ az_W C R k_X10_right 44 ls (.long (-1099511627780) :: st) h := ap_const rfl
theorem u_X10_right_44 : az_W C R k_X10_right 44 ls [.long p] h ↔ R (some (.long p)) h := ap_lret rfl
def k_X10_lost : Nat → az_P := (az_br 56 (az_br 29 (az_br 12 (az_br 5 (az_br 1 (az_lf 0 (az_aload 0 1)) (az_br 4 (az_lf 1 (az_getP 10 3 4)) (az_lf 4 (az_iload 1 5)))) (az_br 8 (az_lf 5 (az_ivv 3 1 0 8)) (az_br 11 (az_lf 8 (az_ifeq 25 11)) (az_lf 11 (az_iload 2 12))))) (az_br 19 (az_br 15 (az_lf 12 (az_ivs 132 1 15)) (az_br 18 (az_lf 15 (az_ifeq 25 18)) (az_lf 18 (az_iload 3 19)))) (az_br 25 (az_br 22 (az_lf 19 (az_ivs 130 1 22)) (az_lf 22 (az_ifne 29 25))) (az_br 28 (az_lf 25 (az_const (.long (-1099511627777)) 28)) (az_lf 28 (az_lret)))))) (az_br 41 (az_br 34 (az_br 30 (az_lf 29 (az_aload 0 30)) (az_br 33 (az_lf 30 (az_getP 10 0 33)) (az_lf 33 (az_iload 2 34)))) (az_br 35 (az_lf 34 (az_aload 0 35)) (az_br 38 (az_lf 35 (az_getP 10 10 38)) (az_lf 38 (az_ivv 44 2 5 41))))) (az_br 46 (az_br 44 (az_lf 41 (az_ifeq 91 44)) (az_br 45 (az_lf 44 (az_aload 0 45)) (az_lf 45 (az_iload 2 46)))) (az_br 50 (az_br 47 (az_lf 46 (az_aload 0 47)) (az_lf 47 (az_getP 10 9 50))) (az_br 53 (az_lf 50 (az_ivv 137 2 10 53)) (az_lf 53 (az_ifeq 91 56))))))) (az_br 81 (az_br 68 (az_br 61 (az_br 57 (az_lf 56 (az_aload 0 57)) (az_br 60 (az_lf 57 (az_getP 10 9 60)) (az_lf 60 (az_aload 0 61)))) (az_br 64 (az_lf 61 (az_getP 10 9 64)) (az_br 65 (az_lf 64 (az_aload 0 65)) (az_lf 65 (az_getP 10 10 68))))) (az_br 75 (az_br 71 (az_lf 68 (az_ivv 21 2 2 71)) (az_br 72 (az_lf 71 (az_aload 0 72)) (az_lf 72 (az_getP 10 9 75)))) (az_br 79 (az_br 76 (az_lf 75 (az_aload 0 76)) (az_lf 76 (az_getP 10 3 79))) (az_br 80 (az_lf 79 (az_iload 1 80)) (az_lf 80 (az_iload 2 81)))))) (az_br 96 (az_br 88 (az_br 84 (az_lf 81 (az_ivv 8 2 0 84)) (az_br 85 (az_lf 84 (az_const (.int 0) 85)) (az_lf 85 (az_ivv 22 2 2 88)))) (az_br 92 (az_br 91 (az_lf 88 (az_goto 100)) (az_lf 91 (az_aload 0 92))) (az_br 95 (az_lf 92 (az_getP 10 9 95)) (az_lf 95 (az_const (.long 0) 96))))) (az_br 101 (az_br 97 (az_lf 96 (az_const (.long 1) 97)) (az_br 100 (az_lf 97 (az_ivv 19 2 2 100)) (az_lf 100 (az_aload 0 101)))) (az_br 105 (az_br 104 (az_lf 101 (az_getP 10 9 104)) (az_lf 104 (az_iload 3 105))) (az_br 108 (az_lf 105 (az_ivv 25 1 2 108)) (az_lf 108 (az_lret))))))))
theorem u_X10_lost_0 : az_W C R k_X10_lost 0 (.ref a :: ls) st h ↔ az_W C R k_X10_lost 1 (.ref a :: ls) (.ref a :: st) h := ap_aload rfl rfl
theorem u_X10_lost_1 : az_W C R k_X10_lost 1 ls (.ref 0 :: st) (130, az_Pf, I, L) ↔ az_W C R k_X10_lost 4 ls (.ref 49 :: st) (130, az_Pf, I, L) := ap_getP rfl kn_0 pf_0_3
theorem u_X10_lost_4 : az_W C R k_X10_lost 4 (v0 :: .int x :: ls) st h ↔ az_W C R k_X10_lost 5 (v0 :: .int x :: ls) (.int x :: st) h := ap_iload rfl rfl
theorem u_X10_lost_5 (hl : st.length ≤ 4) : az_W C R k_X10_lost 5 ls (v1 :: .ref 49 :: st) (130, P, I, L) ↔ az_F C R (az_W C R k_X10_lost) (130, P, I, L) (az_cl 3 [.ref 49, v1] 8 ls st) := ap_ivv rfl rfl kn_49 hl
theorem u_X10_lost_8 : az_W C R k_X10_lost 8 ls (.int x :: st) h ↔ if x = 0 then az_W C R k_X10_lost 25 ls st h else az_W C R k_X10_lost 11 ls st h := ap_ifeq rfl
theorem u_X10_lost_11 : az_W C R k_X10_lost 11 (v0 :: v1 :: .int x :: ls) st h ↔ az_W C R k_X10_lost 12 (v0 :: v1 :: .int x :: ls) (.int x :: st) h := ap_iload rfl rfl
theorem u_X10_lost_12 (hl : st.length ≤ 4) : az_W C R k_X10_lost 12 ls (v1 :: st) h ↔ az_F C R (az_W C R k_X10_lost) h (az_cl 132 [v1] 15 ls st) := ap_ivs rfl rfl hl
theorem u_X10_lost_15 : az_W C R k_X10_lost 15 ls (.int x :: st) h ↔ if x = 0 then az_W C R k_X10_lost 25 ls st h else az_W C R k_X10_lost 18 ls st h := ap_ifeq rfl
theorem u_X10_lost_18 : az_W C R k_X10_lost 18 (v0 :: v1 :: v2 :: .int x :: ls) st h ↔ az_W C R k_X10_lost 19 (v0 :: v1 :: v2 :: .int x :: ls) (.int x :: st) h := ap_iload rfl rfl
theorem u_X10_lost_19 (hl : st.length ≤ 4) : az_W C R k_X10_lost 19 ls (v1 :: st) h ↔ az_F C R (az_W C R k_X10_lost) h (az_cl 130 [v1] 22 ls st) := ap_ivs rfl rfl hl
theorem u_X10_lost_22 : az_W C R k_X10_lost 22 ls (.int x :: st) h ↔ if x = 0 then az_W C R k_X10_lost 25 ls st h else az_W C R k_X10_lost 29 ls st h := ap_ifne rfl
theorem u_X10_lost_25 : az_W C R k_X10_lost 25 ls st h ↔ az_W C R k_X10_lost 28 ls (.long (-1099511627777) :: st) h := ap_const rfl
theorem u_X10_lost_28 : az_W C R k_X10_lost 28 ls [.long p] h ↔ R (some (.long p)) h := ap_lret rfl
theorem u_X10_lost_29 : az_W C R k_X10_lost 29 (.ref a :: ls) st h ↔ az_W C R k_X10_lost 30 (.ref a :: ls) (.ref a :: st) h := ap_aload rfl rfl
theorem u_X10_lost_30 : az_W C R k_X10_lost 30 ls (.ref 0 :: st) (130, az_Pf, I, L) ↔ az_W C R k_X10_lost 33 ls (.ref 1 :: st) (130, az_Pf, I, L) := ap_getP rfl kn_0 pf_0_0
theorem u_X10_lost_33 : az_W C R k_X10_lost 33 (v0 :: v1 :: .int x :: ls) st h ↔ az_W C R k_X10_lost 34 (v0 :: v1 :: .int x :: ls) (.int x :: st) h := ap_iload rfl rfl
theorem u_X10_lost_34 : az_W C R k_X10_lost 34 (.ref a :: ls) st h ↔ az_W C R k_X10_lost 35 (.ref a :: ls) (.ref a :: st) h := ap_aload rfl rfl
theorem u_X10_lost_35 : az_W C R k_X10_lost 35 ls (.ref 0 :: st) (130, az_Pf, I, L) ↔ az_W C R k_X10_lost 38 ls (.ref 95 :: st) (130, az_Pf, I, L) := ap_getP rfl kn_0 pf_0_10
theorem u_X10_lost_38 (hl : st.length ≤ 4) : az_W C R k_X10_lost 38 ls (v2 :: v1 :: .ref 1 :: st) (130, P, I, L) ↔ az_F C R (az_W C R k_X10_lost) (130, P, I, L) (az_cl 44 [.ref 1, v1, v2] 41 ls st) := ap_ivv rfl rfl kn_1 hl
theorem u_X10_lost_41 : az_W C R k_X10_lost 41 ls (.int x :: st) h ↔ if x = 0 then az_W C R k_X10_lost 91 ls st h else az_W C R k_X10_lost 44 ls st h := ap_ifeq rfl
theorem u_X10_lost_44 : az_W C R k_X10_lost 44 (.ref a :: ls) st h ↔ az_W C R k_X10_lost 45 (.ref a :: ls) (.ref a :: st) h := ap_aload rfl rfl
theorem u_X10_lost_45 : az_W C R k_X10_lost 45 (v0 :: v1 :: .int x :: ls) st h ↔ az_W C R k_X10_lost 46 (v0 :: v1 :: .int x :: ls) (.int x :: st) h := ap_iload rfl rfl
theorem u_X10_lost_46 : az_W C R k_X10_lost 46 (.ref a :: ls) st h ↔ az_W C R k_X10_lost 47 (.ref a :: ls) (.ref a :: st) h := ap_aload rfl rfl
theorem u_X10_lost_47 : az_W C R k_X10_lost 47 ls (.ref 0 :: st) (130, az_Pf, I, L) ↔ az_W C R k_X10_lost 50 ls (.ref 94 :: st) (130, az_Pf, I, L) := ap_getP rfl kn_0 pf_0_9
theorem u_X10_lost_50 (hl : st.length ≤ 4) : az_W C R k_X10_lost 50 ls (v2 :: v1 :: .ref 0 :: st) (130, P, I, L) ↔ az_F C R (az_W C R k_X10_lost) (130, P, I, L) (az_cl 137 [.ref 0, v1, v2] 53 ls st) := ap_ivv rfl rfl kn_0 hl
theorem u_X10_lost_53 : az_W C R k_X10_lost 53 ls (.int x :: st) h ↔ if x = 0 then az_W C R k_X10_lost 91 ls st h else az_W C R k_X10_lost 56 ls st h := ap_ifeq rfl
theorem u_X10_lost_56 : az_W C R k_X10_lost 56 (.ref a :: ls) st h ↔ az_W C R k_X10_lost 57 (.ref a :: ls) (.ref a :: st) h := ap_aload rfl rfl
theorem u_X10_lost_57 : az_W C R k_X10_lost 57 ls (.ref 0 :: st) (130, az_Pf, I, L) ↔ az_W C R k_X10_lost 60 ls (.ref 94 :: st) (130, az_Pf, I, L) := ap_getP rfl kn_0 pf_0_9
theorem u_X10_lost_60 : az_W C R k_X10_lost 60 (.ref a :: ls) st h ↔ az_W C R k_X10_lost 61 (.ref a :: ls) (.ref a :: st) h := ap_aload rfl rfl
theorem u_X10_lost_61 : az_W C R k_X10_lost 61 ls (.ref 0 :: st) (130, az_Pf, I, L) ↔ az_W C R k_X10_lost 64 ls (.ref 94 :: st) (130, az_Pf, I, L) := ap_getP rfl kn_0 pf_0_9
theorem u_X10_lost_64 : az_W C R k_X10_lost 64 (.ref a :: ls) st h ↔ az_W C R k_X10_lost 65 (.ref a :: ls) (.ref a :: st) h := ap_aload rfl rfl
theorem u_X10_lost_65 : az_W C R k_X10_lost 65 ls (.ref 0 :: st) (130, az_Pf, I, L) ↔ az_W C R k_X10_lost 68 ls (.ref 95 :: st) (130, az_Pf, I, L) := ap_getP rfl kn_0 pf_0_10
theorem u_X10_lost_68 (hk : az_kn 130 a = (0, 2)) (hl : st.length ≤ 4) : az_W C R k_X10_lost 68 ls (v2 :: v1 :: .ref a :: st) (130, P, I, L) ↔ az_F C R (az_W C R k_X10_lost) (130, P, I, L) (az_cl 21 [.ref a, v1, v2] 71 ls st) := ap_ivv rfl rfl hk hl
theorem u_X10_lost_71 : az_W C R k_X10_lost 71 (.ref a :: ls) st h ↔ az_W C R k_X10_lost 72 (.ref a :: ls) (.ref a :: st) h := ap_aload rfl rfl
theorem u_X10_lost_72 : az_W C R k_X10_lost 72 ls (.ref 0 :: st) (130, az_Pf, I, L) ↔ az_W C R k_X10_lost 75 ls (.ref 94 :: st) (130, az_Pf, I, L) := ap_getP rfl kn_0 pf_0_9
theorem u_X10_lost_75 : az_W C R k_X10_lost 75 (.ref a :: ls) st h ↔ az_W C R k_X10_lost 76 (.ref a :: ls) (.ref a :: st) h := ap_aload rfl rfl
theorem u_X10_lost_76 : az_W C R k_X10_lost 76 ls (.ref 0 :: st) (130, az_Pf, I, L) ↔ az_W C R k_X10_lost 79 ls (.ref 49 :: st) (130, az_Pf, I, L) := ap_getP rfl kn_0 pf_0_3
theorem u_X10_lost_79 : az_W C R k_X10_lost 79 (v0 :: .int x :: ls) st h ↔ az_W C R k_X10_lost 80 (v0 :: .int x :: ls) (.int x :: st) h := ap_iload rfl rfl
theorem u_X10_lost_80 : az_W C R k_X10_lost 80 (v0 :: v1 :: .int x :: ls) st h ↔ az_W C R k_X10_lost 81 (v0 :: v1 :: .int x :: ls) (.int x :: st) h := ap_iload rfl rfl
theorem u_X10_lost_81 (hl : st.length ≤ 4) : az_W C R k_X10_lost 81 ls (v2 :: v1 :: .ref 49 :: st) (130, P, I, L) ↔ az_F C R (az_W C R k_X10_lost) (130, P, I, L) (az_cl 8 [.ref 49, v1, v2] 84 ls st) := ap_ivv rfl rfl kn_49 hl
theorem u_X10_lost_84 : az_W C R k_X10_lost 84 ls st h ↔ az_W C R k_X10_lost 85 ls (.int 0 :: st) h := ap_const rfl
theorem u_X10_lost_85 (hk : az_kn 130 a = (0, 2)) (hl : st.length ≤ 4) : az_W C R k_X10_lost 85 ls (v2 :: v1 :: .ref a :: st) (130, P, I, L) ↔ az_F C R (az_W C R k_X10_lost) (130, P, I, L) (az_cl 22 [.ref a, v1, v2] 88 ls st) := ap_ivv rfl rfl hk hl
theorem u_X10_lost_88 : az_W C R k_X10_lost 88 ls st h ↔ az_W C R k_X10_lost 100 ls st h := ap_goto rfl
theorem u_X10_lost_91 : az_W C R k_X10_lost 91 (.ref a :: ls) st h ↔ az_W C R k_X10_lost 92 (.ref a :: ls) (.ref a :: st) h := ap_aload rfl rfl
theorem u_X10_lost_92 : az_W C R k_X10_lost 92 ls (.ref 0 :: st) (130, az_Pf, I, L) ↔ az_W C R k_X10_lost 95 ls (.ref 94 :: st) (130, az_Pf, I, L) := ap_getP rfl kn_0 pf_0_9
theorem u_X10_lost_95 : az_W C R k_X10_lost 95 ls st h ↔ az_W C R k_X10_lost 96 ls (.long 0 :: st) h := ap_const rfl
theorem u_X10_lost_96 : az_W C R k_X10_lost 96 ls st h ↔ az_W C R k_X10_lost 97 ls (.long 1 :: st) h := ap_const rfl
theorem u_X10_lost_97 (hk : az_kn 130 a = (0, 2)) (hl : st.length ≤ 4) : az_W C R k_X10_lost 97 ls (v2 :: v1 :: .ref a :: st) (130, P, I, L) ↔ az_F C R (az_W C R k_X10_lost) (130, P, I, L) (az_cl 19 [.ref a, v1, v2] 100 ls st) := ap_ivv rfl rfl hk hl
theorem u_X10_lost_100 : az_W C R k_X10_lost 100 (.ref a :: ls) st h ↔ az_W C R k_X10_lost 101 (.ref a :: ls) (.ref a :: st) h := ap_aload rfl rfl
theorem u_X10_lost_101 : az_W C R k_X10_lost 101 ls (.ref 0 :: st) (130, az_Pf, I, L) ↔ az_W C R k_X10_lost 104 ls (.ref 94 :: st) (130, az_Pf, I, L) := ap_getP rfl kn_0 pf_0_9
theorem u_X10_lost_104 : az_W C R k_X10_lost 104 (v0 :: v1 :: v2 :: .int x :: ls) st h ↔ az_W C R k_X10_lost 105 (v0 :: v1 :: v2 :: .int x :: ls) (.int x :: st) h := ap_iload rfl rfl
theorem u_X10_lost_105 (hk : az_kn 130 a = (0, 2)) (hl : st.length ≤ 4) : az_W C R k_X10_lost 105 ls (v1 :: .ref a :: st) (130, P, I, L) ↔ az_F C R (az_W C R k_X10_lost) (130, P, I, L) (az_cl 25 [.ref a, v1] 108 ls st) := ap_ivv rfl rfl hk hl
theorem u_X10_lost_108 : az_W C R k_X10_lost 108 ls [.long p] h ↔ R (some (.long p)) h := ap_lret rfl
end
