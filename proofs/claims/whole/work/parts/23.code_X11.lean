section
variable {C : az_C} {R : az_R} {ls st : List Value} {h : az_H} {n : Nat} {P : Nat → Nat → Option Nat} {I : Nat → Nat → Int32} {L : Nat → Nat → Int64}
variable {v0 v1 v2 v3 v4 v5 v6 v7 v8 v9 v10 v11 v12 : Value} {x y z : Int32} {p q : Int64} {a b : Nat} {M : Nat} {xs : Nat → Int32}
def k_X11_in : Nat → az_P := (az_br 9 (az_br 3 (az_br 1 (az_lf 0 (az_lload 0 1)) (az_br 2 (az_lf 1 (az_lload 2 2)) (az_lf 2 (az_lcmp 3)))) (az_br 6 (az_lf 3 (az_iflt 17 6)) (az_br 7 (az_lf 6 (az_lload 0 7)) (az_lf 7 (az_lload 4 9))))) (az_br 14 (az_br 10 (az_lf 9 (az_lcmp 10)) (az_br 13 (az_lf 10 (az_ifgt 17 13)) (az_lf 13 (az_const (.int 1) 14)))) (az_br 17 (az_lf 14 (az_goto 18)) (az_br 18 (az_lf 17 (az_const (.int 0) 18)) (az_lf 18 (az_zret))))))
theorem u_X11_in_0 : az_W C R k_X11_in 0 (.long p :: ls) st h ↔ az_W C R k_X11_in 1 (.long p :: ls) (.long p :: st) h := ap_lload rfl rfl
theorem u_X11_in_1 : az_W C R k_X11_in 1 (v0 :: v1 :: .long p :: ls) st h ↔ az_W C R k_X11_in 2 (v0 :: v1 :: .long p :: ls) (.long p :: st) h := ap_lload rfl rfl
theorem u_X11_in_2 : az_W C R k_X11_in 2 ls (.long q :: .long p :: st) h ↔ az_W C R k_X11_in 3 ls (.int (lg_cmp p q) :: st) h := ap_lcmp rfl
theorem u_X11_in_3 : az_W C R k_X11_in 3 ls (.int x :: st) h ↔ if x < 0 then az_W C R k_X11_in 17 ls st h else az_W C R k_X11_in 6 ls st h := ap_iflt rfl
theorem u_X11_in_6 : az_W C R k_X11_in 6 (.long p :: ls) st h ↔ az_W C R k_X11_in 7 (.long p :: ls) (.long p :: st) h := ap_lload rfl rfl
theorem u_X11_in_7 : az_W C R k_X11_in 7 (v0 :: v1 :: v2 :: v3 :: .long p :: ls) st h ↔ az_W C R k_X11_in 9 (v0 :: v1 :: v2 :: v3 :: .long p :: ls) (.long p :: st) h := ap_lload rfl rfl
theorem u_X11_in_9 : az_W C R k_X11_in 9 ls (.long q :: .long p :: st) h ↔ az_W C R k_X11_in 10 ls (.int (lg_cmp p q) :: st) h := ap_lcmp rfl
theorem u_X11_in_10 : az_W C R k_X11_in 10 ls (.int x :: st) h ↔ if 0 < x then az_W C R k_X11_in 17 ls st h else az_W C R k_X11_in 13 ls st h := ap_ifgt rfl
theorem u_X11_in_13 : az_W C R k_X11_in 13 ls st h ↔ az_W C R k_X11_in 14 ls (.int 1 :: st) h := ap_const rfl
theorem u_X11_in_14 : az_W C R k_X11_in 14 ls st h ↔ az_W C R k_X11_in 18 ls st h := ap_goto rfl
theorem u_X11_in_17 : az_W C R k_X11_in 17 ls st h ↔ az_W C R k_X11_in 18 ls (.int 0 :: st) h := ap_const rfl
theorem u_X11_in_18 : az_W C R k_X11_in 18 ls [.int x] h ↔ ((x = 0 ∨ x = 1) ∧ R (some (.int x)) h) := ap_zret rfl
def k_X11_init : Nat → az_P := (az_br 152 (az_br 72 (az_br 44 (az_br 22 (az_br 10 (az_br 4 (az_br 1 (az_lf 0 (az_aload 0 1)) (az_lf 1 (az_oin 4))) (az_br 5 (az_lf 4 (az_aload 0 5)) (az_br 8 (az_lf 5 (az_const (.int 240) 8)) (az_lf 8 (az_newa 1 10))))) (az_br 16 (az_br 13 (az_lf 10 (az_putP 11 0 13)) (az_br 14 (az_lf 13 (az_aload 0 14)) (az_lf 14 (az_const (.int 40) 16)))) (az_br 18 (az_lf 16 (az_newa 1 18)) (az_br 21 (az_lf 18 (az_putP 11 1 21)) (az_lf 21 (az_aload 0 22)))))) (az_br 33 (az_br 28 (az_br 23 (az_lf 22 (az_const (.int 4) 23)) (az_br 25 (az_lf 23 (az_newa 1 25)) (az_lf 25 (az_putP 11 5 28)))) (az_br 29 (az_lf 28 (az_aload 0 29)) (az_br 31 (az_lf 29 (az_const (.int 12) 31)) (az_lf 31 (az_newa 1 33))))) (az_br 38 (az_br 36 (az_lf 33 (az_putP 11 6 36)) (az_br 37 (az_lf 36 (az_aload 0 37)) (az_lf 37 (az_const (.int 3) 38)))) (az_br 40 (az_lf 38 (az_newa 1 40)) (az_br 43 (az_lf 40 (az_putP 11 7 43)) (az_lf 43 (az_aload 0 44))))))) (az_br 57 (az_br 51 (az_br 48 (az_br 45 (az_lf 44 (az_const (.int 3) 45)) (az_br 47 (az_lf 45 (az_newa 1 47)) (az_lf 47 (az_dup 48)))) (az_br 49 (az_lf 48 (az_const (.int 0) 49)) (az_br 50 (az_lf 49 (az_const (.int 0) 50)) (az_lf 50 (az_iast 51))))) (az_br 54 (az_br 52 (az_lf 51 (az_dup 52)) (az_br 53 (az_lf 52 (az_const (.int 1) 53)) (az_lf 53 (az_const (.int 1) 54)))) (az_br 55 (az_lf 54 (az_iast 55)) (az_br 56 (az_lf 55 (az_dup 56)) (az_lf 56 (az_const (.int 2) 57)))))) (az_br 66 (az_br 62 (az_br 58 (az_lf 57 (az_const (.int 0) 58)) (az_br 59 (az_lf 58 (az_iast 59)) (az_lf 59 (az_putP 11 8 62)))) (az_br 63 (az_lf 62 (az_aload 0 63)) (az_br 64 (az_lf 63 (az_const (.int 3) 64)) (az_lf 64 (az_newa 1 66))))) (az_br 69 (az_br 67 (az_lf 66 (az_dup 67)) (az_br 68 (az_lf 67 (az_const (.int 0) 68)) (az_lf 68 (az_const (.int 3) 69)))) (az_br 70 (az_lf 69 (az_iast 70)) (az_br 71 (az_lf 70 (az_dup 71)) (az_lf 71 (az_const (.int 1) 72)))))))) (az_br 104 (az_br 89 (az_br 80 (az_br 76 (az_br 74 (az_lf 72 (az_const (.int 8) 74)) (az_br 75 (az_lf 74 (az_iast 75)) (az_lf 75 (az_dup 76)))) (az_br 77 (az_lf 76 (az_const (.int 2) 77)) (az_br 79 (az_lf 77 (az_const (.int 99) 79)) (az_lf 79 (az_iast 80))))) (az_br 85 (az_br 83 (az_lf 80 (az_putP 11 9 83)) (az_br 84 (az_lf 83 (az_aload 0 84)) (az_lf 84 (az_const (.int 3) 85)))) (az_br 87 (az_lf 85 (az_newa 1 87)) (az_br 88 (az_lf 87 (az_dup 88)) (az_lf 88 (az_const (.int 0) 89)))))) (az_br 95 (az_br 92 (az_br 90 (az_lf 89 (az_const (.int 1) 90)) (az_br 91 (az_lf 90 (az_iast 91)) (az_lf 91 (az_dup 92)))) (az_br 93 (az_lf 92 (az_const (.int 1) 93)) (az_br 94 (az_lf 93 (az_const (.int 3) 94)) (az_lf 94 (az_iast 95))))) (az_br 99 (az_br 96 (az_lf 95 (az_dup 96)) (az_br 97 (az_lf 96 (az_const (.int 2) 97)) (az_lf 97 (az_const (.int 20) 99)))) (az_br 100 (az_lf 99 (az_iast 100)) (az_br 103 (az_lf 100 (az_putP 11 10 103)) (az_lf 103 (az_aload 0 104))))))) (az_br 128 (az_br 116 (az_br 111 (az_br 106 (az_lf 104 (az_const (.int 8) 106)) (az_br 108 (az_lf 106 (az_newa 1 108)) (az_lf 108 (az_putP 11 11 111)))) (az_br 112 (az_lf 111 (az_aload 0 112)) (az_br 114 (az_lf 112 (az_const (.int 8) 114)) (az_lf 114 (az_newa 1 116))))) (az_br 122 (az_br 119 (az_lf 116 (az_putP 11 12 119)) (az_br 120 (az_lf 119 (az_aload 0 120)) (az_lf 120 (az_const (.int 12) 122)))) (az_br 124 (az_lf 122 (az_newa 1 124)) (az_br 127 (az_lf 124 (az_putP 11 18 127)) (az_lf 127 (az_aload 0 128)))))) (az_br 140 (az_br 135 (az_br 130 (az_lf 128 (az_const (.int 24) 130)) (az_br 132 (az_lf 130 (az_newa 1 132)) (az_lf 132 (az_putP 11 20 135)))) (az_br 136 (az_lf 135 (az_aload 0 136)) (az_br 138 (az_lf 136 (az_const (.int 24) 138)) (az_lf 138 (az_newa 1 140))))) (az_br 146 (az_br 143 (az_lf 140 (az_putP 11 21 143)) (az_br 144 (az_lf 143 (az_aload 0 144)) (az_lf 144 (az_const (.int 24) 146)))) (az_br 148 (az_lf 146 (az_newa 1 148)) (az_br 151 (az_lf 148 (az_putP 11 22 151)) (az_lf 151 (az_aload 0 152))))))))) (az_br 249 (az_br 200 (az_br 176 (az_br 164 (az_br 159 (az_br 154 (az_lf 152 (az_const (.int 24) 154)) (az_br 156 (az_lf 154 (az_newa 1 156)) (az_lf 156 (az_putP 11 23 159)))) (az_br 160 (az_lf 159 (az_aload 0 160)) (az_br 162 (az_lf 160 (az_const (.int 24) 162)) (az_lf 162 (az_newa 1 164))))) (az_br 170 (az_br 167 (az_lf 164 (az_putP 11 24 167)) (az_br 168 (az_lf 167 (az_aload 0 168)) (az_lf 168 (az_const (.int 60) 170)))) (az_br 172 (az_lf 170 (az_newa 1 172)) (az_br 175 (az_lf 172 (az_putP 11 26 175)) (az_lf 175 (az_aload 0 176)))))) (az_br 188 (az_br 183 (az_br 178 (az_lf 176 (az_const (.int 60) 178)) (az_br 180 (az_lf 178 (az_newa 1 180)) (az_lf 180 (az_putP 11 27 183)))) (az_br 184 (az_lf 183 (az_aload 0 184)) (az_br 186 (az_lf 184 (az_const (.int 60) 186)) (az_lf 186 (az_newa 1 188))))) (az_br 194 (az_br 191 (az_lf 188 (az_putP 11 28 191)) (az_br 192 (az_lf 191 (az_aload 0 192)) (az_lf 192 (az_const (.int 20) 194)))) (az_br 196 (az_lf 194 (az_newa 1 196)) (az_br 199 (az_lf 196 (az_putP 11 32 199)) (az_lf 199 (az_aload 0 200))))))) (az_br 224 (az_br 212 (az_br 207 (az_br 202 (az_lf 200 (az_const (.int 20) 202)) (az_br 204 (az_lf 202 (az_newa 1 204)) (az_lf 204 (az_putP 11 33 207)))) (az_br 208 (az_lf 207 (az_aload 0 208)) (az_br 210 (az_lf 208 (az_const (.int 40) 210)) (az_lf 210 (az_newa 1 212))))) (az_br 218 (az_br 215 (az_lf 212 (az_putP 11 35 215)) (az_br 216 (az_lf 215 (az_aload 0 216)) (az_lf 216 (az_const (.int 40) 218)))) (az_br 220 (az_lf 218 (az_newa 1 220)) (az_br 223 (az_lf 220 (az_putP 11 36 223)) (az_lf 223 (az_aload 0 224)))))) (az_br 236 (az_br 231 (az_br 226 (az_lf 224 (az_const (.int 40) 226)) (az_br 228 (az_lf 226 (az_newa 1 228)) (az_lf 228 (az_putP 11 37 231)))) (az_br 232 (az_lf 231 (az_aload 0 232)) (az_br 234 (az_lf 232 (az_const (.int 40) 234)) (az_lf 234 (az_newa 1 236))))) (az_br 243 (az_br 239 (az_lf 236 (az_putP 11 38 239)) (az_br 240 (az_lf 239 (az_aload 0 240)) (az_lf 240 (az_const (.int 144) 243)))) (az_br 245 (az_lf 243 (az_newa 2 245)) (az_br 248 (az_lf 245 (az_putP 11 39 248)) (az_lf 248 (az_aload 0 249)))))))) (az_br 296 (az_br 274 (az_br 262 (az_br 257 (az_br 252 (az_lf 249 (az_const (.int 144) 252)) (az_br 254 (az_lf 252 (az_newa 1 254)) (az_lf 254 (az_putP 11 40 257)))) (az_br 258 (az_lf 257 (az_aload 0 258)) (az_br 260 (az_lf 258 (az_const (.int 12) 260)) (az_lf 260 (az_newa 1 262))))) (az_br 268 (az_br 265 (az_lf 262 (az_putP 11 41 265)) (az_br 266 (az_lf 265 (az_aload 0 266)) (az_lf 266 (az_const (.int 40) 268)))) (az_br 270 (az_lf 268 (az_newa 1 270)) (az_br 273 (az_lf 270 (az_putP 11 42 273)) (az_lf 273 (az_aload 0 274)))))) (az_br 284 (az_br 280 (az_br 275 (az_lf 274 (az_const (.int 4) 275)) (az_br 277 (az_lf 275 (az_newa 1 277)) (az_lf 277 (az_putP 11 47 280)))) (az_br 281 (az_lf 280 (az_aload 0 281)) (az_br 282 (az_lf 281 (az_const (.int 4) 282)) (az_lf 282 (az_newa 1 284))))) (az_br 290 (az_br 287 (az_lf 284 (az_putP 11 48 287)) (az_br 288 (az_lf 287 (az_aload 0 288)) (az_lf 288 (az_const (.int 64) 290)))) (az_br 292 (az_lf 290 (az_newa 1 292)) (az_br 295 (az_lf 292 (az_putP 11 49 295)) (az_lf 295 (az_const (.int 0) 296))))))) (az_br 318 (az_br 308 (az_br 301 (az_br 297 (az_lf 296 (az_istore 1 297)) (az_br 298 (az_lf 297 (az_iload 1 298)) (az_lf 298 (az_const (.int 240) 301)))) (az_br 304 (az_lf 301 (az_icge 317 304)) (az_br 305 (az_lf 304 (az_aload 0 305)) (az_lf 305 (az_getP 11 0 308))))) (az_br 311 (az_br 309 (az_lf 308 (az_iload 1 309)) (az_br 310 (az_lf 309 (az_const (.int (-1)) 310)) (az_lf 310 (az_iast 311)))) (az_br 314 (az_lf 311 (az_iinc 1 1 314)) (az_br 317 (az_lf 314 (az_goto 297)) (az_lf 317 (az_const (.int 0) 318)))))) (az_br 328 (az_br 321 (az_br 319 (az_lf 318 (az_istore 1 319)) (az_br 320 (az_lf 319 (az_iload 1 320)) (az_lf 320 (az_const (.int 4) 321)))) (az_br 324 (az_lf 321 (az_icge 337 324)) (az_br 325 (az_lf 324 (az_aload 0 325)) (az_lf 325 (az_getP 11 47 328))))) (az_br 331 (az_br 329 (az_lf 328 (az_iload 1 329)) (az_br 330 (az_lf 329 (az_const (.int (-1)) 330)) (az_lf 330 (az_iast 331)))) (az_br 334 (az_lf 331 (az_iinc 1 1 334)) (az_br 337 (az_lf 334 (az_goto 319)) (az_lf 337 (az_ret))))))))))
theorem u_X11_init_0 : az_W C R k_X11_init 0 (.ref a :: ls) st h ↔ az_W C R k_X11_init 1 (.ref a :: ls) (.ref a :: st) h := ap_aload rfl rfl
theorem u_X11_init_1 (hl : st.length ≤ 4) : az_W C R k_X11_init 1 ls (.ref a :: st) h ↔ az_W C R k_X11_init 4 ls st h := ap_oin rfl hl
theorem u_X11_init_4 : az_W C R k_X11_init 4 (.ref a :: ls) st h ↔ az_W C R k_X11_init 5 (.ref a :: ls) (.ref a :: st) h := ap_aload rfl rfl
theorem u_X11_init_5 : az_W C R k_X11_init 5 ls st h ↔ az_W C R k_X11_init 8 ls (.int 240 :: st) h := ap_const rfl
theorem u_X11_init_8 : az_W C R k_X11_init 8 ls (.int 240 :: st) (98, P, I, L) ↔ az_W C R k_X11_init 10 ls (.ref 98 :: st) (99, P, I, L) := ap_newa rfl (by decide +kernel)
theorem u_X11_init_10 (hk : az_kn n a = (0, 11)) : az_W C R k_X11_init 10 ls (.ref b :: .ref a :: st) (n, P, I, L) ↔ az_W C R k_X11_init 13 ls st (n, az_uP P a 0 (some b), I, L) := ap_putP rfl hk
theorem u_X11_init_13 : az_W C R k_X11_init 13 (.ref a :: ls) st h ↔ az_W C R k_X11_init 14 (.ref a :: ls) (.ref a :: st) h := ap_aload rfl rfl
theorem u_X11_init_14 : az_W C R k_X11_init 14 ls st h ↔ az_W C R k_X11_init 16 ls (.int 40 :: st) h := ap_const rfl
theorem u_X11_init_16 : az_W C R k_X11_init 16 ls (.int 40 :: st) (99, P, I, L) ↔ az_W C R k_X11_init 18 ls (.ref 99 :: st) (100, P, I, L) := ap_newa rfl (by decide +kernel)
theorem u_X11_init_18 (hk : az_kn n a = (0, 11)) : az_W C R k_X11_init 18 ls (.ref b :: .ref a :: st) (n, P, I, L) ↔ az_W C R k_X11_init 21 ls st (n, az_uP P a 1 (some b), I, L) := ap_putP rfl hk
theorem u_X11_init_21 : az_W C R k_X11_init 21 (.ref a :: ls) st h ↔ az_W C R k_X11_init 22 (.ref a :: ls) (.ref a :: st) h := ap_aload rfl rfl
theorem u_X11_init_22 : az_W C R k_X11_init 22 ls st h ↔ az_W C R k_X11_init 23 ls (.int 4 :: st) h := ap_const rfl
theorem u_X11_init_23 : az_W C R k_X11_init 23 ls (.int 4 :: st) (100, P, I, L) ↔ az_W C R k_X11_init 25 ls (.ref 100 :: st) (101, P, I, L) := ap_newa rfl (by decide +kernel)
theorem u_X11_init_25 (hk : az_kn n a = (0, 11)) : az_W C R k_X11_init 25 ls (.ref b :: .ref a :: st) (n, P, I, L) ↔ az_W C R k_X11_init 28 ls st (n, az_uP P a 5 (some b), I, L) := ap_putP rfl hk
theorem u_X11_init_28 : az_W C R k_X11_init 28 (.ref a :: ls) st h ↔ az_W C R k_X11_init 29 (.ref a :: ls) (.ref a :: st) h := ap_aload rfl rfl
theorem u_X11_init_29 : az_W C R k_X11_init 29 ls st h ↔ az_W C R k_X11_init 31 ls (.int 12 :: st) h := ap_const rfl
theorem u_X11_init_31 : az_W C R k_X11_init 31 ls (.int 12 :: st) (101, P, I, L) ↔ az_W C R k_X11_init 33 ls (.ref 101 :: st) (102, P, I, L) := ap_newa rfl (by decide +kernel)
theorem u_X11_init_33 (hk : az_kn n a = (0, 11)) : az_W C R k_X11_init 33 ls (.ref b :: .ref a :: st) (n, P, I, L) ↔ az_W C R k_X11_init 36 ls st (n, az_uP P a 6 (some b), I, L) := ap_putP rfl hk
theorem u_X11_init_36 : az_W C R k_X11_init 36 (.ref a :: ls) st h ↔ az_W C R k_X11_init 37 (.ref a :: ls) (.ref a :: st) h := ap_aload rfl rfl
theorem u_X11_init_37 : az_W C R k_X11_init 37 ls st h ↔ az_W C R k_X11_init 38 ls (.int 3 :: st) h := ap_const rfl
theorem u_X11_init_38 : az_W C R k_X11_init 38 ls (.int 3 :: st) (102, P, I, L) ↔ az_W C R k_X11_init 40 ls (.ref 102 :: st) (103, P, I, L) := ap_newa rfl (by decide +kernel)
theorem u_X11_init_40 (hk : az_kn n a = (0, 11)) : az_W C R k_X11_init 40 ls (.ref b :: .ref a :: st) (n, P, I, L) ↔ az_W C R k_X11_init 43 ls st (n, az_uP P a 7 (some b), I, L) := ap_putP rfl hk
theorem u_X11_init_43 : az_W C R k_X11_init 43 (.ref a :: ls) st h ↔ az_W C R k_X11_init 44 (.ref a :: ls) (.ref a :: st) h := ap_aload rfl rfl
theorem u_X11_init_44 : az_W C R k_X11_init 44 ls st h ↔ az_W C R k_X11_init 45 ls (.int 3 :: st) h := ap_const rfl
theorem u_X11_init_45 : az_W C R k_X11_init 45 ls (.int 3 :: st) (103, P, I, L) ↔ az_W C R k_X11_init 47 ls (.ref 103 :: st) (104, P, I, L) := ap_newa rfl (by decide +kernel)
theorem u_X11_init_47 : az_W C R k_X11_init 47 ls (.int x :: st) h ↔ az_W C R k_X11_init 48 ls (.int x :: .int x :: st) h := ap_dupi rfl
theorem u_X11_init_47r : az_W C R k_X11_init 47 ls (.ref a :: st) h ↔ az_W C R k_X11_init 48 ls (.ref a :: .ref a :: st) h := ap_dupr rfl
theorem u_X11_init_48 : az_W C R k_X11_init 48 ls st h ↔ az_W C R k_X11_init 49 ls (.int 0 :: st) h := ap_const rfl
theorem u_X11_init_49 : az_W C R k_X11_init 49 ls st h ↔ az_W C R k_X11_init 50 ls (.int 0 :: st) h := ap_const rfl
theorem u_X11_init_50 (hk : (az_kn n a).1 = 1) : az_W C R k_X11_init 50 ls (.int y :: .int x :: .ref a :: st) (n, P, I, L) ↔ (az_in x (az_kn n a).2 ∧ az_W C R k_X11_init 51 ls st (n, P, az_uI I a x.toNatClampNeg y, L)) := ap_iast rfl (az_k1 hk)
theorem u_X11_init_51 : az_W C R k_X11_init 51 ls (.int x :: st) h ↔ az_W C R k_X11_init 52 ls (.int x :: .int x :: st) h := ap_dupi rfl
theorem u_X11_init_51r : az_W C R k_X11_init 51 ls (.ref a :: st) h ↔ az_W C R k_X11_init 52 ls (.ref a :: .ref a :: st) h := ap_dupr rfl
theorem u_X11_init_52 : az_W C R k_X11_init 52 ls st h ↔ az_W C R k_X11_init 53 ls (.int 1 :: st) h := ap_const rfl
theorem u_X11_init_53 : az_W C R k_X11_init 53 ls st h ↔ az_W C R k_X11_init 54 ls (.int 1 :: st) h := ap_const rfl
theorem u_X11_init_54 (hk : (az_kn n a).1 = 1) : az_W C R k_X11_init 54 ls (.int y :: .int x :: .ref a :: st) (n, P, I, L) ↔ (az_in x (az_kn n a).2 ∧ az_W C R k_X11_init 55 ls st (n, P, az_uI I a x.toNatClampNeg y, L)) := ap_iast rfl (az_k1 hk)
theorem u_X11_init_55 : az_W C R k_X11_init 55 ls (.int x :: st) h ↔ az_W C R k_X11_init 56 ls (.int x :: .int x :: st) h := ap_dupi rfl
theorem u_X11_init_55r : az_W C R k_X11_init 55 ls (.ref a :: st) h ↔ az_W C R k_X11_init 56 ls (.ref a :: .ref a :: st) h := ap_dupr rfl
theorem u_X11_init_56 : az_W C R k_X11_init 56 ls st h ↔ az_W C R k_X11_init 57 ls (.int 2 :: st) h := ap_const rfl
theorem u_X11_init_57 : az_W C R k_X11_init 57 ls st h ↔ az_W C R k_X11_init 58 ls (.int 0 :: st) h := ap_const rfl
theorem u_X11_init_58 (hk : (az_kn n a).1 = 1) : az_W C R k_X11_init 58 ls (.int y :: .int x :: .ref a :: st) (n, P, I, L) ↔ (az_in x (az_kn n a).2 ∧ az_W C R k_X11_init 59 ls st (n, P, az_uI I a x.toNatClampNeg y, L)) := ap_iast rfl (az_k1 hk)
theorem u_X11_init_59 (hk : az_kn n a = (0, 11)) : az_W C R k_X11_init 59 ls (.ref b :: .ref a :: st) (n, P, I, L) ↔ az_W C R k_X11_init 62 ls st (n, az_uP P a 8 (some b), I, L) := ap_putP rfl hk
theorem u_X11_init_62 : az_W C R k_X11_init 62 (.ref a :: ls) st h ↔ az_W C R k_X11_init 63 (.ref a :: ls) (.ref a :: st) h := ap_aload rfl rfl
theorem u_X11_init_63 : az_W C R k_X11_init 63 ls st h ↔ az_W C R k_X11_init 64 ls (.int 3 :: st) h := ap_const rfl
theorem u_X11_init_64 : az_W C R k_X11_init 64 ls (.int 3 :: st) (104, P, I, L) ↔ az_W C R k_X11_init 66 ls (.ref 104 :: st) (105, P, I, L) := ap_newa rfl (by decide +kernel)
theorem u_X11_init_66 : az_W C R k_X11_init 66 ls (.int x :: st) h ↔ az_W C R k_X11_init 67 ls (.int x :: .int x :: st) h := ap_dupi rfl
theorem u_X11_init_66r : az_W C R k_X11_init 66 ls (.ref a :: st) h ↔ az_W C R k_X11_init 67 ls (.ref a :: .ref a :: st) h := ap_dupr rfl
theorem u_X11_init_67 : az_W C R k_X11_init 67 ls st h ↔ az_W C R k_X11_init 68 ls (.int 0 :: st) h := ap_const rfl
theorem u_X11_init_68 : az_W C R k_X11_init 68 ls st h ↔ az_W C R k_X11_init 69 ls (.int 3 :: st) h := ap_const rfl
theorem u_X11_init_69 (hk : (az_kn n a).1 = 1) : az_W C R k_X11_init 69 ls (.int y :: .int x :: .ref a :: st) (n, P, I, L) ↔ (az_in x (az_kn n a).2 ∧ az_W C R k_X11_init 70 ls st (n, P, az_uI I a x.toNatClampNeg y, L)) := ap_iast rfl (az_k1 hk)
theorem u_X11_init_70 : az_W C R k_X11_init 70 ls (.int x :: st) h ↔ az_W C R k_X11_init 71 ls (.int x :: .int x :: st) h := ap_dupi rfl
theorem u_X11_init_70r : az_W C R k_X11_init 70 ls (.ref a :: st) h ↔ az_W C R k_X11_init 71 ls (.ref a :: .ref a :: st) h := ap_dupr rfl
theorem u_X11_init_71 : az_W C R k_X11_init 71 ls st h ↔ az_W C R k_X11_init 72 ls (.int 1 :: st) h := ap_const rfl
theorem u_X11_init_72 : az_W C R k_X11_init 72 ls st h ↔ az_W C R k_X11_init 74 ls (.int 8 :: st) h := ap_const rfl
theorem u_X11_init_74 (hk : (az_kn n a).1 = 1) : az_W C R k_X11_init 74 ls (.int y :: .int x :: .ref a :: st) (n, P, I, L) ↔ (az_in x (az_kn n a).2 ∧ az_W C R k_X11_init 75 ls st (n, P, az_uI I a x.toNatClampNeg y, L)) := ap_iast rfl (az_k1 hk)
theorem u_X11_init_75 : az_W C R k_X11_init 75 ls (.int x :: st) h ↔ az_W C R k_X11_init 76 ls (.int x :: .int x :: st) h := ap_dupi rfl
theorem u_X11_init_75r : az_W C R k_X11_init 75 ls (.ref a :: st) h ↔ az_W C R k_X11_init 76 ls (.ref a :: .ref a :: st) h := ap_dupr rfl
theorem u_X11_init_76 : az_W C R k_X11_init 76 ls st h ↔ az_W C R k_X11_init 77 ls (.int 2 :: st) h := ap_const rfl
theorem u_X11_init_77 : az_W C R k_X11_init 77 ls st h ↔ az_W C R k_X11_init 79 ls (.int 99 :: st) h := ap_const rfl
theorem u_X11_init_79 (hk : (az_kn n a).1 = 1) : az_W C R k_X11_init 79 ls (.int y :: .int x :: .ref a :: st) (n, P, I, L) ↔ (az_in x (az_kn n a).2 ∧ az_W C R k_X11_init 80 ls st (n, P, az_uI I a x.toNatClampNeg y, L)) := ap_iast rfl (az_k1 hk)
theorem u_X11_init_80 (hk : az_kn n a = (0, 11)) : az_W C R k_X11_init 80 ls (.ref b :: .ref a :: st) (n, P, I, L) ↔ az_W C R k_X11_init 83 ls st (n, az_uP P a 9 (some b), I, L) := ap_putP rfl hk
theorem u_X11_init_83 : az_W C R k_X11_init 83 (.ref a :: ls) st h ↔ az_W C R k_X11_init 84 (.ref a :: ls) (.ref a :: st) h := ap_aload rfl rfl
theorem u_X11_init_84 : az_W C R k_X11_init 84 ls st h ↔ az_W C R k_X11_init 85 ls (.int 3 :: st) h := ap_const rfl
theorem u_X11_init_85 : az_W C R k_X11_init 85 ls (.int 3 :: st) (105, P, I, L) ↔ az_W C R k_X11_init 87 ls (.ref 105 :: st) (106, P, I, L) := ap_newa rfl (by decide +kernel)
theorem u_X11_init_87 : az_W C R k_X11_init 87 ls (.int x :: st) h ↔ az_W C R k_X11_init 88 ls (.int x :: .int x :: st) h := ap_dupi rfl
theorem u_X11_init_87r : az_W C R k_X11_init 87 ls (.ref a :: st) h ↔ az_W C R k_X11_init 88 ls (.ref a :: .ref a :: st) h := ap_dupr rfl
theorem u_X11_init_88 : az_W C R k_X11_init 88 ls st h ↔ az_W C R k_X11_init 89 ls (.int 0 :: st) h := ap_const rfl
theorem u_X11_init_89 : az_W C R k_X11_init 89 ls st h ↔ az_W C R k_X11_init 90 ls (.int 1 :: st) h := ap_const rfl
theorem u_X11_init_90 (hk : (az_kn n a).1 = 1) : az_W C R k_X11_init 90 ls (.int y :: .int x :: .ref a :: st) (n, P, I, L) ↔ (az_in x (az_kn n a).2 ∧ az_W C R k_X11_init 91 ls st (n, P, az_uI I a x.toNatClampNeg y, L)) := ap_iast rfl (az_k1 hk)
theorem u_X11_init_91 : az_W C R k_X11_init 91 ls (.int x :: st) h ↔ az_W C R k_X11_init 92 ls (.int x :: .int x :: st) h := ap_dupi rfl
theorem u_X11_init_91r : az_W C R k_X11_init 91 ls (.ref a :: st) h ↔ az_W C R k_X11_init 92 ls (.ref a :: .ref a :: st) h := ap_dupr rfl
theorem u_X11_init_92 : az_W C R k_X11_init 92 ls st h ↔ az_W C R k_X11_init 93 ls (.int 1 :: st) h := ap_const rfl
theorem u_X11_init_93 : az_W C R k_X11_init 93 ls st h ↔ az_W C R k_X11_init 94 ls (.int 3 :: st) h := ap_const rfl
theorem u_X11_init_94 (hk : (az_kn n a).1 = 1) : az_W C R k_X11_init 94 ls (.int y :: .int x :: .ref a :: st) (n, P, I, L) ↔ (az_in x (az_kn n a).2 ∧ az_W C R k_X11_init 95 ls st (n, P, az_uI I a x.toNatClampNeg y, L)) := ap_iast rfl (az_k1 hk)
theorem u_X11_init_95 : az_W C R k_X11_init 95 ls (.int x :: st) h ↔ az_W C R k_X11_init 96 ls (.int x :: .int x :: st) h := ap_dupi rfl
theorem u_X11_init_95r : az_W C R k_X11_init 95 ls (.ref a :: st) h ↔ az_W C R k_X11_init 96 ls (.ref a :: .ref a :: st) h := ap_dupr rfl
theorem u_X11_init_96 : az_W C R k_X11_init 96 ls st h ↔ az_W C R k_X11_init 97 ls (.int 2 :: st) h := ap_const rfl
theorem u_X11_init_97 : az_W C R k_X11_init 97 ls st h ↔ az_W C R k_X11_init 99 ls (.int 20 :: st) h := ap_const rfl
theorem u_X11_init_99 (hk : (az_kn n a).1 = 1) : az_W C R k_X11_init 99 ls (.int y :: .int x :: .ref a :: st) (n, P, I, L) ↔ (az_in x (az_kn n a).2 ∧ az_W C R k_X11_init 100 ls st (n, P, az_uI I a x.toNatClampNeg y, L)) := ap_iast rfl (az_k1 hk)
theorem u_X11_init_100 (hk : az_kn n a = (0, 11)) : az_W C R k_X11_init 100 ls (.ref b :: .ref a :: st) (n, P, I, L) ↔ az_W C R k_X11_init 103 ls st (n, az_uP P a 10 (some b), I, L) := ap_putP rfl hk
theorem u_X11_init_103 : az_W C R k_X11_init 103 (.ref a :: ls) st h ↔ az_W C R k_X11_init 104 (.ref a :: ls) (.ref a :: st) h := ap_aload rfl rfl
theorem u_X11_init_104 : az_W C R k_X11_init 104 ls st h ↔ az_W C R k_X11_init 106 ls (.int 8 :: st) h := ap_const rfl
theorem u_X11_init_106 : az_W C R k_X11_init 106 ls (.int 8 :: st) (106, P, I, L) ↔ az_W C R k_X11_init 108 ls (.ref 106 :: st) (107, P, I, L) := ap_newa rfl (by decide +kernel)
theorem u_X11_init_108 (hk : az_kn n a = (0, 11)) : az_W C R k_X11_init 108 ls (.ref b :: .ref a :: st) (n, P, I, L) ↔ az_W C R k_X11_init 111 ls st (n, az_uP P a 11 (some b), I, L) := ap_putP rfl hk
theorem u_X11_init_111 : az_W C R k_X11_init 111 (.ref a :: ls) st h ↔ az_W C R k_X11_init 112 (.ref a :: ls) (.ref a :: st) h := ap_aload rfl rfl
theorem u_X11_init_112 : az_W C R k_X11_init 112 ls st h ↔ az_W C R k_X11_init 114 ls (.int 8 :: st) h := ap_const rfl
theorem u_X11_init_114 : az_W C R k_X11_init 114 ls (.int 8 :: st) (107, P, I, L) ↔ az_W C R k_X11_init 116 ls (.ref 107 :: st) (108, P, I, L) := ap_newa rfl (by decide +kernel)
theorem u_X11_init_116 (hk : az_kn n a = (0, 11)) : az_W C R k_X11_init 116 ls (.ref b :: .ref a :: st) (n, P, I, L) ↔ az_W C R k_X11_init 119 ls st (n, az_uP P a 12 (some b), I, L) := ap_putP rfl hk
theorem u_X11_init_119 : az_W C R k_X11_init 119 (.ref a :: ls) st h ↔ az_W C R k_X11_init 120 (.ref a :: ls) (.ref a :: st) h := ap_aload rfl rfl
theorem u_X11_init_120 : az_W C R k_X11_init 120 ls st h ↔ az_W C R k_X11_init 122 ls (.int 12 :: st) h := ap_const rfl
theorem u_X11_init_122 : az_W C R k_X11_init 122 ls (.int 12 :: st) (108, P, I, L) ↔ az_W C R k_X11_init 124 ls (.ref 108 :: st) (109, P, I, L) := ap_newa rfl (by decide +kernel)
theorem u_X11_init_124 (hk : az_kn n a = (0, 11)) : az_W C R k_X11_init 124 ls (.ref b :: .ref a :: st) (n, P, I, L) ↔ az_W C R k_X11_init 127 ls st (n, az_uP P a 18 (some b), I, L) := ap_putP rfl hk
theorem u_X11_init_127 : az_W C R k_X11_init 127 (.ref a :: ls) st h ↔ az_W C R k_X11_init 128 (.ref a :: ls) (.ref a :: st) h := ap_aload rfl rfl
theorem u_X11_init_128 : az_W C R k_X11_init 128 ls st h ↔ az_W C R k_X11_init 130 ls (.int 24 :: st) h := ap_const rfl
theorem u_X11_init_130 : az_W C R k_X11_init 130 ls (.int 24 :: st) (109, P, I, L) ↔ az_W C R k_X11_init 132 ls (.ref 109 :: st) (110, P, I, L) := ap_newa rfl (by decide +kernel)
theorem u_X11_init_132 (hk : az_kn n a = (0, 11)) : az_W C R k_X11_init 132 ls (.ref b :: .ref a :: st) (n, P, I, L) ↔ az_W C R k_X11_init 135 ls st (n, az_uP P a 20 (some b), I, L) := ap_putP rfl hk
theorem u_X11_init_135 : az_W C R k_X11_init 135 (.ref a :: ls) st h ↔ az_W C R k_X11_init 136 (.ref a :: ls) (.ref a :: st) h := ap_aload rfl rfl
theorem u_X11_init_136 : az_W C R k_X11_init 136 ls st h ↔ az_W C R k_X11_init 138 ls (.int 24 :: st) h := ap_const rfl
theorem u_X11_init_138 : az_W C R k_X11_init 138 ls (.int 24 :: st) (110, P, I, L) ↔ az_W C R k_X11_init 140 ls (.ref 110 :: st) (111, P, I, L) := ap_newa rfl (by decide +kernel)
theorem u_X11_init_140 (hk : az_kn n a = (0, 11)) : az_W C R k_X11_init 140 ls (.ref b :: .ref a :: st) (n, P, I, L) ↔ az_W C R k_X11_init 143 ls st (n, az_uP P a 21 (some b), I, L) := ap_putP rfl hk
theorem u_X11_init_143 : az_W C R k_X11_init 143 (.ref a :: ls) st h ↔ az_W C R k_X11_init 144 (.ref a :: ls) (.ref a :: st) h := ap_aload rfl rfl
theorem u_X11_init_144 : az_W C R k_X11_init 144 ls st h ↔ az_W C R k_X11_init 146 ls (.int 24 :: st) h := ap_const rfl
theorem u_X11_init_146 : az_W C R k_X11_init 146 ls (.int 24 :: st) (111, P, I, L) ↔ az_W C R k_X11_init 148 ls (.ref 111 :: st) (112, P, I, L) := ap_newa rfl (by decide +kernel)
theorem u_X11_init_148 (hk : az_kn n a = (0, 11)) : az_W C R k_X11_init 148 ls (.ref b :: .ref a :: st) (n, P, I, L) ↔ az_W C R k_X11_init 151 ls st (n, az_uP P a 22 (some b), I, L) := ap_putP rfl hk
theorem u_X11_init_151 : az_W C R k_X11_init 151 (.ref a :: ls) st h ↔ az_W C R k_X11_init 152 (.ref a :: ls) (.ref a :: st) h := ap_aload rfl rfl
theorem u_X11_init_152 : az_W C R k_X11_init 152 ls st h ↔ az_W C R k_X11_init 154 ls (.int 24 :: st) h := ap_const rfl
theorem u_X11_init_154 : az_W C R k_X11_init 154 ls (.int 24 :: st) (112, P, I, L) ↔ az_W C R k_X11_init 156 ls (.ref 112 :: st) (113, P, I, L) := ap_newa rfl (by decide +kernel)
theorem u_X11_init_156 (hk : az_kn n a = (0, 11)) : az_W C R k_X11_init 156 ls (.ref b :: .ref a :: st) (n, P, I, L) ↔ az_W C R k_X11_init 159 ls st (n, az_uP P a 23 (some b), I, L) := ap_putP rfl hk
theorem u_X11_init_159 : az_W C R k_X11_init 159 (.ref a :: ls) st h ↔ az_W C R k_X11_init 160 (.ref a :: ls) (.ref a :: st) h := ap_aload rfl rfl
theorem u_X11_init_160 : az_W C R k_X11_init 160 ls st h ↔ az_W C R k_X11_init 162 ls (.int 24 :: st) h := ap_const rfl
theorem u_X11_init_162 : az_W C R k_X11_init 162 ls (.int 24 :: st) (113, P, I, L) ↔ az_W C R k_X11_init 164 ls (.ref 113 :: st) (114, P, I, L) := ap_newa rfl (by decide +kernel)
theorem u_X11_init_164 (hk : az_kn n a = (0, 11)) : az_W C R k_X11_init 164 ls (.ref b :: .ref a :: st) (n, P, I, L) ↔ az_W C R k_X11_init 167 ls st (n, az_uP P a 24 (some b), I, L) := ap_putP rfl hk
theorem u_X11_init_167 : az_W C R k_X11_init 167 (.ref a :: ls) st h ↔ az_W C R k_X11_init 168 (.ref a :: ls) (.ref a :: st) h := ap_aload rfl rfl
theorem u_X11_init_168 : az_W C R k_X11_init 168 ls st h ↔ az_W C R k_X11_init 170 ls (.int 60 :: st) h := ap_const rfl
theorem u_X11_init_170 : az_W C R k_X11_init 170 ls (.int 60 :: st) (114, P, I, L) ↔ az_W C R k_X11_init 172 ls (.ref 114 :: st) (115, P, I, L) := ap_newa rfl (by decide +kernel)
theorem u_X11_init_172 (hk : az_kn n a = (0, 11)) : az_W C R k_X11_init 172 ls (.ref b :: .ref a :: st) (n, P, I, L) ↔ az_W C R k_X11_init 175 ls st (n, az_uP P a 26 (some b), I, L) := ap_putP rfl hk
theorem u_X11_init_175 : az_W C R k_X11_init 175 (.ref a :: ls) st h ↔ az_W C R k_X11_init 176 (.ref a :: ls) (.ref a :: st) h := ap_aload rfl rfl
theorem u_X11_init_176 : az_W C R k_X11_init 176 ls st h ↔ az_W C R k_X11_init 178 ls (.int 60 :: st) h := ap_const rfl
theorem u_X11_init_178 : az_W C R k_X11_init 178 ls (.int 60 :: st) (115, P, I, L) ↔ az_W C R k_X11_init 180 ls (.ref 115 :: st) (116, P, I, L) := ap_newa rfl (by decide +kernel)
theorem u_X11_init_180 (hk : az_kn n a = (0, 11)) : az_W C R k_X11_init 180 ls (.ref b :: .ref a :: st) (n, P, I, L) ↔ az_W C R k_X11_init 183 ls st (n, az_uP P a 27 (some b), I, L) := ap_putP rfl hk
theorem u_X11_init_183 : az_W C R k_X11_init 183 (.ref a :: ls) st h ↔ az_W C R k_X11_init 184 (.ref a :: ls) (.ref a :: st) h := ap_aload rfl rfl
theorem u_X11_init_184 : az_W C R k_X11_init 184 ls st h ↔ az_W C R k_X11_init 186 ls (.int 60 :: st) h := ap_const rfl
theorem u_X11_init_186 : az_W C R k_X11_init 186 ls (.int 60 :: st) (116, P, I, L) ↔ az_W C R k_X11_init 188 ls (.ref 116 :: st) (117, P, I, L) := ap_newa rfl (by decide +kernel)
theorem u_X11_init_188 (hk : az_kn n a = (0, 11)) : az_W C R k_X11_init 188 ls (.ref b :: .ref a :: st) (n, P, I, L) ↔ az_W C R k_X11_init 191 ls st (n, az_uP P a 28 (some b), I, L) := ap_putP rfl hk
theorem u_X11_init_191 : az_W C R k_X11_init 191 (.ref a :: ls) st h ↔ az_W C R k_X11_init 192 (.ref a :: ls) (.ref a :: st) h := ap_aload rfl rfl
theorem u_X11_init_192 : az_W C R k_X11_init 192 ls st h ↔ az_W C R k_X11_init 194 ls (.int 20 :: st) h := ap_const rfl
theorem u_X11_init_194 : az_W C R k_X11_init 194 ls (.int 20 :: st) (117, P, I, L) ↔ az_W C R k_X11_init 196 ls (.ref 117 :: st) (118, P, I, L) := ap_newa rfl (by decide +kernel)
theorem u_X11_init_196 (hk : az_kn n a = (0, 11)) : az_W C R k_X11_init 196 ls (.ref b :: .ref a :: st) (n, P, I, L) ↔ az_W C R k_X11_init 199 ls st (n, az_uP P a 32 (some b), I, L) := ap_putP rfl hk
theorem u_X11_init_199 : az_W C R k_X11_init 199 (.ref a :: ls) st h ↔ az_W C R k_X11_init 200 (.ref a :: ls) (.ref a :: st) h := ap_aload rfl rfl
theorem u_X11_init_200 : az_W C R k_X11_init 200 ls st h ↔ az_W C R k_X11_init 202 ls (.int 20 :: st) h := ap_const rfl
theorem u_X11_init_202 : az_W C R k_X11_init 202 ls (.int 20 :: st) (118, P, I, L) ↔ az_W C R k_X11_init 204 ls (.ref 118 :: st) (119, P, I, L) := ap_newa rfl (by decide +kernel)
theorem u_X11_init_204 (hk : az_kn n a = (0, 11)) : az_W C R k_X11_init 204 ls (.ref b :: .ref a :: st) (n, P, I, L) ↔ az_W C R k_X11_init 207 ls st (n, az_uP P a 33 (some b), I, L) := ap_putP rfl hk
theorem u_X11_init_207 : az_W C R k_X11_init 207 (.ref a :: ls) st h ↔ az_W C R k_X11_init 208 (.ref a :: ls) (.ref a :: st) h := ap_aload rfl rfl
theorem u_X11_init_208 : az_W C R k_X11_init 208 ls st h ↔ az_W C R k_X11_init 210 ls (.int 40 :: st) h := ap_const rfl
theorem u_X11_init_210 : az_W C R k_X11_init 210 ls (.int 40 :: st) (119, P, I, L) ↔ az_W C R k_X11_init 212 ls (.ref 119 :: st) (120, P, I, L) := ap_newa rfl (by decide +kernel)
theorem u_X11_init_212 (hk : az_kn n a = (0, 11)) : az_W C R k_X11_init 212 ls (.ref b :: .ref a :: st) (n, P, I, L) ↔ az_W C R k_X11_init 215 ls st (n, az_uP P a 35 (some b), I, L) := ap_putP rfl hk
theorem u_X11_init_215 : az_W C R k_X11_init 215 (.ref a :: ls) st h ↔ az_W C R k_X11_init 216 (.ref a :: ls) (.ref a :: st) h := ap_aload rfl rfl
theorem u_X11_init_216 : az_W C R k_X11_init 216 ls st h ↔ az_W C R k_X11_init 218 ls (.int 40 :: st) h := ap_const rfl
theorem u_X11_init_218 : az_W C R k_X11_init 218 ls (.int 40 :: st) (120, P, I, L) ↔ az_W C R k_X11_init 220 ls (.ref 120 :: st) (121, P, I, L) := ap_newa rfl (by decide +kernel)
theorem u_X11_init_220 (hk : az_kn n a = (0, 11)) : az_W C R k_X11_init 220 ls (.ref b :: .ref a :: st) (n, P, I, L) ↔ az_W C R k_X11_init 223 ls st (n, az_uP P a 36 (some b), I, L) := ap_putP rfl hk
theorem u_X11_init_223 : az_W C R k_X11_init 223 (.ref a :: ls) st h ↔ az_W C R k_X11_init 224 (.ref a :: ls) (.ref a :: st) h := ap_aload rfl rfl
theorem u_X11_init_224 : az_W C R k_X11_init 224 ls st h ↔ az_W C R k_X11_init 226 ls (.int 40 :: st) h := ap_const rfl
theorem u_X11_init_226 : az_W C R k_X11_init 226 ls (.int 40 :: st) (121, P, I, L) ↔ az_W C R k_X11_init 228 ls (.ref 121 :: st) (122, P, I, L) := ap_newa rfl (by decide +kernel)
theorem u_X11_init_228 (hk : az_kn n a = (0, 11)) : az_W C R k_X11_init 228 ls (.ref b :: .ref a :: st) (n, P, I, L) ↔ az_W C R k_X11_init 231 ls st (n, az_uP P a 37 (some b), I, L) := ap_putP rfl hk
theorem u_X11_init_231 : az_W C R k_X11_init 231 (.ref a :: ls) st h ↔ az_W C R k_X11_init 232 (.ref a :: ls) (.ref a :: st) h := ap_aload rfl rfl
theorem u_X11_init_232 : az_W C R k_X11_init 232 ls st h ↔ az_W C R k_X11_init 234 ls (.int 40 :: st) h := ap_const rfl
theorem u_X11_init_234 : az_W C R k_X11_init 234 ls (.int 40 :: st) (122, P, I, L) ↔ az_W C R k_X11_init 236 ls (.ref 122 :: st) (123, P, I, L) := ap_newa rfl (by decide +kernel)
theorem u_X11_init_236 (hk : az_kn n a = (0, 11)) : az_W C R k_X11_init 236 ls (.ref b :: .ref a :: st) (n, P, I, L) ↔ az_W C R k_X11_init 239 ls st (n, az_uP P a 38 (some b), I, L) := ap_putP rfl hk
theorem u_X11_init_239 : az_W C R k_X11_init 239 (.ref a :: ls) st h ↔ az_W C R k_X11_init 240 (.ref a :: ls) (.ref a :: st) h := ap_aload rfl rfl
theorem u_X11_init_240 : az_W C R k_X11_init 240 ls st h ↔ az_W C R k_X11_init 243 ls (.int 144 :: st) h := ap_const rfl
theorem u_X11_init_243 : az_W C R k_X11_init 243 ls (.int 144 :: st) (123, P, I, L) ↔ az_W C R k_X11_init 245 ls (.ref 123 :: st) (124, P, I, L) := ap_newa rfl (by decide +kernel)
theorem u_X11_init_245 (hk : az_kn n a = (0, 11)) : az_W C R k_X11_init 245 ls (.ref b :: .ref a :: st) (n, P, I, L) ↔ az_W C R k_X11_init 248 ls st (n, az_uP P a 39 (some b), I, L) := ap_putP rfl hk
theorem u_X11_init_248 : az_W C R k_X11_init 248 (.ref a :: ls) st h ↔ az_W C R k_X11_init 249 (.ref a :: ls) (.ref a :: st) h := ap_aload rfl rfl
theorem u_X11_init_249 : az_W C R k_X11_init 249 ls st h ↔ az_W C R k_X11_init 252 ls (.int 144 :: st) h := ap_const rfl
theorem u_X11_init_252 : az_W C R k_X11_init 252 ls (.int 144 :: st) (124, P, I, L) ↔ az_W C R k_X11_init 254 ls (.ref 124 :: st) (125, P, I, L) := ap_newa rfl (by decide +kernel)
theorem u_X11_init_254 (hk : az_kn n a = (0, 11)) : az_W C R k_X11_init 254 ls (.ref b :: .ref a :: st) (n, P, I, L) ↔ az_W C R k_X11_init 257 ls st (n, az_uP P a 40 (some b), I, L) := ap_putP rfl hk
theorem u_X11_init_257 : az_W C R k_X11_init 257 (.ref a :: ls) st h ↔ az_W C R k_X11_init 258 (.ref a :: ls) (.ref a :: st) h := ap_aload rfl rfl
theorem u_X11_init_258 : az_W C R k_X11_init 258 ls st h ↔ az_W C R k_X11_init 260 ls (.int 12 :: st) h := ap_const rfl
theorem u_X11_init_260 : az_W C R k_X11_init 260 ls (.int 12 :: st) (125, P, I, L) ↔ az_W C R k_X11_init 262 ls (.ref 125 :: st) (126, P, I, L) := ap_newa rfl (by decide +kernel)
theorem u_X11_init_262 (hk : az_kn n a = (0, 11)) : az_W C R k_X11_init 262 ls (.ref b :: .ref a :: st) (n, P, I, L) ↔ az_W C R k_X11_init 265 ls st (n, az_uP P a 41 (some b), I, L) := ap_putP rfl hk
theorem u_X11_init_265 : az_W C R k_X11_init 265 (.ref a :: ls) st h ↔ az_W C R k_X11_init 266 (.ref a :: ls) (.ref a :: st) h := ap_aload rfl rfl
theorem u_X11_init_266 : az_W C R k_X11_init 266 ls st h ↔ az_W C R k_X11_init 268 ls (.int 40 :: st) h := ap_const rfl
theorem u_X11_init_268 : az_W C R k_X11_init 268 ls (.int 40 :: st) (126, P, I, L) ↔ az_W C R k_X11_init 270 ls (.ref 126 :: st) (127, P, I, L) := ap_newa rfl (by decide +kernel)
theorem u_X11_init_270 (hk : az_kn n a = (0, 11)) : az_W C R k_X11_init 270 ls (.ref b :: .ref a :: st) (n, P, I, L) ↔ az_W C R k_X11_init 273 ls st (n, az_uP P a 42 (some b), I, L) := ap_putP rfl hk
theorem u_X11_init_273 : az_W C R k_X11_init 273 (.ref a :: ls) st h ↔ az_W C R k_X11_init 274 (.ref a :: ls) (.ref a :: st) h := ap_aload rfl rfl
theorem u_X11_init_274 : az_W C R k_X11_init 274 ls st h ↔ az_W C R k_X11_init 275 ls (.int 4 :: st) h := ap_const rfl
theorem u_X11_init_275 : az_W C R k_X11_init 275 ls (.int 4 :: st) (127, P, I, L) ↔ az_W C R k_X11_init 277 ls (.ref 127 :: st) (128, P, I, L) := ap_newa rfl (by decide +kernel)
theorem u_X11_init_277 (hk : az_kn n a = (0, 11)) : az_W C R k_X11_init 277 ls (.ref b :: .ref a :: st) (n, P, I, L) ↔ az_W C R k_X11_init 280 ls st (n, az_uP P a 47 (some b), I, L) := ap_putP rfl hk
theorem u_X11_init_280 : az_W C R k_X11_init 280 (.ref a :: ls) st h ↔ az_W C R k_X11_init 281 (.ref a :: ls) (.ref a :: st) h := ap_aload rfl rfl
theorem u_X11_init_281 : az_W C R k_X11_init 281 ls st h ↔ az_W C R k_X11_init 282 ls (.int 4 :: st) h := ap_const rfl
theorem u_X11_init_282 : az_W C R k_X11_init 282 ls (.int 4 :: st) (128, P, I, L) ↔ az_W C R k_X11_init 284 ls (.ref 128 :: st) (129, P, I, L) := ap_newa rfl (by decide +kernel)
theorem u_X11_init_284 (hk : az_kn n a = (0, 11)) : az_W C R k_X11_init 284 ls (.ref b :: .ref a :: st) (n, P, I, L) ↔ az_W C R k_X11_init 287 ls st (n, az_uP P a 48 (some b), I, L) := ap_putP rfl hk
theorem u_X11_init_287 : az_W C R k_X11_init 287 (.ref a :: ls) st h ↔ az_W C R k_X11_init 288 (.ref a :: ls) (.ref a :: st) h := ap_aload rfl rfl
theorem u_X11_init_288 : az_W C R k_X11_init 288 ls st h ↔ az_W C R k_X11_init 290 ls (.int 64 :: st) h := ap_const rfl
theorem u_X11_init_290 : az_W C R k_X11_init 290 ls (.int 64 :: st) (129, P, I, L) ↔ az_W C R k_X11_init 292 ls (.ref 129 :: st) (130, P, I, L) := ap_newa rfl (by decide +kernel)
theorem u_X11_init_292 (hk : az_kn n a = (0, 11)) : az_W C R k_X11_init 292 ls (.ref b :: .ref a :: st) (n, P, I, L) ↔ az_W C R k_X11_init 295 ls st (n, az_uP P a 49 (some b), I, L) := ap_putP rfl hk
theorem u_X11_init_295 : az_W C R k_X11_init 295 ls st h ↔ az_W C R k_X11_init 296 ls (.int 0 :: st) h := ap_const rfl
theorem u_X11_init_296 : az_W C R k_X11_init 296 (v0 :: v1 :: ls) (.int x :: st) h ↔ az_W C R k_X11_init 297 (az_un v0 :: .int x :: ls) st h := ap_istore rfl rfl
theorem u_X11_init_297 : az_W C R k_X11_init 297 (v0 :: .int x :: ls) st h ↔ az_W C R k_X11_init 298 (v0 :: .int x :: ls) (.int x :: st) h := ap_iload rfl rfl
theorem u_X11_init_298 : az_W C R k_X11_init 298 ls st h ↔ az_W C R k_X11_init 301 ls (.int 240 :: st) h := ap_const rfl
theorem u_X11_init_301 : az_W C R k_X11_init 301 ls (.int y :: .int x :: st) h ↔ if y ≤ x then az_W C R k_X11_init 317 ls st h else az_W C R k_X11_init 304 ls st h := ap_icge rfl
theorem u_X11_init_304 : az_W C R k_X11_init 304 (.ref a :: ls) st h ↔ az_W C R k_X11_init 305 (.ref a :: ls) (.ref a :: st) h := ap_aload rfl rfl
theorem u_X11_init_305 (hk : az_kn n a = (0, 11)) (hp : P a 0 = some b) : az_W C R k_X11_init 305 ls (.ref a :: st) (n, P, I, L) ↔ az_W C R k_X11_init 308 ls (.ref b :: st) (n, P, I, L) := ap_getP rfl hk hp
theorem u_X11_init_308 : az_W C R k_X11_init 308 (v0 :: .int x :: ls) st h ↔ az_W C R k_X11_init 309 (v0 :: .int x :: ls) (.int x :: st) h := ap_iload rfl rfl
theorem u_X11_init_309 : az_W C R k_X11_init 309 ls st h ↔ az_W C R k_X11_init 310 ls (.int (-1) :: st) h := ap_const rfl
theorem u_X11_init_310 (hk : (az_kn n a).1 = 1) : az_W C R k_X11_init 310 ls (.int y :: .int x :: .ref a :: st) (n, P, I, L) ↔ (az_in x (az_kn n a).2 ∧ az_W C R k_X11_init 311 ls st (n, P, az_uI I a x.toNatClampNeg y, L)) := ap_iast rfl (az_k1 hk)
theorem u_X11_init_311 : az_W C R k_X11_init 311 (v0 :: .int x :: ls) st h ↔ az_W C R k_X11_init 314 (az_un v0 :: .int (x + 1) :: ls) st h := ap_iinc rfl rfl rfl
theorem u_X11_init_314 : az_W C R k_X11_init 314 ls st h ↔ az_W C R k_X11_init 297 ls st h := ap_goto rfl
theorem u_X11_init_317 : az_W C R k_X11_init 317 ls st h ↔ az_W C R k_X11_init 318 ls (.int 0 :: st) h := ap_const rfl
theorem u_X11_init_318 : az_W C R k_X11_init 318 (v0 :: v1 :: ls) (.int x :: st) h ↔ az_W C R k_X11_init 319 (az_un v0 :: .int x :: ls) st h := ap_istore rfl rfl
theorem u_X11_init_319 : az_W C R k_X11_init 319 (v0 :: .int x :: ls) st h ↔ az_W C R k_X11_init 320 (v0 :: .int x :: ls) (.int x :: st) h := ap_iload rfl rfl
theorem u_X11_init_320 : az_W C R k_X11_init 320 ls st h ↔ az_W C R k_X11_init 321 ls (.int 4 :: st) h := ap_const rfl
theorem u_X11_init_321 : az_W C R k_X11_init 321 ls (.int y :: .int x :: st) h ↔ if y ≤ x then az_W C R k_X11_init 337 ls st h else az_W C R k_X11_init 324 ls st h := ap_icge rfl
theorem u_X11_init_324 : az_W C R k_X11_init 324 (.ref a :: ls) st h ↔ az_W C R k_X11_init 325 (.ref a :: ls) (.ref a :: st) h := ap_aload rfl rfl
theorem u_X11_init_325 (hk : az_kn n a = (0, 11)) (hp : P a 47 = some b) : az_W C R k_X11_init 325 ls (.ref a :: st) (n, P, I, L) ↔ az_W C R k_X11_init 328 ls (.ref b :: st) (n, P, I, L) := ap_getP rfl hk hp
theorem u_X11_init_328 : az_W C R k_X11_init 328 (v0 :: .int x :: ls) st h ↔ az_W C R k_X11_init 329 (v0 :: .int x :: ls) (.int x :: st) h := ap_iload rfl rfl
theorem u_X11_init_329 : az_W C R k_X11_init 329 ls st h ↔ az_W C R k_X11_init 330 ls (.int (-1) :: st) h := ap_const rfl
theorem u_X11_init_330 (hk : (az_kn n a).1 = 1) : az_W C R k_X11_init 330 ls (.int y :: .int x :: .ref a :: st) (n, P, I, L) ↔ (az_in x (az_kn n a).2 ∧ az_W C R k_X11_init 331 ls st (n, P, az_uI I a x.toNatClampNeg y, L)) := ap_iast rfl (az_k1 hk)
theorem u_X11_init_331 : az_W C R k_X11_init 331 (v0 :: .int x :: ls) st h ↔ az_W C R k_X11_init 334 (az_un v0 :: .int (x + 1) :: ls) st h := ap_iinc rfl rfl rfl
theorem u_X11_init_334 : az_W C R k_X11_init 334 ls st h ↔ az_W C R k_X11_init 319 ls st h := ap_goto rfl
theorem u_X11_init_337 : az_W C R k_X11_init 337 ls [] h ↔ R none h := ap_ret rfl
def k_X11_isHouse : Nat → az_P := (az_br 3 (az_br 1 (az_lf 0 (az_iload 0 1)) (az_br 2 (az_lf 1 (az_i2l 2)) (az_lf 2 (az_const (.long 0) 3)))) (az_br 6 (az_lf 3 (az_const (.long 7) 6)) (az_br 9 (az_lf 6 (az_ivs 139 3 9)) (az_lf 9 (az_zret)))))
theorem u_X11_isHouse_0 : az_W C R k_X11_isHouse 0 (.int x :: ls) st h ↔ az_W C R k_X11_isHouse 1 (.int x :: ls) (.int x :: st) h := ap_iload rfl rfl
theorem u_X11_isHouse_1 : az_W C R k_X11_isHouse 1 ls (.int x :: st) h ↔ az_W C R k_X11_isHouse 2 ls (.long x.toInt64 :: st) h := ap_i2l rfl
theorem u_X11_isHouse_2 : az_W C R k_X11_isHouse 2 ls st h ↔ az_W C R k_X11_isHouse 3 ls (.long 0 :: st) h := ap_const rfl
theorem u_X11_isHouse_3 : az_W C R k_X11_isHouse 3 ls st h ↔ az_W C R k_X11_isHouse 6 ls (.long 7 :: st) h := ap_const rfl
theorem u_X11_isHouse_6 (hl : st.length ≤ 4) : az_W C R k_X11_isHouse 6 ls (v3 :: v2 :: v1 :: st) h ↔ az_F C R (az_W C R k_X11_isHouse) h (az_cl 139 [v1, v2, v3] 9 ls st) := ap_ivs rfl rfl hl
theorem u_X11_isHouse_9 : az_W C R k_X11_isHouse 9 ls [.int x] h ↔ ((x = 0 ∨ x = 1) ∧ R (some (.int x)) h) := ap_zret rfl
def k_X11_isMorning : Nat → az_P := (az_br 3 (az_br 1 (az_lf 0 (az_iload 0 1)) (az_br 2 (az_lf 1 (az_i2l 2)) (az_lf 2 (az_const (.long 0) 3)))) (az_br 6 (az_lf 3 (az_const (.long 29) 6)) (az_br 9 (az_lf 6 (az_ivs 139 3 9)) (az_lf 9 (az_zret)))))
theorem u_X11_isMorning_0 : az_W C R k_X11_isMorning 0 (.int x :: ls) st h ↔ az_W C R k_X11_isMorning 1 (.int x :: ls) (.int x :: st) h := ap_iload rfl rfl
theorem u_X11_isMorning_1 : az_W C R k_X11_isMorning 1 ls (.int x :: st) h ↔ az_W C R k_X11_isMorning 2 ls (.long x.toInt64 :: st) h := ap_i2l rfl
theorem u_X11_isMorning_2 : az_W C R k_X11_isMorning 2 ls st h ↔ az_W C R k_X11_isMorning 3 ls (.long 0 :: st) h := ap_const rfl
theorem u_X11_isMorning_3 : az_W C R k_X11_isMorning 3 ls st h ↔ az_W C R k_X11_isMorning 6 ls (.long 29 :: st) h := ap_const rfl
theorem u_X11_isMorning_6 (hl : st.length ≤ 4) : az_W C R k_X11_isMorning 6 ls (v3 :: v2 :: v1 :: st) h ↔ az_F C R (az_W C R k_X11_isMorning) h (az_cl 139 [v1, v2, v3] 9 ls st) := ap_ivs rfl rfl hl
theorem u_X11_isMorning_9 : az_W C R k_X11_isMorning 9 ls [.int x] h ↔ ((x = 0 ∨ x = 1) ∧ R (some (.int x)) h) := ap_zret rfl
def k_X11_common : Nat → az_P := (az_br 20 (az_br 8 (az_br 3 (az_br 1 (az_lf 0 (az_lload 0 1)) (az_br 2 (az_lf 1 (az_const (.long 0) 2)) (az_lf 2 (az_lcmp 3)))) (az_br 6 (az_lf 3 (az_ifge 11 6)) (az_br 7 (az_lf 6 (az_lload 0 7)) (az_lf 7 (az_l (fun p => -p) 8))))) (az_br 14 (az_br 11 (az_lf 8 (az_goto 12)) (az_br 12 (az_lf 11 (az_lload 0 12)) (az_lf 12 (az_lstore 4 14)))) (az_br 17 (az_br 15 (az_lf 14 (az_lload 2 15)) (az_lf 15 (az_lstore 6 17))) (az_br 19 (az_lf 17 (az_lload 6 19)) (az_lf 19 (az_const (.long 0) 20)))))) (az_br 31 (az_br 26 (az_br 21 (az_lf 20 (az_lcmp 21)) (az_br 24 (az_lf 21 (az_ifeq 42 24)) (az_lf 24 (az_lload 4 26)))) (az_br 28 (az_lf 26 (az_lload 6 28)) (az_br 29 (az_lf 28 (az_lrem 29)) (az_lf 29 (az_lstore 8 31))))) (az_br 37 (az_br 33 (az_lf 31 (az_lload 6 33)) (az_br 35 (az_lf 33 (az_lstore 4 35)) (az_lf 35 (az_lload 8 37)))) (az_br 42 (az_br 39 (az_lf 37 (az_lstore 6 39)) (az_lf 39 (az_goto 17))) (az_br 44 (az_lf 42 (az_lload 4 44)) (az_lf 44 (az_lret)))))))
theorem u_X11_common_0 : az_W C R k_X11_common 0 (.long p :: ls) st h ↔ az_W C R k_X11_common 1 (.long p :: ls) (.long p :: st) h := ap_lload rfl rfl
theorem u_X11_common_1 : az_W C R k_X11_common 1 ls st h ↔ az_W C R k_X11_common 2 ls (.long 0 :: st) h := ap_const rfl
theorem u_X11_common_2 : az_W C R k_X11_common 2 ls (.long q :: .long p :: st) h ↔ az_W C R k_X11_common 3 ls (.int (lg_cmp p q) :: st) h := ap_lcmp rfl
theorem u_X11_common_3 : az_W C R k_X11_common 3 ls (.int x :: st) h ↔ if 0 ≤ x then az_W C R k_X11_common 11 ls st h else az_W C R k_X11_common 6 ls st h := ap_ifge rfl
theorem u_X11_common_6 : az_W C R k_X11_common 6 (.long p :: ls) st h ↔ az_W C R k_X11_common 7 (.long p :: ls) (.long p :: st) h := ap_lload rfl rfl
theorem u_X11_common_7 : az_W C R k_X11_common 7 ls (.long p :: st) h ↔ az_W C R k_X11_common 8 ls (.long (-p) :: st) h := ap_l (f := fun p => -p) rfl
theorem u_X11_common_8 : az_W C R k_X11_common 8 ls st h ↔ az_W C R k_X11_common 12 ls st h := ap_goto rfl
theorem u_X11_common_11 : az_W C R k_X11_common 11 (.long p :: ls) st h ↔ az_W C R k_X11_common 12 (.long p :: ls) (.long p :: st) h := ap_lload rfl rfl
theorem u_X11_common_12 : az_W C R k_X11_common 12 (v0 :: v1 :: v2 :: v3 :: v4 :: v5 :: ls) (.long p :: st) h ↔ az_W C R k_X11_common 14 (v0 :: v1 :: v2 :: az_un v3 :: .long p :: .null :: ls) st h := ap_lstore rfl rfl
theorem u_X11_common_14 : az_W C R k_X11_common 14 (v0 :: v1 :: .long p :: ls) st h ↔ az_W C R k_X11_common 15 (v0 :: v1 :: .long p :: ls) (.long p :: st) h := ap_lload rfl rfl
theorem u_X11_common_15 : az_W C R k_X11_common 15 (v0 :: v1 :: v2 :: v3 :: v4 :: v5 :: v6 :: v7 :: ls) (.long p :: st) h ↔ az_W C R k_X11_common 17 (v0 :: v1 :: v2 :: v3 :: v4 :: az_un v5 :: .long p :: .null :: ls) st h := ap_lstore rfl rfl
theorem u_X11_common_17 : az_W C R k_X11_common 17 (v0 :: v1 :: v2 :: v3 :: v4 :: v5 :: .long p :: ls) st h ↔ az_W C R k_X11_common 19 (v0 :: v1 :: v2 :: v3 :: v4 :: v5 :: .long p :: ls) (.long p :: st) h := ap_lload rfl rfl
theorem u_X11_common_19 : az_W C R k_X11_common 19 ls st h ↔ az_W C R k_X11_common 20 ls (.long 0 :: st) h := ap_const rfl
theorem u_X11_common_20 : az_W C R k_X11_common 20 ls (.long q :: .long p :: st) h ↔ az_W C R k_X11_common 21 ls (.int (lg_cmp p q) :: st) h := ap_lcmp rfl
theorem u_X11_common_21 : az_W C R k_X11_common 21 ls (.int x :: st) h ↔ if x = 0 then az_W C R k_X11_common 42 ls st h else az_W C R k_X11_common 24 ls st h := ap_ifeq rfl
theorem u_X11_common_24 : az_W C R k_X11_common 24 (v0 :: v1 :: v2 :: v3 :: .long p :: ls) st h ↔ az_W C R k_X11_common 26 (v0 :: v1 :: v2 :: v3 :: .long p :: ls) (.long p :: st) h := ap_lload rfl rfl
theorem u_X11_common_26 : az_W C R k_X11_common 26 (v0 :: v1 :: v2 :: v3 :: v4 :: v5 :: .long p :: ls) st h ↔ az_W C R k_X11_common 28 (v0 :: v1 :: v2 :: v3 :: v4 :: v5 :: .long p :: ls) (.long p :: st) h := ap_lload rfl rfl
theorem u_X11_common_28 : az_W C R k_X11_common 28 ls (.long q :: .long p :: st) h ↔ (¬ q = 0 ∧ az_W C R k_X11_common 29 ls (.long (p - p / q * q) :: st) h) := ap_lrem rfl
theorem u_X11_common_29 : az_W C R k_X11_common 29 (v0 :: v1 :: v2 :: v3 :: v4 :: v5 :: v6 :: v7 :: v8 :: v9 :: ls) (.long p :: st) h ↔ az_W C R k_X11_common 31 (v0 :: v1 :: v2 :: v3 :: v4 :: v5 :: v6 :: az_un v7 :: .long p :: .null :: ls) st h := ap_lstore rfl rfl
theorem u_X11_common_31 : az_W C R k_X11_common 31 (v0 :: v1 :: v2 :: v3 :: v4 :: v5 :: .long p :: ls) st h ↔ az_W C R k_X11_common 33 (v0 :: v1 :: v2 :: v3 :: v4 :: v5 :: .long p :: ls) (.long p :: st) h := ap_lload rfl rfl
theorem u_X11_common_33 : az_W C R k_X11_common 33 (v0 :: v1 :: v2 :: v3 :: v4 :: v5 :: ls) (.long p :: st) h ↔ az_W C R k_X11_common 35 (v0 :: v1 :: v2 :: az_un v3 :: .long p :: .null :: ls) st h := ap_lstore rfl rfl
theorem u_X11_common_35 : az_W C R k_X11_common 35 (v0 :: v1 :: v2 :: v3 :: v4 :: v5 :: v6 :: v7 :: .long p :: ls) st h ↔ az_W C R k_X11_common 37 (v0 :: v1 :: v2 :: v3 :: v4 :: v5 :: v6 :: v7 :: .long p :: ls) (.long p :: st) h := ap_lload rfl rfl
theorem u_X11_common_37 : az_W C R k_X11_common 37 (v0 :: v1 :: v2 :: v3 :: v4 :: v5 :: v6 :: v7 :: ls) (.long p :: st) h ↔ az_W C R k_X11_common 39 (v0 :: v1 :: v2 :: v3 :: v4 :: az_un v5 :: .long p :: .null :: ls) st h := ap_lstore rfl rfl
theorem u_X11_common_39 : az_W C R k_X11_common 39 ls st h ↔ az_W C R k_X11_common 17 ls st h := ap_goto rfl
theorem u_X11_common_42 : az_W C R k_X11_common 42 (v0 :: v1 :: v2 :: v3 :: .long p :: ls) st h ↔ az_W C R k_X11_common 44 (v0 :: v1 :: v2 :: v3 :: .long p :: ls) (.long p :: st) h := ap_lload rfl rfl
theorem u_X11_common_44 : az_W C R k_X11_common 44 ls [.long p] h ↔ R (some (.long p)) h := ap_lret rfl
def k_X11_told : Nat → az_P := (az_br 13 (az_br 5 (az_br 1 (az_lf 0 (az_lload 0 1)) (az_br 2 (az_lf 1 (az_lload 2 2)) (az_lf 2 (az_ivs 143 2 5)))) (az_br 9 (az_br 7 (az_lf 5 (az_lstore 5 7)) (az_lf 7 (az_iload 4 9))) (az_br 12 (az_lf 9 (az_ifne 19 12)) (az_lf 12 (az_lload 0 13))))) (az_br 19 (az_br 15 (az_lf 13 (az_lload 5 15)) (az_br 16 (az_lf 15 (az_ldiv 16)) (az_lf 16 (az_goto 23)))) (az_br 22 (az_br 20 (az_lf 19 (az_lload 2 20)) (az_lf 20 (az_lload 5 22))) (az_br 23 (az_lf 22 (az_ldiv 23)) (az_lf 23 (az_lret))))))
theorem u_X11_told_0 : az_W C R k_X11_told 0 (.long p :: ls) st h ↔ az_W C R k_X11_told 1 (.long p :: ls) (.long p :: st) h := ap_lload rfl rfl
theorem u_X11_told_1 : az_W C R k_X11_told 1 (v0 :: v1 :: .long p :: ls) st h ↔ az_W C R k_X11_told 2 (v0 :: v1 :: .long p :: ls) (.long p :: st) h := ap_lload rfl rfl
theorem u_X11_told_2 (hl : st.length ≤ 4) : az_W C R k_X11_told 2 ls (v2 :: v1 :: st) h ↔ az_F C R (az_W C R k_X11_told) h (az_cl 143 [v1, v2] 5 ls st) := ap_ivs rfl rfl hl
theorem u_X11_told_5 : az_W C R k_X11_told 5 (v0 :: v1 :: v2 :: v3 :: v4 :: v5 :: v6 :: ls) (.long p :: st) h ↔ az_W C R k_X11_told 7 (v0 :: v1 :: v2 :: v3 :: az_un v4 :: .long p :: .null :: ls) st h := ap_lstore rfl rfl
theorem u_X11_told_7 : az_W C R k_X11_told 7 (v0 :: v1 :: v2 :: v3 :: .int x :: ls) st h ↔ az_W C R k_X11_told 9 (v0 :: v1 :: v2 :: v3 :: .int x :: ls) (.int x :: st) h := ap_iload rfl rfl
theorem u_X11_told_9 : az_W C R k_X11_told 9 ls (.int x :: st) h ↔ if x = 0 then az_W C R k_X11_told 12 ls st h else az_W C R k_X11_told 19 ls st h := ap_ifne rfl
theorem u_X11_told_12 : az_W C R k_X11_told 12 (.long p :: ls) st h ↔ az_W C R k_X11_told 13 (.long p :: ls) (.long p :: st) h := ap_lload rfl rfl
theorem u_X11_told_13 : az_W C R k_X11_told 13 (v0 :: v1 :: v2 :: v3 :: v4 :: .long p :: ls) st h ↔ az_W C R k_X11_told 15 (v0 :: v1 :: v2 :: v3 :: v4 :: .long p :: ls) (.long p :: st) h := ap_lload rfl rfl
theorem u_X11_told_15 : az_W C R k_X11_told 15 ls (.long q :: .long p :: st) h ↔ (¬ q = 0 ∧ az_W C R k_X11_told 16 ls (.long (p / q) :: st) h) := ap_ldiv rfl
theorem u_X11_told_16 : az_W C R k_X11_told 16 ls st h ↔ az_W C R k_X11_told 23 ls st h := ap_goto rfl
theorem u_X11_told_19 : az_W C R k_X11_told 19 (v0 :: v1 :: .long p :: ls) st h ↔ az_W C R k_X11_told 20 (v0 :: v1 :: .long p :: ls) (.long p :: st) h := ap_lload rfl rfl
theorem u_X11_told_20 : az_W C R k_X11_told 20 (v0 :: v1 :: v2 :: v3 :: v4 :: .long p :: ls) st h ↔ az_W C R k_X11_told 22 (v0 :: v1 :: v2 :: v3 :: v4 :: .long p :: ls) (.long p :: st) h := ap_lload rfl rfl
theorem u_X11_told_22 : az_W C R k_X11_told 22 ls (.long q :: .long p :: st) h ↔ (¬ q = 0 ∧ az_W C R k_X11_told 23 ls (.long (p / q) :: st) h) := ap_ldiv rfl
theorem u_X11_told_23 : az_W C R k_X11_told 23 ls [.long p] h ↔ R (some (.long p)) h := ap_lret rfl
def k_X11_isWhat : Nat → az_P := (az_br 3 (az_br 1 (az_lf 0 (az_iload 0 1)) (az_br 2 (az_lf 1 (az_i2l 2)) (az_lf 2 (az_const (.long 0) 3)))) (az_br 4 (az_lf 3 (az_const (.long 1) 4)) (az_br 7 (az_lf 4 (az_ivs 139 3 7)) (az_lf 7 (az_zret)))))
theorem u_X11_isWhat_0 : az_W C R k_X11_isWhat 0 (.int x :: ls) st h ↔ az_W C R k_X11_isWhat 1 (.int x :: ls) (.int x :: st) h := ap_iload rfl rfl
theorem u_X11_isWhat_1 : az_W C R k_X11_isWhat 1 ls (.int x :: st) h ↔ az_W C R k_X11_isWhat 2 ls (.long x.toInt64 :: st) h := ap_i2l rfl
theorem u_X11_isWhat_2 : az_W C R k_X11_isWhat 2 ls st h ↔ az_W C R k_X11_isWhat 3 ls (.long 0 :: st) h := ap_const rfl
theorem u_X11_isWhat_3 : az_W C R k_X11_isWhat 3 ls st h ↔ az_W C R k_X11_isWhat 4 ls (.long 1 :: st) h := ap_const rfl
theorem u_X11_isWhat_4 (hl : st.length ≤ 4) : az_W C R k_X11_isWhat 4 ls (v3 :: v2 :: v1 :: st) h ↔ az_F C R (az_W C R k_X11_isWhat) h (az_cl 139 [v1, v2, v3] 7 ls st) := ap_ivs rfl rfl hl
theorem u_X11_isWhat_7 : az_W C R k_X11_isWhat 7 ls [.int x] h ↔ ((x = 0 ∨ x = 1) ∧ R (some (.int x)) h) := ap_zret rfl
def k_X11_isSaid : Nat → az_P := (az_br 5 (az_br 1 (az_lf 0 (az_iload 0 1)) (az_br 2 (az_lf 1 (az_i2l 2)) (az_lf 2 (az_const (.long (-1)) 5)))) (az_br 8 (az_lf 5 (az_const (.long 999) 8)) (az_br 11 (az_lf 8 (az_ivs 139 3 11)) (az_lf 11 (az_zret)))))
theorem u_X11_isSaid_0 : az_W C R k_X11_isSaid 0 (.int x :: ls) st h ↔ az_W C R k_X11_isSaid 1 (.int x :: ls) (.int x :: st) h := ap_iload rfl rfl
theorem u_X11_isSaid_1 : az_W C R k_X11_isSaid 1 ls (.int x :: st) h ↔ az_W C R k_X11_isSaid 2 ls (.long x.toInt64 :: st) h := ap_i2l rfl
theorem u_X11_isSaid_2 : az_W C R k_X11_isSaid 2 ls st h ↔ az_W C R k_X11_isSaid 5 ls (.long (-1) :: st) h := ap_const rfl
theorem u_X11_isSaid_5 : az_W C R k_X11_isSaid 5 ls st h ↔ az_W C R k_X11_isSaid 8 ls (.long 999 :: st) h := ap_const rfl
theorem u_X11_isSaid_8 (hl : st.length ≤ 4) : az_W C R k_X11_isSaid 8 ls (v3 :: v2 :: v1 :: st) h ↔ az_F C R (az_W C R k_X11_isSaid) h (az_cl 139 [v1, v2, v3] 11 ls st) := ap_ivs rfl rfl hl
theorem u_X11_isSaid_11 : az_W C R k_X11_isSaid 11 ls [.int x] h ↔ ((x = 0 ∨ x = 1) ∧ R (some (.int x)) h) := ap_zret rfl
def k_X11_say : Nat → az_P := (az_br 31 (az_br 15 (az_br 7 (az_br 1 (az_lf 0 (az_iload 1 1)) (az_br 4 (az_lf 1 (az_ivs 141 1 4)) (az_lf 4 (az_ifeq 21 7)))) (az_br 11 (az_br 8 (az_lf 7 (az_iload 2 8)) (az_lf 8 (az_ivs 142 1 11))) (az_br 14 (az_lf 11 (az_ifeq 21 14)) (az_lf 14 (az_iload 3 15))))) (az_br 24 (az_br 21 (az_br 18 (az_lf 15 (az_ivs 146 1 18)) (az_lf 18 (az_ifne 24 21))) (az_br 23 (az_lf 21 (az_const (.int (-11)) 23)) (az_lf 23 (az_iret)))) (az_br 28 (az_br 25 (az_lf 24 (az_aload 0 25)) (az_lf 25 (az_getP 11 0 28))) (az_br 30 (az_lf 28 (az_const (.int 8) 30)) (az_lf 30 (az_iload 2 31)))))) (az_br 43 (az_br 35 (az_br 33 (az_br 32 (az_lf 31 (az_ii (fun x y => x * y) 32)) (az_lf 32 (az_iload 1 33))) (az_br 34 (az_lf 33 (az_ii (fun x y => x + y) 34)) (az_lf 34 (az_iald 35)))) (az_br 38 (az_br 37 (az_lf 35 (az_istore 4 37)) (az_lf 37 (az_aload 0 38))) (az_br 41 (az_lf 38 (az_getP 11 0 41)) (az_lf 41 (az_const (.int 8) 43))))) (az_br 47 (az_br 45 (az_br 44 (az_lf 43 (az_iload 2 44)) (az_lf 44 (az_ii (fun x y => x * y) 45))) (az_br 46 (az_lf 45 (az_iload 1 46)) (az_lf 46 (az_ii (fun x y => x + y) 47)))) (az_br 49 (az_br 48 (az_lf 47 (az_iload 3 48)) (az_lf 48 (az_iast 49))) (az_br 51 (az_lf 49 (az_iload 4 51)) (az_lf 51 (az_iret)))))))
theorem u_X11_say_0 : az_W C R k_X11_say 0 (v0 :: .int x :: ls) st h ↔ az_W C R k_X11_say 1 (v0 :: .int x :: ls) (.int x :: st) h := ap_iload rfl rfl
theorem u_X11_say_1 (hl : st.length ≤ 4) : az_W C R k_X11_say 1 ls (v1 :: st) h ↔ az_F C R (az_W C R k_X11_say) h (az_cl 141 [v1] 4 ls st) := ap_ivs rfl rfl hl
theorem u_X11_say_4 : az_W C R k_X11_say 4 ls (.int x :: st) h ↔ if x = 0 then az_W C R k_X11_say 21 ls st h else az_W C R k_X11_say 7 ls st h := ap_ifeq rfl
theorem u_X11_say_7 : az_W C R k_X11_say 7 (v0 :: v1 :: .int x :: ls) st h ↔ az_W C R k_X11_say 8 (v0 :: v1 :: .int x :: ls) (.int x :: st) h := ap_iload rfl rfl
theorem u_X11_say_8 (hl : st.length ≤ 4) : az_W C R k_X11_say 8 ls (v1 :: st) h ↔ az_F C R (az_W C R k_X11_say) h (az_cl 142 [v1] 11 ls st) := ap_ivs rfl rfl hl
theorem u_X11_say_11 : az_W C R k_X11_say 11 ls (.int x :: st) h ↔ if x = 0 then az_W C R k_X11_say 21 ls st h else az_W C R k_X11_say 14 ls st h := ap_ifeq rfl
theorem u_X11_say_14 : az_W C R k_X11_say 14 (v0 :: v1 :: v2 :: .int x :: ls) st h ↔ az_W C R k_X11_say 15 (v0 :: v1 :: v2 :: .int x :: ls) (.int x :: st) h := ap_iload rfl rfl
theorem u_X11_say_15 (hl : st.length ≤ 4) : az_W C R k_X11_say 15 ls (v1 :: st) h ↔ az_F C R (az_W C R k_X11_say) h (az_cl 146 [v1] 18 ls st) := ap_ivs rfl rfl hl
theorem u_X11_say_18 : az_W C R k_X11_say 18 ls (.int x :: st) h ↔ if x = 0 then az_W C R k_X11_say 21 ls st h else az_W C R k_X11_say 24 ls st h := ap_ifne rfl
theorem u_X11_say_21 : az_W C R k_X11_say 21 ls st h ↔ az_W C R k_X11_say 23 ls (.int (-11) :: st) h := ap_const rfl
theorem u_X11_say_23 : az_W C R k_X11_say 23 ls [.int x] h ↔ R (some (.int x)) h := ap_iret rfl
theorem u_X11_say_24 : az_W C R k_X11_say 24 (.ref a :: ls) st h ↔ az_W C R k_X11_say 25 (.ref a :: ls) (.ref a :: st) h := ap_aload rfl rfl
theorem u_X11_say_25 : az_W C R k_X11_say 25 ls (.ref 97 :: st) (130, az_Pf, I, L) ↔ az_W C R k_X11_say 28 ls (.ref 98 :: st) (130, az_Pf, I, L) := ap_getP rfl kn_97 pf_97_0
theorem u_X11_say_28 : az_W C R k_X11_say 28 ls st h ↔ az_W C R k_X11_say 30 ls (.int 8 :: st) h := ap_const rfl
theorem u_X11_say_30 : az_W C R k_X11_say 30 (v0 :: v1 :: .int x :: ls) st h ↔ az_W C R k_X11_say 31 (v0 :: v1 :: .int x :: ls) (.int x :: st) h := ap_iload rfl rfl
theorem u_X11_say_31 : az_W C R k_X11_say 31 ls (.int y :: .int x :: st) h ↔ az_W C R k_X11_say 32 ls (.int (x * y) :: st) h := ap_ii (f := fun x y => x * y) rfl
theorem u_X11_say_32 : az_W C R k_X11_say 32 (v0 :: .int x :: ls) st h ↔ az_W C R k_X11_say 33 (v0 :: .int x :: ls) (.int x :: st) h := ap_iload rfl rfl
theorem u_X11_say_33 : az_W C R k_X11_say 33 ls (.int y :: .int x :: st) h ↔ az_W C R k_X11_say 34 ls (.int (x + y) :: st) h := ap_ii (f := fun x y => x + y) rfl
theorem u_X11_say_34 (hk : (az_kn 130 a).1 = 1) : az_W C R k_X11_say 34 ls (.int x :: .ref a :: st) (130, P, I, L) ↔ (az_in x (az_kn 130 a).2 ∧ az_W C R k_X11_say 35 ls (.int (I a x.toNatClampNeg) :: st) (130, P, I, L)) := ap_iald rfl (az_k1 hk)
theorem u_X11_say_35 : az_W C R k_X11_say 35 (v0 :: v1 :: v2 :: v3 :: v4 :: ls) (.int x :: st) h ↔ az_W C R k_X11_say 37 (v0 :: v1 :: v2 :: az_un v3 :: .int x :: ls) st h := ap_istore rfl rfl
theorem u_X11_say_37 : az_W C R k_X11_say 37 (.ref a :: ls) st h ↔ az_W C R k_X11_say 38 (.ref a :: ls) (.ref a :: st) h := ap_aload rfl rfl
theorem u_X11_say_38 : az_W C R k_X11_say 38 ls (.ref 97 :: st) (130, az_Pf, I, L) ↔ az_W C R k_X11_say 41 ls (.ref 98 :: st) (130, az_Pf, I, L) := ap_getP rfl kn_97 pf_97_0
theorem u_X11_say_41 : az_W C R k_X11_say 41 ls st h ↔ az_W C R k_X11_say 43 ls (.int 8 :: st) h := ap_const rfl
theorem u_X11_say_43 : az_W C R k_X11_say 43 (v0 :: v1 :: .int x :: ls) st h ↔ az_W C R k_X11_say 44 (v0 :: v1 :: .int x :: ls) (.int x :: st) h := ap_iload rfl rfl
theorem u_X11_say_44 : az_W C R k_X11_say 44 ls (.int y :: .int x :: st) h ↔ az_W C R k_X11_say 45 ls (.int (x * y) :: st) h := ap_ii (f := fun x y => x * y) rfl
theorem u_X11_say_45 : az_W C R k_X11_say 45 (v0 :: .int x :: ls) st h ↔ az_W C R k_X11_say 46 (v0 :: .int x :: ls) (.int x :: st) h := ap_iload rfl rfl
theorem u_X11_say_46 : az_W C R k_X11_say 46 ls (.int y :: .int x :: st) h ↔ az_W C R k_X11_say 47 ls (.int (x + y) :: st) h := ap_ii (f := fun x y => x + y) rfl
theorem u_X11_say_47 : az_W C R k_X11_say 47 (v0 :: v1 :: v2 :: .int x :: ls) st h ↔ az_W C R k_X11_say 48 (v0 :: v1 :: v2 :: .int x :: ls) (.int x :: st) h := ap_iload rfl rfl
theorem u_X11_say_48 (hk : (az_kn 130 a).1 = 1) : az_W C R k_X11_say 48 ls (.int y :: .int x :: .ref a :: st) (130, P, I, L) ↔ (az_in x (az_kn 130 a).2 ∧ az_W C R k_X11_say 49 ls st (130, P, az_uI I a x.toNatClampNeg y, L)) := ap_iast rfl (az_k1 hk)
theorem u_X11_say_49 : az_W C R k_X11_say 49 (v0 :: v1 :: v2 :: v3 :: .int x :: ls) st h ↔ az_W C R k_X11_say 51 (v0 :: v1 :: v2 :: v3 :: .int x :: ls) (.int x :: st) h := ap_iload rfl rfl
theorem u_X11_say_51 : az_W C R k_X11_say 51 ls [.int x] h ↔ R (some (.int x)) h := ap_iret rfl
def k_X11_said : Nat → az_P := (az_br 18 (az_br 8 (az_br 4 (az_br 1 (az_lf 0 (az_iload 1 1)) (az_lf 1 (az_ivs 141 1 4))) (az_br 7 (az_lf 4 (az_ifeq 28 7)) (az_lf 7 (az_iload 2 8)))) (az_br 14 (az_br 11 (az_lf 8 (az_ivs 142 1 11)) (az_lf 11 (az_ifeq 28 14))) (az_br 15 (az_lf 14 (az_aload 0 15)) (az_lf 15 (az_getP 11 0 18))))) (az_br 23 (az_br 21 (az_br 20 (az_lf 18 (az_const (.int 8) 20)) (az_lf 20 (az_iload 2 21))) (az_br 22 (az_lf 21 (az_ii (fun x y => x * y) 22)) (az_lf 22 (az_iload 1 23)))) (az_br 25 (az_br 24 (az_lf 23 (az_ii (fun x y => x + y) 24)) (az_lf 24 (az_iald 25))) (az_br 28 (az_lf 25 (az_goto 30)) (az_br 30 (az_lf 28 (az_const (.int (-11)) 30)) (az_lf 30 (az_iret)))))))
theorem u_X11_said_0 : az_W C R k_X11_said 0 (v0 :: .int x :: ls) st h ↔ az_W C R k_X11_said 1 (v0 :: .int x :: ls) (.int x :: st) h := ap_iload rfl rfl
theorem u_X11_said_1 (hl : st.length ≤ 4) : az_W C R k_X11_said 1 ls (v1 :: st) h ↔ az_F C R (az_W C R k_X11_said) h (az_cl 141 [v1] 4 ls st) := ap_ivs rfl rfl hl
theorem u_X11_said_4 : az_W C R k_X11_said 4 ls (.int x :: st) h ↔ if x = 0 then az_W C R k_X11_said 28 ls st h else az_W C R k_X11_said 7 ls st h := ap_ifeq rfl
theorem u_X11_said_7 : az_W C R k_X11_said 7 (v0 :: v1 :: .int x :: ls) st h ↔ az_W C R k_X11_said 8 (v0 :: v1 :: .int x :: ls) (.int x :: st) h := ap_iload rfl rfl
theorem u_X11_said_8 (hl : st.length ≤ 4) : az_W C R k_X11_said 8 ls (v1 :: st) h ↔ az_F C R (az_W C R k_X11_said) h (az_cl 142 [v1] 11 ls st) := ap_ivs rfl rfl hl
theorem u_X11_said_11 : az_W C R k_X11_said 11 ls (.int x :: st) h ↔ if x = 0 then az_W C R k_X11_said 28 ls st h else az_W C R k_X11_said 14 ls st h := ap_ifeq rfl
theorem u_X11_said_14 : az_W C R k_X11_said 14 (.ref a :: ls) st h ↔ az_W C R k_X11_said 15 (.ref a :: ls) (.ref a :: st) h := ap_aload rfl rfl
theorem u_X11_said_15 : az_W C R k_X11_said 15 ls (.ref 97 :: st) (130, az_Pf, I, L) ↔ az_W C R k_X11_said 18 ls (.ref 98 :: st) (130, az_Pf, I, L) := ap_getP rfl kn_97 pf_97_0
theorem u_X11_said_18 : az_W C R k_X11_said 18 ls st h ↔ az_W C R k_X11_said 20 ls (.int 8 :: st) h := ap_const rfl
theorem u_X11_said_20 : az_W C R k_X11_said 20 (v0 :: v1 :: .int x :: ls) st h ↔ az_W C R k_X11_said 21 (v0 :: v1 :: .int x :: ls) (.int x :: st) h := ap_iload rfl rfl
theorem u_X11_said_21 : az_W C R k_X11_said 21 ls (.int y :: .int x :: st) h ↔ az_W C R k_X11_said 22 ls (.int (x * y) :: st) h := ap_ii (f := fun x y => x * y) rfl
theorem u_X11_said_22 : az_W C R k_X11_said 22 (v0 :: .int x :: ls) st h ↔ az_W C R k_X11_said 23 (v0 :: .int x :: ls) (.int x :: st) h := ap_iload rfl rfl
theorem u_X11_said_23 : az_W C R k_X11_said 23 ls (.int y :: .int x :: st) h ↔ az_W C R k_X11_said 24 ls (.int (x + y) :: st) h := ap_ii (f := fun x y => x + y) rfl
theorem u_X11_said_24 (hk : (az_kn 130 a).1 = 1) : az_W C R k_X11_said 24 ls (.int x :: .ref a :: st) (130, P, I, L) ↔ (az_in x (az_kn 130 a).2 ∧ az_W C R k_X11_said 25 ls (.int (I a x.toNatClampNeg) :: st) (130, P, I, L)) := ap_iald rfl (az_k1 hk)
theorem u_X11_said_25 : az_W C R k_X11_said 25 ls st h ↔ az_W C R k_X11_said 30 ls st h := ap_goto rfl
theorem u_X11_said_28 : az_W C R k_X11_said 28 ls st h ↔ az_W C R k_X11_said 30 ls (.int (-11) :: st) h := ap_const rfl
theorem u_X11_said_30 : az_W C R k_X11_said 30 ls [.int x] h ↔ R (some (.int x)) h := ap_iret rfl
def k_X11_type : Nat → az_P := (az_br 61 (az_br 27 (az_br 14 (az_br 6 (az_br 2 (az_br 1 (az_lf 0 (az_iload 3 1)) (az_lf 1 (az_i2l 2))) (az_br 3 (az_lf 2 (az_const (.long 1) 3)) (az_lf 3 (az_const (.long 8) 6)))) (az_br 12 (az_br 9 (az_lf 6 (az_ivs 139 3 9)) (az_lf 9 (az_ifne 14 12))) (az_br 13 (az_lf 12 (az_const (.int (-1)) 13)) (az_lf 13 (az_iret))))) (az_br 19 (az_br 16 (az_br 15 (az_lf 14 (az_iload 3 15)) (az_lf 15 (az_const (.int 1) 16))) (az_br 17 (az_lf 16 (az_ii (fun x y => x - y) 17)) (az_lf 17 (az_istore 4 19)))) (az_br 24 (az_br 21 (az_lf 19 (az_iload 4 21)) (az_lf 21 (az_iflt 55 24))) (az_br 25 (az_lf 24 (az_lload 1 25)) (az_lf 25 (az_const (.int 8) 27)))))) (az_br 44 (az_br 34 (az_br 30 (az_br 29 (az_lf 27 (az_iload 4 29)) (az_lf 29 (az_ii (fun x y => x * y) 30))) (az_br 31 (az_lf 30 (az_li (fun p y => p >>> (y.toInt64 &&& 63)) 31)) (az_lf 31 (az_const (.long 255) 34)))) (az_br 38 (az_br 35 (az_lf 34 (az_ll (fun p q => p &&& q) 35)) (az_lf 35 (az_const (.long 32) 38))) (az_br 41 (az_lf 38 (az_const (.long 126) 41)) (az_lf 41 (az_ivs 139 3 44))))) (az_br 52 (az_br 48 (az_br 47 (az_lf 44 (az_ifne 49 47)) (az_lf 47 (az_const (.int (-1)) 48))) (az_br 49 (az_lf 48 (az_iret)) (az_lf 49 (az_iinc 4 (-1) 52)))) (az_br 56 (az_br 55 (az_lf 52 (az_goto 19)) (az_lf 55 (az_aload 0 56))) (az_br 59 (az_lf 56 (az_getI 11 2 59)) (az_br 60 (az_lf 59 (az_iload 3 60)) (az_lf 60 (az_ii (fun x y => x + y) 61)))))))) (az_br 92 (az_br 74 (az_br 69 (az_br 66 (az_br 63 (az_lf 61 (az_const (.int 40) 63)) (az_lf 63 (az_icle 69 66))) (az_br 68 (az_lf 66 (az_const (.int (-3)) 68)) (az_lf 68 (az_iret)))) (az_br 71 (az_br 70 (az_lf 69 (az_iload 3 70)) (az_lf 70 (az_const (.int 1) 71))) (az_br 72 (az_lf 71 (az_ii (fun x y => x - y) 72)) (az_lf 72 (az_istore 4 74))))) (az_br 83 (az_br 79 (az_br 76 (az_lf 74 (az_iload 4 76)) (az_lf 76 (az_iflt 116 79))) (az_br 80 (az_lf 79 (az_aload 0 80)) (az_lf 80 (az_getP 11 1 83)))) (az_br 87 (az_br 84 (az_lf 83 (az_aload 0 84)) (az_lf 84 (az_getI 11 2 87))) (az_br 88 (az_lf 87 (az_lload 1 88)) (az_br 90 (az_lf 88 (az_const (.int 8) 90)) (az_lf 90 (az_iload 4 92))))))) (az_br 102 (az_br 98 (az_br 94 (az_br 93 (az_lf 92 (az_ii (fun x y => x * y) 93)) (az_lf 93 (az_li (fun p y => p >>> (y.toInt64 &&& 63)) 94))) (az_br 97 (az_lf 94 (az_const (.long 255) 97)) (az_lf 97 (az_ll (fun p q => p &&& q) 98)))) (az_br 100 (az_br 99 (az_lf 98 (az_l2i 99)) (az_lf 99 (az_iast 100))) (az_br 101 (az_lf 100 (az_aload 0 101)) (az_lf 101 (az_dup 102))))) (az_br 110 (az_br 106 (az_br 105 (az_lf 102 (az_getI 11 2 105)) (az_lf 105 (az_const (.int 1) 106))) (az_br 107 (az_lf 106 (az_ii (fun x y => x + y) 107)) (az_lf 107 (az_putI 11 2 110)))) (az_br 116 (az_br 113 (az_lf 110 (az_iinc 4 (-1) 113)) (az_lf 113 (az_goto 74))) (az_br 117 (az_lf 116 (az_aload 0 117)) (az_br 120 (az_lf 117 (az_getI 11 2 120)) (az_lf 120 (az_iret)))))))))
theorem u_X11_type_0 : az_W C R k_X11_type 0 (v0 :: v1 :: v2 :: .int x :: ls) st h ↔ az_W C R k_X11_type 1 (v0 :: v1 :: v2 :: .int x :: ls) (.int x :: st) h := ap_iload rfl rfl
theorem u_X11_type_1 : az_W C R k_X11_type 1 ls (.int x :: st) h ↔ az_W C R k_X11_type 2 ls (.long x.toInt64 :: st) h := ap_i2l rfl
theorem u_X11_type_2 : az_W C R k_X11_type 2 ls st h ↔ az_W C R k_X11_type 3 ls (.long 1 :: st) h := ap_const rfl
theorem u_X11_type_3 : az_W C R k_X11_type 3 ls st h ↔ az_W C R k_X11_type 6 ls (.long 8 :: st) h := ap_const rfl
theorem u_X11_type_6 (hl : st.length ≤ 4) : az_W C R k_X11_type 6 ls (v3 :: v2 :: v1 :: st) h ↔ az_F C R (az_W C R k_X11_type) h (az_cl 139 [v1, v2, v3] 9 ls st) := ap_ivs rfl rfl hl
theorem u_X11_type_9 : az_W C R k_X11_type 9 ls (.int x :: st) h ↔ if x = 0 then az_W C R k_X11_type 12 ls st h else az_W C R k_X11_type 14 ls st h := ap_ifne rfl
theorem u_X11_type_12 : az_W C R k_X11_type 12 ls st h ↔ az_W C R k_X11_type 13 ls (.int (-1) :: st) h := ap_const rfl
theorem u_X11_type_13 : az_W C R k_X11_type 13 ls [.int x] h ↔ R (some (.int x)) h := ap_iret rfl
theorem u_X11_type_14 : az_W C R k_X11_type 14 (v0 :: v1 :: v2 :: .int x :: ls) st h ↔ az_W C R k_X11_type 15 (v0 :: v1 :: v2 :: .int x :: ls) (.int x :: st) h := ap_iload rfl rfl
theorem u_X11_type_15 : az_W C R k_X11_type 15 ls st h ↔ az_W C R k_X11_type 16 ls (.int 1 :: st) h := ap_const rfl
theorem u_X11_type_16 : az_W C R k_X11_type 16 ls (.int y :: .int x :: st) h ↔ az_W C R k_X11_type 17 ls (.int (x - y) :: st) h := ap_ii (f := fun x y => x - y) rfl
theorem u_X11_type_17 : az_W C R k_X11_type 17 (v0 :: v1 :: v2 :: v3 :: v4 :: ls) (.int x :: st) h ↔ az_W C R k_X11_type 19 (v0 :: v1 :: v2 :: az_un v3 :: .int x :: ls) st h := ap_istore rfl rfl
theorem u_X11_type_19 : az_W C R k_X11_type 19 (v0 :: v1 :: v2 :: v3 :: .int x :: ls) st h ↔ az_W C R k_X11_type 21 (v0 :: v1 :: v2 :: v3 :: .int x :: ls) (.int x :: st) h := ap_iload rfl rfl
theorem u_X11_type_21 : az_W C R k_X11_type 21 ls (.int x :: st) h ↔ if x < 0 then az_W C R k_X11_type 55 ls st h else az_W C R k_X11_type 24 ls st h := ap_iflt rfl
theorem u_X11_type_24 : az_W C R k_X11_type 24 (v0 :: .long p :: ls) st h ↔ az_W C R k_X11_type 25 (v0 :: .long p :: ls) (.long p :: st) h := ap_lload rfl rfl
theorem u_X11_type_25 : az_W C R k_X11_type 25 ls st h ↔ az_W C R k_X11_type 27 ls (.int 8 :: st) h := ap_const rfl
theorem u_X11_type_27 : az_W C R k_X11_type 27 (v0 :: v1 :: v2 :: v3 :: .int x :: ls) st h ↔ az_W C R k_X11_type 29 (v0 :: v1 :: v2 :: v3 :: .int x :: ls) (.int x :: st) h := ap_iload rfl rfl
theorem u_X11_type_29 : az_W C R k_X11_type 29 ls (.int y :: .int x :: st) h ↔ az_W C R k_X11_type 30 ls (.int (x * y) :: st) h := ap_ii (f := fun x y => x * y) rfl
theorem u_X11_type_30 : az_W C R k_X11_type 30 ls (.int y :: .long p :: st) h ↔ az_W C R k_X11_type 31 ls (.long (p >>> (y.toInt64 &&& 63)) :: st) h := ap_li (f := fun p y => p >>> (y.toInt64 &&& 63)) rfl
theorem u_X11_type_31 : az_W C R k_X11_type 31 ls st h ↔ az_W C R k_X11_type 34 ls (.long 255 :: st) h := ap_const rfl
theorem u_X11_type_34 : az_W C R k_X11_type 34 ls (.long q :: .long p :: st) h ↔ az_W C R k_X11_type 35 ls (.long (p &&& q) :: st) h := ap_ll (f := fun p q => p &&& q) rfl
theorem u_X11_type_35 : az_W C R k_X11_type 35 ls st h ↔ az_W C R k_X11_type 38 ls (.long 32 :: st) h := ap_const rfl
theorem u_X11_type_38 : az_W C R k_X11_type 38 ls st h ↔ az_W C R k_X11_type 41 ls (.long 126 :: st) h := ap_const rfl
theorem u_X11_type_41 (hl : st.length ≤ 4) : az_W C R k_X11_type 41 ls (v3 :: v2 :: v1 :: st) h ↔ az_F C R (az_W C R k_X11_type) h (az_cl 139 [v1, v2, v3] 44 ls st) := ap_ivs rfl rfl hl
theorem u_X11_type_44 : az_W C R k_X11_type 44 ls (.int x :: st) h ↔ if x = 0 then az_W C R k_X11_type 47 ls st h else az_W C R k_X11_type 49 ls st h := ap_ifne rfl
theorem u_X11_type_47 : az_W C R k_X11_type 47 ls st h ↔ az_W C R k_X11_type 48 ls (.int (-1) :: st) h := ap_const rfl
theorem u_X11_type_48 : az_W C R k_X11_type 48 ls [.int x] h ↔ R (some (.int x)) h := ap_iret rfl
theorem u_X11_type_49 : az_W C R k_X11_type 49 (v0 :: v1 :: v2 :: v3 :: .int x :: ls) st h ↔ az_W C R k_X11_type 52 (v0 :: v1 :: v2 :: az_un v3 :: .int (x + (-1)) :: ls) st h := ap_iinc rfl rfl rfl
theorem u_X11_type_52 : az_W C R k_X11_type 52 ls st h ↔ az_W C R k_X11_type 19 ls st h := ap_goto rfl
theorem u_X11_type_55 : az_W C R k_X11_type 55 (.ref a :: ls) st h ↔ az_W C R k_X11_type 56 (.ref a :: ls) (.ref a :: st) h := ap_aload rfl rfl
theorem u_X11_type_56 : az_W C R k_X11_type 56 ls (.ref 97 :: st) (130, P, I, L) ↔ az_W C R k_X11_type 59 ls (.int (I 97 2) :: st) (130, P, I, L) := ap_getI rfl kn_97
theorem u_X11_type_59 : az_W C R k_X11_type 59 (v0 :: v1 :: v2 :: .int x :: ls) st h ↔ az_W C R k_X11_type 60 (v0 :: v1 :: v2 :: .int x :: ls) (.int x :: st) h := ap_iload rfl rfl
theorem u_X11_type_60 : az_W C R k_X11_type 60 ls (.int y :: .int x :: st) h ↔ az_W C R k_X11_type 61 ls (.int (x + y) :: st) h := ap_ii (f := fun x y => x + y) rfl
theorem u_X11_type_61 : az_W C R k_X11_type 61 ls st h ↔ az_W C R k_X11_type 63 ls (.int 40 :: st) h := ap_const rfl
theorem u_X11_type_63 : az_W C R k_X11_type 63 ls (.int y :: .int x :: st) h ↔ if x ≤ y then az_W C R k_X11_type 69 ls st h else az_W C R k_X11_type 66 ls st h := ap_icle rfl
theorem u_X11_type_66 : az_W C R k_X11_type 66 ls st h ↔ az_W C R k_X11_type 68 ls (.int (-3) :: st) h := ap_const rfl
theorem u_X11_type_68 : az_W C R k_X11_type 68 ls [.int x] h ↔ R (some (.int x)) h := ap_iret rfl
theorem u_X11_type_69 : az_W C R k_X11_type 69 (v0 :: v1 :: v2 :: .int x :: ls) st h ↔ az_W C R k_X11_type 70 (v0 :: v1 :: v2 :: .int x :: ls) (.int x :: st) h := ap_iload rfl rfl
theorem u_X11_type_70 : az_W C R k_X11_type 70 ls st h ↔ az_W C R k_X11_type 71 ls (.int 1 :: st) h := ap_const rfl
theorem u_X11_type_71 : az_W C R k_X11_type 71 ls (.int y :: .int x :: st) h ↔ az_W C R k_X11_type 72 ls (.int (x - y) :: st) h := ap_ii (f := fun x y => x - y) rfl
theorem u_X11_type_72 : az_W C R k_X11_type 72 (v0 :: v1 :: v2 :: v3 :: v4 :: ls) (.int x :: st) h ↔ az_W C R k_X11_type 74 (v0 :: v1 :: v2 :: az_un v3 :: .int x :: ls) st h := ap_istore rfl rfl
theorem u_X11_type_74 : az_W C R k_X11_type 74 (v0 :: v1 :: v2 :: v3 :: .int x :: ls) st h ↔ az_W C R k_X11_type 76 (v0 :: v1 :: v2 :: v3 :: .int x :: ls) (.int x :: st) h := ap_iload rfl rfl
theorem u_X11_type_76 : az_W C R k_X11_type 76 ls (.int x :: st) h ↔ if x < 0 then az_W C R k_X11_type 116 ls st h else az_W C R k_X11_type 79 ls st h := ap_iflt rfl
theorem u_X11_type_79 : az_W C R k_X11_type 79 (.ref a :: ls) st h ↔ az_W C R k_X11_type 80 (.ref a :: ls) (.ref a :: st) h := ap_aload rfl rfl
theorem u_X11_type_80 : az_W C R k_X11_type 80 ls (.ref 97 :: st) (130, az_Pf, I, L) ↔ az_W C R k_X11_type 83 ls (.ref 99 :: st) (130, az_Pf, I, L) := ap_getP rfl kn_97 pf_97_1
theorem u_X11_type_83 : az_W C R k_X11_type 83 (.ref a :: ls) st h ↔ az_W C R k_X11_type 84 (.ref a :: ls) (.ref a :: st) h := ap_aload rfl rfl
theorem u_X11_type_84 : az_W C R k_X11_type 84 ls (.ref 97 :: st) (130, P, I, L) ↔ az_W C R k_X11_type 87 ls (.int (I 97 2) :: st) (130, P, I, L) := ap_getI rfl kn_97
theorem u_X11_type_87 : az_W C R k_X11_type 87 (v0 :: .long p :: ls) st h ↔ az_W C R k_X11_type 88 (v0 :: .long p :: ls) (.long p :: st) h := ap_lload rfl rfl
theorem u_X11_type_88 : az_W C R k_X11_type 88 ls st h ↔ az_W C R k_X11_type 90 ls (.int 8 :: st) h := ap_const rfl
theorem u_X11_type_90 : az_W C R k_X11_type 90 (v0 :: v1 :: v2 :: v3 :: .int x :: ls) st h ↔ az_W C R k_X11_type 92 (v0 :: v1 :: v2 :: v3 :: .int x :: ls) (.int x :: st) h := ap_iload rfl rfl
theorem u_X11_type_92 : az_W C R k_X11_type 92 ls (.int y :: .int x :: st) h ↔ az_W C R k_X11_type 93 ls (.int (x * y) :: st) h := ap_ii (f := fun x y => x * y) rfl
theorem u_X11_type_93 : az_W C R k_X11_type 93 ls (.int y :: .long p :: st) h ↔ az_W C R k_X11_type 94 ls (.long (p >>> (y.toInt64 &&& 63)) :: st) h := ap_li (f := fun p y => p >>> (y.toInt64 &&& 63)) rfl
theorem u_X11_type_94 : az_W C R k_X11_type 94 ls st h ↔ az_W C R k_X11_type 97 ls (.long 255 :: st) h := ap_const rfl
theorem u_X11_type_97 : az_W C R k_X11_type 97 ls (.long q :: .long p :: st) h ↔ az_W C R k_X11_type 98 ls (.long (p &&& q) :: st) h := ap_ll (f := fun p q => p &&& q) rfl
theorem u_X11_type_98 : az_W C R k_X11_type 98 ls (.long p :: st) h ↔ az_W C R k_X11_type 99 ls (.int p.toInt32 :: st) h := ap_l2i rfl
theorem u_X11_type_99 (hk : (az_kn 130 a).1 = 1) : az_W C R k_X11_type 99 ls (.int y :: .int x :: .ref a :: st) (130, P, I, L) ↔ (az_in x (az_kn 130 a).2 ∧ az_W C R k_X11_type 100 ls st (130, P, az_uI I a x.toNatClampNeg y, L)) := ap_iast rfl (az_k1 hk)
theorem u_X11_type_100 : az_W C R k_X11_type 100 (.ref a :: ls) st h ↔ az_W C R k_X11_type 101 (.ref a :: ls) (.ref a :: st) h := ap_aload rfl rfl
theorem u_X11_type_101 : az_W C R k_X11_type 101 ls (.int x :: st) h ↔ az_W C R k_X11_type 102 ls (.int x :: .int x :: st) h := ap_dupi rfl
theorem u_X11_type_101r : az_W C R k_X11_type 101 ls (.ref a :: st) h ↔ az_W C R k_X11_type 102 ls (.ref a :: .ref a :: st) h := ap_dupr rfl
theorem u_X11_type_102 : az_W C R k_X11_type 102 ls (.ref 97 :: st) (130, P, I, L) ↔ az_W C R k_X11_type 105 ls (.int (I 97 2) :: st) (130, P, I, L) := ap_getI rfl kn_97
theorem u_X11_type_105 : az_W C R k_X11_type 105 ls st h ↔ az_W C R k_X11_type 106 ls (.int 1 :: st) h := ap_const rfl
theorem u_X11_type_106 : az_W C R k_X11_type 106 ls (.int y :: .int x :: st) h ↔ az_W C R k_X11_type 107 ls (.int (x + y) :: st) h := ap_ii (f := fun x y => x + y) rfl
theorem u_X11_type_107 : az_W C R k_X11_type 107 ls (.int x :: .ref 97 :: st) (130, P, I, L) ↔ az_W C R k_X11_type 110 ls st (130, P, az_uI I 97 2 x, L) := ap_putI rfl kn_97
theorem u_X11_type_110 : az_W C R k_X11_type 110 (v0 :: v1 :: v2 :: v3 :: .int x :: ls) st h ↔ az_W C R k_X11_type 113 (v0 :: v1 :: v2 :: az_un v3 :: .int (x + (-1)) :: ls) st h := ap_iinc rfl rfl rfl
theorem u_X11_type_113 : az_W C R k_X11_type 113 ls st h ↔ az_W C R k_X11_type 74 ls st h := ap_goto rfl
theorem u_X11_type_116 : az_W C R k_X11_type 116 (.ref a :: ls) st h ↔ az_W C R k_X11_type 117 (.ref a :: ls) (.ref a :: st) h := ap_aload rfl rfl
theorem u_X11_type_117 : az_W C R k_X11_type 117 ls (.ref 97 :: st) (130, P, I, L) ↔ az_W C R k_X11_type 120 ls (.int (I 97 2) :: st) (130, P, I, L) := ap_getI rfl kn_97
theorem u_X11_type_120 : az_W C R k_X11_type 120 ls [.int x] h ↔ R (some (.int x)) h := ap_iret rfl
def k_X11_next : Nat → az_P := (az_br 31 (az_br 16 (az_br 8 (az_br 4 (az_br 1 (az_lf 0 (az_aload 0 1)) (az_lf 1 (az_getI 11 3 4))) (az_br 5 (az_lf 4 (az_aload 0 5)) (az_lf 5 (az_getI 11 2 8)))) (az_br 12 (az_br 11 (az_lf 8 (az_icge 38 11)) (az_lf 11 (az_aload 0 12))) (az_br 15 (az_lf 12 (az_getP 11 1 15)) (az_lf 15 (az_aload 0 16))))) (az_br 25 (az_br 20 (az_br 19 (az_lf 16 (az_getI 11 3 19)) (az_lf 19 (az_iald 20))) (az_br 22 (az_lf 20 (az_const (.int 32) 22)) (az_lf 22 (az_icne 38 25)))) (az_br 27 (az_br 26 (az_lf 25 (az_aload 0 26)) (az_lf 26 (az_dup 27))) (az_br 30 (az_lf 27 (az_getI 11 3 30)) (az_lf 30 (az_const (.int 1) 31)))))) (az_br 49 (az_br 39 (az_br 35 (az_br 32 (az_lf 31 (az_ii (fun x y => x + y) 32)) (az_lf 32 (az_putI 11 3 35))) (az_br 38 (az_lf 35 (az_goto 0)) (az_lf 38 (az_aload 0 39)))) (az_br 43 (az_br 42 (az_lf 39 (az_getI 11 3 42)) (az_lf 42 (az_aload 0 43))) (az_br 46 (az_lf 43 (az_getI 11 2 46)) (az_lf 46 (az_icge 61 49))))) (az_br 57 (az_br 53 (az_br 50 (az_lf 49 (az_aload 0 50)) (az_lf 50 (az_getP 11 1 53))) (az_br 54 (az_lf 53 (az_aload 0 54)) (az_lf 54 (az_getI 11 3 57)))) (az_br 61 (az_br 58 (az_lf 57 (az_iald 58)) (az_lf 58 (az_goto 62))) (az_br 62 (az_lf 61 (az_const (.int (-1)) 62)) (az_lf 62 (az_iret)))))))
theorem u_X11_next_0 : az_W C R k_X11_next 0 (.ref a :: ls) st h ↔ az_W C R k_X11_next 1 (.ref a :: ls) (.ref a :: st) h := ap_aload rfl rfl
theorem u_X11_next_1 : az_W C R k_X11_next 1 ls (.ref 97 :: st) (130, P, I, L) ↔ az_W C R k_X11_next 4 ls (.int (I 97 3) :: st) (130, P, I, L) := ap_getI rfl kn_97
theorem u_X11_next_4 : az_W C R k_X11_next 4 (.ref a :: ls) st h ↔ az_W C R k_X11_next 5 (.ref a :: ls) (.ref a :: st) h := ap_aload rfl rfl
theorem u_X11_next_5 : az_W C R k_X11_next 5 ls (.ref 97 :: st) (130, P, I, L) ↔ az_W C R k_X11_next 8 ls (.int (I 97 2) :: st) (130, P, I, L) := ap_getI rfl kn_97
theorem u_X11_next_8 : az_W C R k_X11_next 8 ls (.int y :: .int x :: st) h ↔ if y ≤ x then az_W C R k_X11_next 38 ls st h else az_W C R k_X11_next 11 ls st h := ap_icge rfl
theorem u_X11_next_11 : az_W C R k_X11_next 11 (.ref a :: ls) st h ↔ az_W C R k_X11_next 12 (.ref a :: ls) (.ref a :: st) h := ap_aload rfl rfl
theorem u_X11_next_12 : az_W C R k_X11_next 12 ls (.ref 97 :: st) (130, az_Pf, I, L) ↔ az_W C R k_X11_next 15 ls (.ref 99 :: st) (130, az_Pf, I, L) := ap_getP rfl kn_97 pf_97_1
theorem u_X11_next_15 : az_W C R k_X11_next 15 (.ref a :: ls) st h ↔ az_W C R k_X11_next 16 (.ref a :: ls) (.ref a :: st) h := ap_aload rfl rfl
theorem u_X11_next_16 : az_W C R k_X11_next 16 ls (.ref 97 :: st) (130, P, I, L) ↔ az_W C R k_X11_next 19 ls (.int (I 97 3) :: st) (130, P, I, L) := ap_getI rfl kn_97
theorem u_X11_next_19 (hk : (az_kn 130 a).1 = 1) : az_W C R k_X11_next 19 ls (.int x :: .ref a :: st) (130, P, I, L) ↔ (az_in x (az_kn 130 a).2 ∧ az_W C R k_X11_next 20 ls (.int (I a x.toNatClampNeg) :: st) (130, P, I, L)) := ap_iald rfl (az_k1 hk)
theorem u_X11_next_20 : az_W C R k_X11_next 20 ls st h ↔ az_W C R k_X11_next 22 ls (.int 32 :: st) h := ap_const rfl
theorem u_X11_next_22 : az_W C R k_X11_next 22 ls (.int y :: .int x :: st) h ↔ if x = y then az_W C R k_X11_next 25 ls st h else az_W C R k_X11_next 38 ls st h := ap_icne rfl
theorem u_X11_next_25 : az_W C R k_X11_next 25 (.ref a :: ls) st h ↔ az_W C R k_X11_next 26 (.ref a :: ls) (.ref a :: st) h := ap_aload rfl rfl
theorem u_X11_next_26 : az_W C R k_X11_next 26 ls (.int x :: st) h ↔ az_W C R k_X11_next 27 ls (.int x :: .int x :: st) h := ap_dupi rfl
theorem u_X11_next_26r : az_W C R k_X11_next 26 ls (.ref a :: st) h ↔ az_W C R k_X11_next 27 ls (.ref a :: .ref a :: st) h := ap_dupr rfl
theorem u_X11_next_27 : az_W C R k_X11_next 27 ls (.ref 97 :: st) (130, P, I, L) ↔ az_W C R k_X11_next 30 ls (.int (I 97 3) :: st) (130, P, I, L) := ap_getI rfl kn_97
theorem u_X11_next_30 : az_W C R k_X11_next 30 ls st h ↔ az_W C R k_X11_next 31 ls (.int 1 :: st) h := ap_const rfl
theorem u_X11_next_31 : az_W C R k_X11_next 31 ls (.int y :: .int x :: st) h ↔ az_W C R k_X11_next 32 ls (.int (x + y) :: st) h := ap_ii (f := fun x y => x + y) rfl
theorem u_X11_next_32 : az_W C R k_X11_next 32 ls (.int x :: .ref 97 :: st) (130, P, I, L) ↔ az_W C R k_X11_next 35 ls st (130, P, az_uI I 97 3 x, L) := ap_putI rfl kn_97
theorem u_X11_next_35 : az_W C R k_X11_next 35 ls st h ↔ az_W C R k_X11_next 0 ls st h := ap_goto rfl
theorem u_X11_next_38 : az_W C R k_X11_next 38 (.ref a :: ls) st h ↔ az_W C R k_X11_next 39 (.ref a :: ls) (.ref a :: st) h := ap_aload rfl rfl
theorem u_X11_next_39 : az_W C R k_X11_next 39 ls (.ref 97 :: st) (130, P, I, L) ↔ az_W C R k_X11_next 42 ls (.int (I 97 3) :: st) (130, P, I, L) := ap_getI rfl kn_97
theorem u_X11_next_42 : az_W C R k_X11_next 42 (.ref a :: ls) st h ↔ az_W C R k_X11_next 43 (.ref a :: ls) (.ref a :: st) h := ap_aload rfl rfl
theorem u_X11_next_43 : az_W C R k_X11_next 43 ls (.ref 97 :: st) (130, P, I, L) ↔ az_W C R k_X11_next 46 ls (.int (I 97 2) :: st) (130, P, I, L) := ap_getI rfl kn_97
theorem u_X11_next_46 : az_W C R k_X11_next 46 ls (.int y :: .int x :: st) h ↔ if y ≤ x then az_W C R k_X11_next 61 ls st h else az_W C R k_X11_next 49 ls st h := ap_icge rfl
theorem u_X11_next_49 : az_W C R k_X11_next 49 (.ref a :: ls) st h ↔ az_W C R k_X11_next 50 (.ref a :: ls) (.ref a :: st) h := ap_aload rfl rfl
theorem u_X11_next_50 : az_W C R k_X11_next 50 ls (.ref 97 :: st) (130, az_Pf, I, L) ↔ az_W C R k_X11_next 53 ls (.ref 99 :: st) (130, az_Pf, I, L) := ap_getP rfl kn_97 pf_97_1
theorem u_X11_next_53 : az_W C R k_X11_next 53 (.ref a :: ls) st h ↔ az_W C R k_X11_next 54 (.ref a :: ls) (.ref a :: st) h := ap_aload rfl rfl
theorem u_X11_next_54 : az_W C R k_X11_next 54 ls (.ref 97 :: st) (130, P, I, L) ↔ az_W C R k_X11_next 57 ls (.int (I 97 3) :: st) (130, P, I, L) := ap_getI rfl kn_97
theorem u_X11_next_57 (hk : (az_kn 130 a).1 = 1) : az_W C R k_X11_next 57 ls (.int x :: .ref a :: st) (130, P, I, L) ↔ (az_in x (az_kn 130 a).2 ∧ az_W C R k_X11_next 58 ls (.int (I a x.toNatClampNeg) :: st) (130, P, I, L)) := ap_iald rfl (az_k1 hk)
theorem u_X11_next_58 : az_W C R k_X11_next 58 ls st h ↔ az_W C R k_X11_next 62 ls st h := ap_goto rfl
theorem u_X11_next_61 : az_W C R k_X11_next 61 ls st h ↔ az_W C R k_X11_next 62 ls (.int (-1) :: st) h := ap_const rfl
theorem u_X11_next_62 : az_W C R k_X11_next 62 ls [.int x] h ↔ R (some (.int x)) h := ap_iret rfl
def k_X11_readClause : Nat → az_P := (az_br 102 (az_br 48 (az_br 25 (az_br 11 (az_br 5 (az_br 1 (az_lf 0 (az_aload 0 1)) (az_br 4 (az_lf 1 (az_ivv 150 0 11 4)) (az_lf 4 (az_istore 1 5)))) (az_br 6 (az_lf 5 (az_iload 1 6)) (az_br 8 (az_lf 6 (az_const (.int 99) 8)) (az_lf 8 (az_icne 15 11))))) (az_br 16 (az_br 12 (az_lf 11 (az_const (.int 0) 12)) (az_br 15 (az_lf 12 (az_goto 36)) (az_lf 15 (az_iload 1 16)))) (az_br 21 (az_br 18 (az_lf 16 (az_const (.int 108) 18)) (az_lf 18 (az_icne 25 21))) (az_br 22 (az_lf 21 (az_const (.int 1) 22)) (az_lf 22 (az_goto 36)))))) (az_br 37 (az_br 31 (az_br 26 (az_lf 25 (az_iload 1 26)) (az_br 28 (az_lf 26 (az_const (.int 115) 28)) (az_lf 28 (az_icne 35 31)))) (az_br 35 (az_br 32 (az_lf 31 (az_const (.int 2) 32)) (az_lf 32 (az_goto 36))) (az_br 36 (az_lf 35 (az_const (.int (-1)) 36)) (az_lf 36 (az_istore 2 37))))) (az_br 42 (az_br 38 (az_lf 37 (az_iload 2 38)) (az_br 41 (az_lf 38 (az_ifge 43 41)) (az_lf 41 (az_const (.int 0) 42)))) (az_br 44 (az_br 43 (az_lf 42 (az_zret)) (az_lf 43 (az_aload 0 44))) (az_br 45 (az_lf 44 (az_dup 45)) (az_lf 45 (az_getI 11 3 48))))))) (az_br 71 (az_br 58 (az_br 53 (az_br 49 (az_lf 48 (az_const (.int 1) 49)) (az_br 50 (az_lf 49 (az_ii (fun x y => x + y) 50)) (az_lf 50 (az_putI 11 3 53)))) (az_br 54 (az_lf 53 (az_aload 0 54)) (az_br 57 (az_lf 54 (az_ivv 150 0 11 57)) (az_lf 57 (az_istore 3 58))))) (az_br 64 (az_br 59 (az_lf 58 (az_aload 0 59)) (az_br 62 (az_lf 59 (az_getI 11 3 62)) (az_lf 62 (az_istore 4 64)))) (az_br 67 (az_br 65 (az_lf 64 (az_const (.int 0) 65)) (az_lf 65 (az_istore 5 67))) (az_br 68 (az_lf 67 (az_aload 0 68)) (az_lf 68 (az_getI 11 3 71)))))) (az_br 86 (az_br 78 (az_br 72 (az_lf 71 (az_aload 0 72)) (az_br 75 (az_lf 72 (az_getI 11 2 75)) (az_lf 75 (az_icge 146 78)))) (az_br 82 (az_br 79 (az_lf 78 (az_aload 0 79)) (az_lf 79 (az_getP 11 1 82))) (az_br 83 (az_lf 82 (az_aload 0 83)) (az_lf 83 (az_getI 11 3 86))))) (az_br 91 (az_br 87 (az_lf 86 (az_iald 87)) (az_br 88 (az_lf 87 (az_i2l 88)) (az_lf 88 (az_const (.long 48) 91)))) (az_br 97 (az_br 94 (az_lf 91 (az_const (.long 57) 94)) (az_lf 94 (az_ivs 139 3 97))) (az_br 100 (az_lf 97 (az_ifeq 146 100)) (az_lf 100 (az_iload 5 102)))))))) (az_br 154 (az_br 128 (az_br 117 (az_br 110 (az_br 105 (az_lf 102 (az_const (.int 999) 105)) (az_br 108 (az_lf 105 (az_icle 113 108)) (az_lf 108 (az_iload 5 110)))) (az_br 113 (az_lf 110 (az_goto 131)) (az_br 115 (az_lf 113 (az_const (.int 10) 115)) (az_lf 115 (az_iload 5 117))))) (az_br 122 (az_br 118 (az_lf 117 (az_ii (fun x y => x * y) 118)) (az_br 119 (az_lf 118 (az_aload 0 119)) (az_lf 119 (az_getP 11 1 122)))) (az_br 126 (az_br 123 (az_lf 122 (az_aload 0 123)) (az_lf 123 (az_getI 11 3 126))) (az_br 127 (az_lf 126 (az_iald 127)) (az_lf 127 (az_ii (fun x y => x + y) 128)))))) (az_br 139 (az_br 133 (az_br 130 (az_lf 128 (az_const (.int 48) 130)) (az_br 131 (az_lf 130 (az_ii (fun x y => x - y) 131)) (az_lf 131 (az_istore 5 133)))) (az_br 135 (az_br 134 (az_lf 133 (az_aload 0 134)) (az_lf 134 (az_dup 135))) (az_br 138 (az_lf 135 (az_getI 11 3 138)) (az_lf 138 (az_const (.int 1) 139))))) (az_br 146 (az_br 140 (az_lf 139 (az_ii (fun x y => x + y) 140)) (az_br 143 (az_lf 140 (az_putI 11 3 143)) (az_lf 143 (az_goto 67)))) (az_br 150 (az_br 147 (az_lf 146 (az_iload 3 147)) (az_lf 147 (az_iflt 182 150))) (az_br 151 (az_lf 150 (az_aload 0 151)) (az_lf 151 (az_getI 11 3 154))))))) (az_br 176 (az_br 167 (az_br 161 (az_br 156 (az_lf 154 (az_iload 4 156)) (az_br 159 (az_lf 156 (az_iceq 182 159)) (az_lf 159 (az_iload 5 161)))) (az_br 163 (az_br 162 (az_lf 161 (az_i2l 162)) (az_lf 162 (az_aload 0 163))) (az_br 166 (az_lf 163 (az_getP 11 8 166)) (az_lf 166 (az_iload 2 167))))) (az_br 170 (az_br 168 (az_lf 167 (az_iald 168)) (az_br 169 (az_lf 168 (az_i2l 169)) (az_lf 169 (az_aload 0 170)))) (az_br 174 (az_br 173 (az_lf 170 (az_getP 11 9 173)) (az_lf 173 (az_iload 2 174))) (az_br 175 (az_lf 174 (az_iald 175)) (az_lf 175 (az_i2l 176)))))) (az_br 190 (az_br 183 (az_br 179 (az_lf 176 (az_ivs 139 3 179)) (az_br 182 (az_lf 179 (az_ifne 190 182)) (az_lf 182 (az_aload 0 183)))) (az_br 188 (az_br 185 (az_lf 183 (az_iload 4 185)) (az_lf 185 (az_putI 11 3 188))) (az_br 189 (az_lf 188 (az_const (.int 0) 189)) (az_lf 189 (az_zret))))) (az_br 195 (az_br 191 (az_lf 190 (az_aload 0 191)) (az_br 194 (az_lf 191 (az_getP 11 7 194)) (az_lf 194 (az_iload 2 195)))) (az_br 198 (az_br 197 (az_lf 195 (az_iload 5 197)) (az_lf 197 (az_iast 198))) (az_br 199 (az_lf 198 (az_const (.int 1) 199)) (az_lf 199 (az_zret)))))))))
theorem u_X11_readClause_0 : az_W C R k_X11_readClause 0 (.ref a :: ls) st h ↔ az_W C R k_X11_readClause 1 (.ref a :: ls) (.ref a :: st) h := ap_aload rfl rfl
theorem u_X11_readClause_1 (hl : st.length ≤ 4) : az_W C R k_X11_readClause 1 ls (.ref 97 :: st) (130, P, I, L) ↔ az_F C R (az_W C R k_X11_readClause) (130, P, I, L) (az_cl 150 [.ref 97] 4 ls st) := ap_ivv rfl rfl kn_97 hl
theorem u_X11_readClause_4 : az_W C R k_X11_readClause 4 (v0 :: v1 :: ls) (.int x :: st) h ↔ az_W C R k_X11_readClause 5 (az_un v0 :: .int x :: ls) st h := ap_istore rfl rfl
theorem u_X11_readClause_5 : az_W C R k_X11_readClause 5 (v0 :: .int x :: ls) st h ↔ az_W C R k_X11_readClause 6 (v0 :: .int x :: ls) (.int x :: st) h := ap_iload rfl rfl
theorem u_X11_readClause_6 : az_W C R k_X11_readClause 6 ls st h ↔ az_W C R k_X11_readClause 8 ls (.int 99 :: st) h := ap_const rfl
theorem u_X11_readClause_8 : az_W C R k_X11_readClause 8 ls (.int y :: .int x :: st) h ↔ if x = y then az_W C R k_X11_readClause 11 ls st h else az_W C R k_X11_readClause 15 ls st h := ap_icne rfl
theorem u_X11_readClause_11 : az_W C R k_X11_readClause 11 ls st h ↔ az_W C R k_X11_readClause 12 ls (.int 0 :: st) h := ap_const rfl
theorem u_X11_readClause_12 : az_W C R k_X11_readClause 12 ls st h ↔ az_W C R k_X11_readClause 36 ls st h := ap_goto rfl
theorem u_X11_readClause_15 : az_W C R k_X11_readClause 15 (v0 :: .int x :: ls) st h ↔ az_W C R k_X11_readClause 16 (v0 :: .int x :: ls) (.int x :: st) h := ap_iload rfl rfl
theorem u_X11_readClause_16 : az_W C R k_X11_readClause 16 ls st h ↔ az_W C R k_X11_readClause 18 ls (.int 108 :: st) h := ap_const rfl
theorem u_X11_readClause_18 : az_W C R k_X11_readClause 18 ls (.int y :: .int x :: st) h ↔ if x = y then az_W C R k_X11_readClause 21 ls st h else az_W C R k_X11_readClause 25 ls st h := ap_icne rfl
theorem u_X11_readClause_21 : az_W C R k_X11_readClause 21 ls st h ↔ az_W C R k_X11_readClause 22 ls (.int 1 :: st) h := ap_const rfl
theorem u_X11_readClause_22 : az_W C R k_X11_readClause 22 ls st h ↔ az_W C R k_X11_readClause 36 ls st h := ap_goto rfl
theorem u_X11_readClause_25 : az_W C R k_X11_readClause 25 (v0 :: .int x :: ls) st h ↔ az_W C R k_X11_readClause 26 (v0 :: .int x :: ls) (.int x :: st) h := ap_iload rfl rfl
theorem u_X11_readClause_26 : az_W C R k_X11_readClause 26 ls st h ↔ az_W C R k_X11_readClause 28 ls (.int 115 :: st) h := ap_const rfl
theorem u_X11_readClause_28 : az_W C R k_X11_readClause 28 ls (.int y :: .int x :: st) h ↔ if x = y then az_W C R k_X11_readClause 31 ls st h else az_W C R k_X11_readClause 35 ls st h := ap_icne rfl
theorem u_X11_readClause_31 : az_W C R k_X11_readClause 31 ls st h ↔ az_W C R k_X11_readClause 32 ls (.int 2 :: st) h := ap_const rfl
theorem u_X11_readClause_32 : az_W C R k_X11_readClause 32 ls st h ↔ az_W C R k_X11_readClause 36 ls st h := ap_goto rfl
theorem u_X11_readClause_35 : az_W C R k_X11_readClause 35 ls st h ↔ az_W C R k_X11_readClause 36 ls (.int (-1) :: st) h := ap_const rfl
theorem u_X11_readClause_36 : az_W C R k_X11_readClause 36 (v0 :: v1 :: v2 :: ls) (.int x :: st) h ↔ az_W C R k_X11_readClause 37 (v0 :: az_un v1 :: .int x :: ls) st h := ap_istore rfl rfl
theorem u_X11_readClause_37 : az_W C R k_X11_readClause 37 (v0 :: v1 :: .int x :: ls) st h ↔ az_W C R k_X11_readClause 38 (v0 :: v1 :: .int x :: ls) (.int x :: st) h := ap_iload rfl rfl
theorem u_X11_readClause_38 : az_W C R k_X11_readClause 38 ls (.int x :: st) h ↔ if 0 ≤ x then az_W C R k_X11_readClause 43 ls st h else az_W C R k_X11_readClause 41 ls st h := ap_ifge rfl
theorem u_X11_readClause_41 : az_W C R k_X11_readClause 41 ls st h ↔ az_W C R k_X11_readClause 42 ls (.int 0 :: st) h := ap_const rfl
theorem u_X11_readClause_42 : az_W C R k_X11_readClause 42 ls [.int x] h ↔ ((x = 0 ∨ x = 1) ∧ R (some (.int x)) h) := ap_zret rfl
theorem u_X11_readClause_43 : az_W C R k_X11_readClause 43 (.ref a :: ls) st h ↔ az_W C R k_X11_readClause 44 (.ref a :: ls) (.ref a :: st) h := ap_aload rfl rfl
theorem u_X11_readClause_44 : az_W C R k_X11_readClause 44 ls (.int x :: st) h ↔ az_W C R k_X11_readClause 45 ls (.int x :: .int x :: st) h := ap_dupi rfl
theorem u_X11_readClause_44r : az_W C R k_X11_readClause 44 ls (.ref a :: st) h ↔ az_W C R k_X11_readClause 45 ls (.ref a :: .ref a :: st) h := ap_dupr rfl
theorem u_X11_readClause_45 : az_W C R k_X11_readClause 45 ls (.ref 97 :: st) (130, P, I, L) ↔ az_W C R k_X11_readClause 48 ls (.int (I 97 3) :: st) (130, P, I, L) := ap_getI rfl kn_97
theorem u_X11_readClause_48 : az_W C R k_X11_readClause 48 ls st h ↔ az_W C R k_X11_readClause 49 ls (.int 1 :: st) h := ap_const rfl
theorem u_X11_readClause_49 : az_W C R k_X11_readClause 49 ls (.int y :: .int x :: st) h ↔ az_W C R k_X11_readClause 50 ls (.int (x + y) :: st) h := ap_ii (f := fun x y => x + y) rfl
theorem u_X11_readClause_50 : az_W C R k_X11_readClause 50 ls (.int x :: .ref 97 :: st) (130, P, I, L) ↔ az_W C R k_X11_readClause 53 ls st (130, P, az_uI I 97 3 x, L) := ap_putI rfl kn_97
theorem u_X11_readClause_53 : az_W C R k_X11_readClause 53 (.ref a :: ls) st h ↔ az_W C R k_X11_readClause 54 (.ref a :: ls) (.ref a :: st) h := ap_aload rfl rfl
theorem u_X11_readClause_54 (hl : st.length ≤ 4) : az_W C R k_X11_readClause 54 ls (.ref 97 :: st) (130, P, I, L) ↔ az_F C R (az_W C R k_X11_readClause) (130, P, I, L) (az_cl 150 [.ref 97] 57 ls st) := ap_ivv rfl rfl kn_97 hl
theorem u_X11_readClause_57 : az_W C R k_X11_readClause 57 (v0 :: v1 :: v2 :: v3 :: ls) (.int x :: st) h ↔ az_W C R k_X11_readClause 58 (v0 :: v1 :: az_un v2 :: .int x :: ls) st h := ap_istore rfl rfl
theorem u_X11_readClause_58 : az_W C R k_X11_readClause 58 (.ref a :: ls) st h ↔ az_W C R k_X11_readClause 59 (.ref a :: ls) (.ref a :: st) h := ap_aload rfl rfl
theorem u_X11_readClause_59 : az_W C R k_X11_readClause 59 ls (.ref 97 :: st) (130, P, I, L) ↔ az_W C R k_X11_readClause 62 ls (.int (I 97 3) :: st) (130, P, I, L) := ap_getI rfl kn_97
theorem u_X11_readClause_62 : az_W C R k_X11_readClause 62 (v0 :: v1 :: v2 :: v3 :: v4 :: ls) (.int x :: st) h ↔ az_W C R k_X11_readClause 64 (v0 :: v1 :: v2 :: az_un v3 :: .int x :: ls) st h := ap_istore rfl rfl
theorem u_X11_readClause_64 : az_W C R k_X11_readClause 64 ls st h ↔ az_W C R k_X11_readClause 65 ls (.int 0 :: st) h := ap_const rfl
theorem u_X11_readClause_65 : az_W C R k_X11_readClause 65 (v0 :: v1 :: v2 :: v3 :: v4 :: v5 :: ls) (.int x :: st) h ↔ az_W C R k_X11_readClause 67 (v0 :: v1 :: v2 :: v3 :: az_un v4 :: .int x :: ls) st h := ap_istore rfl rfl
theorem u_X11_readClause_67 : az_W C R k_X11_readClause 67 (.ref a :: ls) st h ↔ az_W C R k_X11_readClause 68 (.ref a :: ls) (.ref a :: st) h := ap_aload rfl rfl
theorem u_X11_readClause_68 : az_W C R k_X11_readClause 68 ls (.ref 97 :: st) (130, P, I, L) ↔ az_W C R k_X11_readClause 71 ls (.int (I 97 3) :: st) (130, P, I, L) := ap_getI rfl kn_97
theorem u_X11_readClause_71 : az_W C R k_X11_readClause 71 (.ref a :: ls) st h ↔ az_W C R k_X11_readClause 72 (.ref a :: ls) (.ref a :: st) h := ap_aload rfl rfl
theorem u_X11_readClause_72 : az_W C R k_X11_readClause 72 ls (.ref 97 :: st) (130, P, I, L) ↔ az_W C R k_X11_readClause 75 ls (.int (I 97 2) :: st) (130, P, I, L) := ap_getI rfl kn_97
theorem u_X11_readClause_75 : az_W C R k_X11_readClause 75 ls (.int y :: .int x :: st) h ↔ if y ≤ x then az_W C R k_X11_readClause 146 ls st h else az_W C R k_X11_readClause 78 ls st h := ap_icge rfl
theorem u_X11_readClause_78 : az_W C R k_X11_readClause 78 (.ref a :: ls) st h ↔ az_W C R k_X11_readClause 79 (.ref a :: ls) (.ref a :: st) h := ap_aload rfl rfl
theorem u_X11_readClause_79 : az_W C R k_X11_readClause 79 ls (.ref 97 :: st) (130, az_Pf, I, L) ↔ az_W C R k_X11_readClause 82 ls (.ref 99 :: st) (130, az_Pf, I, L) := ap_getP rfl kn_97 pf_97_1
theorem u_X11_readClause_82 : az_W C R k_X11_readClause 82 (.ref a :: ls) st h ↔ az_W C R k_X11_readClause 83 (.ref a :: ls) (.ref a :: st) h := ap_aload rfl rfl
theorem u_X11_readClause_83 : az_W C R k_X11_readClause 83 ls (.ref 97 :: st) (130, P, I, L) ↔ az_W C R k_X11_readClause 86 ls (.int (I 97 3) :: st) (130, P, I, L) := ap_getI rfl kn_97
theorem u_X11_readClause_86 (hk : (az_kn 130 a).1 = 1) : az_W C R k_X11_readClause 86 ls (.int x :: .ref a :: st) (130, P, I, L) ↔ (az_in x (az_kn 130 a).2 ∧ az_W C R k_X11_readClause 87 ls (.int (I a x.toNatClampNeg) :: st) (130, P, I, L)) := ap_iald rfl (az_k1 hk)
theorem u_X11_readClause_87 : az_W C R k_X11_readClause 87 ls (.int x :: st) h ↔ az_W C R k_X11_readClause 88 ls (.long x.toInt64 :: st) h := ap_i2l rfl
theorem u_X11_readClause_88 : az_W C R k_X11_readClause 88 ls st h ↔ az_W C R k_X11_readClause 91 ls (.long 48 :: st) h := ap_const rfl
theorem u_X11_readClause_91 : az_W C R k_X11_readClause 91 ls st h ↔ az_W C R k_X11_readClause 94 ls (.long 57 :: st) h := ap_const rfl
theorem u_X11_readClause_94 (hl : st.length ≤ 4) : az_W C R k_X11_readClause 94 ls (v3 :: v2 :: v1 :: st) h ↔ az_F C R (az_W C R k_X11_readClause) h (az_cl 139 [v1, v2, v3] 97 ls st) := ap_ivs rfl rfl hl
theorem u_X11_readClause_97 : az_W C R k_X11_readClause 97 ls (.int x :: st) h ↔ if x = 0 then az_W C R k_X11_readClause 146 ls st h else az_W C R k_X11_readClause 100 ls st h := ap_ifeq rfl
theorem u_X11_readClause_100 : az_W C R k_X11_readClause 100 (v0 :: v1 :: v2 :: v3 :: v4 :: .int x :: ls) st h ↔ az_W C R k_X11_readClause 102 (v0 :: v1 :: v2 :: v3 :: v4 :: .int x :: ls) (.int x :: st) h := ap_iload rfl rfl
theorem u_X11_readClause_102 : az_W C R k_X11_readClause 102 ls st h ↔ az_W C R k_X11_readClause 105 ls (.int 999 :: st) h := ap_const rfl
theorem u_X11_readClause_105 : az_W C R k_X11_readClause 105 ls (.int y :: .int x :: st) h ↔ if x ≤ y then az_W C R k_X11_readClause 113 ls st h else az_W C R k_X11_readClause 108 ls st h := ap_icle rfl
theorem u_X11_readClause_108 : az_W C R k_X11_readClause 108 (v0 :: v1 :: v2 :: v3 :: v4 :: .int x :: ls) st h ↔ az_W C R k_X11_readClause 110 (v0 :: v1 :: v2 :: v3 :: v4 :: .int x :: ls) (.int x :: st) h := ap_iload rfl rfl
theorem u_X11_readClause_110 : az_W C R k_X11_readClause 110 ls st h ↔ az_W C R k_X11_readClause 131 ls st h := ap_goto rfl
theorem u_X11_readClause_113 : az_W C R k_X11_readClause 113 ls st h ↔ az_W C R k_X11_readClause 115 ls (.int 10 :: st) h := ap_const rfl
theorem u_X11_readClause_115 : az_W C R k_X11_readClause 115 (v0 :: v1 :: v2 :: v3 :: v4 :: .int x :: ls) st h ↔ az_W C R k_X11_readClause 117 (v0 :: v1 :: v2 :: v3 :: v4 :: .int x :: ls) (.int x :: st) h := ap_iload rfl rfl
theorem u_X11_readClause_117 : az_W C R k_X11_readClause 117 ls (.int y :: .int x :: st) h ↔ az_W C R k_X11_readClause 118 ls (.int (x * y) :: st) h := ap_ii (f := fun x y => x * y) rfl
theorem u_X11_readClause_118 : az_W C R k_X11_readClause 118 (.ref a :: ls) st h ↔ az_W C R k_X11_readClause 119 (.ref a :: ls) (.ref a :: st) h := ap_aload rfl rfl
theorem u_X11_readClause_119 : az_W C R k_X11_readClause 119 ls (.ref 97 :: st) (130, az_Pf, I, L) ↔ az_W C R k_X11_readClause 122 ls (.ref 99 :: st) (130, az_Pf, I, L) := ap_getP rfl kn_97 pf_97_1
theorem u_X11_readClause_122 : az_W C R k_X11_readClause 122 (.ref a :: ls) st h ↔ az_W C R k_X11_readClause 123 (.ref a :: ls) (.ref a :: st) h := ap_aload rfl rfl
theorem u_X11_readClause_123 : az_W C R k_X11_readClause 123 ls (.ref 97 :: st) (130, P, I, L) ↔ az_W C R k_X11_readClause 126 ls (.int (I 97 3) :: st) (130, P, I, L) := ap_getI rfl kn_97
theorem u_X11_readClause_126 (hk : (az_kn 130 a).1 = 1) : az_W C R k_X11_readClause 126 ls (.int x :: .ref a :: st) (130, P, I, L) ↔ (az_in x (az_kn 130 a).2 ∧ az_W C R k_X11_readClause 127 ls (.int (I a x.toNatClampNeg) :: st) (130, P, I, L)) := ap_iald rfl (az_k1 hk)
theorem u_X11_readClause_127 : az_W C R k_X11_readClause 127 ls (.int y :: .int x :: st) h ↔ az_W C R k_X11_readClause 128 ls (.int (x + y) :: st) h := ap_ii (f := fun x y => x + y) rfl
theorem u_X11_readClause_128 : az_W C R k_X11_readClause 128 ls st h ↔ az_W C R k_X11_readClause 130 ls (.int 48 :: st) h := ap_const rfl
theorem u_X11_readClause_130 : az_W C R k_X11_readClause 130 ls (.int y :: .int x :: st) h ↔ az_W C R k_X11_readClause 131 ls (.int (x - y) :: st) h := ap_ii (f := fun x y => x - y) rfl
theorem u_X11_readClause_131 : az_W C R k_X11_readClause 131 (v0 :: v1 :: v2 :: v3 :: v4 :: v5 :: ls) (.int x :: st) h ↔ az_W C R k_X11_readClause 133 (v0 :: v1 :: v2 :: v3 :: az_un v4 :: .int x :: ls) st h := ap_istore rfl rfl
theorem u_X11_readClause_133 : az_W C R k_X11_readClause 133 (.ref a :: ls) st h ↔ az_W C R k_X11_readClause 134 (.ref a :: ls) (.ref a :: st) h := ap_aload rfl rfl
theorem u_X11_readClause_134 : az_W C R k_X11_readClause 134 ls (.int x :: st) h ↔ az_W C R k_X11_readClause 135 ls (.int x :: .int x :: st) h := ap_dupi rfl
theorem u_X11_readClause_134r : az_W C R k_X11_readClause 134 ls (.ref a :: st) h ↔ az_W C R k_X11_readClause 135 ls (.ref a :: .ref a :: st) h := ap_dupr rfl
theorem u_X11_readClause_135 : az_W C R k_X11_readClause 135 ls (.ref 97 :: st) (130, P, I, L) ↔ az_W C R k_X11_readClause 138 ls (.int (I 97 3) :: st) (130, P, I, L) := ap_getI rfl kn_97
theorem u_X11_readClause_138 : az_W C R k_X11_readClause 138 ls st h ↔ az_W C R k_X11_readClause 139 ls (.int 1 :: st) h := ap_const rfl
theorem u_X11_readClause_139 : az_W C R k_X11_readClause 139 ls (.int y :: .int x :: st) h ↔ az_W C R k_X11_readClause 140 ls (.int (x + y) :: st) h := ap_ii (f := fun x y => x + y) rfl
theorem u_X11_readClause_140 : az_W C R k_X11_readClause 140 ls (.int x :: .ref 97 :: st) (130, P, I, L) ↔ az_W C R k_X11_readClause 143 ls st (130, P, az_uI I 97 3 x, L) := ap_putI rfl kn_97
theorem u_X11_readClause_143 : az_W C R k_X11_readClause 143 ls st h ↔ az_W C R k_X11_readClause 67 ls st h := ap_goto rfl
theorem u_X11_readClause_146 : az_W C R k_X11_readClause 146 (v0 :: v1 :: v2 :: .int x :: ls) st h ↔ az_W C R k_X11_readClause 147 (v0 :: v1 :: v2 :: .int x :: ls) (.int x :: st) h := ap_iload rfl rfl
theorem u_X11_readClause_147 : az_W C R k_X11_readClause 147 ls (.int x :: st) h ↔ if x < 0 then az_W C R k_X11_readClause 182 ls st h else az_W C R k_X11_readClause 150 ls st h := ap_iflt rfl
theorem u_X11_readClause_150 : az_W C R k_X11_readClause 150 (.ref a :: ls) st h ↔ az_W C R k_X11_readClause 151 (.ref a :: ls) (.ref a :: st) h := ap_aload rfl rfl
theorem u_X11_readClause_151 : az_W C R k_X11_readClause 151 ls (.ref 97 :: st) (130, P, I, L) ↔ az_W C R k_X11_readClause 154 ls (.int (I 97 3) :: st) (130, P, I, L) := ap_getI rfl kn_97
theorem u_X11_readClause_154 : az_W C R k_X11_readClause 154 (v0 :: v1 :: v2 :: v3 :: .int x :: ls) st h ↔ az_W C R k_X11_readClause 156 (v0 :: v1 :: v2 :: v3 :: .int x :: ls) (.int x :: st) h := ap_iload rfl rfl
theorem u_X11_readClause_156 : az_W C R k_X11_readClause 156 ls (.int y :: .int x :: st) h ↔ if x = y then az_W C R k_X11_readClause 182 ls st h else az_W C R k_X11_readClause 159 ls st h := ap_iceq rfl
theorem u_X11_readClause_159 : az_W C R k_X11_readClause 159 (v0 :: v1 :: v2 :: v3 :: v4 :: .int x :: ls) st h ↔ az_W C R k_X11_readClause 161 (v0 :: v1 :: v2 :: v3 :: v4 :: .int x :: ls) (.int x :: st) h := ap_iload rfl rfl
theorem u_X11_readClause_161 : az_W C R k_X11_readClause 161 ls (.int x :: st) h ↔ az_W C R k_X11_readClause 162 ls (.long x.toInt64 :: st) h := ap_i2l rfl
theorem u_X11_readClause_162 : az_W C R k_X11_readClause 162 (.ref a :: ls) st h ↔ az_W C R k_X11_readClause 163 (.ref a :: ls) (.ref a :: st) h := ap_aload rfl rfl
theorem u_X11_readClause_163 : az_W C R k_X11_readClause 163 ls (.ref 97 :: st) (130, az_Pf, I, L) ↔ az_W C R k_X11_readClause 166 ls (.ref 103 :: st) (130, az_Pf, I, L) := ap_getP rfl kn_97 pf_97_8
theorem u_X11_readClause_166 : az_W C R k_X11_readClause 166 (v0 :: v1 :: .int x :: ls) st h ↔ az_W C R k_X11_readClause 167 (v0 :: v1 :: .int x :: ls) (.int x :: st) h := ap_iload rfl rfl
theorem u_X11_readClause_167 (hk : (az_kn 130 a).1 = 1) : az_W C R k_X11_readClause 167 ls (.int x :: .ref a :: st) (130, P, I, L) ↔ (az_in x (az_kn 130 a).2 ∧ az_W C R k_X11_readClause 168 ls (.int (I a x.toNatClampNeg) :: st) (130, P, I, L)) := ap_iald rfl (az_k1 hk)
theorem u_X11_readClause_168 : az_W C R k_X11_readClause 168 ls (.int x :: st) h ↔ az_W C R k_X11_readClause 169 ls (.long x.toInt64 :: st) h := ap_i2l rfl
theorem u_X11_readClause_169 : az_W C R k_X11_readClause 169 (.ref a :: ls) st h ↔ az_W C R k_X11_readClause 170 (.ref a :: ls) (.ref a :: st) h := ap_aload rfl rfl
theorem u_X11_readClause_170 : az_W C R k_X11_readClause 170 ls (.ref 97 :: st) (130, az_Pf, I, L) ↔ az_W C R k_X11_readClause 173 ls (.ref 104 :: st) (130, az_Pf, I, L) := ap_getP rfl kn_97 pf_97_9
theorem u_X11_readClause_173 : az_W C R k_X11_readClause 173 (v0 :: v1 :: .int x :: ls) st h ↔ az_W C R k_X11_readClause 174 (v0 :: v1 :: .int x :: ls) (.int x :: st) h := ap_iload rfl rfl
theorem u_X11_readClause_174 (hk : (az_kn 130 a).1 = 1) : az_W C R k_X11_readClause 174 ls (.int x :: .ref a :: st) (130, P, I, L) ↔ (az_in x (az_kn 130 a).2 ∧ az_W C R k_X11_readClause 175 ls (.int (I a x.toNatClampNeg) :: st) (130, P, I, L)) := ap_iald rfl (az_k1 hk)
theorem u_X11_readClause_175 : az_W C R k_X11_readClause 175 ls (.int x :: st) h ↔ az_W C R k_X11_readClause 176 ls (.long x.toInt64 :: st) h := ap_i2l rfl
theorem u_X11_readClause_176 (hl : st.length ≤ 4) : az_W C R k_X11_readClause 176 ls (v3 :: v2 :: v1 :: st) h ↔ az_F C R (az_W C R k_X11_readClause) h (az_cl 139 [v1, v2, v3] 179 ls st) := ap_ivs rfl rfl hl
theorem u_X11_readClause_179 : az_W C R k_X11_readClause 179 ls (.int x :: st) h ↔ if x = 0 then az_W C R k_X11_readClause 182 ls st h else az_W C R k_X11_readClause 190 ls st h := ap_ifne rfl
theorem u_X11_readClause_182 : az_W C R k_X11_readClause 182 (.ref a :: ls) st h ↔ az_W C R k_X11_readClause 183 (.ref a :: ls) (.ref a :: st) h := ap_aload rfl rfl
theorem u_X11_readClause_183 : az_W C R k_X11_readClause 183 (v0 :: v1 :: v2 :: v3 :: .int x :: ls) st h ↔ az_W C R k_X11_readClause 185 (v0 :: v1 :: v2 :: v3 :: .int x :: ls) (.int x :: st) h := ap_iload rfl rfl
theorem u_X11_readClause_185 : az_W C R k_X11_readClause 185 ls (.int x :: .ref 97 :: st) (130, P, I, L) ↔ az_W C R k_X11_readClause 188 ls st (130, P, az_uI I 97 3 x, L) := ap_putI rfl kn_97
theorem u_X11_readClause_188 : az_W C R k_X11_readClause 188 ls st h ↔ az_W C R k_X11_readClause 189 ls (.int 0 :: st) h := ap_const rfl
theorem u_X11_readClause_189 : az_W C R k_X11_readClause 189 ls [.int x] h ↔ ((x = 0 ∨ x = 1) ∧ R (some (.int x)) h) := ap_zret rfl
theorem u_X11_readClause_190 : az_W C R k_X11_readClause 190 (.ref a :: ls) st h ↔ az_W C R k_X11_readClause 191 (.ref a :: ls) (.ref a :: st) h := ap_aload rfl rfl
theorem u_X11_readClause_191 : az_W C R k_X11_readClause 191 ls (.ref 97 :: st) (130, az_Pf, I, L) ↔ az_W C R k_X11_readClause 194 ls (.ref 102 :: st) (130, az_Pf, I, L) := ap_getP rfl kn_97 pf_97_7
theorem u_X11_readClause_194 : az_W C R k_X11_readClause 194 (v0 :: v1 :: .int x :: ls) st h ↔ az_W C R k_X11_readClause 195 (v0 :: v1 :: .int x :: ls) (.int x :: st) h := ap_iload rfl rfl
theorem u_X11_readClause_195 : az_W C R k_X11_readClause 195 (v0 :: v1 :: v2 :: v3 :: v4 :: .int x :: ls) st h ↔ az_W C R k_X11_readClause 197 (v0 :: v1 :: v2 :: v3 :: v4 :: .int x :: ls) (.int x :: st) h := ap_iload rfl rfl
theorem u_X11_readClause_197 (hk : (az_kn 130 a).1 = 1) : az_W C R k_X11_readClause 197 ls (.int y :: .int x :: .ref a :: st) (130, P, I, L) ↔ (az_in x (az_kn 130 a).2 ∧ az_W C R k_X11_readClause 198 ls st (130, P, az_uI I a x.toNatClampNeg y, L)) := ap_iast rfl (az_k1 hk)
theorem u_X11_readClause_198 : az_W C R k_X11_readClause 198 ls st h ↔ az_W C R k_X11_readClause 199 ls (.int 1 :: st) h := ap_const rfl
theorem u_X11_readClause_199 : az_W C R k_X11_readClause 199 ls [.int x] h ↔ ((x = 0 ∨ x = 1) ∧ R (some (.int x)) h) := ap_zret rfl
def k_X11_readRules : Nat → az_P := (az_br 60 (az_br 33 (az_br 13 (az_br 6 (az_br 2 (az_br 1 (az_lf 0 (az_aload 0 1)) (az_lf 1 (az_const (.int 0) 2))) (az_br 5 (az_lf 2 (az_putI 11 3 5)) (az_lf 5 (az_const (.int 0) 6)))) (az_br 8 (az_br 7 (az_lf 6 (az_istore 1 7)) (az_lf 7 (az_iload 1 8))) (az_br 9 (az_lf 8 (az_const (.int 3) 9)) (az_br 12 (az_lf 9 (az_icge 55 12)) (az_lf 12 (az_aload 0 13)))))) (az_br 24 (az_br 17 (az_br 16 (az_lf 13 (az_getP 11 7 16)) (az_lf 16 (az_iload 1 17))) (az_br 18 (az_lf 17 (az_aload 0 18)) (az_br 21 (az_lf 18 (az_getI 11 4 21)) (az_lf 21 (az_ifne 33 24))))) (az_br 28 (az_br 25 (az_lf 24 (az_aload 0 25)) (az_lf 25 (az_getP 11 10 28))) (az_br 29 (az_lf 28 (az_iload 1 29)) (az_br 30 (az_lf 29 (az_iald 30)) (az_lf 30 (az_goto 48))))))) (az_br 46 (az_br 39 (az_br 37 (az_br 34 (az_lf 33 (az_aload 0 34)) (az_lf 34 (az_getP 11 6 37))) (az_br 38 (az_lf 37 (az_const (.int 3) 38)) (az_lf 38 (az_aload 0 39)))) (az_br 43 (az_br 42 (az_lf 39 (az_getI 11 4 42)) (az_lf 42 (az_const (.int 1) 43))) (az_br 44 (az_lf 43 (az_ii (fun x y => x - y) 44)) (az_br 45 (az_lf 44 (az_ii (fun x y => x * y) 45)) (az_lf 45 (az_iload 1 46)))))) (az_br 55 (az_br 48 (az_br 47 (az_lf 46 (az_ii (fun x y => x + y) 47)) (az_lf 47 (az_iald 48))) (az_br 49 (az_lf 48 (az_iast 49)) (az_br 52 (az_lf 49 (az_iinc 1 1 52)) (az_lf 52 (az_goto 7))))) (az_br 57 (az_br 56 (az_lf 55 (az_const (.int 0) 56)) (az_lf 56 (az_istore 1 57))) (az_br 58 (az_lf 57 (az_const (.int 1) 58)) (az_br 59 (az_lf 58 (az_istore 2 59)) (az_lf 59 (az_iload 2 60)))))))) (az_br 96 (az_br 79 (az_br 70 (az_br 64 (az_br 63 (az_lf 60 (az_ifeq 128 63)) (az_lf 63 (az_aload 0 64))) (az_br 67 (az_lf 64 (az_ivv 151 0 11 67)) (az_lf 67 (az_ifne 72 70)))) (az_br 72 (az_br 71 (az_lf 70 (az_const (.int 0) 71)) (az_lf 71 (az_zret))) (az_br 75 (az_lf 72 (az_iinc 1 1 75)) (az_br 76 (az_lf 75 (az_aload 0 76)) (az_lf 76 (az_ivv 150 0 11 79)))))) (az_br 87 (az_br 81 (az_br 80 (az_lf 79 (az_istore 3 80)) (az_lf 80 (az_iload 3 81))) (az_br 84 (az_lf 81 (az_iflt 97 84)) (az_br 85 (az_lf 84 (az_iload 3 85)) (az_lf 85 (az_const (.int 59) 87))))) (az_br 91 (az_br 90 (az_lf 87 (az_icne 95 90)) (az_lf 90 (az_iload 1 91))) (az_br 92 (az_lf 91 (az_const (.int 5) 92)) (az_br 95 (az_lf 92 (az_icne 97 95)) (az_lf 95 (az_const (.int 0) 96))))))) (az_br 112 (az_br 105 (az_br 98 (az_br 97 (az_lf 96 (az_zret)) (az_lf 97 (az_iload 3 98))) (az_br 101 (az_lf 98 (az_iflt 105 101)) (az_br 102 (az_lf 101 (az_const (.int 1) 102)) (az_lf 102 (az_goto 106))))) (az_br 107 (az_br 106 (az_lf 105 (az_const (.int 0) 106)) (az_lf 106 (az_istore 2 107))) (az_br 108 (az_lf 107 (az_aload 0 108)) (az_br 109 (az_lf 108 (az_dup 109)) (az_lf 109 (az_getI 11 3 112)))))) (az_br 121 (az_br 116 (az_br 113 (az_lf 112 (az_iload 2 113)) (az_lf 113 (az_ifeq 120 116))) (az_br 117 (az_lf 116 (az_const (.int 1) 117)) (az_br 120 (az_lf 117 (az_goto 121)) (az_lf 120 (az_const (.int 0) 121))))) (az_br 125 (az_br 122 (az_lf 121 (az_ii (fun x y => x + y) 122)) (az_lf 122 (az_putI 11 3 125))) (az_br 128 (az_lf 125 (az_goto 59)) (az_br 129 (az_lf 128 (az_const (.int 1) 129)) (az_lf 129 (az_zret)))))))))
theorem u_X11_readRules_0 : az_W C R k_X11_readRules 0 (.ref a :: ls) st h ↔ az_W C R k_X11_readRules 1 (.ref a :: ls) (.ref a :: st) h := ap_aload rfl rfl
theorem u_X11_readRules_1 : az_W C R k_X11_readRules 1 ls st h ↔ az_W C R k_X11_readRules 2 ls (.int 0 :: st) h := ap_const rfl
theorem u_X11_readRules_2 : az_W C R k_X11_readRules 2 ls (.int x :: .ref 97 :: st) (130, P, I, L) ↔ az_W C R k_X11_readRules 5 ls st (130, P, az_uI I 97 3 x, L) := ap_putI rfl kn_97
theorem u_X11_readRules_5 : az_W C R k_X11_readRules 5 ls st h ↔ az_W C R k_X11_readRules 6 ls (.int 0 :: st) h := ap_const rfl
theorem u_X11_readRules_6 : az_W C R k_X11_readRules 6 (v0 :: v1 :: ls) (.int x :: st) h ↔ az_W C R k_X11_readRules 7 (az_un v0 :: .int x :: ls) st h := ap_istore rfl rfl
theorem u_X11_readRules_7 : az_W C R k_X11_readRules 7 (v0 :: .int x :: ls) st h ↔ az_W C R k_X11_readRules 8 (v0 :: .int x :: ls) (.int x :: st) h := ap_iload rfl rfl
theorem u_X11_readRules_8 : az_W C R k_X11_readRules 8 ls st h ↔ az_W C R k_X11_readRules 9 ls (.int 3 :: st) h := ap_const rfl
theorem u_X11_readRules_9 : az_W C R k_X11_readRules 9 ls (.int y :: .int x :: st) h ↔ if y ≤ x then az_W C R k_X11_readRules 55 ls st h else az_W C R k_X11_readRules 12 ls st h := ap_icge rfl
theorem u_X11_readRules_12 : az_W C R k_X11_readRules 12 (.ref a :: ls) st h ↔ az_W C R k_X11_readRules 13 (.ref a :: ls) (.ref a :: st) h := ap_aload rfl rfl
theorem u_X11_readRules_13 : az_W C R k_X11_readRules 13 ls (.ref 97 :: st) (130, az_Pf, I, L) ↔ az_W C R k_X11_readRules 16 ls (.ref 102 :: st) (130, az_Pf, I, L) := ap_getP rfl kn_97 pf_97_7
theorem u_X11_readRules_16 : az_W C R k_X11_readRules 16 (v0 :: .int x :: ls) st h ↔ az_W C R k_X11_readRules 17 (v0 :: .int x :: ls) (.int x :: st) h := ap_iload rfl rfl
theorem u_X11_readRules_17 : az_W C R k_X11_readRules 17 (.ref a :: ls) st h ↔ az_W C R k_X11_readRules 18 (.ref a :: ls) (.ref a :: st) h := ap_aload rfl rfl
theorem u_X11_readRules_18 : az_W C R k_X11_readRules 18 ls (.ref 97 :: st) (130, P, I, L) ↔ az_W C R k_X11_readRules 21 ls (.int (I 97 4) :: st) (130, P, I, L) := ap_getI rfl kn_97
theorem u_X11_readRules_21 : az_W C R k_X11_readRules 21 ls (.int x :: st) h ↔ if x = 0 then az_W C R k_X11_readRules 24 ls st h else az_W C R k_X11_readRules 33 ls st h := ap_ifne rfl
theorem u_X11_readRules_24 : az_W C R k_X11_readRules 24 (.ref a :: ls) st h ↔ az_W C R k_X11_readRules 25 (.ref a :: ls) (.ref a :: st) h := ap_aload rfl rfl
theorem u_X11_readRules_25 : az_W C R k_X11_readRules 25 ls (.ref 97 :: st) (130, az_Pf, I, L) ↔ az_W C R k_X11_readRules 28 ls (.ref 105 :: st) (130, az_Pf, I, L) := ap_getP rfl kn_97 pf_97_10
theorem u_X11_readRules_28 : az_W C R k_X11_readRules 28 (v0 :: .int x :: ls) st h ↔ az_W C R k_X11_readRules 29 (v0 :: .int x :: ls) (.int x :: st) h := ap_iload rfl rfl
theorem u_X11_readRules_29 (hk : (az_kn 130 a).1 = 1) : az_W C R k_X11_readRules 29 ls (.int x :: .ref a :: st) (130, P, I, L) ↔ (az_in x (az_kn 130 a).2 ∧ az_W C R k_X11_readRules 30 ls (.int (I a x.toNatClampNeg) :: st) (130, P, I, L)) := ap_iald rfl (az_k1 hk)
theorem u_X11_readRules_30 : az_W C R k_X11_readRules 30 ls st h ↔ az_W C R k_X11_readRules 48 ls st h := ap_goto rfl
theorem u_X11_readRules_33 : az_W C R k_X11_readRules 33 (.ref a :: ls) st h ↔ az_W C R k_X11_readRules 34 (.ref a :: ls) (.ref a :: st) h := ap_aload rfl rfl
theorem u_X11_readRules_34 : az_W C R k_X11_readRules 34 ls (.ref 97 :: st) (130, az_Pf, I, L) ↔ az_W C R k_X11_readRules 37 ls (.ref 101 :: st) (130, az_Pf, I, L) := ap_getP rfl kn_97 pf_97_6
theorem u_X11_readRules_37 : az_W C R k_X11_readRules 37 ls st h ↔ az_W C R k_X11_readRules 38 ls (.int 3 :: st) h := ap_const rfl
theorem u_X11_readRules_38 : az_W C R k_X11_readRules 38 (.ref a :: ls) st h ↔ az_W C R k_X11_readRules 39 (.ref a :: ls) (.ref a :: st) h := ap_aload rfl rfl
theorem u_X11_readRules_39 : az_W C R k_X11_readRules 39 ls (.ref 97 :: st) (130, P, I, L) ↔ az_W C R k_X11_readRules 42 ls (.int (I 97 4) :: st) (130, P, I, L) := ap_getI rfl kn_97
theorem u_X11_readRules_42 : az_W C R k_X11_readRules 42 ls st h ↔ az_W C R k_X11_readRules 43 ls (.int 1 :: st) h := ap_const rfl
theorem u_X11_readRules_43 : az_W C R k_X11_readRules 43 ls (.int y :: .int x :: st) h ↔ az_W C R k_X11_readRules 44 ls (.int (x - y) :: st) h := ap_ii (f := fun x y => x - y) rfl
theorem u_X11_readRules_44 : az_W C R k_X11_readRules 44 ls (.int y :: .int x :: st) h ↔ az_W C R k_X11_readRules 45 ls (.int (x * y) :: st) h := ap_ii (f := fun x y => x * y) rfl
theorem u_X11_readRules_45 : az_W C R k_X11_readRules 45 (v0 :: .int x :: ls) st h ↔ az_W C R k_X11_readRules 46 (v0 :: .int x :: ls) (.int x :: st) h := ap_iload rfl rfl
theorem u_X11_readRules_46 : az_W C R k_X11_readRules 46 ls (.int y :: .int x :: st) h ↔ az_W C R k_X11_readRules 47 ls (.int (x + y) :: st) h := ap_ii (f := fun x y => x + y) rfl
theorem u_X11_readRules_47 (hk : (az_kn 130 a).1 = 1) : az_W C R k_X11_readRules 47 ls (.int x :: .ref a :: st) (130, P, I, L) ↔ (az_in x (az_kn 130 a).2 ∧ az_W C R k_X11_readRules 48 ls (.int (I a x.toNatClampNeg) :: st) (130, P, I, L)) := ap_iald rfl (az_k1 hk)
theorem u_X11_readRules_48 (hk : (az_kn 130 a).1 = 1) : az_W C R k_X11_readRules 48 ls (.int y :: .int x :: .ref a :: st) (130, P, I, L) ↔ (az_in x (az_kn 130 a).2 ∧ az_W C R k_X11_readRules 49 ls st (130, P, az_uI I a x.toNatClampNeg y, L)) := ap_iast rfl (az_k1 hk)
theorem u_X11_readRules_49 : az_W C R k_X11_readRules 49 (v0 :: .int x :: ls) st h ↔ az_W C R k_X11_readRules 52 (az_un v0 :: .int (x + 1) :: ls) st h := ap_iinc rfl rfl rfl
theorem u_X11_readRules_52 : az_W C R k_X11_readRules 52 ls st h ↔ az_W C R k_X11_readRules 7 ls st h := ap_goto rfl
theorem u_X11_readRules_55 : az_W C R k_X11_readRules 55 ls st h ↔ az_W C R k_X11_readRules 56 ls (.int 0 :: st) h := ap_const rfl
theorem u_X11_readRules_56 : az_W C R k_X11_readRules 56 (v0 :: v1 :: ls) (.int x :: st) h ↔ az_W C R k_X11_readRules 57 (az_un v0 :: .int x :: ls) st h := ap_istore rfl rfl
theorem u_X11_readRules_57 : az_W C R k_X11_readRules 57 ls st h ↔ az_W C R k_X11_readRules 58 ls (.int 1 :: st) h := ap_const rfl
theorem u_X11_readRules_58 : az_W C R k_X11_readRules 58 (v0 :: v1 :: v2 :: ls) (.int x :: st) h ↔ az_W C R k_X11_readRules 59 (v0 :: az_un v1 :: .int x :: ls) st h := ap_istore rfl rfl
theorem u_X11_readRules_59 : az_W C R k_X11_readRules 59 (v0 :: v1 :: .int x :: ls) st h ↔ az_W C R k_X11_readRules 60 (v0 :: v1 :: .int x :: ls) (.int x :: st) h := ap_iload rfl rfl
theorem u_X11_readRules_60 : az_W C R k_X11_readRules 60 ls (.int x :: st) h ↔ if x = 0 then az_W C R k_X11_readRules 128 ls st h else az_W C R k_X11_readRules 63 ls st h := ap_ifeq rfl
theorem u_X11_readRules_63 : az_W C R k_X11_readRules 63 (.ref a :: ls) st h ↔ az_W C R k_X11_readRules 64 (.ref a :: ls) (.ref a :: st) h := ap_aload rfl rfl
theorem u_X11_readRules_64 (hl : st.length ≤ 4) : az_W C R k_X11_readRules 64 ls (.ref 97 :: st) (130, P, I, L) ↔ az_F C R (az_W C R k_X11_readRules) (130, P, I, L) (az_cl 151 [.ref 97] 67 ls st) := ap_ivv rfl rfl kn_97 hl
theorem u_X11_readRules_67 : az_W C R k_X11_readRules 67 ls (.int x :: st) h ↔ if x = 0 then az_W C R k_X11_readRules 70 ls st h else az_W C R k_X11_readRules 72 ls st h := ap_ifne rfl
theorem u_X11_readRules_70 : az_W C R k_X11_readRules 70 ls st h ↔ az_W C R k_X11_readRules 71 ls (.int 0 :: st) h := ap_const rfl
theorem u_X11_readRules_71 : az_W C R k_X11_readRules 71 ls [.int x] h ↔ ((x = 0 ∨ x = 1) ∧ R (some (.int x)) h) := ap_zret rfl
theorem u_X11_readRules_72 : az_W C R k_X11_readRules 72 (v0 :: .int x :: ls) st h ↔ az_W C R k_X11_readRules 75 (az_un v0 :: .int (x + 1) :: ls) st h := ap_iinc rfl rfl rfl
theorem u_X11_readRules_75 : az_W C R k_X11_readRules 75 (.ref a :: ls) st h ↔ az_W C R k_X11_readRules 76 (.ref a :: ls) (.ref a :: st) h := ap_aload rfl rfl
theorem u_X11_readRules_76 (hl : st.length ≤ 4) : az_W C R k_X11_readRules 76 ls (.ref 97 :: st) (130, P, I, L) ↔ az_F C R (az_W C R k_X11_readRules) (130, P, I, L) (az_cl 150 [.ref 97] 79 ls st) := ap_ivv rfl rfl kn_97 hl
theorem u_X11_readRules_79 : az_W C R k_X11_readRules 79 (v0 :: v1 :: v2 :: v3 :: ls) (.int x :: st) h ↔ az_W C R k_X11_readRules 80 (v0 :: v1 :: az_un v2 :: .int x :: ls) st h := ap_istore rfl rfl
theorem u_X11_readRules_80 : az_W C R k_X11_readRules 80 (v0 :: v1 :: v2 :: .int x :: ls) st h ↔ az_W C R k_X11_readRules 81 (v0 :: v1 :: v2 :: .int x :: ls) (.int x :: st) h := ap_iload rfl rfl
theorem u_X11_readRules_81 : az_W C R k_X11_readRules 81 ls (.int x :: st) h ↔ if x < 0 then az_W C R k_X11_readRules 97 ls st h else az_W C R k_X11_readRules 84 ls st h := ap_iflt rfl
theorem u_X11_readRules_84 : az_W C R k_X11_readRules 84 (v0 :: v1 :: v2 :: .int x :: ls) st h ↔ az_W C R k_X11_readRules 85 (v0 :: v1 :: v2 :: .int x :: ls) (.int x :: st) h := ap_iload rfl rfl
theorem u_X11_readRules_85 : az_W C R k_X11_readRules 85 ls st h ↔ az_W C R k_X11_readRules 87 ls (.int 59 :: st) h := ap_const rfl
theorem u_X11_readRules_87 : az_W C R k_X11_readRules 87 ls (.int y :: .int x :: st) h ↔ if x = y then az_W C R k_X11_readRules 90 ls st h else az_W C R k_X11_readRules 95 ls st h := ap_icne rfl
theorem u_X11_readRules_90 : az_W C R k_X11_readRules 90 (v0 :: .int x :: ls) st h ↔ az_W C R k_X11_readRules 91 (v0 :: .int x :: ls) (.int x :: st) h := ap_iload rfl rfl
theorem u_X11_readRules_91 : az_W C R k_X11_readRules 91 ls st h ↔ az_W C R k_X11_readRules 92 ls (.int 5 :: st) h := ap_const rfl
theorem u_X11_readRules_92 : az_W C R k_X11_readRules 92 ls (.int y :: .int x :: st) h ↔ if x = y then az_W C R k_X11_readRules 95 ls st h else az_W C R k_X11_readRules 97 ls st h := ap_icne rfl
theorem u_X11_readRules_95 : az_W C R k_X11_readRules 95 ls st h ↔ az_W C R k_X11_readRules 96 ls (.int 0 :: st) h := ap_const rfl
theorem u_X11_readRules_96 : az_W C R k_X11_readRules 96 ls [.int x] h ↔ ((x = 0 ∨ x = 1) ∧ R (some (.int x)) h) := ap_zret rfl
theorem u_X11_readRules_97 : az_W C R k_X11_readRules 97 (v0 :: v1 :: v2 :: .int x :: ls) st h ↔ az_W C R k_X11_readRules 98 (v0 :: v1 :: v2 :: .int x :: ls) (.int x :: st) h := ap_iload rfl rfl
theorem u_X11_readRules_98 : az_W C R k_X11_readRules 98 ls (.int x :: st) h ↔ if x < 0 then az_W C R k_X11_readRules 105 ls st h else az_W C R k_X11_readRules 101 ls st h := ap_iflt rfl
theorem u_X11_readRules_101 : az_W C R k_X11_readRules 101 ls st h ↔ az_W C R k_X11_readRules 102 ls (.int 1 :: st) h := ap_const rfl
theorem u_X11_readRules_102 : az_W C R k_X11_readRules 102 ls st h ↔ az_W C R k_X11_readRules 106 ls st h := ap_goto rfl
theorem u_X11_readRules_105 : az_W C R k_X11_readRules 105 ls st h ↔ az_W C R k_X11_readRules 106 ls (.int 0 :: st) h := ap_const rfl
theorem u_X11_readRules_106 : az_W C R k_X11_readRules 106 (v0 :: v1 :: v2 :: ls) (.int x :: st) h ↔ az_W C R k_X11_readRules 107 (v0 :: az_un v1 :: .int x :: ls) st h := ap_istore rfl rfl
theorem u_X11_readRules_107 : az_W C R k_X11_readRules 107 (.ref a :: ls) st h ↔ az_W C R k_X11_readRules 108 (.ref a :: ls) (.ref a :: st) h := ap_aload rfl rfl
theorem u_X11_readRules_108 : az_W C R k_X11_readRules 108 ls (.int x :: st) h ↔ az_W C R k_X11_readRules 109 ls (.int x :: .int x :: st) h := ap_dupi rfl
theorem u_X11_readRules_108r : az_W C R k_X11_readRules 108 ls (.ref a :: st) h ↔ az_W C R k_X11_readRules 109 ls (.ref a :: .ref a :: st) h := ap_dupr rfl
theorem u_X11_readRules_109 : az_W C R k_X11_readRules 109 ls (.ref 97 :: st) (130, P, I, L) ↔ az_W C R k_X11_readRules 112 ls (.int (I 97 3) :: st) (130, P, I, L) := ap_getI rfl kn_97
theorem u_X11_readRules_112 : az_W C R k_X11_readRules 112 (v0 :: v1 :: .int x :: ls) st h ↔ az_W C R k_X11_readRules 113 (v0 :: v1 :: .int x :: ls) (.int x :: st) h := ap_iload rfl rfl
theorem u_X11_readRules_113 : az_W C R k_X11_readRules 113 ls (.int x :: st) h ↔ if x = 0 then az_W C R k_X11_readRules 120 ls st h else az_W C R k_X11_readRules 116 ls st h := ap_ifeq rfl
theorem u_X11_readRules_116 : az_W C R k_X11_readRules 116 ls st h ↔ az_W C R k_X11_readRules 117 ls (.int 1 :: st) h := ap_const rfl
theorem u_X11_readRules_117 : az_W C R k_X11_readRules 117 ls st h ↔ az_W C R k_X11_readRules 121 ls st h := ap_goto rfl
theorem u_X11_readRules_120 : az_W C R k_X11_readRules 120 ls st h ↔ az_W C R k_X11_readRules 121 ls (.int 0 :: st) h := ap_const rfl
theorem u_X11_readRules_121 : az_W C R k_X11_readRules 121 ls (.int y :: .int x :: st) h ↔ az_W C R k_X11_readRules 122 ls (.int (x + y) :: st) h := ap_ii (f := fun x y => x + y) rfl
theorem u_X11_readRules_122 : az_W C R k_X11_readRules 122 ls (.int x :: .ref 97 :: st) (130, P, I, L) ↔ az_W C R k_X11_readRules 125 ls st (130, P, az_uI I 97 3 x, L) := ap_putI rfl kn_97
theorem u_X11_readRules_125 : az_W C R k_X11_readRules 125 ls st h ↔ az_W C R k_X11_readRules 59 ls st h := ap_goto rfl
theorem u_X11_readRules_128 : az_W C R k_X11_readRules 128 ls st h ↔ az_W C R k_X11_readRules 129 ls (.int 1 :: st) h := ap_const rfl
theorem u_X11_readRules_129 : az_W C R k_X11_readRules 129 ls [.int x] h ↔ ((x = 0 ∨ x = 1) ∧ R (some (.int x)) h) := ap_zret rfl
def k_X11_rules : Nat → az_P := (az_br 64 (az_br 32 (az_br 19 (az_br 8 (az_br 4 (az_br 1 (az_lf 0 (az_iload 1 1)) (az_lf 1 (az_ivs 142 1 4))) (az_br 7 (az_lf 4 (az_ifeq 29 7)) (az_lf 7 (az_aload 0 8)))) (az_br 14 (az_br 11 (az_lf 8 (az_getI 11 4 11)) (az_lf 11 (az_ifle 31 14))) (az_br 15 (az_lf 14 (az_iload 1 15)) (az_br 16 (az_lf 15 (az_aload 0 16)) (az_lf 16 (az_getP 11 5 19)))))) (az_br 25 (az_br 23 (az_br 20 (az_lf 19 (az_aload 0 20)) (az_lf 20 (az_getI 11 4 23))) (az_br 24 (az_lf 23 (az_const (.int 1) 24)) (az_lf 24 (az_ii (fun x y => x - y) 25)))) (az_br 29 (az_br 26 (az_lf 25 (az_iald 26)) (az_lf 26 (az_icge 31 29))) (az_br 30 (az_lf 29 (az_const (.int (-1)) 30)) (az_br 31 (az_lf 30 (az_iret)) (az_lf 31 (az_aload 0 32))))))) (az_br 48 (az_br 38 (az_br 36 (az_br 35 (az_lf 32 (az_ivv 152 0 11 35)) (az_lf 35 (az_istore 2 36))) (az_br 37 (az_lf 36 (az_aload 0 37)) (az_lf 37 (az_const (.int 0) 38)))) (az_br 42 (az_br 41 (az_lf 38 (az_putI 11 2 41)) (az_lf 41 (az_iload 2 42))) (az_br 45 (az_lf 42 (az_ifne 53 45)) (az_br 47 (az_lf 45 (az_const (.int (-20)) 47)) (az_lf 47 (az_aload 0 48)))))) (az_br 54 (az_br 52 (az_br 51 (az_lf 48 (az_getI 11 3 51)) (az_lf 51 (az_ii (fun x y => x - y) 52))) (az_br 53 (az_lf 52 (az_iret)) (az_lf 53 (az_aload 0 54)))) (az_br 58 (az_br 57 (az_lf 54 (az_getI 11 4 57)) (az_lf 57 (az_const (.int 4) 58))) (az_br 61 (az_lf 58 (az_icne 64 61)) (az_br 63 (az_lf 61 (az_const (.int (-3)) 63)) (az_lf 63 (az_iret)))))))) (az_br 92 (az_br 77 (az_br 72 (az_br 68 (az_br 65 (az_lf 64 (az_aload 0 65)) (az_lf 65 (az_getP 11 5 68))) (az_br 69 (az_lf 68 (az_aload 0 69)) (az_lf 69 (az_getI 11 4 72)))) (az_br 74 (az_br 73 (az_lf 72 (az_iload 1 73)) (az_lf 73 (az_iast 74))) (az_br 75 (az_lf 74 (az_const (.int 0) 75)) (az_br 76 (az_lf 75 (az_istore 3 76)) (az_lf 76 (az_iload 3 77)))))) (az_br 85 (az_br 81 (az_br 78 (az_lf 77 (az_const (.int 3) 78)) (az_lf 78 (az_icge 106 81))) (az_br 82 (az_lf 81 (az_aload 0 82)) (az_lf 82 (az_getP 11 6 85)))) (az_br 87 (az_br 86 (az_lf 85 (az_const (.int 3) 86)) (az_lf 86 (az_aload 0 87))) (az_br 90 (az_lf 87 (az_getI 11 4 90)) (az_br 91 (az_lf 90 (az_ii (fun x y => x * y) 91)) (az_lf 91 (az_iload 3 92))))))) (az_br 107 (az_br 98 (az_br 94 (az_br 93 (az_lf 92 (az_ii (fun x y => x + y) 93)) (az_lf 93 (az_aload 0 94))) (az_br 97 (az_lf 94 (az_getP 11 7 97)) (az_lf 97 (az_iload 3 98)))) (az_br 100 (az_br 99 (az_lf 98 (az_iald 99)) (az_lf 99 (az_iast 100))) (az_br 103 (az_lf 100 (az_iinc 3 1 103)) (az_br 106 (az_lf 103 (az_goto 76)) (az_lf 106 (az_aload 0 107)))))) (az_br 116 (az_br 111 (az_br 108 (az_lf 107 (az_dup 108)) (az_lf 108 (az_getI 11 4 111))) (az_br 112 (az_lf 111 (az_const (.int 1) 112)) (az_br 113 (az_lf 112 (az_ii (fun x y => x + y) 113)) (az_lf 113 (az_putI 11 4 116))))) (az_br 120 (az_br 117 (az_lf 116 (az_aload 0 117)) (az_lf 117 (az_getI 11 4 120))) (az_br 121 (az_lf 120 (az_const (.int 1) 121)) (az_br 122 (az_lf 121 (az_ii (fun x y => x - y) 122)) (az_lf 122 (az_iret)))))))))
theorem u_X11_rules_0 : az_W C R k_X11_rules 0 (v0 :: .int x :: ls) st h ↔ az_W C R k_X11_rules 1 (v0 :: .int x :: ls) (.int x :: st) h := ap_iload rfl rfl
theorem u_X11_rules_1 (hl : st.length ≤ 4) : az_W C R k_X11_rules 1 ls (v1 :: st) h ↔ az_F C R (az_W C R k_X11_rules) h (az_cl 142 [v1] 4 ls st) := ap_ivs rfl rfl hl
theorem u_X11_rules_4 : az_W C R k_X11_rules 4 ls (.int x :: st) h ↔ if x = 0 then az_W C R k_X11_rules 29 ls st h else az_W C R k_X11_rules 7 ls st h := ap_ifeq rfl
theorem u_X11_rules_7 : az_W C R k_X11_rules 7 (.ref a :: ls) st h ↔ az_W C R k_X11_rules 8 (.ref a :: ls) (.ref a :: st) h := ap_aload rfl rfl
theorem u_X11_rules_8 : az_W C R k_X11_rules 8 ls (.ref 97 :: st) (130, P, I, L) ↔ az_W C R k_X11_rules 11 ls (.int (I 97 4) :: st) (130, P, I, L) := ap_getI rfl kn_97
theorem u_X11_rules_11 : az_W C R k_X11_rules 11 ls (.int x :: st) h ↔ if x ≤ 0 then az_W C R k_X11_rules 31 ls st h else az_W C R k_X11_rules 14 ls st h := ap_ifle rfl
theorem u_X11_rules_14 : az_W C R k_X11_rules 14 (v0 :: .int x :: ls) st h ↔ az_W C R k_X11_rules 15 (v0 :: .int x :: ls) (.int x :: st) h := ap_iload rfl rfl
theorem u_X11_rules_15 : az_W C R k_X11_rules 15 (.ref a :: ls) st h ↔ az_W C R k_X11_rules 16 (.ref a :: ls) (.ref a :: st) h := ap_aload rfl rfl
theorem u_X11_rules_16 : az_W C R k_X11_rules 16 ls (.ref 97 :: st) (130, az_Pf, I, L) ↔ az_W C R k_X11_rules 19 ls (.ref 100 :: st) (130, az_Pf, I, L) := ap_getP rfl kn_97 pf_97_5
theorem u_X11_rules_19 : az_W C R k_X11_rules 19 (.ref a :: ls) st h ↔ az_W C R k_X11_rules 20 (.ref a :: ls) (.ref a :: st) h := ap_aload rfl rfl
theorem u_X11_rules_20 : az_W C R k_X11_rules 20 ls (.ref 97 :: st) (130, P, I, L) ↔ az_W C R k_X11_rules 23 ls (.int (I 97 4) :: st) (130, P, I, L) := ap_getI rfl kn_97
theorem u_X11_rules_23 : az_W C R k_X11_rules 23 ls st h ↔ az_W C R k_X11_rules 24 ls (.int 1 :: st) h := ap_const rfl
theorem u_X11_rules_24 : az_W C R k_X11_rules 24 ls (.int y :: .int x :: st) h ↔ az_W C R k_X11_rules 25 ls (.int (x - y) :: st) h := ap_ii (f := fun x y => x - y) rfl
theorem u_X11_rules_25 (hk : (az_kn 130 a).1 = 1) : az_W C R k_X11_rules 25 ls (.int x :: .ref a :: st) (130, P, I, L) ↔ (az_in x (az_kn 130 a).2 ∧ az_W C R k_X11_rules 26 ls (.int (I a x.toNatClampNeg) :: st) (130, P, I, L)) := ap_iald rfl (az_k1 hk)
theorem u_X11_rules_26 : az_W C R k_X11_rules 26 ls (.int y :: .int x :: st) h ↔ if y ≤ x then az_W C R k_X11_rules 31 ls st h else az_W C R k_X11_rules 29 ls st h := ap_icge rfl
theorem u_X11_rules_29 : az_W C R k_X11_rules 29 ls st h ↔ az_W C R k_X11_rules 30 ls (.int (-1) :: st) h := ap_const rfl
theorem u_X11_rules_30 : az_W C R k_X11_rules 30 ls [.int x] h ↔ R (some (.int x)) h := ap_iret rfl
theorem u_X11_rules_31 : az_W C R k_X11_rules 31 (.ref a :: ls) st h ↔ az_W C R k_X11_rules 32 (.ref a :: ls) (.ref a :: st) h := ap_aload rfl rfl
theorem u_X11_rules_32 (hl : st.length ≤ 4) : az_W C R k_X11_rules 32 ls (.ref 97 :: st) (130, P, I, L) ↔ az_F C R (az_W C R k_X11_rules) (130, P, I, L) (az_cl 152 [.ref 97] 35 ls st) := ap_ivv rfl rfl kn_97 hl
theorem u_X11_rules_35 : az_W C R k_X11_rules 35 (v0 :: v1 :: v2 :: ls) (.int x :: st) h ↔ az_W C R k_X11_rules 36 (v0 :: az_un v1 :: .int x :: ls) st h := ap_istore rfl rfl
theorem u_X11_rules_36 : az_W C R k_X11_rules 36 (.ref a :: ls) st h ↔ az_W C R k_X11_rules 37 (.ref a :: ls) (.ref a :: st) h := ap_aload rfl rfl
theorem u_X11_rules_37 : az_W C R k_X11_rules 37 ls st h ↔ az_W C R k_X11_rules 38 ls (.int 0 :: st) h := ap_const rfl
theorem u_X11_rules_38 : az_W C R k_X11_rules 38 ls (.int x :: .ref 97 :: st) (130, P, I, L) ↔ az_W C R k_X11_rules 41 ls st (130, P, az_uI I 97 2 x, L) := ap_putI rfl kn_97
theorem u_X11_rules_41 : az_W C R k_X11_rules 41 (v0 :: v1 :: .int x :: ls) st h ↔ az_W C R k_X11_rules 42 (v0 :: v1 :: .int x :: ls) (.int x :: st) h := ap_iload rfl rfl
theorem u_X11_rules_42 : az_W C R k_X11_rules 42 ls (.int x :: st) h ↔ if x = 0 then az_W C R k_X11_rules 45 ls st h else az_W C R k_X11_rules 53 ls st h := ap_ifne rfl
theorem u_X11_rules_45 : az_W C R k_X11_rules 45 ls st h ↔ az_W C R k_X11_rules 47 ls (.int (-20) :: st) h := ap_const rfl
theorem u_X11_rules_47 : az_W C R k_X11_rules 47 (.ref a :: ls) st h ↔ az_W C R k_X11_rules 48 (.ref a :: ls) (.ref a :: st) h := ap_aload rfl rfl
theorem u_X11_rules_48 : az_W C R k_X11_rules 48 ls (.ref 97 :: st) (130, P, I, L) ↔ az_W C R k_X11_rules 51 ls (.int (I 97 3) :: st) (130, P, I, L) := ap_getI rfl kn_97
theorem u_X11_rules_51 : az_W C R k_X11_rules 51 ls (.int y :: .int x :: st) h ↔ az_W C R k_X11_rules 52 ls (.int (x - y) :: st) h := ap_ii (f := fun x y => x - y) rfl
theorem u_X11_rules_52 : az_W C R k_X11_rules 52 ls [.int x] h ↔ R (some (.int x)) h := ap_iret rfl
theorem u_X11_rules_53 : az_W C R k_X11_rules 53 (.ref a :: ls) st h ↔ az_W C R k_X11_rules 54 (.ref a :: ls) (.ref a :: st) h := ap_aload rfl rfl
theorem u_X11_rules_54 : az_W C R k_X11_rules 54 ls (.ref 97 :: st) (130, P, I, L) ↔ az_W C R k_X11_rules 57 ls (.int (I 97 4) :: st) (130, P, I, L) := ap_getI rfl kn_97
theorem u_X11_rules_57 : az_W C R k_X11_rules 57 ls st h ↔ az_W C R k_X11_rules 58 ls (.int 4 :: st) h := ap_const rfl
theorem u_X11_rules_58 : az_W C R k_X11_rules 58 ls (.int y :: .int x :: st) h ↔ if x = y then az_W C R k_X11_rules 61 ls st h else az_W C R k_X11_rules 64 ls st h := ap_icne rfl
theorem u_X11_rules_61 : az_W C R k_X11_rules 61 ls st h ↔ az_W C R k_X11_rules 63 ls (.int (-3) :: st) h := ap_const rfl
theorem u_X11_rules_63 : az_W C R k_X11_rules 63 ls [.int x] h ↔ R (some (.int x)) h := ap_iret rfl
theorem u_X11_rules_64 : az_W C R k_X11_rules 64 (.ref a :: ls) st h ↔ az_W C R k_X11_rules 65 (.ref a :: ls) (.ref a :: st) h := ap_aload rfl rfl
theorem u_X11_rules_65 : az_W C R k_X11_rules 65 ls (.ref 97 :: st) (130, az_Pf, I, L) ↔ az_W C R k_X11_rules 68 ls (.ref 100 :: st) (130, az_Pf, I, L) := ap_getP rfl kn_97 pf_97_5
theorem u_X11_rules_68 : az_W C R k_X11_rules 68 (.ref a :: ls) st h ↔ az_W C R k_X11_rules 69 (.ref a :: ls) (.ref a :: st) h := ap_aload rfl rfl
theorem u_X11_rules_69 : az_W C R k_X11_rules 69 ls (.ref 97 :: st) (130, P, I, L) ↔ az_W C R k_X11_rules 72 ls (.int (I 97 4) :: st) (130, P, I, L) := ap_getI rfl kn_97
theorem u_X11_rules_72 : az_W C R k_X11_rules 72 (v0 :: .int x :: ls) st h ↔ az_W C R k_X11_rules 73 (v0 :: .int x :: ls) (.int x :: st) h := ap_iload rfl rfl
theorem u_X11_rules_73 (hk : (az_kn 130 a).1 = 1) : az_W C R k_X11_rules 73 ls (.int y :: .int x :: .ref a :: st) (130, P, I, L) ↔ (az_in x (az_kn 130 a).2 ∧ az_W C R k_X11_rules 74 ls st (130, P, az_uI I a x.toNatClampNeg y, L)) := ap_iast rfl (az_k1 hk)
theorem u_X11_rules_74 : az_W C R k_X11_rules 74 ls st h ↔ az_W C R k_X11_rules 75 ls (.int 0 :: st) h := ap_const rfl
theorem u_X11_rules_75 : az_W C R k_X11_rules 75 (v0 :: v1 :: v2 :: v3 :: ls) (.int x :: st) h ↔ az_W C R k_X11_rules 76 (v0 :: v1 :: az_un v2 :: .int x :: ls) st h := ap_istore rfl rfl
theorem u_X11_rules_76 : az_W C R k_X11_rules 76 (v0 :: v1 :: v2 :: .int x :: ls) st h ↔ az_W C R k_X11_rules 77 (v0 :: v1 :: v2 :: .int x :: ls) (.int x :: st) h := ap_iload rfl rfl
theorem u_X11_rules_77 : az_W C R k_X11_rules 77 ls st h ↔ az_W C R k_X11_rules 78 ls (.int 3 :: st) h := ap_const rfl
theorem u_X11_rules_78 : az_W C R k_X11_rules 78 ls (.int y :: .int x :: st) h ↔ if y ≤ x then az_W C R k_X11_rules 106 ls st h else az_W C R k_X11_rules 81 ls st h := ap_icge rfl
theorem u_X11_rules_81 : az_W C R k_X11_rules 81 (.ref a :: ls) st h ↔ az_W C R k_X11_rules 82 (.ref a :: ls) (.ref a :: st) h := ap_aload rfl rfl
theorem u_X11_rules_82 : az_W C R k_X11_rules 82 ls (.ref 97 :: st) (130, az_Pf, I, L) ↔ az_W C R k_X11_rules 85 ls (.ref 101 :: st) (130, az_Pf, I, L) := ap_getP rfl kn_97 pf_97_6
theorem u_X11_rules_85 : az_W C R k_X11_rules 85 ls st h ↔ az_W C R k_X11_rules 86 ls (.int 3 :: st) h := ap_const rfl
theorem u_X11_rules_86 : az_W C R k_X11_rules 86 (.ref a :: ls) st h ↔ az_W C R k_X11_rules 87 (.ref a :: ls) (.ref a :: st) h := ap_aload rfl rfl
theorem u_X11_rules_87 : az_W C R k_X11_rules 87 ls (.ref 97 :: st) (130, P, I, L) ↔ az_W C R k_X11_rules 90 ls (.int (I 97 4) :: st) (130, P, I, L) := ap_getI rfl kn_97
theorem u_X11_rules_90 : az_W C R k_X11_rules 90 ls (.int y :: .int x :: st) h ↔ az_W C R k_X11_rules 91 ls (.int (x * y) :: st) h := ap_ii (f := fun x y => x * y) rfl
theorem u_X11_rules_91 : az_W C R k_X11_rules 91 (v0 :: v1 :: v2 :: .int x :: ls) st h ↔ az_W C R k_X11_rules 92 (v0 :: v1 :: v2 :: .int x :: ls) (.int x :: st) h := ap_iload rfl rfl
theorem u_X11_rules_92 : az_W C R k_X11_rules 92 ls (.int y :: .int x :: st) h ↔ az_W C R k_X11_rules 93 ls (.int (x + y) :: st) h := ap_ii (f := fun x y => x + y) rfl
theorem u_X11_rules_93 : az_W C R k_X11_rules 93 (.ref a :: ls) st h ↔ az_W C R k_X11_rules 94 (.ref a :: ls) (.ref a :: st) h := ap_aload rfl rfl
theorem u_X11_rules_94 : az_W C R k_X11_rules 94 ls (.ref 97 :: st) (130, az_Pf, I, L) ↔ az_W C R k_X11_rules 97 ls (.ref 102 :: st) (130, az_Pf, I, L) := ap_getP rfl kn_97 pf_97_7
theorem u_X11_rules_97 : az_W C R k_X11_rules 97 (v0 :: v1 :: v2 :: .int x :: ls) st h ↔ az_W C R k_X11_rules 98 (v0 :: v1 :: v2 :: .int x :: ls) (.int x :: st) h := ap_iload rfl rfl
theorem u_X11_rules_98 (hk : (az_kn 130 a).1 = 1) : az_W C R k_X11_rules 98 ls (.int x :: .ref a :: st) (130, P, I, L) ↔ (az_in x (az_kn 130 a).2 ∧ az_W C R k_X11_rules 99 ls (.int (I a x.toNatClampNeg) :: st) (130, P, I, L)) := ap_iald rfl (az_k1 hk)
theorem u_X11_rules_99 (hk : (az_kn 130 a).1 = 1) : az_W C R k_X11_rules 99 ls (.int y :: .int x :: .ref a :: st) (130, P, I, L) ↔ (az_in x (az_kn 130 a).2 ∧ az_W C R k_X11_rules 100 ls st (130, P, az_uI I a x.toNatClampNeg y, L)) := ap_iast rfl (az_k1 hk)
theorem u_X11_rules_100 : az_W C R k_X11_rules 100 (v0 :: v1 :: v2 :: .int x :: ls) st h ↔ az_W C R k_X11_rules 103 (v0 :: v1 :: az_un v2 :: .int (x + 1) :: ls) st h := ap_iinc rfl rfl rfl
theorem u_X11_rules_103 : az_W C R k_X11_rules 103 ls st h ↔ az_W C R k_X11_rules 76 ls st h := ap_goto rfl
theorem u_X11_rules_106 : az_W C R k_X11_rules 106 (.ref a :: ls) st h ↔ az_W C R k_X11_rules 107 (.ref a :: ls) (.ref a :: st) h := ap_aload rfl rfl
theorem u_X11_rules_107 : az_W C R k_X11_rules 107 ls (.int x :: st) h ↔ az_W C R k_X11_rules 108 ls (.int x :: .int x :: st) h := ap_dupi rfl
theorem u_X11_rules_107r : az_W C R k_X11_rules 107 ls (.ref a :: st) h ↔ az_W C R k_X11_rules 108 ls (.ref a :: .ref a :: st) h := ap_dupr rfl
theorem u_X11_rules_108 : az_W C R k_X11_rules 108 ls (.ref 97 :: st) (130, P, I, L) ↔ az_W C R k_X11_rules 111 ls (.int (I 97 4) :: st) (130, P, I, L) := ap_getI rfl kn_97
theorem u_X11_rules_111 : az_W C R k_X11_rules 111 ls st h ↔ az_W C R k_X11_rules 112 ls (.int 1 :: st) h := ap_const rfl
theorem u_X11_rules_112 : az_W C R k_X11_rules 112 ls (.int y :: .int x :: st) h ↔ az_W C R k_X11_rules 113 ls (.int (x + y) :: st) h := ap_ii (f := fun x y => x + y) rfl
theorem u_X11_rules_113 : az_W C R k_X11_rules 113 ls (.int x :: .ref 97 :: st) (130, P, I, L) ↔ az_W C R k_X11_rules 116 ls st (130, P, az_uI I 97 4 x, L) := ap_putI rfl kn_97
theorem u_X11_rules_116 : az_W C R k_X11_rules 116 (.ref a :: ls) st h ↔ az_W C R k_X11_rules 117 (.ref a :: ls) (.ref a :: st) h := ap_aload rfl rfl
theorem u_X11_rules_117 : az_W C R k_X11_rules 117 ls (.ref 97 :: st) (130, P, I, L) ↔ az_W C R k_X11_rules 120 ls (.int (I 97 4) :: st) (130, P, I, L) := ap_getI rfl kn_97
theorem u_X11_rules_120 : az_W C R k_X11_rules 120 ls st h ↔ az_W C R k_X11_rules 121 ls (.int 1 :: st) h := ap_const rfl
theorem u_X11_rules_121 : az_W C R k_X11_rules 121 ls (.int y :: .int x :: st) h ↔ az_W C R k_X11_rules 122 ls (.int (x - y) :: st) h := ap_ii (f := fun x y => x - y) rfl
theorem u_X11_rules_122 : az_W C R k_X11_rules 122 ls [.int x] h ↔ R (some (.int x)) h := ap_iret rfl
end
