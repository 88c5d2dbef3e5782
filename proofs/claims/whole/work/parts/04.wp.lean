/-! ===== one row for each kind of operation: what must hold ahead of it ===== -/
theorem az_un_i (x : Int32) : az_un (.int x) = .int x := rfl
theorem az_un_l (x : Int64) : az_un (.long x) = .null := rfl
theorem az_un_r (x : Nat) : az_un (.ref x) = .ref x := rfl
theorem az_un_n : az_un .null = .null := rfl
theorem az_iteF {c A : Prop} {i : Decidable c} : (@ite Prop c i A False) ↔ (c ∧ A) := by
  by_cases q : c <;> simp [q]
section WP
variable {C : az_C} {R : az_R} {cd : Nat → az_P} {pc nx t : Nat} {ls ls' st : List Value} {h : az_H} {n : Nat} {P : Nat → Nat → Option Nat} {I : Nat → Nat → Int32} {L : Nat → Nat → Int64}
theorem ap_const {v : Value} (e : cd pc = az_const v nx) : az_W C R cd pc ls st h ↔ az_W C R cd nx ls (v :: st) h := by
  rw [az_at e]; simp [az_const, az_F_go]
theorem ap_iload {i : Nat} {x : Int32} (e : cd pc = az_iload i nx) (hi : ls[i]? = some (.int x)) : az_W C R cd pc ls st h ↔ az_W C R cd nx ls (.int x :: st) h := by
  rw [az_at e]; simp [az_iload, az_F_go, hi]
theorem ap_lload {i : Nat} {x : Int64} (e : cd pc = az_lload i nx) (hi : ls[i]? = some (.long x)) : az_W C R cd pc ls st h ↔ az_W C R cd nx ls (.long x :: st) h := by
  rw [az_at e]; simp [az_lload, az_F_go, hi]
theorem ap_aload {i : Nat} {x : Nat} (e : cd pc = az_aload i nx) (hi : ls[i]? = some (.ref x)) : az_W C R cd pc ls st h ↔ az_W C R cd nx ls (.ref x :: st) h := by
  rw [az_at e]; simp [az_aload, az_F_go, hi]
theorem ap_istore {i : Nat} {x : Int32} (e : cd pc = az_istore i nx) (hi : az_st1 ls i (.int x) = some ls') : az_W C R cd pc ls (.int x :: st) h ↔ az_W C R cd nx ls' st h := by
  rw [az_at e]; simp [az_istore, az_F_go, hi]
theorem ap_astore {i : Nat} {x : Nat} (e : cd pc = az_astore i nx) (hi : az_st1 ls i (.ref x) = some ls') : az_W C R cd pc ls (.ref x :: st) h ↔ az_W C R cd nx ls' st h := by
  rw [az_at e]; simp [az_astore, az_F_go, hi]
theorem ap_lstore {i : Nat} {x : Int64} (e : cd pc = az_lstore i nx) (hi : az_st2 ls i (.long x) = some ls') : az_W C R cd pc ls (.long x :: st) h ↔ az_W C R cd nx ls' st h := by
  rw [az_at e]; simp [az_lstore, az_F_go, hi]
theorem ap_iinc {i : Nat} {x c : Int32} (e : cd pc = az_iinc i c nx) (h0 : ls[i]? = some (.int x)) (hi : az_st1 ls i (.int (x + c)) = some ls') : az_W C R cd pc ls st h ↔ az_W C R cd nx ls' st h := by
  rw [az_at e]; simp [az_iinc, az_F_go, hi, h0]
theorem ap_ii {f : Int32 → Int32 → Int32} {x y : Int32} (e : cd pc = az_ii f nx) : az_W C R cd pc ls (.int y :: .int x :: st) h ↔ az_W C R cd nx ls (.int (f x y) :: st) h := by
  rw [az_at e]; simp [az_ii, az_F_go]
theorem ap_idiv {x y : Int32} (e : cd pc = az_idiv nx) : az_W C R cd pc ls (.int y :: .int x :: st) h ↔ (¬ y = 0 ∧ az_W C R cd nx ls (.int (x / y) :: st) h) := by
  rw [az_at e]; by_cases q : y = 0 <;> simp [az_idiv, az_F_go, az_F_no, q]
theorem ap_irem {x y : Int32} (e : cd pc = az_irem nx) : az_W C R cd pc ls (.int y :: .int x :: st) h ↔ (¬ y = 0 ∧ az_W C R cd nx ls (.int (x - x / y * y) :: st) h) := by
  rw [az_at e]; by_cases q : y = 0 <;> simp [az_irem, az_F_go, az_F_no, q]
theorem ap_i {f : Int32 → Int32} {x : Int32} (e : cd pc = az_i f nx) : az_W C R cd pc ls (.int x :: st) h ↔ az_W C R cd nx ls (.int (f x) :: st) h := by
  rw [az_at e]; simp [az_i, az_F_go]
theorem ap_ll {f : Int64 → Int64 → Int64} {x y : Int64} (e : cd pc = az_ll f nx) : az_W C R cd pc ls (.long y :: .long x :: st) h ↔ az_W C R cd nx ls (.long (f x y) :: st) h := by
  rw [az_at e]; simp [az_ll, az_F_go]
theorem ap_ldiv {x y : Int64} (e : cd pc = az_ldiv nx) : az_W C R cd pc ls (.long y :: .long x :: st) h ↔ (¬ y = 0 ∧ az_W C R cd nx ls (.long (x / y) :: st) h) := by
  rw [az_at e]; by_cases q : y = 0 <;> simp [az_ldiv, az_F_go, az_F_no, q]
theorem ap_lrem {x y : Int64} (e : cd pc = az_lrem nx) : az_W C R cd pc ls (.long y :: .long x :: st) h ↔ (¬ y = 0 ∧ az_W C R cd nx ls (.long (x - x / y * y) :: st) h) := by
  rw [az_at e]; by_cases q : y = 0 <;> simp [az_lrem, az_F_go, az_F_no, q]
theorem ap_l {f : Int64 → Int64} {x : Int64} (e : cd pc = az_l f nx) : az_W C R cd pc ls (.long x :: st) h ↔ az_W C R cd nx ls (.long (f x) :: st) h := by
  rw [az_at e]; simp [az_l, az_F_go]
theorem ap_li {f : Int64 → Int32 → Int64} {x : Int64} {y : Int32} (e : cd pc = az_li f nx) : az_W C R cd pc ls (.int y :: .long x :: st) h ↔ az_W C R cd nx ls (.long (f x y) :: st) h := by
  rw [az_at e]; simp [az_li, az_F_go]
theorem ap_i2l {x : Int32} (e : cd pc = az_i2l nx) : az_W C R cd pc ls (.int x :: st) h ↔ az_W C R cd nx ls (.long x.toInt64 :: st) h := by
  rw [az_at e]; simp [az_i2l, az_F_go]
theorem ap_l2i {x : Int64} (e : cd pc = az_l2i nx) : az_W C R cd pc ls (.long x :: st) h ↔ az_W C R cd nx ls (.int x.toInt32 :: st) h := by
  rw [az_at e]; simp [az_l2i, az_F_go]
theorem ap_lcmp {x y : Int64} (e : cd pc = az_lcmp nx) : az_W C R cd pc ls (.long y :: .long x :: st) h ↔ az_W C R cd nx ls (.int (lg_cmp x y) :: st) h := by
  rw [az_at e]; simp [az_lcmp, az_F_go]
theorem ap_dupi {x : Int32} (e : cd pc = az_dup nx) : az_W C R cd pc ls (.int x :: st) h ↔ az_W C R cd nx ls (.int x :: .int x :: st) h := by
  rw [az_at e]; simp [az_dup, az_F_go]
theorem ap_dupr {x : Nat} (e : cd pc = az_dup nx) : az_W C R cd pc ls (.ref x :: st) h ↔ az_W C R cd nx ls (.ref x :: .ref x :: st) h := by
  rw [az_at e]; simp [az_dup, az_F_go]
theorem ap_dup2 {x : Nat} {y : Int32} (e : cd pc = az_dup2 nx) : az_W C R cd pc ls (.int y :: .ref x :: st) h ↔ az_W C R cd nx ls (.int y :: .ref x :: .int y :: .ref x :: st) h := by
  rw [az_at e]; simp [az_dup2, az_F_go]
theorem ap_goto (e : cd pc = az_goto t) : az_W C R cd pc ls st h ↔ az_W C R cd t ls st h := by
  rw [az_at e]; simp [az_goto, az_F_go]
theorem ap_ifeq {x : Int32} (e : cd pc = az_ifeq t nx) : az_W C R cd pc ls (.int x :: st) h ↔ if x = 0 then az_W C R cd t ls st h else az_W C R cd nx ls st h := by
  rw [az_at e]; simp [az_ifeq, az_F_go, az_F_ite]
theorem ap_ifne {x : Int32} (e : cd pc = az_ifne t nx) : az_W C R cd pc ls (.int x :: st) h ↔ if x = 0 then az_W C R cd nx ls st h else az_W C R cd t ls st h := by
  rw [az_at e]; simp [az_ifne, az_F_go, az_F_ite]
theorem ap_iflt {x : Int32} (e : cd pc = az_iflt t nx) : az_W C R cd pc ls (.int x :: st) h ↔ if x < 0 then az_W C R cd t ls st h else az_W C R cd nx ls st h := by
  rw [az_at e]; simp only [az_iflt, az_F_go, az_F_ite, Nat.le_refl, true_and]
theorem ap_ifge {x : Int32} (e : cd pc = az_ifge t nx) : az_W C R cd pc ls (.int x :: st) h ↔ if 0 ≤ x then az_W C R cd t ls st h else az_W C R cd nx ls st h := by
  rw [az_at e]; simp only [az_ifge, az_F_go, az_F_ite, Nat.le_refl, true_and]
theorem ap_ifgt {x : Int32} (e : cd pc = az_ifgt t nx) : az_W C R cd pc ls (.int x :: st) h ↔ if 0 < x then az_W C R cd t ls st h else az_W C R cd nx ls st h := by
  rw [az_at e]; simp only [az_ifgt, az_F_go, az_F_ite, Nat.le_refl, true_and]
theorem ap_ifle {x : Int32} (e : cd pc = az_ifle t nx) : az_W C R cd pc ls (.int x :: st) h ↔ if x ≤ 0 then az_W C R cd t ls st h else az_W C R cd nx ls st h := by
  rw [az_at e]; simp only [az_ifle, az_F_go, az_F_ite, Nat.le_refl, true_and]
theorem ap_iceq {x y : Int32} (e : cd pc = az_iceq t nx) : az_W C R cd pc ls (.int y :: .int x :: st) h ↔ if x = y then az_W C R cd t ls st h else az_W C R cd nx ls st h := by
  rw [az_at e]; simp only [az_iceq, az_F_go, az_F_ite, Nat.le_refl, true_and]
theorem ap_icne {x y : Int32} (e : cd pc = az_icne t nx) : az_W C R cd pc ls (.int y :: .int x :: st) h ↔ if x = y then az_W C R cd nx ls st h else az_W C R cd t ls st h := by
  rw [az_at e]; simp only [az_icne, az_F_go, az_F_ite, Nat.le_refl, true_and]
theorem ap_iclt {x y : Int32} (e : cd pc = az_iclt t nx) : az_W C R cd pc ls (.int y :: .int x :: st) h ↔ if x < y then az_W C R cd t ls st h else az_W C R cd nx ls st h := by
  rw [az_at e]; simp only [az_iclt, az_F_go, az_F_ite, Nat.le_refl, true_and]
theorem ap_icge {x y : Int32} (e : cd pc = az_icge t nx) : az_W C R cd pc ls (.int y :: .int x :: st) h ↔ if y ≤ x then az_W C R cd t ls st h else az_W C R cd nx ls st h := by
  rw [az_at e]; simp only [az_icge, az_F_go, az_F_ite, Nat.le_refl, true_and]
theorem ap_icgt {x y : Int32} (e : cd pc = az_icgt t nx) : az_W C R cd pc ls (.int y :: .int x :: st) h ↔ if y < x then az_W C R cd t ls st h else az_W C R cd nx ls st h := by
  rw [az_at e]; simp only [az_icgt, az_F_go, az_F_ite, Nat.le_refl, true_and]
theorem ap_icle {x y : Int32} (e : cd pc = az_icle t nx) : az_W C R cd pc ls (.int y :: .int x :: st) h ↔ if x ≤ y then az_W C R cd t ls st h else az_W C R cd nx ls st h := by
  rw [az_at e]; simp only [az_icle, az_F_go, az_F_ite, Nat.le_refl, true_and]
theorem ap_switch {x : Int32} {ps : List (Int32 × Nat)} {d : Nat} (e : cd pc = az_switch ps d) : az_W C R cd pc ls (.int x :: st) h ↔ az_W C R cd (az_pick x d ps) ls st h := by
  rw [az_at e]; simp [az_switch, az_F_go]
theorem ap_getI {ci j a : Nat} (e : cd pc = az_getI ci j nx) (hk : az_kn n a = (0, ci)) : az_W C R cd pc ls (.ref a :: st) (n, P, I, L) ↔ az_W C R cd nx ls (.int (I a j) :: st) (n, P, I, L) := by
  rw [az_at e]; simp [az_getI, az_F_go, hk]
theorem ap_getL {ci j a : Nat} (e : cd pc = az_getL ci j nx) (hk : az_kn n a = (0, ci)) : az_W C R cd pc ls (.ref a :: st) (n, P, I, L) ↔ az_W C R cd nx ls (.long (L a j) :: st) (n, P, I, L) := by
  rw [az_at e]; simp [az_getL, az_F_go, hk]
theorem ap_getP {ci j a q : Nat} (e : cd pc = az_getP ci j nx) (hk : az_kn n a = (0, ci)) (hp : P a j = some q) : az_W C R cd pc ls (.ref a :: st) (n, P, I, L) ↔ az_W C R cd nx ls (.ref q :: st) (n, P, I, L) := by
  rw [az_at e]; simp [az_getP, az_F_go, hk, hp]
theorem ap_putI {ci j a : Nat} {v : Int32} (e : cd pc = az_putI ci j nx) (hk : az_kn n a = (0, ci)) : az_W C R cd pc ls (.int v :: .ref a :: st) (n, P, I, L) ↔ az_W C R cd nx ls st (n, P, az_uI I a j v, L) := by
  rw [az_at e]; simp [az_putI, az_F_go, hk]
theorem ap_putL {ci j a : Nat} {v : Int64} (e : cd pc = az_putL ci j nx) (hk : az_kn n a = (0, ci)) : az_W C R cd pc ls (.long v :: .ref a :: st) (n, P, I, L) ↔ az_W C R cd nx ls st (n, P, I, az_uL L a j v) := by
  rw [az_at e]; simp [az_putL, az_F_go, hk]
theorem ap_putP {ci j a v : Nat} (e : cd pc = az_putP ci j nx) (hk : az_kn n a = (0, ci)) : az_W C R cd pc ls (.ref v :: .ref a :: st) (n, P, I, L) ↔ az_W C R cd nx ls st (n, az_uP P a j (some v), I, L) := by
  rw [az_at e]; simp [az_putP, az_F_go, hk]
theorem ap_iald {a k : Nat} {i : Int32} (e : cd pc = az_iald nx) (hk : az_kn n a = (1, k)) : az_W C R cd pc ls (.int i :: .ref a :: st) (n, P, I, L) ↔ (az_in i k ∧ az_W C R cd nx ls (.int (I a i.toNatClampNeg) :: st) (n, P, I, L)) := by
  rw [az_at e]; simp only [az_iald, hk, az_F_ite, az_F_go, az_F_rt, az_F_no, Nat.le_refl, true_and, az_iteF]
theorem ap_sald {a k : Nat} {i : Int32} (e : cd pc = az_iald nx) (hk : az_kn n a = (4, k)) : az_W C R cd pc ls (.int i :: .ref a :: st) (n, P, I, L) ↔ (az_in i k ∧ az_W C R cd nx ls (.int (az_sc a i.toNatClampNeg) :: st) (n, P, I, L)) := by
  rw [az_at e]; simp only [az_iald, hk, az_F_ite, az_F_go, az_F_rt, az_F_no, Nat.le_refl, true_and, az_iteF]
theorem ap_iast {a k : Nat} {i v : Int32} (e : cd pc = az_iast nx) (hk : az_kn n a = (1, k)) : az_W C R cd pc ls (.int v :: .int i :: .ref a :: st) (n, P, I, L) ↔ (az_in i k ∧ az_W C R cd nx ls st (n, P, az_uI I a i.toNatClampNeg v, L)) := by
  rw [az_at e]; simp only [az_iast, hk, az_F_ite, az_F_go, az_F_rt, az_F_no, Nat.le_refl, true_and, az_iteF]
theorem ap_zald {a k : Nat} {i : Int32} (e : cd pc = az_zald nx) (hk : az_kn n a = (2, k)) : az_W C R cd pc ls (.int i :: .ref a :: st) (n, P, I, L) ↔ (az_in i k ∧ az_W C R cd nx ls (.int (I a i.toNatClampNeg) :: st) (n, P, I, L)) := by
  rw [az_at e]; simp only [az_zald, hk, az_F_ite, az_F_go, az_F_rt, az_F_no, Nat.le_refl, true_and, az_iteF]
theorem ap_zast {a k : Nat} {i v : Int32} (e : cd pc = az_zast nx) (hk : az_kn n a = (2, k)) : az_W C R cd pc ls (.int v :: .int i :: .ref a :: st) (n, P, I, L) ↔ ((az_in i k ∧ (v = 0 ∨ v = 1)) ∧ az_W C R cd nx ls st (n, P, az_uI I a i.toNatClampNeg v, L)) := by
  rw [az_at e]; simp only [az_zast, hk, az_F_ite, az_F_go, az_F_rt, az_F_no, Nat.le_refl, true_and, az_iteF]
theorem ap_aald {a k : Nat} {i : Int32} (e : cd pc = az_aald nx) (hk : az_kn n a = (3, k)) : az_W C R cd pc ls (.int i :: .ref a :: st) (n, P, I, L) ↔ (az_in i k ∧ ∃ q, P a i.toNatClampNeg = some q ∧ az_W C R cd nx ls (.ref q :: st) (n, P, I, L)) := by
  rw [az_at e]; simp only [az_aald, hk, az_F_ite, az_F_no, az_iteF]
  cases hq : P a i.toNatClampNeg with
  | none => simp [az_F_no]
  | some y => simp [az_F_go]
theorem ap_new {ci : Nat} (e : cd pc = az_new ci nx) (hk : az_kd n = (0, ci)) : az_W C R cd pc ls st (n, P, I, L) ↔ az_W C R cd nx ls (.ref n :: st) (n + 1, P, I, L) := by
  rw [az_at e]; simp [az_new, az_F_go, hk]
theorem ap_newa {k : Nat} {i : Int32} (e : cd pc = az_newa k nx) (hi : 0 ≤ i.toInt ∧ az_kd n = (k, i.toNatClampNeg)) : az_W C R cd pc ls (.int i :: st) (n, P, I, L) ↔ az_W C R cd nx ls (.ref n :: st) (n + 1, P, I, L) := by
  rw [az_at e]; simp only [az_newa, if_pos hi, az_F_go, Nat.le_succ, true_and]
theorem ap_mna {k i : Int32} (e : cd pc = az_mna nx) (hi : 0 ≤ i.toInt ∧ 0 ≤ k.toInt ∧ az_kd n = (3, i.toNatClampNeg) ∧ ((List.range i.toNatClampNeg).all fun j => decide (az_kd (n + 1 + j) = (1, k.toNatClampNeg))) = true) : az_W C R cd pc ls (.int k :: .int i :: st) (n, P, I, L) ↔ az_W C R cd nx ls (.ref n :: st) (n + 1 + i.toNatClampNeg, az_uR P n i.toNatClampNeg, I, L) := by
  rw [az_at e]; simp only [az_mna, if_pos hi, az_F_go]
  exact ⟨fun q => q.2, fun q => ⟨by omega, q⟩⟩
theorem ap_gets {a : Nat} (e : cd pc = az_gets a nx) : az_W C R cd pc ls st h ↔ az_W C R cd nx ls (.ref a :: st) h := by
  rw [az_at e]; simp [az_gets, az_F_go]
theorem ap_ivs {m k : Nat} {as st' : List Value} (e : cd pc = az_ivs m k nx) (hp : az_pop k [] st = some (as, st')) (hl : st'.length ≤ 4) : az_W C R cd pc ls st h ↔ az_F C R (az_W C R cd) h (az_cl m as nx ls st') := by
  rw [az_at e]; simp [az_ivs, hp, hl]
theorem ap_ivi {m a : Nat} (e : cd pc = az_ivi m nx) (hl : st.length ≤ 4) : az_W C R cd pc ls (.ref a :: st) h ↔ az_F C R (az_W C R cd) h (az_cl m [.ref a] nx ls st) := by
  rw [az_at e]; simp [az_ivi, hl]
theorem ap_ivv {m k ci a : Nat} {as st' : List Value} (e : cd pc = az_ivv m k ci nx) (hp : az_pop k [] st = some (as, .ref a :: st')) (hk : az_kn h.1 a = (0, ci)) (hl : st'.length ≤ 4) : az_W C R cd pc ls st h ↔ az_F C R (az_W C R cd) h (az_cl m (.ref a :: as) nx ls st') := by
  rw [az_at e]; simp [az_ivv, hp, hl, hk]
theorem ap_oin {a : Nat} (e : cd pc = az_oin nx) (hl : st.length ≤ 4) : az_W C R cd pc ls (.ref a :: st) h ↔ az_W C R cd nx ls st h := by
  rw [az_at e]; simp [az_oin, az_F_go, hl]
theorem ap_copy {a b k k' : Nat} {i dp sp : Int32} (e : cd pc = az_copy nx) (ha : az_kn n a = (1, k)) (hb : az_kn n b = (1, k')) : az_W C R cd pc ls [.int i, .int dp, .ref b, .int sp, .ref a] (n, P, I, L) ↔ ((0 ≤ sp.toInt ∧ 0 ≤ dp.toInt ∧ 0 ≤ i.toInt ∧ sp.toInt + i.toInt ≤ k ∧ dp.toInt + i.toInt ≤ k') ∧ az_W C R cd nx ls [] (n, P, az_uC I b (va_cpy (I a) (I b) sp.toNatClampNeg dp.toNatClampNeg i.toNatClampNeg), L)) := by
  rw [az_at e]; simp only [az_copy, ha, hb, az_F_ite, az_F_go, az_F_no, Nat.le_refl, true_and, az_iteF, and_true]
theorem ap_iim {f : Int32 → Int32 → Int32} {x y : Int32} (e : cd pc = az_iim f nx) (hl : st.length ≤ 4) : az_W C R cd pc ls (.int y :: .int x :: st) h ↔ az_W C R cd nx ls (.int (f x y) :: st) h := by
  rw [az_at e]; simp [az_iim, az_F_go, hl]
theorem ap_lm {f : Int64 → Int64} {x : Int64} (e : cd pc = az_lm f nx) (hl : st.length ≤ 4) : az_W C R cd pc ls (.long x :: st) h ↔ az_W C R cd nx ls (.long (f x) :: st) h := by
  rw [az_at e]; simp [az_lm, az_F_go, hl]
theorem ap_ret (e : cd pc = az_ret) : az_W C R cd pc ls [] h ↔ R none h := by
  rw [az_at e]; simp [az_ret, az_F_rt]
theorem ap_iret {x : Int32} (e : cd pc = az_iret) : az_W C R cd pc ls [.int x] h ↔ R (some (.int x)) h := by
  rw [az_at e]; simp [az_iret, az_F_rt]
theorem ap_zret {x : Int32} (e : cd pc = az_zret) : az_W C R cd pc ls [.int x] h ↔ ((x = 0 ∨ x = 1) ∧ R (some (.int x)) h) := by
  rw [az_at e]; simp only [az_zret,  az_F_ite, az_F_go, az_F_rt, az_F_no, Nat.le_refl, true_and, az_iteF]
theorem ap_lret {x : Int64} (e : cd pc = az_lret) : az_W C R cd pc ls [.long x] h ↔ R (some (.long x)) h := by
  rw [az_at e]; simp [az_lret, az_F_rt]
theorem ap_aret {x : Nat} (e : cd pc = az_aret) : az_W C R cd pc ls [.ref x] h ↔ R (some (.ref x)) h := by
  rw [az_at e]; simp [az_aret, az_F_rt]
theorem ap_sld {M : Nat} {xs : Nat → Int32} {i : Int32} (e : cd pc = az_sld M xs nx) : az_W C R cd pc ls (.int i :: .ref 9003 :: st) h ↔ (az_in i M ∧ az_W C R cd nx ls (.int (xs i.toNatClampNeg) :: st) h) := by
  rw [az_at e]; simp only [az_sld,  az_F_ite, az_F_go, az_F_rt, az_F_no, Nat.le_refl, true_and, az_iteF]
theorem ap_slen {M : Nat} (e : cd pc = az_slen M nx) : az_W C R cd pc ls (.ref 9003 :: st) h ↔ az_W C R cd nx ls (.int (Int32.ofNat M) :: st) h := by
  rw [az_at e]; simp [az_slen, az_F_go]
end WP
