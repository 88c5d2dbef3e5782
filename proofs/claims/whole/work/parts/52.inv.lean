/-! ===== each operation as the machine does it ===== -/
def az_Nx (U : State) : Prop := ∀ w ∈ lwN, va_Nw w U
/-- what holds at a method's start -/
def az_Pre (G : az_G) (h : az_H) (U : State) : Prop := az_Wd G h U.heap ∧ va_K G.2.2.1 vwCl (az_tys G) U ∧ az_Sx G U U.heap ∧ az_Nx U
def az_Qs (G : az_G) (r : Option Value) (h : az_H) : Array Value → State → Outcome → State → Prop := fun _ st oc t => oc = .returned (r.map (az_tr G)) ∧ az_Wd G h t.heap ∧ va_F (az_A G) st t
def az_rm (d mc ms : Nat) : Room := { frames := d, cells := mc, slots := ms, locals := 36 * d }
/-- calls keep their contracts, at a depth -/
def az_Ok (l : Launch) (d : Nat) (C : az_C) : Prop := ∀ (G : az_G) (m : Nat) (as : List Value) (h : az_H) (r : Option Value) (h' : az_H), C m as h r h' → Met l (az_T m).1 (az_wd m) (az_rm d (h'.1 - h.1) (az_sg h'.1 - az_sg h.1)) (va_Pc (as.map (az_tr G)) (az_Pre G h)) (az_Qs G r h') (h'.1 - h.1) (az_sg h'.1 - az_sg h.1) (az_A G)
/-- locals -/
def az_Lo (G : az_G) (nL : Nat) (lsA : Array Slot) (ls : List Value) : Prop := lsA.size = nL ∧ lv_wf lsA ∧ ls.length = nL ∧ ∀ (i : Nat) (v : Value), ls[i]? = some v → v ≠ .null → lsA[i]? = some (.val (az_tr G v))
def az_lv (G : az_G) (ls : List Value) : List (Nat × Value) := (List.range ls.length).filterMap fun i => match ls[i]? with
  | some v => if v = .null then none else some (i, az_tr G v)
  | none => none
theorem az_lv_mem {G : az_G} {ls : List Value} {i : Nat} {w : Value} : (i, w) ∈ az_lv G ls ↔ ∃ v, ls[i]? = some v ∧ v ≠ .null ∧ w = az_tr G v := by
  unfold az_lv
  rw [List.mem_filterMap]
  constructor
  · rintro ⟨j, hj, h⟩
    cases hq : ls[j]? with
    | none => rw [hq] at h; simp at h
    | some v =>
      rw [hq] at h
      by_cases hn : v = .null
      · simp [hn] at h
      · simp only [if_neg hn, Option.some.injEq, Prod.mk.injEq] at h
        obtain ⟨rfl, rfl⟩ := h
        exact ⟨v, hq, hn, rfl⟩
  · rintro ⟨v, hv, hn, rfl⟩
    refine ⟨i, List.mem_range.mpr (List.getElem?_eq_some_iff.mp hv).1, ?_⟩
    rw [hv]; simp [hn]
theorem az_Lo.has {G : az_G} {nL : Nat} {lsA : Array Slot} {ls : List Value} (h : az_Lo G nL lsA ls) : lv_has lsA nL (az_lv G ls) := by
  refine ⟨h.1, h.2.1, fun q hq => ?_⟩
  obtain ⟨v, h1, h2, h3⟩ := az_lv_mem.mp (show (q.1, q.2) ∈ az_lv G ls from hq)
  rw [h3]; exact h.2.2.2 _ _ h1 h2
theorem az_tr_cat (G : az_G) (v : Value) : (az_tr G v).category = v.category := by cases v <;> rfl
theorem az_un_cat {v : Value} (h : az_un v ≠ .null) : az_un v = v ∧ ¬ v.category = 2 := by
  cases v <;> simp_all [az_un, Value.category]
theorem az_st1_spec : ∀ (ls : List Value) (i : Nat) (v : Value) (ls' : List Value), az_st1 ls i v = some ls' → i < ls.length ∧ ls'.length = ls.length ∧ ls'[i]? = some v ∧ ∀ j w, j ≠ i → ls'[j]? = some w → w ≠ .null → ls[j]? = some w ∧ ¬ (j + 1 = i ∧ w.category = 2)
  | [], _, _, _, h => by simp [az_st1] at h
  | a :: r, 0, v, ls', h => by
    simp only [az_st1, Option.some.injEq] at h
    subst h
    refine ⟨by simp, by simp, by simp, fun j w hj hw hn => ?_⟩
    cases j with
    | zero => exact absurd rfl hj
    | succ j => exact ⟨by simpa using hw, by omega⟩
  | [a], n + 1, v, ls', h => by simp [az_st1] at h
  | a :: b :: r, 1, v, ls', h => by
    simp only [az_st1, Option.some.injEq] at h
    subst h
    refine ⟨by simp, by simp, by simp, fun j w hj hw hn => ?_⟩
    cases j with
    | zero =>
      simp only [List.getElem?_cons_zero, Option.some.injEq] at hw
      subst hw
      obtain ⟨h1, h2⟩ := az_un_cat hn
      exact ⟨by simp [h1], fun q => h2 (by rw [← h1]; exact q.2)⟩
    | succ j =>
      cases j with
      | zero => exact absurd rfl hj
      | succ j => exact ⟨by simpa using hw, by omega⟩
  | a :: b :: r, n + 2, v, ls', h => by
    simp only [az_st1] at h
    split at h
    · rename_i q hq
      simp only [Option.some.injEq] at h
      subst h
      obtain ⟨h1, h2, h3, h4⟩ := az_st1_spec (b :: r) (n + 1) v q hq
      refine ⟨by simp only [List.length_cons] at h1 ⊢; omega, by simp only [List.length_cons] at h2 ⊢; omega, by simpa using h3, fun j w hj hw hn => ?_⟩
      cases j with
      | zero => exact ⟨by simpa using hw, by omega⟩
      | succ j =>
        obtain ⟨h5, h6⟩ := h4 j w (by omega) (by simpa using hw) hn
        exact ⟨by simpa using h5, fun z => h6 ⟨by omega, z.2⟩⟩
    · simp at h
theorem az_st2_spec : ∀ (ls : List Value) (i : Nat) (v : Value) (ls' : List Value), az_st2 ls i v = some ls' → i + 1 < ls.length ∧ ls'.length = ls.length ∧ ls'[i]? = some v ∧ ls'[i + 1]? = some .null ∧ ∀ j w, j ≠ i → ls'[j]? = some w → w ≠ .null → ls[j]? = some w ∧ j ≠ i + 1 ∧ ¬ (j + 1 = i ∧ w.category = 2)
  | [], _, _, _, h => by simp [az_st2] at h
  | [a], _, _, _, h => by simp [az_st2] at h
  | a :: b :: r, 0, v, ls', h => by
    simp only [az_st2, Option.some.injEq] at h
    subst h
    refine ⟨by simp, by simp, by simp, by simp, fun j w hj hw hn => ?_⟩
    cases j with
    | zero => exact absurd rfl hj
    | succ j =>
      cases j with
      | zero => simp at hw; exact absurd hw.symm hn
      | succ j => exact ⟨by simpa using hw, by omega, by omega⟩
  | a :: b :: r, n + 1, v, ls', h => by
    simp only [az_st2] at h
    split at h
    · rename_i q hq
      simp only [Option.some.injEq] at h
      subst h
      obtain ⟨h1, h2, h3, h3', h4⟩ := az_st2_spec (b :: r) n v q hq
      refine ⟨by simp only [List.length_cons] at h1 ⊢; omega, by simp only [List.length_cons] at h2 ⊢; omega, by simpa using h3, by simpa using h3', fun j w hj hw hn => ?_⟩
      cases j with
      | zero =>
        simp only [List.getElem?_cons_zero, Option.some.injEq] at hw
        by_cases hz : n = 0
        · rw [if_pos hz] at hw
          subst hw
          obtain ⟨h5, h6⟩ := az_un_cat hn
          exact ⟨by simp [h5], by omega, fun z => h6 (by rw [← h5]; exact z.2)⟩
        · rw [if_neg hz] at hw
          exact ⟨by simpa using hw, by omega, by omega⟩
      | succ j =>
        obtain ⟨h5, h6, h7⟩ := h4 j w (by omega) (by simpa using hw) hn
        exact ⟨by simpa using h5, by omega, fun z => h7 ⟨by omega, z.2⟩⟩
    · simp at h
/-- behind a store -/
theorem az_Lo.st1 {G : az_G} {nL i : Nat} {lsA lsB : Array Slot} {ls ls' : List Value} {v : Value} (h : az_Lo G nL lsA ls) (hs : az_st1 ls i v = some ls') (hb : lv_has lsB nL ((i, az_tr G v) :: (az_lv G ls).filter (fun q => !(q.1 == i) && !(q.1 + 1 == i && q.2.category == 2)))) : az_Lo G nL lsB ls' := by
  obtain ⟨h1, h2, h3, h4⟩ := az_st1_spec _ _ _ _ hs
  refine ⟨hb.1, hb.2.1, h2.trans h.2.2.1, fun j w hw hn => ?_⟩
  by_cases hj : j = i
  · subst hj
    rw [h3] at hw
    cases hw
    exact hb.2.2 (j, az_tr G v) List.mem_cons_self
  · obtain ⟨h5, h6⟩ := h4 j w hj hw hn
    refine hb.2.2 (j, az_tr G w) (List.mem_cons_of_mem _ (List.mem_filter.mpr ⟨az_lv_mem.mpr ⟨w, h5, hn, rfl⟩, ?_⟩))
    simp only [az_tr_cat, Bool.and_eq_true, Bool.not_eq_true', beq_eq_false_iff_ne, ne_eq, hj, not_false_eq_true, true_and]
    simp only [Bool.and_eq_false_iff, beq_eq_false_iff_ne, ne_eq]
    by_cases hji : j + 1 = i
    · exact Or.inr (fun z => h6 ⟨hji, z⟩)
    · exact Or.inl hji
theorem az_Lo.st2 {G : az_G} {nL i : Nat} {lsA lsB : Array Slot} {ls ls' : List Value} {v : Value} (h : az_Lo G nL lsA ls) (hs : az_st2 ls i v = some ls') (hb : lv_has lsB nL ((i, az_tr G v) :: (az_lv G ls).filter (fun q => !(q.1 == i) && (!(q.1 == i + 1) && !(q.1 + 1 == i && q.2.category == 2))))) : az_Lo G nL lsB ls' := by
  obtain ⟨h1, h2, h3, h3', h4⟩ := az_st2_spec _ _ _ _ hs
  refine ⟨hb.1, hb.2.1, h2.trans h.2.2.1, fun j w hw hn => ?_⟩
  by_cases hj : j = i
  · subst hj
    rw [h3] at hw
    cases hw
    exact hb.2.2 (j, az_tr G v) List.mem_cons_self
  · obtain ⟨h5, h5', h6⟩ := h4 j w hj hw hn
    refine hb.2.2 (j, az_tr G w) (List.mem_cons_of_mem _ (List.mem_filter.mpr ⟨az_lv_mem.mpr ⟨w, h5, hn, rfl⟩, ?_⟩))
    simp only [az_tr_cat, Bool.and_eq_true, Bool.not_eq_true', beq_eq_false_iff_ne, ne_eq, hj, h5', not_false_eq_true, true_and]
    simp only [Bool.and_eq_false_iff, beq_eq_false_iff_ne, ne_eq]
    by_cases hji : j + 1 = i
    · exact Or.inr (fun z => h6 ⟨hji, z⟩)
    · exact Or.inl hji
section INV
variable {C : az_C} {R : az_R} {K : az_K} {h : az_H} {ls st : List Value} {nx t : Nat}
theorem iv_ii {f : Int32 → Int32 → Int32} (hf : az_F C R K h ((az_ii f nx) ls st h)) : ∃ (x y : Int32) (st' : List Value), st = .int y :: .int x :: st' ∧ K nx ls (.int (f x y) :: st') h := by
  unfold az_ii at hf
  split at hf
  · exact ⟨_, _, _,  rfl, hf.2⟩
  · exact hf.elim
theorem iv_i {f : Int32 → Int32} (hf : az_F C R K h ((az_i f nx) ls st h)) : ∃ (x : Int32) (st' : List Value), st = .int x :: st' ∧ K nx ls (.int (f x) :: st') h := by
  unfold az_i at hf
  split at hf
  · exact ⟨_, _,  rfl, hf.2⟩
  · exact hf.elim
theorem iv_ll {f : Int64 → Int64 → Int64} (hf : az_F C R K h ((az_ll f nx) ls st h)) : ∃ (x y : Int64) (st' : List Value), st = .long y :: .long x :: st' ∧ K nx ls (.long (f x y) :: st') h := by
  unfold az_ll at hf
  split at hf
  · exact ⟨_, _, _,  rfl, hf.2⟩
  · exact hf.elim
theorem iv_l {f : Int64 → Int64} (hf : az_F C R K h ((az_l f nx) ls st h)) : ∃ (x : Int64) (st' : List Value), st = .long x :: st' ∧ K nx ls (.long (f x) :: st') h := by
  unfold az_l at hf
  split at hf
  · exact ⟨_, _,  rfl, hf.2⟩
  · exact hf.elim
theorem iv_li {f : Int64 → Int32 → Int64} (hf : az_F C R K h ((az_li f nx) ls st h)) : ∃ (x : Int64) (y : Int32) (st' : List Value), st = .int y :: .long x :: st' ∧ K nx ls (.long (f x y) :: st') h := by
  unfold az_li at hf
  split at hf
  · exact ⟨_, _, _,  rfl, hf.2⟩
  · exact hf.elim
theorem iv_i2l (hf : az_F C R K h ((az_i2l nx) ls st h)) : ∃ (x : Int32) (st' : List Value), st = .int x :: st' ∧ K nx ls (.long x.toInt64 :: st') h := by
  unfold az_i2l at hf
  split at hf
  · exact ⟨_, _,  rfl, hf.2⟩
  · exact hf.elim
theorem iv_l2i (hf : az_F C R K h ((az_l2i nx) ls st h)) : ∃ (x : Int64) (st' : List Value), st = .long x :: st' ∧ K nx ls (.int x.toInt32 :: st') h := by
  unfold az_l2i at hf
  split at hf
  · exact ⟨_, _,  rfl, hf.2⟩
  · exact hf.elim
theorem iv_lcmp (hf : az_F C R K h ((az_lcmp nx) ls st h)) : ∃ (x y : Int64) (st' : List Value), st = .long y :: .long x :: st' ∧ K nx ls (.int (lg_cmp x y) :: st') h := by
  unfold az_lcmp at hf
  split at hf
  · exact ⟨_, _, _,  rfl, hf.2⟩
  · exact hf.elim
theorem iv_dup2 (hf : az_F C R K h ((az_dup2 nx) ls st h)) : ∃ (x : Nat) (y : Int32) (st' : List Value), st = .int y :: .ref x :: st' ∧ K nx ls (.int y :: .ref x :: .int y :: .ref x :: st') h := by
  unfold az_dup2 at hf
  split at hf
  · exact ⟨_, _, _,  rfl, hf.2⟩
  · exact hf.elim
theorem iv_idiv (hf : az_F C R K h (az_idiv nx ls st h)) : ∃ (x y : Int32) (st' : List Value), st = .int y :: .int x :: st' ∧ ¬ y = 0 ∧ K nx ls (.int (x / y) :: st') h := by
  unfold az_idiv at hf
  split at hf
  · split at hf
    · exact hf.elim
    · exact ⟨_, _, _, rfl, by assumption, hf.2⟩
  · exact hf.elim
theorem iv_irem (hf : az_F C R K h (az_irem nx ls st h)) : ∃ (x y : Int32) (st' : List Value), st = .int y :: .int x :: st' ∧ ¬ y = 0 ∧ K nx ls (.int (x - x / y * y) :: st') h := by
  unfold az_irem at hf
  split at hf
  · split at hf
    · exact hf.elim
    · exact ⟨_, _, _, rfl, by assumption, hf.2⟩
  · exact hf.elim
theorem iv_ldiv (hf : az_F C R K h (az_ldiv nx ls st h)) : ∃ (x y : Int64) (st' : List Value), st = .long y :: .long x :: st' ∧ ¬ y = 0 ∧ K nx ls (.long (x / y) :: st') h := by
  unfold az_ldiv at hf
  split at hf
  · split at hf
    · exact hf.elim
    · exact ⟨_, _, _, rfl, by assumption, hf.2⟩
  · exact hf.elim
theorem iv_lrem (hf : az_F C R K h (az_lrem nx ls st h)) : ∃ (x y : Int64) (st' : List Value), st = .long y :: .long x :: st' ∧ ¬ y = 0 ∧ K nx ls (.long (x - x / y * y) :: st') h := by
  unfold az_lrem at hf
  split at hf
  · split at hf
    · exact hf.elim
    · exact ⟨_, _, _, rfl, by assumption, hf.2⟩
  · exact hf.elim
theorem iv_dup (hf : az_F C R K h (az_dup nx ls st h)) : ∃ (v : Value) (st' : List Value), st = v :: st' ∧ v.category = 1 ∧ K nx ls (v :: v :: st') h := by
  unfold az_dup at hf
  split at hf
  · exact ⟨_, _, rfl, rfl, hf.2⟩
  · exact ⟨_, _, rfl, rfl, hf.2⟩
  · exact hf.elim
theorem iv_iload {i : Nat} (hf : az_F C R K h (az_iload i nx ls st h)) : ∃ x : Int32, ls[i]? = some (.int x) ∧ K nx ls (.int x :: st) h := by
  unfold az_iload at hf
  split at hf
  · rename_i x hx; exact ⟨x, hx, hf.2⟩
  · exact hf.elim
theorem iv_lload {i : Nat} (hf : az_F C R K h (az_lload i nx ls st h)) : ∃ x : Int64, ls[i]? = some (.long x) ∧ K nx ls (.long x :: st) h := by
  unfold az_lload at hf
  split at hf
  · rename_i x hx; exact ⟨x, hx, hf.2⟩
  · exact hf.elim
theorem iv_aload {i : Nat} (hf : az_F C R K h (az_aload i nx ls st h)) : ∃ x : Nat, ls[i]? = some (.ref x) ∧ K nx ls (.ref x :: st) h := by
  unfold az_aload at hf
  split at hf
  · rename_i x hx; exact ⟨x, hx, hf.2⟩
  · exact hf.elim
theorem iv_istore {i : Nat} (hf : az_F C R K h (az_istore i nx ls st h)) : ∃ (x : Int32) (st' ls' : List Value), st = .int x :: st' ∧ az_st1 ls i (.int x) = some ls' ∧ K nx ls' st' h := by
  unfold az_istore at hf
  split at hf
  · split at hf
    · rename_i q; exact ⟨_, _, _, rfl, q, hf.2⟩
    · exact hf.elim
  · exact hf.elim
theorem iv_lstore {i : Nat} (hf : az_F C R K h (az_lstore i nx ls st h)) : ∃ (x : Int64) (st' ls' : List Value), st = .long x :: st' ∧ az_st2 ls i (.long x) = some ls' ∧ K nx ls' st' h := by
  unfold az_lstore at hf
  split at hf
  · split at hf
    · rename_i q; exact ⟨_, _, _, rfl, q, hf.2⟩
    · exact hf.elim
  · exact hf.elim
theorem iv_astore {i : Nat} (hf : az_F C R K h (az_astore i nx ls st h)) : ∃ (x : Nat) (st' ls' : List Value), st = .ref x :: st' ∧ az_st1 ls i (.ref x) = some ls' ∧ K nx ls' st' h := by
  unfold az_astore at hf
  split at hf
  · split at hf
    · rename_i q; exact ⟨_, _, _, rfl, q, hf.2⟩
    · exact hf.elim
  · exact hf.elim
theorem iv_iinc {i : Nat} {c : Int32} (hf : az_F C R K h (az_iinc i c nx ls st h)) : ∃ (x : Int32) (ls' : List Value), ls[i]? = some (.int x) ∧ az_st1 ls i (.int (x + c)) = some ls' ∧ K nx ls' st h := by
  unfold az_iinc at hf
  split at hf
  · split at hf
    · exact ⟨_, _, by assumption, by assumption, hf.2⟩
    · exact hf.elim
  · exact hf.elim
theorem iv_ifeq (hf : az_F C R K h (az_ifeq t nx ls st h)) : ∃ (x : Int32) (st' : List Value), st = .int x :: st' ∧ (x = 0 → K t ls st' h) ∧ (¬ (x = 0) → K nx ls st' h) := by
  unfold az_ifeq at hf
  split at hf
  · split at hf
    · rename_i q; exact ⟨_, _, rfl, fun _ => hf.2, fun z => (z q).elim⟩
    · rename_i q; exact ⟨_, _, rfl, fun z => (q z).elim, fun _ => hf.2⟩
  · exact hf.elim
theorem iv_iceq (hf : az_F C R K h (az_iceq t nx ls st h)) : ∃ (x y : Int32) (st' : List Value), st = .int y :: .int x :: st' ∧ (x = y → K t ls st' h) ∧ (¬ (x = y) → K nx ls st' h) := by
  unfold az_iceq at hf
  split at hf
  · split at hf
    · rename_i q; exact ⟨_, _, _, rfl, fun _ => hf.2, fun z => (z q).elim⟩
    · rename_i q; exact ⟨_, _, _, rfl, fun z => (q z).elim, fun _ => hf.2⟩
  · exact hf.elim
theorem iv_ifne (hf : az_F C R K h (az_ifne t nx ls st h)) : ∃ (x : Int32) (st' : List Value), st = .int x :: st' ∧ (x = 0 → K nx ls st' h) ∧ (¬ (x = 0) → K t ls st' h) := by
  unfold az_ifne at hf
  split at hf
  · split at hf
    · rename_i q; exact ⟨_, _, rfl, fun _ => hf.2, fun z => (z q).elim⟩
    · rename_i q; exact ⟨_, _, rfl, fun z => (q z).elim, fun _ => hf.2⟩
  · exact hf.elim
theorem iv_icne (hf : az_F C R K h (az_icne t nx ls st h)) : ∃ (x y : Int32) (st' : List Value), st = .int y :: .int x :: st' ∧ (x = y → K nx ls st' h) ∧ (¬ (x = y) → K t ls st' h) := by
  unfold az_icne at hf
  split at hf
  · split at hf
    · rename_i q; exact ⟨_, _, _, rfl, fun _ => hf.2, fun z => (z q).elim⟩
    · rename_i q; exact ⟨_, _, _, rfl, fun z => (q z).elim, fun _ => hf.2⟩
  · exact hf.elim
theorem iv_iflt (hf : az_F C R K h (az_iflt t nx ls st h)) : ∃ (x : Int32) (st' : List Value), st = .int x :: st' ∧ (x < 0 → K t ls st' h) ∧ (¬ (x < 0) → K nx ls st' h) := by
  unfold az_iflt at hf
  split at hf
  · split at hf
    · rename_i q; exact ⟨_, _, rfl, fun _ => hf.2, fun z => (z q).elim⟩
    · rename_i q; exact ⟨_, _, rfl, fun z => (q z).elim, fun _ => hf.2⟩
  · exact hf.elim
theorem iv_iclt (hf : az_F C R K h (az_iclt t nx ls st h)) : ∃ (x y : Int32) (st' : List Value), st = .int y :: .int x :: st' ∧ (x < y → K t ls st' h) ∧ (¬ (x < y) → K nx ls st' h) := by
  unfold az_iclt at hf
  split at hf
  · split at hf
    · rename_i q; exact ⟨_, _, _, rfl, fun _ => hf.2, fun z => (z q).elim⟩
    · rename_i q; exact ⟨_, _, _, rfl, fun z => (q z).elim, fun _ => hf.2⟩
  · exact hf.elim
theorem iv_ifge (hf : az_F C R K h (az_ifge t nx ls st h)) : ∃ (x : Int32) (st' : List Value), st = .int x :: st' ∧ (0 ≤ x → K t ls st' h) ∧ (¬ (0 ≤ x) → K nx ls st' h) := by
  unfold az_ifge at hf
  split at hf
  · split at hf
    · rename_i q; exact ⟨_, _, rfl, fun _ => hf.2, fun z => (z q).elim⟩
    · rename_i q; exact ⟨_, _, rfl, fun z => (q z).elim, fun _ => hf.2⟩
  · exact hf.elim
theorem iv_icge (hf : az_F C R K h (az_icge t nx ls st h)) : ∃ (x y : Int32) (st' : List Value), st = .int y :: .int x :: st' ∧ (y ≤ x → K t ls st' h) ∧ (¬ (y ≤ x) → K nx ls st' h) := by
  unfold az_icge at hf
  split at hf
  · split at hf
    · rename_i q; exact ⟨_, _, _, rfl, fun _ => hf.2, fun z => (z q).elim⟩
    · rename_i q; exact ⟨_, _, _, rfl, fun z => (q z).elim, fun _ => hf.2⟩
  · exact hf.elim
theorem iv_ifgt (hf : az_F C R K h (az_ifgt t nx ls st h)) : ∃ (x : Int32) (st' : List Value), st = .int x :: st' ∧ (0 < x → K t ls st' h) ∧ (¬ (0 < x) → K nx ls st' h) := by
  unfold az_ifgt at hf
  split at hf
  · split at hf
    · rename_i q; exact ⟨_, _, rfl, fun _ => hf.2, fun z => (z q).elim⟩
    · rename_i q; exact ⟨_, _, rfl, fun z => (q z).elim, fun _ => hf.2⟩
  · exact hf.elim
theorem iv_icgt (hf : az_F C R K h (az_icgt t nx ls st h)) : ∃ (x y : Int32) (st' : List Value), st = .int y :: .int x :: st' ∧ (y < x → K t ls st' h) ∧ (¬ (y < x) → K nx ls st' h) := by
  unfold az_icgt at hf
  split at hf
  · split at hf
    · rename_i q; exact ⟨_, _, _, rfl, fun _ => hf.2, fun z => (z q).elim⟩
    · rename_i q; exact ⟨_, _, _, rfl, fun z => (q z).elim, fun _ => hf.2⟩
  · exact hf.elim
theorem iv_ifle (hf : az_F C R K h (az_ifle t nx ls st h)) : ∃ (x : Int32) (st' : List Value), st = .int x :: st' ∧ (x ≤ 0 → K t ls st' h) ∧ (¬ (x ≤ 0) → K nx ls st' h) := by
  unfold az_ifle at hf
  split at hf
  · split at hf
    · rename_i q; exact ⟨_, _, rfl, fun _ => hf.2, fun z => (z q).elim⟩
    · rename_i q; exact ⟨_, _, rfl, fun z => (q z).elim, fun _ => hf.2⟩
  · exact hf.elim
theorem iv_icle (hf : az_F C R K h (az_icle t nx ls st h)) : ∃ (x y : Int32) (st' : List Value), st = .int y :: .int x :: st' ∧ (x ≤ y → K t ls st' h) ∧ (¬ (x ≤ y) → K nx ls st' h) := by
  unfold az_icle at hf
  split at hf
  · split at hf
    · rename_i q; exact ⟨_, _, _, rfl, fun _ => hf.2, fun z => (z q).elim⟩
    · rename_i q; exact ⟨_, _, _, rfl, fun z => (q z).elim, fun _ => hf.2⟩
  · exact hf.elim
theorem iv_switch {ps : List (Int32 × Nat)} {d : Nat} (hf : az_F C R K h (az_switch ps d ls st h)) : ∃ (x : Int32) (st' : List Value), st = .int x :: st' ∧ K (az_pick x d ps) ls st' h := by
  unfold az_switch at hf
  split at hf
  · exact ⟨_, _, rfl, hf.2⟩
  · exact hf.elim
theorem iv_getI {ci j : Nat} (hf : az_F C R K h (az_getI ci j nx ls st h)) : ∃ (a : Nat) (st' : List Value), st = .ref a :: st' ∧ az_kn h.1 a = (0, ci) ∧ K nx ls (.int (h.2.2.1 a j) :: st') h := by
  unfold az_getI at hf
  split at hf
  · split at hf
    · exact ⟨_, _, rfl, by assumption, hf.2⟩
    · exact hf.elim
  · exact hf.elim
theorem iv_getL {ci j : Nat} (hf : az_F C R K h (az_getL ci j nx ls st h)) : ∃ (a : Nat) (st' : List Value), st = .ref a :: st' ∧ az_kn h.1 a = (0, ci) ∧ K nx ls (.long (h.2.2.2 a j) :: st') h := by
  unfold az_getL at hf
  split at hf
  · split at hf
    · exact ⟨_, _, rfl, by assumption, hf.2⟩
    · exact hf.elim
  · exact hf.elim
theorem iv_getP {ci j : Nat} (hf : az_F C R K h (az_getP ci j nx ls st h)) : ∃ (a q : Nat) (st' : List Value), st = .ref a :: st' ∧ az_kn h.1 a = (0, ci) ∧ h.2.1 a j = some q ∧ K nx ls (.ref q :: st') h := by
  unfold az_getP at hf
  split at hf
  · split at hf
    · split at hf
      · exact ⟨_, _, _, rfl, by assumption, by assumption, hf.2⟩
      · exact hf.elim
    · exact hf.elim
  · exact hf.elim
theorem iv_putI {ci j : Nat} (hf : az_F C R K h (az_putI ci j nx ls st h)) : ∃ (a : Nat) (v : Int32) (st' : List Value), st = .int v :: .ref a :: st' ∧ az_kn h.1 a = (0, ci) ∧ K nx ls st' (h.1, h.2.1, az_uI h.2.2.1 a j v, h.2.2.2) := by
  unfold az_putI at hf
  split at hf
  · split at hf
    · exact ⟨_, _, _, rfl, by assumption, hf.2⟩
    · exact hf.elim
  · exact hf.elim
theorem iv_putL {ci j : Nat} (hf : az_F C R K h (az_putL ci j nx ls st h)) : ∃ (a : Nat) (v : Int64) (st' : List Value), st = .long v :: .ref a :: st' ∧ az_kn h.1 a = (0, ci) ∧ K nx ls st' (h.1, h.2.1, h.2.2.1, az_uL h.2.2.2 a j v) := by
  unfold az_putL at hf
  split at hf
  · split at hf
    · exact ⟨_, _, _, rfl, by assumption, hf.2⟩
    · exact hf.elim
  · exact hf.elim
theorem iv_putP {ci j : Nat} (hf : az_F C R K h (az_putP ci j nx ls st h)) : ∃ (a : Nat) (v : Nat) (st' : List Value), st = .ref v :: .ref a :: st' ∧ az_kn h.1 a = (0, ci) ∧ K nx ls st' (h.1, az_uP h.2.1 a j (some v), h.2.2.1, h.2.2.2) := by
  unfold az_putP at hf
  split at hf
  · split at hf
    · exact ⟨_, _, _, rfl, by assumption, hf.2⟩
    · exact hf.elim
  · exact hf.elim
theorem iv_iald (hf : az_F C R K h (az_iald nx ls st h)) : ∃ (a n : Nat) (i : Int32) (st' : List Value), st = .int i :: .ref a :: st' ∧ az_in i n ∧ ((az_kn h.1 a = (1, n) ∧ K nx ls (.int (h.2.2.1 a i.toNatClampNeg) :: st') h) ∨ (az_kn h.1 a = (4, n) ∧ K nx ls (.int (az_sc a i.toNatClampNeg) :: st') h)) := by
  unfold az_iald at hf
  split at hf
  · split at hf
    · split at hf
      · exact ⟨_, _, _, _, rfl, by assumption, Or.inl ⟨by assumption, hf.2⟩⟩
      · exact hf.elim
    · split at hf
      · exact ⟨_, _, _, _, rfl, by assumption, Or.inr ⟨by assumption, hf.2⟩⟩
      · exact hf.elim
    · exact hf.elim
  · exact hf.elim
theorem iv_zald (hf : az_F C R K h (az_zald nx ls st h)) : ∃ (a n : Nat) (i : Int32) (st' : List Value), st = .int i :: .ref a :: st' ∧ az_in i n ∧ az_kn h.1 a = (2, n) ∧ K nx ls (.int (h.2.2.1 a i.toNatClampNeg) :: st') h := by
  unfold az_zald at hf
  split at hf
  · split at hf
    · split at hf
      · exact ⟨_, _, _, _, rfl, by assumption, by assumption, hf.2⟩
      · exact hf.elim
    · exact hf.elim
  · exact hf.elim
theorem iv_iast (hf : az_F C R K h (az_iast nx ls st h)) : ∃ (a n : Nat) (i v : Int32) (st' : List Value), st = .int v :: .int i :: .ref a :: st' ∧ az_in i n ∧ az_kn h.1 a = (1, n) ∧ K nx ls st' (h.1, h.2.1, az_uI h.2.2.1 a i.toNatClampNeg v, h.2.2.2) := by
  unfold az_iast at hf
  split at hf
  · split at hf
    · split at hf
      · exact ⟨_, _, _, _, _, rfl, by assumption, by assumption, hf.2⟩
      · exact hf.elim
    · exact hf.elim
  · exact hf.elim
theorem iv_zast (hf : az_F C R K h (az_zast nx ls st h)) : ∃ (a n : Nat) (i v : Int32) (st' : List Value), st = .int v :: .int i :: .ref a :: st' ∧ (az_in i n ∧ (v = 0 ∨ v = 1)) ∧ az_kn h.1 a = (2, n) ∧ K nx ls st' (h.1, h.2.1, az_uI h.2.2.1 a i.toNatClampNeg v, h.2.2.2) := by
  unfold az_zast at hf
  split at hf
  · split at hf
    · split at hf
      · exact ⟨_, _, _, _, _, rfl, by assumption, by assumption, hf.2⟩
      · exact hf.elim
    · exact hf.elim
  · exact hf.elim
theorem iv_aald (hf : az_F C R K h (az_aald nx ls st h)) : ∃ (a n q : Nat) (i : Int32) (st' : List Value), st = .int i :: .ref a :: st' ∧ az_in i n ∧ az_kn h.1 a = (3, n) ∧ h.2.1 a i.toNatClampNeg = some q ∧ K nx ls (.ref q :: st') h := by
  unfold az_aald at hf
  split at hf
  · split at hf
    · split at hf
      · split at hf
        · exact ⟨_, _, _, _, _, rfl, by assumption, by assumption, by assumption, hf.2⟩
        · exact hf.elim
      · exact hf.elim
    · exact hf.elim
  · exact hf.elim
theorem iv_new {ci : Nat} (hf : az_F C R K h (az_new ci nx ls st h)) : az_kd h.1 = (0, ci) ∧ K nx ls (.ref h.1 :: st) (h.1 + 1, h.2.1, h.2.2.1, h.2.2.2) := by
  unfold az_new at hf
  split at hf
  · exact ⟨by assumption, hf.2⟩
  · exact hf.elim
theorem iv_newa {k : Nat} (hf : az_F C R K h (az_newa k nx ls st h)) : ∃ (i : Int32) (st' : List Value), st = .int i :: st' ∧ (0 ≤ i.toInt ∧ az_kd h.1 = (k, i.toNatClampNeg)) ∧ K nx ls (.ref h.1 :: st') (h.1 + 1, h.2.1, h.2.2.1, h.2.2.2) := by
  unfold az_newa at hf
  split at hf
  · split at hf
    · exact ⟨_, _, rfl, by assumption, hf.2⟩
    · exact hf.elim
  · exact hf.elim
theorem iv_mna (hf : az_F C R K h (az_mna nx ls st h)) : ∃ (k n : Int32) (st' : List Value), st = .int k :: .int n :: st' ∧ (0 ≤ n.toInt ∧ 0 ≤ k.toInt ∧ az_kd h.1 = (3, n.toNatClampNeg) ∧ ((List.range n.toNatClampNeg).all fun j => decide (az_kd (h.1 + 1 + j) = (1, k.toNatClampNeg))) = true) ∧ K nx ls (.ref h.1 :: st') (h.1 + 1 + n.toNatClampNeg, az_uR h.2.1 h.1 n.toNatClampNeg, h.2.2.1, h.2.2.2) := by
  unfold az_mna at hf
  split at hf
  · split at hf
    · exact ⟨_, _, _, rfl, by assumption, hf.2⟩
    · exact hf.elim
  · exact hf.elim
theorem iv_ivs {m n : Nat} (hf : az_F C R K h (az_ivs m n nx ls st h)) : ∃ (as st' : List Value), az_pop n [] st = some (as, st') ∧ st'.length ≤ 4 ∧ ∃ r h', C m as h r h' ∧ h.1 ≤ h'.1 ∧ K nx ls (r.toList ++ st') h' := by
  unfold az_ivs at hf
  split at hf
  · split at hf
    · exact ⟨_, _, by assumption, by assumption, hf⟩
    · exact hf.elim
  · exact hf.elim
theorem iv_ivi {m : Nat} (hf : az_F C R K h (az_ivi m nx ls st h)) : ∃ (a : Nat) (st' : List Value), st = .ref a :: st' ∧ st'.length ≤ 4 ∧ ∃ r h', C m [.ref a] h r h' ∧ h.1 ≤ h'.1 ∧ K nx ls (r.toList ++ st') h' := by
  unfold az_ivi at hf
  split at hf
  · split at hf
    · exact ⟨_, _, rfl, by assumption, hf⟩
    · exact hf.elim
  · exact hf.elim
theorem iv_ivv {m n ci : Nat} (hf : az_F C R K h (az_ivv m n ci nx ls st h)) : ∃ (a : Nat) (as st' : List Value), az_pop n [] st = some (as, .ref a :: st') ∧ (az_kn h.1 a = (0, ci) ∧ st'.length ≤ 4) ∧ ∃ r h', C m (.ref a :: as) h r h' ∧ h.1 ≤ h'.1 ∧ K nx ls (r.toList ++ st') h' := by
  unfold az_ivv at hf
  split at hf
  · split at hf
    · exact ⟨_, _, _, by assumption, by assumption, hf⟩
    · exact hf.elim
  · exact hf.elim
theorem iv_oin (hf : az_F C R K h (az_oin nx ls st h)) : ∃ (a : Nat) (st' : List Value), st = .ref a :: st' ∧ st'.length ≤ 4 ∧ K nx ls st' h := by
  unfold az_oin at hf
  split at hf
  · split at hf
    · exact ⟨_, _, rfl, by assumption, hf.2⟩
    · exact hf.elim
  · exact hf.elim
theorem iv_copy (hf : az_F C R K h (az_copy nx ls st h)) : ∃ (a b n0 n1 : Nat) (n dp sp : Int32), st = [.int n, .int dp, .ref b, .int sp, .ref a] ∧ az_kn h.1 a = (1, n0) ∧ az_kn h.1 b = (1, n1) ∧ (0 ≤ sp.toInt ∧ 0 ≤ dp.toInt ∧ 0 ≤ n.toInt ∧ sp.toInt + n.toInt ≤ n0 ∧ dp.toInt + n.toInt ≤ n1) ∧ K nx ls [] (h.1, h.2.1, az_uC h.2.2.1 b (va_cpy (h.2.2.1 a) (h.2.2.1 b) sp.toNatClampNeg dp.toNatClampNeg n.toNatClampNeg), h.2.2.2) := by
  unfold az_copy at hf
  split at hf
  · split at hf
    · split at hf
      · rename_i q
        obtain ⟨q1, q2, q3, q4, q5, q6⟩ := q
        subst q6
        exact ⟨_, _, _, _, _, _, _, rfl, by assumption, by assumption, ⟨q1, q2, q3, q4, q5⟩, hf.2⟩
      · exact hf.elim
    · exact hf.elim
  · exact hf.elim
theorem iv_iim {f : Int32 → Int32 → Int32} (hf : az_F C R K h (az_iim f nx ls st h)) : ∃ (x y : Int32) (st' : List Value), st = .int y :: .int x :: st' ∧ st'.length ≤ 4 ∧ K nx ls (.int (f x y) :: st') h := by
  unfold az_iim at hf
  split at hf
  · split at hf
    · exact ⟨_, _, _, rfl, by assumption, hf.2⟩
    · exact hf.elim
  · exact hf.elim
theorem iv_lm {f : Int64 → Int64} (hf : az_F C R K h (az_lm f nx ls st h)) : ∃ (x : Int64) (st' : List Value), st = .long x :: st' ∧ st'.length ≤ 4 ∧ K nx ls (.long (f x) :: st') h := by
  unfold az_lm at hf
  split at hf
  · split at hf
    · exact ⟨_, _, rfl, by assumption, hf.2⟩
    · exact hf.elim
  · exact hf.elim
theorem iv_ret (hf : az_F C R K h (az_ret ls st h)) : st = [] ∧ R none h := by
  unfold az_ret at hf
  split at hf
  · exact ⟨rfl, hf.2⟩
  · exact hf.elim
theorem iv_iret (hf : az_F C R K h (az_iret ls st h)) : ∃ x : Int32, st = [.int x] ∧ R (some (.int x)) h := by
  unfold az_iret at hf
  split at hf
  · exact ⟨_, rfl, hf.2⟩
  · exact hf.elim
theorem iv_lret (hf : az_F C R K h (az_lret ls st h)) : ∃ x : Int64, st = [.long x] ∧ R (some (.long x)) h := by
  unfold az_lret at hf
  split at hf
  · exact ⟨_, rfl, hf.2⟩
  · exact hf.elim
theorem iv_aret (hf : az_F C R K h (az_aret ls st h)) : ∃ x : Nat, st = [.ref x] ∧ R (some (.ref x)) h := by
  unfold az_aret at hf
  split at hf
  · exact ⟨_, rfl, hf.2⟩
  · exact hf.elim
theorem iv_zret (hf : az_F C R K h (az_zret ls st h)) : ∃ x : Int32, st = [.int x] ∧ (x = 0 ∨ x = 1) ∧ R (some (.int x)) h := by
  unfold az_zret at hf
  split at hf
  · split at hf
    · exact ⟨_, rfl, by assumption, hf.2⟩
    · exact hf.elim
  · exact hf.elim
theorem iv_sld {M : Nat} {xs : Nat → Int32} (hf : az_F C R K h (az_sld M xs nx ls st h)) : ∃ (i : Int32) (st' : List Value), st = .int i :: .ref 9003 :: st' ∧ az_in i M ∧ K nx ls (.int (xs i.toNatClampNeg) :: st') h := by
  unfold az_sld at hf
  split at hf
  · split at hf
    · exact ⟨_, _, rfl, by assumption, hf.2⟩
    · exact hf.elim
  · exact hf.elim
theorem iv_slen {M : Nat} (hf : az_F C R K h (az_slen M nx ls st h)) : ∃ st' : List Value, st = .ref 9003 :: st' ∧ K nx ls (.int (Int32.ofNat M) :: st') h := by
  unfold az_slen at hf
  split at hf
  · exact ⟨_, rfl, hf.2⟩
  · exact hf.elim
end INV
