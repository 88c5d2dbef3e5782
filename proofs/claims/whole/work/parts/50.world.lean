/-! ===== the machine's heap holds the numbered cells ===== -/
/-- where the cells begin; where static rows (and the script, at 3) lie; the classes as the tables have them; the three kinds of rows -/
abbrev az_G : Type := Nat × (Nat → Nat) × va_G × (ClassId × ClassId × ClassId)
def az_ad (G : az_G) (a : Nat) : Nat := if a < 9000 then G.1 + a else G.2.1 (a - 9000)
def az_tr (G : az_G) : Value → Value
  | .ref a => .ref (az_ad G a)
  | v => v
def az_fv (G : az_G) (h : az_H) (a : Nat) (q : Nat × Nat) : Value := match q.1 with
  | 0 => .int (h.2.2.1 a q.2)
  | 1 => .long (h.2.2.2 a q.2)
  | _ => va_rf ((h.2.1 a q.2).map (az_ad G))
def az_fs (G : az_G) (h : az_H) (a ci : Nat) : List Value := (az_ft ci).zipIdx.map (az_fv G h a)
def az_e (G : az_G) (h : az_H) (a : Nat) : va_E := match az_kd a with
  | (0, ci) => .inr (ci, az_fs G h a ci)
  | (1, n) => .inl (G.2.2.2.1, n, .inl (h.2.2.1 a))
  | (2, n) => .inl (G.2.2.2.2.1, n, .inl (h.2.2.1 a))
  | (_, n) => .inl (G.2.2.2.2.2, n, .inr (.inr (.inr (.inr (fun j => (h.2.1 a j).map (az_ad G))))))
def az_ws (G : az_G) (h : az_H) : va_W := (List.range h.1).map fun a => (G.1 + a, az_e G h a)
def az_A (G : az_G) : Nat → Prop := fun q => G.1 ≤ q
def az_tys (G : az_G) : List (ClassId × FieldType) := [(G.2.2.2.1, .int), (G.2.2.2.2.1, .boolean), (G.2.2.2.2.2, .array .int)]
def az_Fr (h : az_H) : Prop := ∀ a, h.1 ≤ a → ∀ j, h.2.1 a j = none ∧ h.2.2.1 a j = 0 ∧ h.2.2.2 a j = 0
def az_Wd (G : az_G) (h : az_H) (H : Heap) : Prop := H.size = G.1 + h.1 ∧ h.1 ≤ 9000 ∧ va_P G.2.2.1 vwCl (az_ws G h) H ∧ az_Fr h
theorem az_ws_at {G : az_G} {h : az_H} {a : Nat} (ha : a < h.1) : (az_ws G h)[a]? = some (G.1 + a, az_e G h a) := by
  simp [az_ws, ha]
theorem az_ws_len (G : az_G) (h : az_H) : (az_ws G h).length = h.1 := by simp [az_ws]
theorem az_ws_D (G : az_G) (h : az_H) : va_D (az_A G) (az_ws G h) := by
  have key : ∀ (k : Nat) (q : Nat × va_E), (az_ws G h)[k]? = some q → q.1 = G.1 + k := by
    intro k q hk
    have hl : k < h.1 := by
      have := (List.getElem?_eq_some_iff.mp hk).1
      rw [az_ws_len] at this; exact this
    rw [az_ws_at hl] at hk
    cases hk; rfl
  refine ⟨fun i j x y hi hj hxy => ?_, fun k q hk => ?_⟩
  · have h1 := key i x hi
    have h2 := key j y hj
    omega
  · show G.1 ≤ q.1
    rw [key k q hk]; exact Nat.le_add_right _ _
/-- one cell changed -/
theorem az_ws_set {G : az_G} {h h' : az_H} {a : Nat} (hn : h'.1 = h.1) (ho : ∀ b, b ≠ a → az_e G h' b = az_e G h b) : (az_ws G h).set a (G.1 + a, az_e G h' a) = az_ws G h' := by
  apply List.ext_getElem?
  intro i
  by_cases hi : i < h.1
  · have hi' : i < h'.1 := by omega
    rw [az_ws_at hi']
    by_cases ia : i = a
    · subst ia
      rw [List.getElem?_set_self (by rw [az_ws_len]; exact hi)]
    · rw [List.getElem?_set_ne (Ne.symm ia), az_ws_at hi, ho i ia]
  · rw [List.getElem?_eq_none (by rw [List.length_set, az_ws_len]; omega), List.getElem?_eq_none (by rw [az_ws_len]; omega)]
theorem az_kn_o {n a ci : Nat} (h : az_kn n a = (0, ci)) : a < n ∧ az_kd a = (0, ci) := by
  unfold az_kn at h
  split at h
  · exact ⟨by assumption, h⟩
  · split at h
    · unfold az_kd at h
      rw [if_neg (by omega)] at h
      split at h <;> simp at h
    · simp at h
theorem az_kn_r {n a k z : Nat} (h : az_kn n a = (z, k)) (hz : z = 1 ∨ z = 2 ∨ z = 3) : a < n ∧ az_kd a = (z, k) := by
  unfold az_kn at h
  split at h
  · exact ⟨by assumption, h⟩
  · split at h
    · unfold az_kd at h
      rw [if_neg (by omega)] at h
      split at h
      · have := congrArg Prod.fst h; simp at this; omega
      · have := congrArg Prod.fst h; simp at this; omega
    · have := congrArg Prod.fst h; simp at this; omega
theorem az_kl_ne4 : ∀ q ∈ az_kl, q.1 ≠ 4 := by decide +kernel
theorem az_kd4 {a k : Nat} (h : az_kd a = (4, k)) : 9000 ≤ a ∧ a < 9003 ∧ k = 3 := by
  unfold az_kd at h
  split at h
  · exfalso
    by_cases hl : a < az_kl.length
    · have h2 : az_kl.getD a (9, 0) = az_kl[a] := by simp [List.getD, hl]
      rw [h2] at h
      exact az_kl_ne4 _ (List.getElem_mem hl) (by rw [h])
    · have h2 : az_kl.getD a (9, 0) = (9, 0) := by simp [List.getD, List.getElem?_eq_none (Nat.le_of_not_lt hl)]
      rw [h2] at h
      simp at h
  · split at h
    · refine ⟨by omega, by assumption, ?_⟩
      have := congrArg Prod.snd h; simpa using this.symm
    · simp at h
theorem az_kn_s {n a k : Nat} (h : az_kn n a = (4, k)) : 9000 ≤ a ∧ a < 9003 ∧ k = 3 := by
  unfold az_kn at h
  split at h
  · exact az_kd4 h
  · split at h
    · exact az_kd4 h
    · simp at h
theorem az_in_vp {i : Int32} {n : Nat} (h : az_in i n) : vp_in i n := vp_in_iff.mpr h
theorem az_ad_lt {G : az_G} {a : Nat} (h : a < 9000) : az_ad G a = G.1 + a := if_pos h
/-- what an object's cell is -/
theorem az_e_o {G : az_G} {h : az_H} {a ci : Nat} (hk : az_kd a = (0, ci)) : az_e G h a = .inr (ci, az_fs G h a ci) := by simp [az_e, hk]
theorem az_e_i {G : az_G} {h : az_H} {a n : Nat} (hk : az_kd a = (1, n)) : az_e G h a = .inl (G.2.2.2.1, n, .inl (h.2.2.1 a)) := by simp [az_e, hk]
theorem az_e_z {G : az_G} {h : az_H} {a n : Nat} (hk : az_kd a = (2, n)) : az_e G h a = .inl (G.2.2.2.2.1, n, .inl (h.2.2.1 a)) := by simp [az_e, hk]
theorem az_e_a {G : az_G} {h : az_H} {a n : Nat} (hk : az_kd a = (3, n)) : az_e G h a = .inl (G.2.2.2.2.2, n, .inr (.inr (.inr (.inr (fun j => (h.2.1 a j).map (az_ad G)))))) := by simp [az_e, hk]
theorem az_fs_at {G : az_G} {h : az_H} {a ci j t : Nat} (hj : (az_ft ci)[j]? = some t) : (az_fs G h a ci)[j]? = some (az_fv G h a (t, j)) := by
  simp [az_fs, List.getElem?_map, List.getElem?_zipIdx, hj]
theorem az_fs_len (G : az_G) (h : az_H) (a ci : Nat) : (az_fs G h a ci).length = (az_ft ci).length := by simp [az_fs]
/-- a cell is what its own rows of the three tables make it -/
theorem az_e_cong {G : az_G} {h h' : az_H} {a : Nat} (hP : ∀ j, h'.2.1 a j = h.2.1 a j) (hI : ∀ j, h'.2.2.1 a j = h.2.2.1 a j) (hL : ∀ j, h'.2.2.2 a j = h.2.2.2 a j) : az_e G h' a = az_e G h a := by
  have e1 : h'.2.1 a = h.2.1 a := funext hP
  have e2 : h'.2.2.1 a = h.2.2.1 a := funext hI
  have e3 : h'.2.2.2 a = h.2.2.2 a := funext hL
  have e4 : az_fv G h' a = az_fv G h a := by
    funext q
    simp only [az_fv, e1, e2, e3]
  simp only [az_e, az_fs, e1, e2, e4]
/-- one field written -/
theorem az_fs_set {G : az_G} {h h' : az_H} {a ci j t : Nat} (hj : (az_ft ci)[j]? = some t) (ho : ∀ u k, k ≠ j → az_fv G h' a (u, k) = az_fv G h a (u, k)) : (az_fs G h a ci).set j (az_fv G h' a (t, j)) = az_fs G h' a ci := by
  apply List.ext_getElem?
  intro i
  have hl : j < (az_ft ci).length := (List.getElem?_eq_some_iff.mp hj).1
  by_cases hi : i < (az_ft ci).length
  · obtain ⟨u, hu⟩ : ∃ u, (az_ft ci)[i]? = some u := ⟨_, List.getElem?_eq_getElem hi⟩
    rw [az_fs_at hu]
    by_cases ij : i = j
    · subst ij
      rw [List.getElem?_set_self (by rw [az_fs_len]; exact hi)]
      rw [hu] at hj; cases hj; rfl
    · rw [List.getElem?_set_ne (Ne.symm ij), az_fs_at hu, ho u i ij]
  · rw [List.getElem?_eq_none (by rw [List.length_set, az_fs_len]; omega), List.getElem?_eq_none (by rw [az_fs_len]; omega)]
/-- slots of a cell -/
def az_sz (a : Nat) : Nat := match az_kd a with
  | (0, ci) => (az_ft ci).length
  | (_, n) => n
def az_sg : Nat → Nat
  | 0 => 0
  | n + 1 => az_sg n + az_sz n
theorem az_sg_mono {a b : Nat} (h : a ≤ b) : az_sg a ≤ az_sg b := by
  induction b with
  | zero => rw [Nat.le_zero.mp h]; exact Nat.le_refl _
  | succ b ih =>
    rcases Nat.lt_or_ge a (b + 1) with q | q
    · exact Nat.le_trans (ih (by omega)) (Nat.le_add_right _ _)
    · rw [show a = b + 1 by omega]; exact Nat.le_refl _
/-- static rows at a state: three rows of three ints, that no cell is -/
def az_snm (j : Nat) : String := match j with
  | 0 => "AT_FIRST"
  | 1 => "LOWEST_RULE"
  | _ => "HIGHEST_RULE"
def az_Sx (G : az_G) (U : State) (H : Heap) : Prop := ∀ j, j < 3 → va_Z RX6 (az_snm j) "[I" (.ref (G.2.1 j)) (az_A G) U H ∧ va_X (G.2.1 j) 3 (az_sc (9000 + j)) U H ∧ G.2.1 j < G.1
theorem az_Sx.moved {G : az_G} {u U : State} {H : Heap} (hvm : u.vm.Alike U.vm) (h : az_Sx G u H) : az_Sx G U H := fun j hj => ⟨(h j hj).1.moved hvm, (h j hj).2.1.moved hvm, (h j hj).2.2⟩
theorem az_Sx.kept {G : az_G} {U : State} {H H1 : Heap} (hs : G.1 ≤ H.size) (h : az_Sx G U H) (hq : ∀ a : Nat, a < H.size → ¬ az_A G a → H1[a]? = H[a]?) : az_Sx G U H1 := fun j hj => ⟨(h j hj).1.kept hq, (h j hj).2.1.kept (hq _ (Nat.lt_of_lt_of_le (h j hj).2.2 hs) (Nat.not_le.mpr (h j hj).2.2)), (h j hj).2.2⟩
/-- the words that every method has, and those of nest mates -/
def lwG : List Cond := lw_tbl.filter goodWord
theorem lwG_of {w : Cond} (i : Nat) (h : lw_tbl[i]? = some w) (hg : goodWord w = true) : w ∈ lwG := List.mem_filter.mpr ⟨List.mem_of_getElem? h, hg⟩
theorem lwG_good {w : Cond} (h : w ∈ lwG) : (w.onTables && w.keeps) = true ∨ ∃ ty, w = .arrayClass ty := good_of_word (List.mem_filter.mp h).2
theorem lwG_in {ws : List Cond} (h : ∀ w ∈ ws, w ∈ lwG) : GoodIn lwG ws := fun w hw => ⟨h w hw, lwG_good (h w hw)⟩
