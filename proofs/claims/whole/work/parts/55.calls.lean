/-! ===== new cells, calls, ends ===== -/
theorem az_Wd.grow {G : az_G} {h h' : az_H} {H H1 : Heap} (hw : az_Wd G h H) (hle : h.1 ≤ h'.1) (h9 : h'.1 ≤ 9000) (hI : h'.2.2.1 = h.2.2.1) (hL : h'.2.2.2 = h.2.2.2) (hP : ∀ b, (b < h.1 ∨ h'.1 ≤ b) → ∀ j, h'.2.1 b j = h.2.1 b j) (hz : H1.size = G.1 + h'.1) (ho : ∀ q, q < H.size → H1[q]? = H[q]?) (hnew : ∀ a, h.1 ≤ a → a < h'.1 → va_at G.2.2.1 vwCl (G.1 + a, az_e G h' a) H1) : az_Wd G h' H1 := by
  refine ⟨hz, h9, ?_, ?_⟩
  · intro k q hk
    have hl : k < h'.1 := by
      have := (List.getElem?_eq_some_iff.mp hk).1
      rw [az_ws_len] at this; exact this
    rw [az_ws_at hl] at hk
    cases hk
    by_cases hkn : k < h.1
    · have e1 : az_e G h' k = az_e G h k := az_e_cong (fun j => hP k (Or.inl hkn) j) (fun j => by rw [hI]) (fun j => by rw [hL])
      rw [e1]
      have h1 := hw.2.2.1 k _ (az_ws_at hkn)
      exact h1.kept (ho _ h1.lt)
    · exact hnew k (by omega) hl
  · intro a ha j
    rw [hP a (Or.inr ha) j, hI, hL]
    exact hw.2.2.2 a (by omega) j
theorem az_kd_lt {a z n : Nat} (h : az_kd a = (z, n)) (hz : z = 0 ∨ z = 1 ∨ z = 2 ∨ z = 3) : a < 9000 := by
  unfold az_kd at h
  split at h
  · assumption
  · split at h
    · have := congrArg Prod.fst h; simp at this; omega
    · have := congrArg Prod.fst h; simp at this; omega
theorem az_kl_sz : ∀ q ∈ az_kl, (q.1 = 1 ∨ q.1 = 2 ∨ q.1 = 3) → q.2 ≤ 240 := by decide +kernel
theorem az_kd_sz {a z n : Nat} (h : az_kd a = (z, n)) (hz : z = 1 ∨ z = 2 ∨ z = 3) : n ≤ 240 := by
  have hl := az_kd_lt h (by omega)
  unfold az_kd at h
  rw [if_pos hl] at h
  by_cases hq : a < az_kl.length
  · have h2 : az_kl.getD a (9, 0) = az_kl[a] := by simp [List.getD, hq]
    rw [h2] at h
    have h3 := az_kl_sz _ (List.getElem_mem hq)
    rw [h] at h3
    exact h3 hz
  · have h2 : az_kl.getD a (9, 0) = (9, 0) := by simp [List.getD, List.getElem?_eq_none (Nat.le_of_not_lt hq)]
    rw [h2] at h
    have := congrArg Prod.fst h; simp at this; omega
theorem az_sg_s (n : Nat) : az_sg (n + 1) = az_sg n + az_sz n := rfl
theorem az_sub {a b c : Nat} (h1 : b ≤ a) (h : a ≤ c) : c - a + (a - b) = c - b := by omega
section OK
variable {own : String} {cc : ByteArray} {nL : Nat} {ret : Option FieldType} {nm : String} {pc nx t : Nat}
theorem ok_new {ci idx N : Nat} {Cn : String} {T : u_T} {ty0 : Nat → FieldType} (hc : vwCl[ci]? = some (Cn, T, N)) (hin : ∀ w ∈ u_ws Cn T N, w ∈ lwG) (hty : ∀ k, k < N → parseFieldDescriptor (T k).2.2.1 = some (ty0 k)) (hN : (az_ft ci).length = N) (hdef : ∀ j, j < N → (((az_ft ci)[j]? = some 0 ∧ ty0 j = .int) ∨ ((az_ft ci)[j]? = some 1 ∧ ty0 j = .long) ∨ ((az_ft ci)[j]? = some 2 ∧ defaultValue (ty0 j) = .null))) (h1 : Cond.classLink own idx Cn ∈ lwG) (h2 : Cond.instantiable Cn N ∈ lwG) (h3 : Cond.initialized Cn ∈ lwG) (hd : decode cc pc = .ok (.new idx, 3)) : az_Opk own cc nL ret nm pc (az_new ci (pc + 3)) := by
  intro p l e R s m args below meth c Q G d n0 n1 C Rp X ls st h hf
  obtain ⟨hk, hk2⟩ := iv_new hf
  have hle : h.1 + 1 ≤ n1 := hk2.1
  refine ⟨by omega, fun hn H locs lsA hw hS hl => ?_⟩
  have hlt := az_kd_lt hk (by omega)
  have hsz : az_sz h.1 = N := by simp [az_sz, hk, hN]
  have hKn := X.2.1.1.1 ci _ hc
  have hsg : az_sg (h.1 + 1) ≤ az_sg n1 := az_sg_mono hle
  have hsg0 : az_sg n0 ≤ az_sg h.1 := az_sg_mono hn
  rw [az_sg_s, hsz] at hsg
  refine W.newcK X.1.1 X.1.2.1 X.1.2.2.2.1 (X.1.2.2.2.2 _ h1) (X.1.2.2.2.2 _ h2) (X.1.2.2.2.2 _ h3) rfl hd (Nat.le_trans (show h.1 - n0 + 1 ≤ n1 - n0 by omega) X.2.2.1.2.2.1) (Nat.le_trans (show az_sg h.1 - az_sg n0 + N ≤ az_sg n1 - az_sg n0 by omega) X.2.2.1.2.2.2) hKn.2.1 hw.1 fun H1 kC hkC e1 z1 o1 => ?_
  have hS1 : va_S (az_A G) s.heap H1 locs := ⟨Nat.le_trans hS.1 (by rw [z1, ← hw.1]; omega), fun x g1 g2 => (o1 x (by rw [← hw.1]; exact Nat.lt_of_lt_of_le g1 hS.1)).trans (hS.2.1 x g1 g2), hS.2.2⟩
  have hw1 : az_Wd G (h.1 + 1, h.2.1, h.2.2.1, h.2.2.2) H1 := by
    refine hw.grow (Nat.le_succ _) (by show h.1 + 1 ≤ 9000; omega) rfl rfl (fun _ _ _ => rfl) (by rw [z1]; rfl) (fun q hq => o1 q (by rw [← hw.1]; exact hq)) (fun a ha hb => ?_)
    have ea : a = h.1 := by have hb' : a < h.1 + 1 := hb; omega
    subst ea
    rw [az_e_o hk]
    refine ⟨_, hc, (u_born ty0 X.1.2.2.2.2 hin hKn hkC e1 hty).to (fun j hj => ?_)⟩
    have hfr := hw.2.2.2 h.1 (Nat.le_refl _) j
    rcases hdef j hj with ⟨g1, g2⟩ | ⟨g1, g2⟩ | ⟨g1, g2⟩
    · rw [g2]; simp [vp_V, List.getD, az_fs_at g1, az_fv, hfr.2.1, defaultValue]
    · rw [g2]; simp [vp_V, List.getD, az_fs_at g1, az_fv, hfr.2.2, defaultValue]
    · rw [g2]; simp [vp_V, List.getD, az_fs_at g1, az_fv, hfr.1, va_rf]
  have h9 := hk2.2 (by show n0 ≤ h.1 + 1; omega) H1 locs lsA hw1 hS1 hl
  have ead : az_ad G h.1 = G.1 + h.1 := az_ad_lt hlt
  have h9 : W p l e R s m args below meth c H1 locs (h.1 + 1 - n0) (az_sg (h.1 + 1) - az_sg n0) Q (F0 m (pc + 3) lsA (.ref (az_ad G h.1) :: st.map (az_tr G))) := h9
  rw [ead, az_sg_s, hsz, show h.1 + 1 - n0 = h.1 - n0 + 1 by omega, show az_sg h.1 + N - az_sg n0 = az_sg h.1 - az_sg n0 + N by omega] at h9
  exact h9
theorem ok_newa {k : Nat} {at0 : ArrayType} {ty : FieldType} (hk0 : (k = 1 ∧ at0 = .int ∧ ty = .int) ∨ (k = 2 ∧ at0 = .boolean ∧ ty = .boolean)) (h1 : Cond.arrayClass ty ∈ lwG) (hd : decode cc pc = .ok (.newarray at0, 2)) : az_Opk own cc nL ret nm pc (az_newa k (pc + 2)) := by
  intro p l e R s m args below meth c Q G d n0 n1 C Rp X ls st h hf
  obtain ⟨i, st1, rfl, ⟨hi, hk⟩, hk2⟩ := iv_newa hf
  have hle : h.1 + 1 ≤ n1 := hk2.1
  refine ⟨by omega, fun hn H locs lsA hw hS hl => ?_⟩
  have hlt := az_kd_lt hk (by omega)
  have hsm := az_kd_sz hk (by omega)
  have hsz : az_sz h.1 = i.toNatClampNeg := by
    rcases hk0 with ⟨q, -, -⟩ | ⟨q, -, -⟩ <;> simp [az_sz, hk, q]
  have hsg : az_sg (h.1 + 1) ≤ az_sg n1 := az_sg_mono hle
  have hsg0 : az_sg n0 ≤ az_sg h.1 := az_sg_mono hn
  rw [az_sg_s, hsz] at hsg
  have hty : newarray.typeOf at0 = ty := by rcases hk0 with ⟨-, rfl, rfl⟩ | ⟨-, rfl, rfl⟩ <;> rfl
  refine va_newaK X.1.1 X.1.2.1 (atype := at0) (by rw [hty]; exact X.1.2.2.2.2 _ h1) rfl hd rfl (aw_nn hi) rfl (by rw [hty]; rcases hk0 with ⟨-, -, rfl⟩ | ⟨-, -, rfl⟩ <;> simp [componentBytes] <;> omega) (Nat.le_trans (show h.1 - n0 + 1 ≤ n1 - n0 by omega) X.2.2.1.2.2.1) (Nat.le_trans (show az_sg h.1 - az_sg n0 + i.toNatClampNeg ≤ az_sg n1 - az_sg n0 by omega) X.2.2.1.2.2.2) hw.1 fun H1 cA e1 z1 o1 _ hnm => ?_
  rw [hty] at e1 hnm
  have hS1 : va_S (az_A G) s.heap H1 locs := ⟨Nat.le_trans hS.1 (by rw [z1, ← hw.1]; omega), fun x g1 g2 => (o1 x (by rw [← hw.1]; exact Nat.lt_of_lt_of_le g1 hS.1)).trans (hS.2.1 x g1 g2), hS.2.2⟩
  have hw1 : az_Wd G (h.1 + 1, h.2.1, h.2.2.1, h.2.2.2) H1 := by
    refine hw.grow (Nat.le_succ _) (by show h.1 + 1 ≤ 9000; omega) rfl rfl (fun _ _ _ => rfl) (by rw [z1]; rfl) (fun q hq => o1 q (by rw [← hw.1]; exact hq)) (fun a ha hb => ?_)
    have ea : a = h.1 := by have hb' : a < h.1 + 1 := hb; omega
    subst ea
    have hz0 : h.2.2.1 h.1 = fun _ => 0 := funext fun j => (hw.2.2.2 h.1 (Nat.le_refl _) j).2.1
    rcases hk0 with ⟨rfl, -, rfl⟩ | ⟨rfl, -, rfl⟩
    · have ec : cA = G.2.2.2.1 := Option.some.inj (hnm.symm.trans (X.2.1.1.2 0 _ rfl).2)
      rw [az_e_i hk]
      show H1[G.1 + h.1]? = some (vp_cell _ _)
      rw [e1, ec, vp_cell_i]
      show _ = some (arrV _ _ fun j => .int (h.2.2.1 h.1 j))
      rw [hz0]; rfl
    · have ec : cA = G.2.2.2.2.1 := Option.some.inj (hnm.symm.trans (X.2.1.1.2 1 _ rfl).2)
      rw [az_e_z hk]
      show H1[G.1 + h.1]? = some (vp_cell _ _)
      rw [e1, ec, vp_cell_i]
      show _ = some (arrV _ _ fun j => .int (h.2.2.1 h.1 j))
      rw [hz0]; rfl
  have h9 := hk2.2 (by show n0 ≤ h.1 + 1; omega) H1 locs lsA hw1 hS1 hl
  have ead : az_ad G h.1 = G.1 + h.1 := az_ad_lt hlt
  have h9 : W p l e R s m args below meth c H1 locs (h.1 + 1 - n0) (az_sg (h.1 + 1) - az_sg n0) Q (F0 m (pc + 2) lsA (.ref (az_ad G h.1) :: st1.map (az_tr G))) := h9
  rw [ead, az_sg_s, hsz, show h.1 + 1 - n0 = h.1 - n0 + 1 by omega, show az_sg h.1 + i.toNatClampNeg - az_sg n0 = az_sg h.1 - az_sg n0 + i.toNatClampNeg by omega] at h9
  exact h9
/-- values popped -/
theorem az_pop_spec : ∀ (n : Nat) (acc st as st' : List Value), az_pop n acc st = some (as, st') → ∃ bs, as = bs ++ acc ∧ bs.length = n ∧ st = bs.reverse ++ st'
  | 0, acc, st, as, st', h => by
    simp only [az_pop, Option.some.injEq, Prod.mk.injEq] at h
    exact ⟨[], by simp [h.1], rfl, by simp [h.2]⟩
  | n + 1, acc, [], as, st', h => by simp [az_pop] at h
  | n + 1, acc, v :: st, as, st', h => by
    simp only [az_pop] at h
    obtain ⟨bs, h1, h2, h3⟩ := az_pop_spec n (v :: acc) st as st' h
    exact ⟨bs ++ [v], by simp [h1], by simp [h2], by simp [h3]⟩
theorem az_cat8 (G : az_G) {st : List Value} (h : st.length ≤ 4) : ((st.map (az_tr G)).map fun v => v.category).sum ≤ 8 := by
  have key : ∀ l : List Value, (l.map fun v => v.category).sum ≤ 2 * l.length := by
    intro l
    induction l with
    | nil => simp
    | cons v l ih =>
      have hv : v.category ≤ 2 := by rcases lv_cat v with q | q <;> omega
      simp only [List.map_cons, List.sum_cons, List.length_cons]
      omega
  have := key (st.map (az_tr G))
  rw [List.length_map] at this
  omega
/-- behind a call -/
theorem aw_call {p : Program} {l : Launch} {e : Env} {R : Room} {s : State} {m : MethodId} {args : Array Value} {below : List Frame} {meth : Method} {c : Code} {H : Heap} {locs : List Loc} {cells slots mc ms : Nat} {Q : State → Prop} {lsA : Array Slot} {rest st0 : List Value} {a : Array Value} {G : az_G} {r : Option Value} {h' : az_H} (hr : va_Run p l e R s m args below meth c H locs cells slots mc ms (F0 m pc lsA st0) rest (az_Qs G r h' a) (az_A G)) (hS : va_S (az_A G) s.heap H locs)
    (kk : ∀ (H1 : Heap) (locs1 : List Loc), az_Wd G h' H1 → va_S (az_A G) s.heap H1 locs1 → W p l e R s m args below meth c H1 locs1 (cells + mc) (slots + ms) Q (F0 m (pc + 3) lsA ((r.map (az_tr G)).toList ++ rest))) : W p l e R s m args below meth c H locs cells slots Q (F0 m pc lsA st0) := by
  intro T hT X
  obtain ⟨v, st₀, t, T', L, h0, X', hL, e1, e2, ⟨hv, hw, hz, hk⟩, st⟩ := hr T hT X
  cases hv
  rw [h0] at hz hk
  obtain ⟨t2, a1, b1⟩ := kk T'.heap (locs ++ L) (by rw [e1]; exact hw)
    ⟨Nat.le_trans hS.1 (by rw [e1]; exact hz), fun q h1 h2 => by rw [e1, hk q (Nat.lt_of_lt_of_le h1 hS.1) h2]; exact hS.2.1 q h1 h2, fun q hq => by
      rcases List.mem_append.mp hq with h | h
      · exact hS.2.2 q h
      · exact hL q h⟩ T' rfl X'
  exact ⟨t2, st t2 a1, b1⟩
/-- the start of a callee, from the caller's place -/
theorem az_Pre_of {s : State} {G : az_G} {h : az_H} {H : Heap} {locs : List Loc} (hK : va_K G.2.2.1 vwCl (az_tys G) s) (hSx : az_Sx G s s.heap) (hN : az_Nx s) (hG : G.1 ≤ s.heap.size) (hw : az_Wd G h H) (hS : va_S (az_A G) s.heap H locs) : ∀ U : State, U.heap = H → s.WarmedH U.vm → az_Pre G h U := by
  intro U hU hW
  refine ⟨by rw [hU]; exact hw, va_K.moved hW.alike hK, ?_, fun w hw2 => lwN_warm hW w hw2 (hN w hw2)⟩
  have h1 : az_Sx G s H := hSx.kept hG (fun a h1 h2 => hS.2.1 a h1 h2)
  rw [hU]
  exact h1.moved hW.alike
theorem az_blind {G : az_G} {h : az_H} {av : List Value} : FrameBlind (va_Pc av (az_Pre G h)) := by
  intro a U g mk q
  obtain ⟨q0, q1, q2, q3, q4⟩ := q
  exact ⟨q0, q1, va_K.moved (u := U) (U := U.calling g mk a) (Vm.Alike.refl U.vm) q2, q3.moved (Vm.Alike.refl U.vm), fun w hw => lwN_warm (s := U) (U := U.calling g mk a) (State.WarmedH.refl U) w hw (q4 w hw)⟩
/-- what a call needs of the tables -/
def az_Cb (own : String) (idx m np : Nat) : Prop := az_cw m ∈ lwG ∧ Cond.initialized (az_T m).1.cls ∈ lwG ∧ ((az_T m).1.cls ≠ "java/lang/invoke/MethodHandle" ∧ (az_T m).1.cls ≠ "java/lang/invoke/VarHandle" ∧ (parseMethodDescriptor (az_T m).1.desc).map (fun d => d.parameters.length) = some np) ∧ (az_T m).2.2.1 ≤ 17
theorem az_wd_good (m : Nat) (h : az_cw m ∈ lwG) : GoodIn lwG (az_wd m) := lwG_in (fun w hw => by
  rcases List.mem_cons.mp hw with q | q
  · rw [q]; exact h
  · exact q)
theorem az_room {R : Room} {d mc ms k : Nat} (hf : d + 1 ≤ R.frames) (hl : 36 * d + 36 ≤ R.locals) (hk : k ≤ 17) : (az_rm d mc ms).frames + 1 ≤ R.frames ∧ 8 + (k + 11) + (az_rm d mc ms).locals ≤ R.locals := ⟨hf, by show 8 + (k + 11) + 36 * d ≤ R.locals; omega⟩
theorem ok_ivs {mno np idx : Nat} (hc : az_Cb own idx mno np) (hst : Cond.static (az_T mno).1 ∈ lwG) (hl0 : Cond.methodLink own idx (az_T mno).1 ∈ lwG) (hd : decode cc pc = .ok (.invokestatic idx, 3)) : az_Opk own cc nL ret nm pc (az_ivs mno np (pc + 3)) := by
  intro p l e R s m args below meth c Q G d n0 n1 C Rp X ls st h hf
  obtain ⟨as, st1, hpop, hlen, r, h', hC, hle, hk2⟩ := iv_ivs hf
  obtain ⟨bs, e1, e2, e3⟩ := az_pop_spec _ _ _ _ _ hpop
  rw [List.append_nil] at e1
  subst e1
  refine ⟨Nat.le_trans hle hk2.1, fun hn H locs lsA hw hS hl => ?_⟩
  have hsg : az_sg h'.1 ≤ az_sg n1 := az_sg_mono hk2.1
  have hsg1 : az_sg h.1 ≤ az_sg h'.1 := az_sg_mono hle
  have hsg0 : az_sg n0 ≤ az_sg h.1 := az_sg_mono hn
  have hn1 := hk2.1
  have hst2 : st.map (az_tr G) = (as.map (az_tr G)).reverse ++ st1.map (az_tr G) := by rw [e3, List.map_append, List.map_reverse]
  have hb := callB_of (args := args) (own := own) (index := idx) (R := R) (rm := az_rm d (h'.1 - h.1) (az_sg h'.1 - az_sg h.1)) (ws := az_wd mno) (ws' := lwG) np X.1.2.2.2.2 (az_wd_good mno hc.1) rfl rfl rfl (X.1.2.2.2.2 _ hc.2.1) (X.1.2.2.2.2 _ hl0) hc.2.2.1 (az_room X.2.2.1.1 X.2.2.1.2.1 hc.2.2.2)
  refine aw_call (rest := st1.map (az_tr G)) (va_runS (As := as.map (az_tr G)) (rest := st1.map (az_tr G)) ⟨X.1.1, X.1.2.1, X.1.2.2.1, X.1.2.2.2.1, X.1.2.2.2.2⟩ (X.2.2.2.1 G mno as h r h' hC) ⟨hb, X.1.2.2.2.2 _ hst⟩ ⟨az_blind, fun U hU hW => ⟨rfl, az_Pre_of X.2.1.1 X.2.1.2.1 X.2.1.2.2.1 X.2.1.2.2.2.1 hw hS U hU hW⟩⟩ rfl (by rw [List.length_map]; exact e2) hl.1 hst2 (lv_room (az_cat8 G hlen)) hd ⟨Nat.le_trans (show h.1 - n0 + (h'.1 - h.1) ≤ n1 - n0 by omega) X.2.2.1.2.2.1, Nat.le_trans (show az_sg h.1 - az_sg n0 + (az_sg h'.1 - az_sg h.1) ≤ az_sg n1 - az_sg n0 by omega) X.2.2.1.2.2.2⟩) hS (fun H1 locs1 hw1 hS1 => ?_)
  have h9 := hk2.2 (Nat.le_trans hn hle) H1 locs1 lsA hw1 hS1 hl
  rw [show h.1 - n0 + (h'.1 - h.1) = h'.1 - n0 by omega, show az_sg h.1 - az_sg n0 + (az_sg h'.1 - az_sg h.1) = az_sg h'.1 - az_sg n0 by omega]
  rw [List.map_append] at h9
  cases r <;> exact h9
theorem ok_ivsN {mno np idx : Nat} {host : String} (hc : az_Cb own idx mno np) (hst : Cond.static (az_T mno).1 ∈ lwG) (hl0 : Cond.methodLinkNest own idx (az_T mno).1 host ∈ lwN) (hd : decode cc pc = .ok (.invokestatic idx, 3)) : az_Opk own cc nL ret nm pc (az_ivs mno np (pc + 3)) := by
  intro p l e R s m args below meth c Q G d n0 n1 C Rp X ls st h hf
  obtain ⟨as, st1, hpop, hlen, r, h', hC, hle, hk2⟩ := iv_ivs hf
  obtain ⟨bs, e1, e2, e3⟩ := az_pop_spec _ _ _ _ _ hpop
  rw [List.append_nil] at e1
  subst e1
  refine ⟨Nat.le_trans hle hk2.1, fun hn H locs lsA hw hS hl => ?_⟩
  have hsg : az_sg h'.1 ≤ az_sg n1 := az_sg_mono hk2.1
  have hsg1 : az_sg h.1 ≤ az_sg h'.1 := az_sg_mono hle
  have hsg0 : az_sg n0 ≤ az_sg h.1 := az_sg_mono hn
  have hn1 := hk2.1
  have hst2 : st.map (az_tr G) = (as.map (az_tr G)).reverse ++ st1.map (az_tr G) := by rw [e3, List.map_append, List.map_reverse]
  have hb := va_cnB (args := args) (own := own) (index := idx) (R := R) (rm := az_rm d (h'.1 - h.1) (az_sg h'.1 - az_sg h.1)) (ws := az_wd mno) (ws' := lwG) np X.1.2.2.2.2 (az_wd_good mno hc.1) rfl rfl rfl (X.2.1.2.2.1 _ hl0) (X.1.2.2.2.2 _ hc.2.1) hc.2.2.1 (az_room X.2.2.1.1 X.2.2.1.2.1 hc.2.2.2)
  refine aw_call (rest := st1.map (az_tr G)) (va_runSN (As := as.map (az_tr G)) (rest := st1.map (az_tr G)) ⟨X.1.1, X.1.2.1, X.1.2.2.1, X.1.2.2.2.1, X.1.2.2.2.2⟩ (X.2.2.2.1 G mno as h r h' hC) ⟨hb, X.1.2.2.2.2 _ hst, trivial⟩ ⟨az_blind, fun U hU hW => ⟨rfl, az_Pre_of X.2.1.1 X.2.1.2.1 X.2.1.2.2.1 X.2.1.2.2.2.1 hw hS U hU hW⟩⟩ rfl (by rw [List.length_map]; exact e2) hl.1 hst2 (lv_room (az_cat8 G hlen)) hd ⟨Nat.le_trans (show h.1 - n0 + (h'.1 - h.1) ≤ n1 - n0 by omega) X.2.2.1.2.2.1, Nat.le_trans (show az_sg h.1 - az_sg n0 + (az_sg h'.1 - az_sg h.1) ≤ az_sg n1 - az_sg n0 by omega) X.2.2.1.2.2.2⟩) hS (fun H1 locs1 hw1 hS1 => ?_)
  have h9 := hk2.2 (Nat.le_trans hn hle) H1 locs1 lsA hw1 hS1 hl
  rw [show h.1 - n0 + (h'.1 - h.1) = h'.1 - n0 by omega, show az_sg h.1 - az_sg n0 + (az_sg h'.1 - az_sg h.1) = az_sg h'.1 - az_sg n0 by omega]
  rw [List.map_append] at h9
  cases r <;> exact h9
theorem ok_ivv {mno np ci idx N : Nat} {Cn : String} {T : u_T} (hc : az_Cb own idx mno np) (hcl : vwCl[ci]? = some (Cn, T, N)) (hin : Cond.instanceMethod (az_T mno).1 ∈ lwG) (hsel : Cond.selects Cn (az_T mno).1 (az_T mno).1 ∈ lwG) (hl0 : Cond.methodLink own idx (az_T mno).1 ∈ lwG) (hd : decode cc pc = .ok (.invokevirtual idx, 3)) : az_Opk own cc nL ret nm pc (az_ivv mno np ci (pc + 3)) := by
  intro p l e R s m args below meth c Q G d n0 n1 C Rp X ls st h hf
  obtain ⟨a, as, st1, hpop, ⟨hk, hlen⟩, r, h', hC, hle, hk2⟩ := iv_ivv hf
  obtain ⟨bs, e1, e2, e3⟩ := az_pop_spec _ _ _ _ _ hpop
  rw [List.append_nil] at e1
  subst e1
  obtain ⟨ha, hkd⟩ := az_kn_o hk
  refine ⟨Nat.le_trans hle hk2.1, fun hn H locs lsA hw hS hl => ?_⟩
  have hsg : az_sg h'.1 ≤ az_sg n1 := az_sg_mono hk2.1
  have hsg1 : az_sg h.1 ≤ az_sg h'.1 := az_sg_mono hle
  have hsg0 : az_sg n0 ≤ az_sg h.1 := az_sg_mono hn
  have hn1 := hk2.1
  have hst2 : st.map (az_tr G) = (as.map (az_tr G)).reverse ++ .ref (az_ad G a) :: st1.map (az_tr G) := by rw [e3, List.map_append, List.map_reverse]; rfl
  have he : (az_ws G h)[a]? = some (az_ad G a, .inr (ci, az_fs G h a ci)) := by rw [az_ws_at ha, az_e_o hkd, az_ad_lt (Nat.lt_of_lt_of_le ha hw.2.1)]
  have hb := callB_of (args := args) (own := own) (index := idx) (R := R) (rm := az_rm d (h'.1 - h.1) (az_sg h'.1 - az_sg h.1)) (ws := az_wd mno) (ws' := lwG) np X.1.2.2.2.2 (az_wd_good mno hc.1) rfl rfl rfl (X.1.2.2.2.2 _ hc.2.1) (X.1.2.2.2.2 _ hl0) hc.2.2.1 (az_room X.2.2.1.1 X.2.2.1.2.1 hc.2.2.2)
  refine aw_call (rest := st1.map (az_tr G)) (va_runV (As := as.map (az_tr G)) (rest := st1.map (az_tr G)) ⟨X.1.1, X.1.2.1, X.1.2.2.1, X.1.2.2.2.1, X.1.2.2.2.2⟩ (X.2.2.2.1 G mno (.ref a :: as) h r h' hC) ⟨hb, X.1.2.2.2.2 _ hin, X.1.2.2.2.2 _ hsel⟩ ⟨az_blind, va_recv X.2.1.1 hw.2.2.1 hcl he, fun U hU hW => ⟨rfl, az_Pre_of X.2.1.1 X.2.1.2.1 X.2.1.2.2.1 X.2.1.2.2.2.1 hw hS U hU hW⟩⟩ rfl (by rw [List.length_map]; exact e2) hl.1 hst2 (lv_room (az_cat8 G hlen)) hd ⟨Nat.le_trans (show h.1 - n0 + (h'.1 - h.1) ≤ n1 - n0 by omega) X.2.2.1.2.2.1, Nat.le_trans (show az_sg h.1 - az_sg n0 + (az_sg h'.1 - az_sg h.1) ≤ az_sg n1 - az_sg n0 by omega) X.2.2.1.2.2.2⟩) hS (fun H1 locs1 hw1 hS1 => ?_)
  have h9 := hk2.2 (Nat.le_trans hn hle) H1 locs1 lsA hw1 hS1 hl
  rw [show h.1 - n0 + (h'.1 - h.1) = h'.1 - n0 by omega, show az_sg h.1 - az_sg n0 + (az_sg h'.1 - az_sg h.1) = az_sg h'.1 - az_sg n0 by omega]
  rw [List.map_append] at h9
  cases r <;> exact h9
theorem az_pop1 {st as st' : List Value} (h : az_pop 1 [] st = some (as, st')) : ∃ v, as = [v] ∧ st = v :: st' := by
  cases st with
  | nil => simp [az_pop] at h
  | cons v st =>
    simp only [az_pop, Option.some.injEq, Prod.mk.injEq] at h
    exact ⟨v, h.1.symm, by rw [h.2]⟩
end OK
