/-! ===== operations that read and write cells ===== -/
section AW
variable {p : Program} {l : Launch} {e : Env} {R : Room} {s : State} {m : MethodId} {args : Array Value} {below : List Frame} {meth : Method} {c : Code} {H : Heap} {locs : List Loc} {cells slots : Nat} {Q : State → Prop}
variable {cc : ByteArray} {pc : Nat} {ls : Array Slot} {rest : List Value} {D : va_G} {cl : List vw_C} {A : Nat → Prop} {a : Nat} {tys : List (ClassId × FieldType)} {ws : va_W} {H0 : Heap}
/-- a field written; the heap's size stays -/
theorem aw_put (hexec : p.tables.exec = Jvm.exec) (hb : c.code = cc) {own ref Cn : String} {T : u_T} {N ci index : Nat} {Ts : List Cond} (hts : ∀ w ∈ Ts, w.before args s = true) (hin : ∀ w ∈ u_ws Cn T N, w ∈ Ts) (ty0 : Nat → FieldType) (hty : ∀ k, k < N → parseFieldDescriptor (T k).2.2.1 = some (ty0 k)) (hnm : ∀ a, a < N → ∀ b, b < N → a ≠ b → (T a).2.1 ≠ (T b).2.1) (hown : s.vm.findClass own = some m.cls) (hK : va_K D cl tys s) (hP : va_P D cl ws H) (hD : va_D A ws) (hS0 : va_S A H0 H locs) (q0 : Nat) {fs : List Value} (he : ws[q0]? = some (a, .inr (ci, fs))) (hc : cl[ci]? = some (Cn, T, N)) (k : Nat) (hk : k < N) (hlink : (Cond.fieldLink own index ref (T k).2.1 (T k).2.2.1).before args s = true) (hsame : ∀ x, s.fieldFound? (T k).1 (T k).2.1 (T k).2.2.1 = some x → s.fieldFound? ref (T k).2.1 (T k).2.2.1 = some x) (hfin : (T k).2.2.2 = false ∨ ((T k).2.2.2 = true ∧ meth.name = "<init>" ∧ (T k).1 = own)) {ty : FieldType} {v : Value} (hd : parseFieldDescriptor (T k).2.2.1 = some ty) (hn : narrow ty v = v) (hfit : fits ty v = true) (hl : k < fs.length)
    (hdg : decode cc pc = .ok (.putfield index, 3)) (kk : ∀ (H1 : Heap) (locs1 : List Loc), H1.size = H.size → va_P D cl (ws.set q0 (a, .inr (ci, fs.set k v))) H1 → va_S A H0 H1 locs1 → W p l e R s m args below meth c H1 locs1 cells slots Q (F0 m (pc + 3) ls rest)) : W p l e R s m args below meth c H locs cells slots Q (F0 m pc ls (v :: .ref a :: rest)) := by
  have hap := va_apart (own := own) hts hin ty0 hty hnm hK hc
  obtain ⟨r, h1, cell, q1, q2, q3, q4⟩ := hP q0 _ he
  have hr : r = (Cn, T, N) := Option.some.inj (h1.symm.trans hc)
  subst hr
  obtain ⟨hS, hfc, kC, hkC, hkind⟩ := hK.1 ci _ hc
  obtain ⟨cf, kf, fi, f, hi, hsl⟩ := hS k hk
  have hlay := hts _ (hin _ (u_in_lay hk))
  unfold u_lay at hlay
  have hst := (u_facts hfc hkC (u_lays hts hin hk) hi).1
  rcases hfin with hfin | ⟨hfin, hin2, hdecl⟩
  · rw [if_neg (by rw [hfin]; decide)] at hlay
    have h6 := u_store hfc hkC hkind hlay hi hd hn hfit
    refine W.putK hexec hb (f := f) ⟨hown, hlink, ⟨_, _, _, hsame _ hi⟩, hst⟩ (by rw [q2]; exact h6) q1 q3 (by rw [hsl]; exact k2_hasslot (q4 k hk)) rfl rfl hdg fun H' e1 e2 e3 => ?_
    rw [hsl] at e1 ⊢
    exact kk H' _ e2 (hP.set hD he ⟨_, hc, t_OB.to (V := updV (vp_V fs) k v) ⟨_, e1, q2, q3, t_set q4 hap hk v⟩ (fun j _ => vp_updV_set hl v j)⟩ e3) (hS0.put e2 e3 (hD.2 q0 _ he))
  · rw [if_pos hfin] at hlay
    have hcf : m.cls = cf := by
      obtain ⟨_, _, c', _, _, _, -, -, hf', -, -, -, hown2, -⟩ := Cond.laysFinal_spec hlay
      have e1 : c' = cf := by have := hi.symm.trans hf'; simp at this; exact this.1.symm
      rw [hdecl] at hown2
      rw [← e1]; exact Option.some.inj (hown.symm.trans hown2)
    have h6 := u_fits hfc hkC hkind (Or.inr hlay) hi hd hn hfit
    refine W.putFinK hexec hb hown hlink (hsame _ hi) hst hcf hin2 (by rw [q2]; exact h6) q1 q3 (by rw [hsl]; exact k2_hasslot (q4 k hk)) rfl rfl hdg fun H' e1 e2 e3 => ?_
    rw [hsl] at e1 ⊢
    exact kk H' _ e2 (hP.set hD he ⟨_, hc, t_OB.to (V := updV (vp_V fs) k v) ⟨_, e1, q2, q3, t_set q4 hap hk v⟩ (fun j _ => vp_updV_set hl v j)⟩ e3) (hS0.put e2 e3 (hD.2 q0 _ he))
theorem aw_iast (hexec : p.tables.exec = Jvm.exec) (hb : c.code = cc) (hK : va_K D cl tys s) (hP : va_P D cl ws H) (hD : va_D A ws) (hS : va_S A H0 H locs) (q0 t0 : Nat) {cA : ClassId} {n : Nat} {f : Nat → Int32} (ha : ws[q0]? = some (a, .inl (cA, n, .inl f))) (ht : tys[t0]? = some (cA, .int)) {i : Int32} {x : Int32} (hin : vp_in i n) (hdg : decode cc pc = .ok (.iastore, 1))
    (kk : ∀ (H1 : Heap) (locs1 : List Loc), H1.size = H.size → va_P D cl (ws.set q0 (a, .inl (cA, n, .inl (upd f i.toNatClampNeg x)))) H1 → va_S A H0 H1 locs1 → W p l e R s m args below meth c H1 locs1 cells slots Q (F0 m (pc + 1) ls rest)) : W p l e R s m args below meth c H locs cells slots Q (F0 m pc ls (.int x :: .int i :: .ref a :: rest)) := by
  refine W.iast hexec hb (hP q0 _ ha) ((hK.2 t0 _ ht).1 n (fun j => .int (f j))) (fun q => by cases q) (by show ¬ (i < 0 ∨ (arrV _ _ _).slots.size ≤ _); rw [arrV_size]; exact hin) rfl rfl hdg fun H1 e z oq => ?_
  refine kk H1 _ z (hP.set hD ha ?_ oq) (hS.put z oq (hD.2 q0 _ ha))
  show H1[a]? = some (vp_cell _ _)
  rw [e]
  rw [vp_cell_i, vp_cell_i, arrV_store]
  congr 2
  funext q
  by_cases hq : q = i.toNatClampNeg
  · subst hq
    simp [updV, upd]
  · simp [updV, upd, hq]
theorem aw_zast (hexec : p.tables.exec = Jvm.exec) (hb : c.code = cc) (hK : va_K D cl tys s) (hP : va_P D cl ws H) (hD : va_D A ws) (hS : va_S A H0 H locs) (q0 t0 : Nat) {cA : ClassId} {n : Nat} {f : Nat → Int32} (ha : ws[q0]? = some (a, .inl (cA, n, .inl f))) (ht : tys[t0]? = some (cA, .boolean)) {i : Int32} {x : Int32} (hx : x = 0 ∨ x = 1) (hin : vp_in i n) (hdg : decode cc pc = .ok (.bastore, 1))
    (kk : ∀ (H1 : Heap) (locs1 : List Loc), H1.size = H.size → va_P D cl (ws.set q0 (a, .inl (cA, n, .inl (upd f i.toNatClampNeg x)))) H1 → va_S A H0 H1 locs1 → W p l e R s m args below meth c H1 locs1 cells slots Q (F0 m (pc + 1) ls rest)) : W p l e R s m args below meth c H locs cells slots Q (F0 m pc ls (.int x :: .int i :: .ref a :: rest)) := by
  refine W.zast hexec hb (hP q0 _ ha) ((hK.2 t0 _ ht).1 n (fun j => .int (f j))) (fun q => by cases q) (by show ¬ (i < 0 ∨ (arrV _ _ _).slots.size ≤ _); rw [arrV_size]; exact hin) rfl rfl hdg fun H1 e z oq => ?_
  refine kk H1 _ z (hP.set hD ha ?_ oq) (hS.put z oq (hD.2 q0 _ ha))
  show H1[a]? = some (vp_cell _ _)
  rw [e]
  have hnx : narrow .boolean (.int x) = .int x := by rcases hx with rfl | rfl <;> rfl
  rw [hnx, vp_cell_i, vp_cell_i, arrV_store]
  congr 2
  funext q
  by_cases hq : q = i.toNatClampNeg
  · subst hq
    simp [updV, upd]
  · simp [updV, upd, hq]
theorem aw_nn {z : Int32} (hz : 0 ≤ z.toInt) : ¬ z < 0 := by
  intro h
  have := Int32.lt_iff_toInt_lt.mp h
  simp at this
  omega
theorem aw_nt (z : Int32) (hz : 0 ≤ z.toInt) : z.toInt = (z.toNatClampNeg : Int) := by
  show z.toInt = ((z.toInt.toNat : Nat) : Int)
  omega
theorem aw_copy {cc : ByteArray} (hexec : p.tables.exec = Jvm.exec) (hb : c.code = cc) (hml : c.maxLocals = ls.size) {own : String} {index : Nat} (hown : s.vm.findClass own = some m.cls) (hlink : (Cond.methodLink own index arraycopyName).before args s = true) (hnat : (Cond.native arraycopyName).before args s = true) (hstat : (Cond.static arraycopyName).before args s = true) (hini : (Cond.initialized "java/lang/System").before args s = true)
    (hK : va_K D cl tys s) (hP : va_P D cl ws H) (hD : va_D A ws) (hS : va_S A H0 H locs) (q0 q1 t0 : Nat) {a0 : Nat} {c0 : ClassId} {n0 n1 : Nat} {f g : Nat → Int32} (ha0 : ws[q0]? = some (a0, .inl (c0, n0, .inl f))) (ha1 : ws[q1]? = some (a, .inl (c0, n1, .inl g))) (ht0 : tys[t0]? = some (c0, .int))
    {sp dp n : Int32} (g1 : 0 ≤ sp.toInt) (g2 : 0 ≤ dp.toInt) (g3 : 0 ≤ n.toInt) (g4 : sp.toInt + n.toInt ≤ n0) (g5 : dp.toInt + n.toInt ≤ n1)
    (hframes : 1 ≤ R.frames) (hlocals : 36 ≤ R.locals) (hdg : decode cc pc = .ok (.invokestatic index, 3))
    (kk : ∀ (H1 : Heap) (locs1 : List Loc), H1.size = H.size → va_P D cl (ws.set q1 (a, .inl (c0, n1, .inl (va_cpy f g sp.toNatClampNeg dp.toNatClampNeg n.toNatClampNeg)))) H1 → va_S A H0 H1 locs1 → W p l e R s m args below meth c H1 locs1 cells slots Q (F0 m (pc + 3) ls [])) : W p l e R s m args below meth c H locs cells slots Q (F0 m pc ls [.int n, .int dp, .ref a, .int sp, .ref a0]) := by
  have h1 := aw_nn g1
  have h2 := aw_nn g2
  have h3 := aw_nn g3
  have e0 := aw_nt sp g1
  have e2 := aw_nt dp g2
  have e3 := aw_nt n g3
  have h4 : sp.toNatClampNeg + n.toNatClampNeg ≤ n0 := by omega
  have h5 : dp.toNatClampNeg + n.toNatClampNeg ≤ n1 := by omega
  intro T hT X
  have hc0 : H[a0]? = some (vp_cell c0 (n0, .inl f)) := hP q0 _ ha0
  have hc1 : H[a]? = some (vp_cell c0 (n1, .inl g)) := hP q1 _ ha1
  obtain ⟨-, k0, hk0, cm0, hkk0⟩ := (hK.2 t0 _ ht0).1 n0 (fun j => .int (f j))
  obtain ⟨vm', X', step⟩ := X.arraycopy hexec hown hlink hnat hstat hini (src := a0) (dst := a) (cs := vp_cell c0 (n0, .inl f)) (cd := vp_cell c0 (n1, .inl g)) (srcPos := sp) (destPos := dp) (n := n) (by rw [hT]; exact hc0) (by rw [hT]; exact hc1)
    (fun _ h => by cases h) (fun _ h => by cases h) (fun h => by cases h) (fun h => by cases h) hk0 hk0 hkk0 hkk0 (by simp [refKind]) h1 h2 h3
    (by rw [e0, e3]; show ¬ _ > ((arrV c0 n0 (fun j => .int (f j))).slots.size : Int); rw [arrV_size]; omega)
    (by rw [e2, e3]; show ¬ _ > ((arrV c0 n1 (fun j => .int (g j))).slots.size : Int); rw [arrV_size]; omega)
    (fun vm₁ _ i hi => by
      have e : (vp_cell c0 (n0, .inl f)).slots.getD (sp.toNatClampNeg + i) .null = .int (f (sp.toNatClampNeg + i)) := by
        show (arrV c0 n0 (fun j => .int (f j))).slots.getD _ _ = _
        rw [Array.getD_eq_getD_getElem?, arrV_read _ _ (by omega)]
        rfl
      refine ⟨?_, ?_⟩
      · rw [e]
        rfl
      · rw [e]
        exact trivial)
    (g := F0 m pc ls [.int n, .int dp, .ref a, .int sp, .ref a0]) rfl (by rw [hml]) (rest := []) rfl (by rw [hb]; exact hdg) hframes (by show 2 * 0 + 0 + (nativeFrameWords "java/lang/System" "arraycopy" 5 + 11) ≤ _; exact Nat.le_trans (by decide) hlocals)
  have e1 : copied (vp_cell c0 (n0, .inl f)) (vp_cell c0 (n1, .inl g)) sp dp n = vp_cell c0 (n1, .inl (va_cpy f g sp.toNatClampNeg dp.toNatClampNeg n.toNatClampNeg)) := va_copied (fun z => .int z) c0 c0 f g h4
  rw [e1] at X' step
  have hl : a < H.size := (Array.getElem?_eq_some_iff.mp hc1).1
  have hheap : ((T.setVm vm').setCell a (vp_cell c0 (n1, .inl (va_cpy f g sp.toNatClampNeg dp.toNatClampNeg n.toNatClampNeg)))).heap = H.setIfInBounds a (vp_cell c0 (n1, .inl (va_cpy f g sp.toNatClampNeg dp.toNatClampNeg n.toNatClampNeg))) := by rw [← hT]; rfl
  have oq : ∀ q : Nat, q ≠ a → (H.setIfInBounds a (vp_cell c0 (n1, .inl (va_cpy f g sp.toNatClampNeg dp.toNatClampNeg n.toNatClampNeg))))[q]? = H[q]? := fun q hq => by simp [Array.getElem?_setIfInBounds, Ne.symm hq]
  obtain ⟨t, a1, b1⟩ := kk _ _ (by simp) (hP.set hD ha1 (show (H.setIfInBounds a _)[a]? = some _ by simp [Array.getElem?_setIfInBounds, hl]) oq) ⟨by simp; exact hS.1, fun q g1 g2 => by
      rw [oq q (fun e => g2 (by rw [e]; exact hD.2 q1 _ ha1))]
      exact hS.2.1 q g1 g2, fun q hq => by
      rcases List.mem_append.mp hq with h | h
      · exact hS.2.2 q h
      · obtain ⟨z, -, hz⟩ := List.mem_map.mp h
        rw [← hz]
        exact hD.2 q1 _ ha1⟩ _ hheap X'
  exact ⟨t, step t a1, b1⟩
end AW
/-- behind a write to one cell -/
theorem az_Wd.up {G : az_G} {h h' : az_H} {H H1 : Heap} {a : Nat} (hw : az_Wd G h H) (hn : h'.1 = h.1) (ha : a < h.1) (ho : ∀ b, b ≠ a → ∀ j, h'.2.1 b j = h.2.1 b j ∧ h'.2.2.1 b j = h.2.2.1 b j ∧ h'.2.2.2 b j = h.2.2.2 b j) (hz : H1.size = H.size) (hP : va_P G.2.2.1 vwCl ((az_ws G h).set a (G.1 + a, az_e G h' a)) H1) : az_Wd G h' H1 := by
  refine ⟨by rw [hz, hn]; exact hw.1, by rw [hn]; exact hw.2.1, ?_, ?_⟩
  · rw [az_ws_set hn (fun b hb => az_e_cong (fun j => (ho b hb j).1) (fun j => (ho b hb j).2.1) (fun j => (ho b hb j).2.2))] at hP
    exact hP
  · intro b hb j
    have hba : b ≠ a := by omega
    obtain ⟨e1, e2, e3⟩ := ho b hba j
    rw [e1, e2, e3]
    exact hw.2.2.2 b (by omega) j
theorem az_uI_ne {I : Nat → Nat → Int32} {a j b k : Nat} {v : Int32} (h : b ≠ a) : az_uI I a j v b k = I b k := if_neg (fun q => h q.1)
theorem az_uL_ne {I : Nat → Nat → Int64} {a j b k : Nat} {v : Int64} (h : b ≠ a) : az_uL I a j v b k = I b k := if_neg (fun q => h q.1)
theorem az_uP_ne {I : Nat → Nat → Option Nat} {a j b k : Nat} {v : Option Nat} (h : b ≠ a) : az_uP I a j v b k = I b k := if_neg (fun q => h q.1)
theorem az_uC_ne {I : Nat → Nat → Int32} {a b k : Nat} {f : Nat → Int32} (h : b ≠ a) : az_uC I a f b k = I b k := if_neg h
theorem az_uI_row (I : Nat → Nat → Int32) (a j : Nat) (v : Int32) : az_uI I a j v a = upd (I a) j v := by
  funext k
  by_cases q : k = j <;> simp [az_uI, upd, q]
theorem az_uC_row (I : Nat → Nat → Int32) (a : Nat) (f : Nat → Int32) : az_uC I a f a = f := by
  funext k
  simp [az_uC]
section OK
variable {own : String} {cc : ByteArray} {nL : Nat} {ret : Option FieldType} {nm : String} {pc nx t : Nat}
theorem ok_getI {ci j idx N : Nat} {Cn : String} {T : u_T} (hc : vwCl[ci]? = some (Cn, T, N)) (hin : ∀ w ∈ u_ws Cn T N, w ∈ lwG) (hj : j < N) (hft : (az_ft ci)[j]? = some 0) (hl0 : Cond.fieldLink own idx (T j).1 (T j).2.1 (T j).2.2.1 ∈ lwG) (hd : decode cc pc = .ok (.getfield idx, 3)) : az_Opk own cc nL ret nm pc (az_getI ci j (pc + 3)) := by
  intro p l e R s m args below meth c Q G d n0 n1 C Rp X ls st h hf
  obtain ⟨a, st1, rfl, hk, hk2⟩ := iv_getI hf
  obtain ⟨ha, hkd⟩ := az_kn_o hk
  refine ⟨hk2.1, fun hn H locs lsA hw hS hl => ?_⟩
  have he : (az_ws G h)[a]? = some (az_ad G a, .inr (ci, az_fs G h a ci)) := by rw [az_ws_at ha, az_e_o hkd, az_ad_lt (Nat.lt_of_lt_of_le ha hw.2.1)]
  exact va_get X.1.1 X.1.2.1 X.1.2.2.2.2 hin X.1.2.2.2.1 X.2.1.1 hw.2.2.1 a he hc j hj (X.1.2.2.2.2 _ hl0) (fun _ h9 => h9) (az_fs_at hft) hd (hk2.2 hn H locs lsA hw hS hl)
theorem ok_getL {ci j idx N : Nat} {Cn : String} {T : u_T} (hc : vwCl[ci]? = some (Cn, T, N)) (hin : ∀ w ∈ u_ws Cn T N, w ∈ lwG) (hj : j < N) (hft : (az_ft ci)[j]? = some 1) (hl0 : Cond.fieldLink own idx (T j).1 (T j).2.1 (T j).2.2.1 ∈ lwG) (hd : decode cc pc = .ok (.getfield idx, 3)) : az_Opk own cc nL ret nm pc (az_getL ci j (pc + 3)) := by
  intro p l e R s m args below meth c Q G d n0 n1 C Rp X ls st h hf
  obtain ⟨a, st1, rfl, hk, hk2⟩ := iv_getL hf
  obtain ⟨ha, hkd⟩ := az_kn_o hk
  refine ⟨hk2.1, fun hn H locs lsA hw hS hl => ?_⟩
  have he : (az_ws G h)[a]? = some (az_ad G a, .inr (ci, az_fs G h a ci)) := by rw [az_ws_at ha, az_e_o hkd, az_ad_lt (Nat.lt_of_lt_of_le ha hw.2.1)]
  exact va_get X.1.1 X.1.2.1 X.1.2.2.2.2 hin X.1.2.2.2.1 X.2.1.1 hw.2.2.1 a he hc j hj (X.1.2.2.2.2 _ hl0) (fun _ h9 => h9) (az_fs_at hft) hd (hk2.2 hn H locs lsA hw hS hl)
theorem ok_getP {ci j idx N : Nat} {Cn : String} {T : u_T} (hc : vwCl[ci]? = some (Cn, T, N)) (hin : ∀ w ∈ u_ws Cn T N, w ∈ lwG) (hj : j < N) (hft : (az_ft ci)[j]? = some 2) (hl0 : Cond.fieldLink own idx (T j).1 (T j).2.1 (T j).2.2.1 ∈ lwG) (hd : decode cc pc = .ok (.getfield idx, 3)) : az_Opk own cc nL ret nm pc (az_getP ci j (pc + 3)) := by
  intro p l e R s m args below meth c Q G d n0 n1 C Rp X ls st h hf
  obtain ⟨a, q, st1, rfl, hk, hq, hk2⟩ := iv_getP hf
  obtain ⟨ha, hkd⟩ := az_kn_o hk
  refine ⟨hk2.1, fun hn H locs lsA hw hS hl => ?_⟩
  have he : (az_ws G h)[a]? = some (az_ad G a, .inr (ci, az_fs G h a ci)) := by rw [az_ws_at ha, az_e_o hkd, az_ad_lt (Nat.lt_of_lt_of_le ha hw.2.1)]
  refine va_get (v := .ref (az_ad G q)) X.1.1 X.1.2.1 X.1.2.2.2.2 hin X.1.2.2.2.1 X.2.1.1 hw.2.2.1 a he hc j hj (X.1.2.2.2.2 _ hl0) (fun _ h9 => h9) ?_ hd (hk2.2 hn H locs lsA hw hS hl)
  rw [az_fs_at hft]
  simp [az_fv, hq, va_rf]
theorem ok_putI {ci j idx N : Nat} {Cn : String} {T : u_T} {ty0 : Nat → FieldType} (hc : vwCl[ci]? = some (Cn, T, N)) (hin : ∀ w ∈ u_ws Cn T N, w ∈ lwG) (hty : ∀ k, k < N → parseFieldDescriptor (T k).2.2.1 = some (ty0 k)) (hnm : ∀ a, a < N → ∀ b, b < N → a ≠ b → (T a).2.1 ≠ (T b).2.1) (hj : j < N) (hft : (az_ft ci)[j]? = some 0) (hl0 : Cond.fieldLink own idx (T j).1 (T j).2.1 (T j).2.2.1 ∈ lwG) (hfin : (T j).2.2.2 = false) (ht : ty0 j = .int) (hd : decode cc pc = .ok (.putfield idx, 3)) : az_Opk own cc nL ret nm pc (az_putI ci j (pc + 3)) := by
  intro p l e R s m args below meth c Q G d n0 n1 C Rp X ls st h hf
  obtain ⟨a, v, st1, rfl, hk, hk2⟩ := iv_putI hf
  obtain ⟨ha, hkd⟩ := az_kn_o hk
  refine ⟨hk2.1, fun hn H locs lsA hw hS hl => ?_⟩
  have had : az_ad G a = G.1 + a := az_ad_lt (Nat.lt_of_lt_of_le ha hw.2.1)
  have he : (az_ws G h)[a]? = some (az_ad G a, .inr (ci, az_fs G h a ci)) := by rw [az_ws_at ha, az_e_o hkd, had]
  refine aw_put X.1.1 X.1.2.1 X.1.2.2.2.2 hin ty0 hty hnm X.1.2.2.2.1 X.2.1.1 hw.2.2.1 (az_ws_D G h) hS a he hc j hj (X.1.2.2.2.2 _ hl0) (fun _ h9 => h9) (Or.inl hfin) (hty j hj) (by rw [ht]; rfl) (by rw [ht]; rfl) (by rw [az_fs_len]; exact (List.getElem?_eq_some_iff.mp hft).1) hd (fun H1 locs1 hz hP hS1 => ?_)
  refine hk2.2 hn H1 locs1 lsA (hw.up (a := a) rfl ha (fun b hb k => ⟨rfl, az_uI_ne hb, rfl⟩) hz ?_) hS1 hl
  have e1 : az_e G (h.1, h.2.1, az_uI h.2.2.1 a j v, h.2.2.2) a = .inr (ci, (az_fs G h a ci).set j (.int v)) := by
    rw [az_e_o hkd, ← az_fs_set (h := h) hft (fun u k hkj => ?_)]
    · simp [az_fv, az_uI]
    · simp only [az_fv]
      split
      · simp [az_uI, hkj]
      · rfl
      · rfl
  rw [e1, ← had]; exact hP
theorem ok_putL {ci j idx N : Nat} {Cn : String} {T : u_T} {ty0 : Nat → FieldType} (hc : vwCl[ci]? = some (Cn, T, N)) (hin : ∀ w ∈ u_ws Cn T N, w ∈ lwG) (hty : ∀ k, k < N → parseFieldDescriptor (T k).2.2.1 = some (ty0 k)) (hnm : ∀ a, a < N → ∀ b, b < N → a ≠ b → (T a).2.1 ≠ (T b).2.1) (hj : j < N) (hft : (az_ft ci)[j]? = some 1) (hl0 : Cond.fieldLink own idx (T j).1 (T j).2.1 (T j).2.2.1 ∈ lwG) (hfin : (T j).2.2.2 = false) (ht : ty0 j = .long) (hd : decode cc pc = .ok (.putfield idx, 3)) : az_Opk own cc nL ret nm pc (az_putL ci j (pc + 3)) := by
  intro p l e R s m args below meth c Q G d n0 n1 C Rp X ls st h hf
  obtain ⟨a, v, st1, rfl, hk, hk2⟩ := iv_putL hf
  obtain ⟨ha, hkd⟩ := az_kn_o hk
  refine ⟨hk2.1, fun hn H locs lsA hw hS hl => ?_⟩
  have had : az_ad G a = G.1 + a := az_ad_lt (Nat.lt_of_lt_of_le ha hw.2.1)
  have he : (az_ws G h)[a]? = some (az_ad G a, .inr (ci, az_fs G h a ci)) := by rw [az_ws_at ha, az_e_o hkd, had]
  refine aw_put X.1.1 X.1.2.1 X.1.2.2.2.2 hin ty0 hty hnm X.1.2.2.2.1 X.2.1.1 hw.2.2.1 (az_ws_D G h) hS a he hc j hj (X.1.2.2.2.2 _ hl0) (fun _ h9 => h9) (Or.inl hfin) (hty j hj) (by rw [ht]; rfl) (by rw [ht]; rfl) (by rw [az_fs_len]; exact (List.getElem?_eq_some_iff.mp hft).1) hd (fun H1 locs1 hz hP hS1 => ?_)
  refine hk2.2 hn H1 locs1 lsA (hw.up (a := a) rfl ha (fun b hb k => ⟨rfl, rfl, az_uL_ne hb⟩) hz ?_) hS1 hl
  have e1 : az_e G (h.1, h.2.1, h.2.2.1, az_uL h.2.2.2 a j v) a = .inr (ci, (az_fs G h a ci).set j (.long v)) := by
    rw [az_e_o hkd, ← az_fs_set (h := h) hft (fun u k hkj => ?_)]
    · simp [az_fv, az_uL]
    · simp only [az_fv]
      split
      · rfl
      · simp [az_uL, hkj]
      · rfl
  rw [e1, ← had]; exact hP
theorem ok_putP {ci j idx N : Nat} {Cn : String} {T : u_T} {ty0 : Nat → FieldType} (hc : vwCl[ci]? = some (Cn, T, N)) (hin : ∀ w ∈ u_ws Cn T N, w ∈ lwG) (hty : ∀ k, k < N → parseFieldDescriptor (T k).2.2.1 = some (ty0 k)) (hnm : ∀ a, a < N → ∀ b, b < N → a ≠ b → (T a).2.1 ≠ (T b).2.1) (hj : j < N) (hft : (az_ft ci)[j]? = some 2) (hl0 : Cond.fieldLink own idx (T j).1 (T j).2.1 (T j).2.2.1 ∈ lwG) (hfin : (T j).2.2.2 = true ∧ nm = "<init>" ∧ (T j).1 = own) (ht : ∀ q : Nat, narrow (ty0 j) (.ref q) = .ref q ∧ fits (ty0 j) (.ref q) = true) (hd : decode cc pc = .ok (.putfield idx, 3)) : az_Opk own cc nL ret nm pc (az_putP ci j (pc + 3)) := by
  intro p l e R s m args below meth c Q G d n0 n1 C Rp X ls st h hf
  obtain ⟨a, v, st1, rfl, hk, hk2⟩ := iv_putP hf
  obtain ⟨ha, hkd⟩ := az_kn_o hk
  refine ⟨hk2.1, fun hn H locs lsA hw hS hl => ?_⟩
  have had : az_ad G a = G.1 + a := az_ad_lt (Nat.lt_of_lt_of_le ha hw.2.1)
  have he : (az_ws G h)[a]? = some (az_ad G a, .inr (ci, az_fs G h a ci)) := by rw [az_ws_at ha, az_e_o hkd, had]
  refine aw_put X.1.1 X.1.2.1 X.1.2.2.2.2 hin ty0 hty hnm X.1.2.2.2.1 X.2.1.1 hw.2.2.1 (az_ws_D G h) hS a he hc j hj (X.1.2.2.2.2 _ hl0) (fun _ h9 => h9) (Or.inr ⟨hfin.1, X.2.1.2.2.2.2.trans hfin.2.1, hfin.2.2⟩) (hty j hj) (ht _).1 (ht _).2 (by rw [az_fs_len]; exact (List.getElem?_eq_some_iff.mp hft).1) hd (fun H1 locs1 hz hP hS1 => ?_)
  refine hk2.2 hn H1 locs1 lsA (hw.up (a := a) rfl ha (fun b hb k => ⟨az_uP_ne hb, rfl, rfl⟩) hz ?_) hS1 hl
  have e1 : az_e G (h.1, az_uP h.2.1 a j (some v), h.2.2.1, h.2.2.2) a = .inr (ci, (az_fs G h a ci).set j (.ref (az_ad G v))) := by
    rw [az_e_o hkd, ← az_fs_set (h := h) hft (fun u k hkj => ?_)]
    · simp [az_fv, az_uP, va_rf]
    · simp only [az_fv]
      split
      · rfl
      · rfl
      · simp [az_uP, hkj]
  rw [e1, ← had]; exact hP
theorem ok_iald (hd : decode cc pc = .ok (.iaload, 1)) : az_Opk own cc nL ret nm pc (az_iald (pc + 1)) := by
  intro p l e R s m args below meth c Q G d n0 n1 C Rp X ls st h hf
  obtain ⟨a, n, i, st1, rfl, hi, ⟨hk, hk2⟩ | ⟨hk, hk2⟩⟩ := iv_iald hf
  · obtain ⟨ha, hkd⟩ := az_kn_r hk (Or.inl rfl)
    refine ⟨hk2.1, fun hn H locs lsA hw hS hl => ?_⟩
    have he : (az_ws G h)[a]? = some (az_ad G a, .inl (G.2.2.2.1, n, .inl (h.2.2.1 a))) := by rw [az_ws_at ha, az_e_i hkd, az_ad_lt (Nat.lt_of_lt_of_le ha hw.2.1)]
    exact va_iald X.1.1 X.1.2.1 X.2.1.1 hw.2.2.1 a 0 he rfl (az_in_vp hi) hd (hk2.2 hn H locs lsA hw hS hl)
  · obtain ⟨h1, h2, h3⟩ := az_kn_s hk
    refine ⟨hk2.1, fun hn H locs lsA hw hS hl => ?_⟩
    obtain ⟨-, hX, hlt⟩ := X.2.1.2.1 (a - 9000) (by omega)
    have ead : az_ad G a = G.2.1 (a - 9000) := if_neg (by omega)
    have ea : 9000 + (a - 9000) = a := by omega
    rw [ea] at hX
    show W p l e R s m args below meth c H locs _ _ Q (F0 m pc lsA (.int i :: .ref (az_ad G a) :: _))
    rw [ead]
    exact va_sld (A := az_A G) X.1.1 X.1.2.1 hX (Nat.lt_of_lt_of_le hlt X.2.1.2.2.2.1) (Nat.not_le.mpr hlt) hS (by rw [← h3]; exact az_in_vp hi) hd (hk2.2 hn H locs lsA hw hS hl)
theorem ok_zald (hd : decode cc pc = .ok (.baload, 1)) : az_Opk own cc nL ret nm pc (az_zald (pc + 1)) := by
  intro p l e R s m args below meth c Q G d n0 n1 C Rp X ls st h hf
  obtain ⟨a, n, i, st1, rfl, hi, hk, hk2⟩ := iv_zald hf
  obtain ⟨ha, hkd⟩ := az_kn_r hk (Or.inr (Or.inl rfl))
  refine ⟨hk2.1, fun hn H locs lsA hw hS hl => ?_⟩
  have he : (az_ws G h)[a]? = some (az_ad G a, .inl (G.2.2.2.2.1, n, .inl (h.2.2.1 a))) := by rw [az_ws_at ha, az_e_z hkd, az_ad_lt (Nat.lt_of_lt_of_le ha hw.2.1)]
  exact va_zald X.1.1 X.1.2.1 X.2.1.1 hw.2.2.1 a 1 he rfl (az_in_vp hi) hd (hk2.2 hn H locs lsA hw hS hl)
theorem ok_aald (hd : decode cc pc = .ok (.aaload, 1)) : az_Opk own cc nL ret nm pc (az_aald (pc + 1)) := by
  intro p l e R s m args below meth c Q G d n0 n1 C Rp X ls st h hf
  obtain ⟨a, n, q, i, st1, rfl, hi, hk, hq, hk2⟩ := iv_aald hf
  obtain ⟨ha, hkd⟩ := az_kn_r hk (Or.inr (Or.inr rfl))
  refine ⟨hk2.1, fun hn H locs lsA hw hS hl => ?_⟩
  have he : (az_ws G h)[a]? = some (az_ad G a, .inl (G.2.2.2.2.2, n, .inr (.inr (.inr (.inr (fun j => (h.2.1 a j).map (az_ad G))))))) := by rw [az_ws_at ha, az_e_a hkd, az_ad_lt (Nat.lt_of_lt_of_le ha hw.2.1)]
  have hin := az_in_vp hi
  have hlt : i.toNatClampNeg < n := Nat.not_le.mp fun q => hin (Or.inr q)
  exact W.aald (v := .ref (az_ad G q)) (ty := .array .int) X.1.1 X.1.2.1 (hw.2.2.1 a _ he) ((X.2.1.1.2 2 _ rfl).1 n (fun j => va_rf ((h.2.1 a j).map (az_ad G)))) rfl (fun q => by cases q) (by show ¬ (i < 0 ∨ (arrV _ _ _).slots.size ≤ _); rw [arrV_size]; exact hin) (by show (arrV _ _ _).slots[_]? = _; rw [arrV_read _ _ hlt]; show some (va_rf (Option.map (az_ad G) (h.2.1 a i.toNatClampNeg))) = _; rw [hq]; rfl) rfl rfl hd (hk2.2 hn H locs lsA hw hS hl)
theorem ok_iast (hd : decode cc pc = .ok (.iastore, 1)) : az_Opk own cc nL ret nm pc (az_iast (pc + 1)) := by
  intro p l e R s m args below meth c Q G d n0 n1 C Rp X ls st h hf
  obtain ⟨a, n, i, v, st1, rfl, hi, hk, hk2⟩ := iv_iast hf
  obtain ⟨ha, hkd⟩ := az_kn_r hk (Or.inl rfl)
  refine ⟨hk2.1, fun hn H locs lsA hw hS hl => ?_⟩
  have had : az_ad G a = G.1 + a := az_ad_lt (Nat.lt_of_lt_of_le ha hw.2.1)
  have he : (az_ws G h)[a]? = some (az_ad G a, .inl (G.2.2.2.1, n, .inl (h.2.2.1 a))) := by rw [az_ws_at ha, az_e_i hkd, had]
  refine aw_iast X.1.1 X.1.2.1 X.2.1.1 hw.2.2.1 (az_ws_D G h) hS a 0 he rfl (az_in_vp hi) hd (fun H1 locs1 hz hP hS1 => ?_)
  refine hk2.2 hn H1 locs1 lsA (hw.up (a := a) rfl ha (fun b hb k => ⟨rfl, az_uI_ne hb, rfl⟩) hz ?_) hS1 hl
  rw [az_e_i hkd, ← had]
  show va_P _ _ ((az_ws G h).set a (az_ad G a, .inl (G.2.2.2.1, n, .inl (az_uI h.2.2.1 a i.toNatClampNeg v a)))) H1
  rw [az_uI_row]; exact hP
theorem ok_zast (hd : decode cc pc = .ok (.bastore, 1)) : az_Opk own cc nL ret nm pc (az_zast (pc + 1)) := by
  intro p l e R s m args below meth c Q G d n0 n1 C Rp X ls st h hf
  obtain ⟨a, n, i, v, st1, rfl, ⟨hi, hv⟩, hk, hk2⟩ := iv_zast hf
  obtain ⟨ha, hkd⟩ := az_kn_r hk (Or.inr (Or.inl rfl))
  refine ⟨hk2.1, fun hn H locs lsA hw hS hl => ?_⟩
  have had : az_ad G a = G.1 + a := az_ad_lt (Nat.lt_of_lt_of_le ha hw.2.1)
  have he : (az_ws G h)[a]? = some (az_ad G a, .inl (G.2.2.2.2.1, n, .inl (h.2.2.1 a))) := by rw [az_ws_at ha, az_e_z hkd, had]
  refine aw_zast X.1.1 X.1.2.1 X.2.1.1 hw.2.2.1 (az_ws_D G h) hS a 1 he rfl hv (az_in_vp hi) hd (fun H1 locs1 hz hP hS1 => ?_)
  refine hk2.2 hn H1 locs1 lsA (hw.up (a := a) rfl ha (fun b hb k => ⟨rfl, az_uI_ne hb, rfl⟩) hz ?_) hS1 hl
  rw [az_e_z hkd, ← had]
  show va_P _ _ ((az_ws G h).set a (az_ad G a, .inl (G.2.2.2.2.1, n, .inl (az_uI h.2.2.1 a i.toNatClampNeg v a)))) H1
  rw [az_uI_row]; exact hP
theorem ok_copy {idx : Nat} (hl0 : Cond.methodLink own idx arraycopyName ∈ lwG) (h1 : Cond.native arraycopyName ∈ lwG) (h2 : Cond.static arraycopyName ∈ lwG) (h3 : Cond.initialized "java/lang/System" ∈ lwG) (hd : decode cc pc = .ok (.invokestatic idx, 3)) : az_Opk own cc nL ret nm pc (az_copy (pc + 3)) := by
  intro p l e R s m args below meth c Q G d n0 n1 C Rp X ls st h hf
  obtain ⟨a, b, k0, k1, n, dp, sp, rfl, hka, hkb, ⟨g1, g2, g3, g4, g5⟩, hk2⟩ := iv_copy hf
  obtain ⟨ha, hkda⟩ := az_kn_r hka (Or.inl rfl)
  obtain ⟨hb, hkdb⟩ := az_kn_r hkb (Or.inl rfl)
  refine ⟨hk2.1, fun hn H locs lsA hw hS hl => ?_⟩
  have hada : az_ad G a = G.1 + a := az_ad_lt (Nat.lt_of_lt_of_le ha hw.2.1)
  have hadb : az_ad G b = G.1 + b := az_ad_lt (Nat.lt_of_lt_of_le hb hw.2.1)
  have hea : (az_ws G h)[a]? = some (az_ad G a, .inl (G.2.2.2.1, k0, .inl (h.2.2.1 a))) := by rw [az_ws_at ha, az_e_i hkda, hada]
  have heb : (az_ws G h)[b]? = some (az_ad G b, .inl (G.2.2.2.1, k1, .inl (h.2.2.1 b))) := by rw [az_ws_at hb, az_e_i hkdb, hadb]
  refine aw_copy X.1.1 X.1.2.1 (X.1.2.2.1.trans hl.1.symm) X.1.2.2.2.1 (X.1.2.2.2.2 _ hl0) (X.1.2.2.2.2 _ h1) (X.1.2.2.2.2 _ h2) (X.1.2.2.2.2 _ h3) X.2.1.1 hw.2.2.1 (az_ws_D G h) hS a b 0 hea heb rfl g1 g2 g3 g4 g5 (Nat.le_trans (by omega) X.2.2.1.1) (Nat.le_trans (by omega) X.2.2.1.2.1) hd (fun H1 locs1 hz hP hS1 => ?_)
  refine hk2.2 hn H1 locs1 lsA (hw.up (a := b) rfl hb (fun y hy k => ⟨rfl, az_uC_ne hy, rfl⟩) hz ?_) hS1 hl
  rw [az_e_i hkdb, ← hadb]
  show va_P _ _ ((az_ws G h).set b (az_ad G b, .inl (G.2.2.2.1, k1, .inl (az_uC h.2.2.1 b _ b)))) H1
  rw [az_uC_row]; exact hP
theorem ok_gets {j idx : Nat} (hj : j < 3) (hl0 : Cond.fieldLink own idx RX6 (az_snm j) "[I" ∈ lwG) (hd : decode cc pc = .ok (.getstatic idx, 3)) : az_Opk own cc nL ret nm pc (az_gets (9000 + j) (pc + 3)) := by
  intro p l e R s m args below meth c Q G d n0 n1 C Rp X ls st h hf
  have hk2 : az_St p l e R s m args below meth c Q nL G n0 n1 (pc + 3) ls (.ref (9000 + j) :: st) h := hf.2
  refine ⟨hk2.1, fun hn H locs lsA hw hS hl => ?_⟩
  obtain ⟨hZ, -, -⟩ := X.2.1.2.1 j hj
  have ead : az_ad G (9000 + j) = G.2.1 j := by
    unfold az_ad
    rw [if_neg (by omega), show 9000 + j - 9000 = j by omega]
  have h9 := hk2.2 hn H locs lsA hw hS hl
  have h9 : W p l e R s m args below meth c H locs _ _ Q (F0 m (pc + 3) lsA (.ref (az_ad G (9000 + j)) :: st.map (az_tr G))) := h9
  rw [ead] at h9
  exact va_gets X.1.1 X.1.2.1 hZ hS X.1.2.2.2.1 (X.1.2.2.2.2 _ hl0) (fun _ h => h) hd h9
theorem ok_oin {idx : Nat} (hl0 : Cond.methodLink own idx objectInit ∈ lwG) (h1 : Cond.instanceMethod objectInit ∈ lwG) (h2 : Cond.code objectInit ⟨#[0xb1]⟩ 1 none ∈ lwG) (hd : decode cc pc = .ok (.invokespecial idx, 3)) : az_Opk own cc nL ret nm pc (az_oin (pc + 3)) := by
  intro p l e R s m args below meth c Q G d n0 n1 C Rp X ls st h hf
  obtain ⟨a, st1, rfl, hlen, hk2⟩ := iv_oin hf
  refine ⟨hk2.1, fun hn H locs lsA hw hS hl => ?_⟩
  have hcat : ((st1.map (az_tr G)).map fun v => v.category).sum ≤ 8 := by
    have key : ∀ l : List Value, (l.map fun v => v.category).sum ≤ 2 * l.length := by
      intro l
      induction l with
      | nil => simp
      | cons v l ih =>
        have hv : v.category ≤ 2 := by rcases lv_cat v with q | q <;> omega
        simp only [List.map_cons, List.sum_cons, List.length_cons]
        omega
    have := key (st1.map (az_tr G))
    rw [List.length_map] at this
    omega
  refine W.objInit X.1.1 X.1.2.1 X.1.2.2.2.1 (X.1.2.2.2.2 _ hl0) (X.1.2.2.2.2 _ h1) (X.1.2.2.2.2 _ h2) rfl (hl.1.trans X.1.2.2.1.symm) rfl hd (Nat.le_trans (by omega) X.2.2.1.1) ?_ (hk2.2 hn H locs lsA hw hS hl)
  refine Nat.le_trans ?_ X.2.2.1.2.1
  show 2 * 0 + _ + 12 ≤ _
  omega
theorem az_pick_in {x : Int32} {d : Nat} : ∀ {ps : List (Int32 × Nat)}, az_pick x d ps = d ∨ ∃ q ∈ ps, x = q.1 ∧ az_pick x d ps = q.2
  | [] => Or.inl rfl
  | q :: r => by
    unfold az_pick
    split
    · exact Or.inr ⟨q, List.mem_cons_self, by assumption, rfl⟩
    · rcases az_pick_in (x := x) (d := d) (ps := r) with h | ⟨q2, h1, h2⟩
      · exact Or.inl h
      · exact Or.inr ⟨q2, List.mem_cons_of_mem _ h1, h2⟩
/-- pairs of a table of offsets, from lo on -/
def az_tps (pc : Nat) (lo : Int) : List Int → List (Int32 × Nat)
  | [] => []
  | o :: r => (Int32.ofInt lo, ((pc : Int) + o).toNat) :: az_tps pc (lo + 1) r
theorem az_tps_in {pc : Nat} {x : Int32} {d : Nat} : ∀ {os : List Int} {lo : Int}, -2147483648 ≤ lo → lo + os.length ≤ 2147483648 → (lo ≤ x.toInt ∧ x.toInt < lo + os.length → ∃ o, os[(x.toInt - lo).toNat]? = some o ∧ az_pick x d (az_tps pc lo os) = ((pc : Int) + o).toNat) ∧ (¬ (lo ≤ x.toInt ∧ x.toInt < lo + os.length) → az_pick x d (az_tps pc lo os) = d)
  | [], lo, h1, h2 => ⟨fun h => by simp at h; omega, fun _ => rfl⟩
  | o :: r, lo, h1, h2 => by
    simp only [List.length_cons, Int.natCast_add, Int.natCast_one] at h2 ⊢
    have hlo : (Int32.ofInt lo).toInt = lo := Int32.toInt_ofInt_of_le (by omega) (by omega)
    obtain ⟨i1, i2⟩ := az_tps_in (pc := pc) (x := x) (d := d) (os := r) (lo := lo + 1) (by omega) (by omega)
    by_cases hx : x = Int32.ofInt lo
    · have hxl : x.toInt = lo := by rw [hx, hlo]
      refine ⟨fun _ => ⟨o, by simp [hxl], by simp [az_tps, az_pick, hx]⟩, fun h => absurd (by omega) h⟩
    · have hxl : x.toInt ≠ lo := fun q => hx (Int32.toInt_inj.mp (by rw [q, hlo]))
      have ep : az_pick x d (az_tps pc lo (o :: r)) = az_pick x d (az_tps pc (lo + 1) r) := by simp [az_tps, az_pick, hx]
      rw [ep]
      refine ⟨fun h => ?_, fun h => i2 (by omega)⟩
      obtain ⟨o2, g1, g2⟩ := i1 (by omega)
      refine ⟨o2, ?_, g2⟩
      rw [show (x.toInt - lo).toNat = (x.toInt - (lo + 1)).toNat + 1 by omega, List.getElem?_cons_succ]
      exact g1
theorem ok_table {dflt lo hi : Int} {offs : Array Int} {len d0 : Nat} {ps : List (Int32 × Nat)} (hps : ps = az_tps pc lo offs.toList) (hlo : -2147483648 ≤ lo ∧ lo + offs.size ≤ 2147483648 ∧ hi = lo + offs.size - 1) (hd0 : (pc : Int) + dflt = (d0 : Int)) (hpos : offs.toList.all (fun o => decide (0 ≤ (pc : Int) + o)) = true) (hd : decode cc pc = .ok (.tableswitch dflt lo hi offs, len)) : az_Opk own cc nL ret nm pc (az_switch ps d0) := by
  intro p l e R s m args below meth c Q G d n0 n1 C Rp X ls st h hf
  obtain ⟨x, st1, rfl, hk2⟩ := iv_switch hf
  refine ⟨hk2.1, fun hn H locs lsA hw hS hl => ?_⟩
  have hW := hk2.2 hn H locs lsA hw hS hl
  obtain ⟨i1, i2⟩ := az_tps_in (pc := pc) (x := x) (d := d0) (os := offs.toList) (lo := lo) hlo.1 (by rw [Array.length_toList]; exact hlo.2.1)
  rw [Array.length_toList] at i1 i2
  by_cases hx : lo ≤ x.toInt ∧ x.toInt < lo + offs.size
  · obtain ⟨o, g1, g2⟩ := i1 hx
    rw [hps, g2] at hW
    have h0 : 0 ≤ (pc : Int) + o := by
      have := List.all_eq_true.mp hpos o (List.mem_of_getElem? g1)
      simpa using this
    exact lv_tableIn X.1.1 X.1.2.1 hd (by omega) (by omega) (by rw [← Array.getElem?_toList]; exact g1) (show (pc : Int) + o = (((pc : Int) + o).toNat : Int) by omega) hW
  · rw [hps, i2 hx] at hW
    exact lv_tableOut X.1.1 X.1.2.1 hd (by omega) hd0 hW
/-- pairs of a lookup -/
def az_lps (pc : Nat) (ps : List (Int × Int)) : List (Int32 × Nat) := ps.map fun q => (Int32.ofInt q.1, ((pc : Int) + q.2).toNat)
theorem az_lps_off {pc : Nat} {x : Int32} {dflt : Int} {d0 : Nat} (hd0 : (pc : Int) + dflt = (d0 : Int)) : ∀ {ps : List (Int × Int)}, (ps.all fun q => decide (-2147483648 ≤ q.1 ∧ q.1 < 2147483648 ∧ 0 ≤ (pc : Int) + q.2)) = true → (pc : Int) + Op.lookupswitch.offset ps dflt x.toInt = (az_pick x d0 (az_lps pc ps) : Int)
  | [], _ => by simpa [Op.lookupswitch.offset, az_pick, az_lps] using hd0
  | q :: r, h => by
    obtain ⟨k, o⟩ := q
    simp only [List.all_cons, Bool.and_eq_true, decide_eq_true_eq] at h
    have hk : (Int32.ofInt k).toInt = k := Int32.toInt_ofInt_of_le (by omega) (by omega)
    have ih := az_lps_off (x := x) hd0 (ps := r) h.2
    by_cases hx : x = Int32.ofInt k
    · have hxk : x.toInt = k := by rw [hx, hk]
      have e1 : Op.lookupswitch.offset ((k, o) :: r) dflt x.toInt = o := by simp [Op.lookupswitch.offset, hxk]
      have e2 : az_pick x d0 (az_lps pc ((k, o) :: r)) = ((pc : Int) + o).toNat := by simp [az_lps, az_pick, hx]
      rw [e1, e2]; omega
    · have e1 : Op.lookupswitch.offset ((k, o) :: r) dflt x.toInt = Op.lookupswitch.offset r dflt x.toInt := lv_osw hx hk
      have e2 : az_pick x d0 (az_lps pc ((k, o) :: r)) = az_pick x d0 (az_lps pc r) := by simp [az_lps, az_pick, hx]
      rw [e1, e2]; exact ih
theorem ok_lookup {dflt : Int} {qs : Array (Int × Int)} {len d0 : Nat} {ps : List (Int32 × Nat)} (hps : ps = az_lps pc qs.toList) (hd0 : (pc : Int) + dflt = (d0 : Int)) (hall : (qs.toList.all fun q => decide (-2147483648 ≤ q.1 ∧ q.1 < 2147483648 ∧ 0 ≤ (pc : Int) + q.2)) = true) (hp : (qs.toList.zip (qs.toList.drop 1)).all (fun (a, next) => a.1 < next.1) = true) (hd : decode cc pc = .ok (.lookupswitch dflt qs, len)) : az_Opk own cc nL ret nm pc (az_switch ps d0) := by
  intro p l e R s m args below meth c Q G d n0 n1 C Rp X ls st h hf
  obtain ⟨x, st1, rfl, hk2⟩ := iv_switch hf
  refine ⟨hk2.1, fun hn H locs lsA hw hS hl => ?_⟩
  have hW := hk2.2 hn H locs lsA hw hS hl
  rw [hps] at hW
  exact lv_lookup X.1.1 X.1.2.1 hd hp rfl (az_lps_off hd0 hall) hW
end OK
