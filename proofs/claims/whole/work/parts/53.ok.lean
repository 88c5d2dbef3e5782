/-! ===== a context, a place, an operation that the machine does ===== -/
def az_rk (ret : Option FieldType) (r : Option Value) (ins : Instr) : Prop := match ret with
  | none => r = none ∧ ins = .return_
  | some .int => ∃ v : Int32, r = some (.int v) ∧ ins = .ireturn
  | some .boolean => ∃ v : Int32, (v = 0 ∨ v = 1) ∧ r = some (.int v) ∧ ins = .ireturn
  | some .long => ∃ v : Int64, r = some (.long v) ∧ ins = .lreturn
  | some (.array .int) => ∃ v : Nat, r = some (.ref v) ∧ ins = .areturn
  | _ => False
def az_St (p : Program) (l : Launch) (e : Env) (R : Room) (s : State) (m : MethodId) (args : Array Value) (below : List Frame) (meth : Method) (c : Code) (Q : State → Prop) (nL : Nat) (G : az_G) (n0 n1 : Nat) : az_K := fun pc ls st h => h.1 ≤ n1 ∧ (n0 ≤ h.1 → ∀ (H : Heap) (locs : List Loc) (lsA : Array Slot), az_Wd G h H → va_S (az_A G) s.heap H locs → az_Lo G nL lsA ls → W p l e R s m args below meth c H locs (h.1 - n0) (az_sg h.1 - az_sg n0) Q (F0 m pc lsA (st.map (az_tr G))))
def az_Cx (p : Program) (l : Launch) (e : Env) (R : Room) (s : State) (m : MethodId) (args : Array Value) (below : List Frame) (meth : Method) (c : Code) (Q : State → Prop) (own : String) (cc : ByteArray) (nL : Nat) (ret : Option FieldType) (nm : String) (G : az_G) (d n0 n1 : Nat) (C : az_C) (Rp : az_R) : Prop :=
  (p.tables.exec = Jvm.exec ∧ c.code = cc ∧ c.maxLocals = nL ∧ s.vm.findClass own = some m.cls ∧ (∀ w ∈ lwG, w.before args s = true)) ∧
  (va_K G.2.2.1 vwCl (az_tys G) s ∧ az_Sx G s s.heap ∧ az_Nx s ∧ G.1 ≤ s.heap.size ∧ meth.name = nm) ∧
  (d + 1 ≤ R.frames ∧ 36 * d + 36 ≤ R.locals ∧ n1 - n0 ≤ R.cells ∧ az_sg n1 - az_sg n0 ≤ R.slots) ∧
  az_Ok l d C ∧ (∀ r h, Rp r h → h.1 = n1) ∧
  (∀ (r : Option Value) (h : az_H) (H : Heap) (locs : List Loc) (lsA : Array Slot) (pc : Nat) (ins : Instr), Rp r h → n0 ≤ h.1 → az_Wd G h H → va_S (az_A G) s.heap H locs → decode cc pc = .ok (ins, 1) → az_rk ret r ins → W p l e R s m args below meth c H locs (h.1 - n0) (az_sg h.1 - az_sg n0) Q (F0 m pc lsA (r.toList.map (az_tr G))))
def az_Opk (own : String) (cc : ByteArray) (nL : Nat) (ret : Option FieldType) (nm : String) (pc : Nat) (o : az_P) : Prop :=
  ∀ (p : Program) (l : Launch) (e : Env) (R : Room) (s : State) (m : MethodId) (args : Array Value) (below : List Frame) (meth : Method) (c : Code) (Q : State → Prop) (G : az_G) (d n0 n1 : Nat) (C : az_C) (Rp : az_R), az_Cx p l e R s m args below meth c Q own cc nL ret nm G d n0 n1 C Rp →
    ∀ (ls st : List Value) (h : az_H), az_F C Rp (az_St p l e R s m args below meth c Q nL G n0 n1) h (o ls st h) → az_St p l e R s m args below meth c Q nL G n0 n1 pc ls st h
section OK
variable {own : String} {cc : ByteArray} {nL : Nat} {ret : Option FieldType} {nm : String} {pc nx t : Nat}
theorem ok_no : az_Opk own cc nL ret nm pc az_no := by
  intro p l e R s m args below meth c Q G d n0 n1 C Rp X ls st h hf
  exact hf.elim
theorem ok_br {k : Nat} {x y : Nat → az_P} (hx : ∀ pc, az_Opk own cc nL ret nm pc (x pc)) (hy : ∀ pc, az_Opk own cc nL ret nm pc (y pc)) : ∀ pc, az_Opk own cc nL ret nm pc (az_br k x y pc) := by
  intro pc
  unfold az_br
  split
  · exact hx pc
  · exact hy pc
theorem ok_lf {k : Nat} {x : az_P} (hx : az_Opk own cc nL ret nm k x) : ∀ pc, az_Opk own cc nL ret nm pc (az_lf k x pc) := by
  intro pc
  unfold az_lf
  split
  · rename_i q; rw [q]; exact hx
  · exact ok_no
/-- the whole: a run of the small machine is a run of the machine -/
theorem az_sim {p : Program} {l : Launch} {e : Env} {R : Room} {s : State} {m : MethodId} {args : Array Value} {below : List Frame} {meth : Method} {c : Code} {Q : State → Prop} {G : az_G} {d n0 n1 : Nat} {C : az_C} {Rp : az_R} (X : az_Cx p l e R s m args below meth c Q own cc nL ret nm G d n0 n1 C Rp) {cd : Nat → az_P} (hc : ∀ pc, az_Opk own cc nL ret nm pc (cd pc)) {pc : Nat} {ls st : List Value} {h : az_H} (w : az_W C Rp cd pc ls st h) : az_St p l e R s m args below meth c Q nL G n0 n1 pc ls st h :=
  w (az_St p l e R s m args below meth c Q nL G n0 n1) (fun pc ls st h hf => hc pc p l e R s m args below meth c Q G d n0 n1 C Rp X ls st h hf)
theorem ok_iconst {n : Int} {v : Int32} (hd : decode cc pc = .ok (.iconst n, 1)) (hv : Int32.ofInt n = v) : az_Opk own cc nL ret nm pc (az_const (.int v) (pc + 1)) := by
  intro p l e R s m args below meth c Q G d n0 n1 C Rp X ls st h hf
  refine ⟨hf.2.1, fun hn H locs lsA hw hS hl => ?_⟩
  exact lv_iconst X.1.1 X.1.2.1 hd hv (hf.2.2 hn H locs lsA hw hS hl)
theorem ok_bipush {n : Int} {v : Int32} (hd : decode cc pc = .ok (.bipush n, 2)) (hv : (Int8.ofInt n).toInt32 = v) : az_Opk own cc nL ret nm pc (az_const (.int v) (pc + 2)) := by
  intro p l e R s m args below meth c Q G d n0 n1 C Rp X ls st h hf
  refine ⟨hf.2.1, fun hn H locs lsA hw hS hl => ?_⟩
  exact lv_bipush X.1.1 X.1.2.1 hd hv (hf.2.2 hn H locs lsA hw hS hl)
theorem ok_sipush {n : Int} {v : Int32} (hd : decode cc pc = .ok (.sipush n, 3)) (hv : (Int16.ofInt n).toInt32 = v) : az_Opk own cc nL ret nm pc (az_const (.int v) (pc + 3)) := by
  intro p l e R s m args below meth c Q G d n0 n1 C Rp X ls st h hf
  refine ⟨hf.2.1, fun hn H locs lsA hw hS hl => ?_⟩
  exact lv_sipush X.1.1 X.1.2.1 hd hv (hf.2.2 hn H locs lsA hw hS hl)
theorem ok_lconst {n : Fin 2} {v : Int64} (hd : decode cc pc = .ok (.lconst n, 1)) (hv : Int64.ofNat (n : Nat) = v) : az_Opk own cc nL ret nm pc (az_const (.long v) (pc + 1)) := by
  intro p l e R s m args below meth c Q G d n0 n1 C Rp X ls st h hf
  refine ⟨hf.2.1, fun hn H locs lsA hw hS hl => ?_⟩
  exact lv_lconst X.1.1 X.1.2.1 hd hv (hf.2.2 hn H locs lsA hw hS hl)
theorem ok_ldc2 {idx : Nat} {v : Int64} (hw0 : Cond.constantLong own idx v ∈ lwG) (hd : decode cc pc = .ok (.ldc2_w idx, 3)) : az_Opk own cc nL ret nm pc (az_const (.long v) (pc + 3)) := by
  intro p l e R s m args below meth c Q G d n0 n1 C Rp X ls st h hf
  refine ⟨hf.2.1, fun hn H locs lsA hw hS hl => ?_⟩
  exact lv_ldc2 X.1.1 X.1.2.1 X.1.2.2.2.1 (X.1.2.2.2.2 _ hw0) hd (hf.2.2 hn H locs lsA hw hS hl)
theorem ok_ldcw {idx : Nat} {v : Int32} (hw0 : Cond.constant own idx v ∈ lwG) (hd : decode cc pc = .ok (.ldc_w idx, 3)) : az_Opk own cc nL ret nm pc (az_const (.int v) (pc + 3)) := by
  intro p l e R s m args below meth c Q G d n0 n1 C Rp X ls st h hf
  refine ⟨hf.2.1, fun hn H locs lsA hw hS hl => ?_⟩
  exact lv_ldcw X.1.1 X.1.2.1 X.1.2.2.2.1 (X.1.2.2.2.2 _ hw0) hd (hf.2.2 hn H locs lsA hw hS hl)
theorem ok_goto {off : Int} (hd : decode cc pc = .ok (.goto off, 3)) (ht : (pc : Int) + off = (t : Int)) : az_Opk own cc nL ret nm pc (az_goto t) := by
  intro p l e R s m args below meth c Q G d n0 n1 C Rp X ls st h hf
  refine ⟨hf.2.1, fun hn H locs lsA hw hS hl => ?_⟩
  exact lv_goto X.1.1 X.1.2.1 hd ht (hf.2.2 hn H locs lsA hw hS hl)
theorem ok_iload {i : Nat} (hd : decode cc pc = .ok (.iload i, 2)) : az_Opk own cc nL ret nm pc (az_iload i (pc + 2)) := by
  intro p l e R s m args below meth c Q G d n0 n1 C Rp X ls st h hf
  obtain ⟨x, hx, hk⟩ := iv_iload hf
  refine ⟨hk.1, fun hn H locs lsA hw hS hl => ?_⟩
  exact lv_iload X.1.1 X.1.2.1 hd (hl.2.2.2 _ _ hx (by simp)) (hk.2 hn H locs lsA hw hS hl)
theorem ok_iload_n {k : Fin 4} {i : Nat} (hd : decode cc pc = .ok (.iload_n k, 1)) (hi : (k : Nat) = i) : az_Opk own cc nL ret nm pc (az_iload i (pc + 1)) := by
  intro p l e R s m args below meth c Q G d n0 n1 C Rp X ls st h hf
  obtain ⟨x, hx, hk⟩ := iv_iload hf
  refine ⟨hk.1, fun hn H locs lsA hw hS hl => ?_⟩
  exact lv_iload_n X.1.1 X.1.2.1 hd hi (hl.2.2.2 _ _ hx (by simp)) (hk.2 hn H locs lsA hw hS hl)
theorem ok_lload {i : Nat} (hd : decode cc pc = .ok (.lload i, 2)) : az_Opk own cc nL ret nm pc (az_lload i (pc + 2)) := by
  intro p l e R s m args below meth c Q G d n0 n1 C Rp X ls st h hf
  obtain ⟨x, hx, hk⟩ := iv_lload hf
  refine ⟨hk.1, fun hn H locs lsA hw hS hl => ?_⟩
  exact lv_lload X.1.1 X.1.2.1 hd (hl.2.2.2 _ _ hx (by simp)) (hk.2 hn H locs lsA hw hS hl)
theorem ok_lload_n {k : Fin 4} {i : Nat} (hd : decode cc pc = .ok (.lload_n k, 1)) (hi : (k : Nat) = i) : az_Opk own cc nL ret nm pc (az_lload i (pc + 1)) := by
  intro p l e R s m args below meth c Q G d n0 n1 C Rp X ls st h hf
  obtain ⟨x, hx, hk⟩ := iv_lload hf
  refine ⟨hk.1, fun hn H locs lsA hw hS hl => ?_⟩
  exact lv_lload_n X.1.1 X.1.2.1 hd hi (hl.2.2.2 _ _ hx (by simp)) (hk.2 hn H locs lsA hw hS hl)
theorem ok_aload {i : Nat} (hd : decode cc pc = .ok (.aload i, 2)) : az_Opk own cc nL ret nm pc (az_aload i (pc + 2)) := by
  intro p l e R s m args below meth c Q G d n0 n1 C Rp X ls st h hf
  obtain ⟨x, hx, hk⟩ := iv_aload hf
  refine ⟨hk.1, fun hn H locs lsA hw hS hl => ?_⟩
  exact lv_aload X.1.1 X.1.2.1 hd (hl.2.2.2 _ _ hx (by simp)) (hk.2 hn H locs lsA hw hS hl)
theorem ok_aload_n {k : Fin 4} {i : Nat} (hd : decode cc pc = .ok (.aload_n k, 1)) (hi : (k : Nat) = i) : az_Opk own cc nL ret nm pc (az_aload i (pc + 1)) := by
  intro p l e R s m args below meth c Q G d n0 n1 C Rp X ls st h hf
  obtain ⟨x, hx, hk⟩ := iv_aload hf
  refine ⟨hk.1, fun hn H locs lsA hw hS hl => ?_⟩
  exact lv_aload_n X.1.1 X.1.2.1 hd hi (hl.2.2.2 _ _ hx (by simp)) (hk.2 hn H locs lsA hw hS hl)
theorem ok_istore {i : Nat} (hd : decode cc pc = .ok (.istore i, 2)) : az_Opk own cc nL ret nm pc (az_istore i (pc + 2)) := by
  intro p l e R s m args below meth c Q G d n0 n1 C Rp X ls st h hf
  obtain ⟨x, st1, ls1, rfl, hx, hk⟩ := iv_istore hf
  refine ⟨hk.1, fun hn H locs lsA hw hS hl => ?_⟩
  have hi2 := (az_st1_spec _ _ _ _ hx).1
  exact lv_istore X.1.1 X.1.2.1 hd hl.has (by rw [hl.2.2.1] at hi2; exact hi2) rfl (fun lsB hB => hk.2 hn H locs lsB hw hS (hl.st1 hx hB))
theorem ok_istore_n {k : Fin 4} {i : Nat} (hd : decode cc pc = .ok (.istore_n k, 1)) (hi : (k : Nat) = i) : az_Opk own cc nL ret nm pc (az_istore i (pc + 1)) := by
  intro p l e R s m args below meth c Q G d n0 n1 C Rp X ls st h hf
  obtain ⟨x, st1, ls1, rfl, hx, hk⟩ := iv_istore hf
  refine ⟨hk.1, fun hn H locs lsA hw hS hl => ?_⟩
  have hi2 := (az_st1_spec _ _ _ _ hx).1
  exact lv_istore_n X.1.1 X.1.2.1 hd hi hl.has (by rw [hl.2.2.1] at hi2; exact hi2) rfl (fun lsB hB => hk.2 hn H locs lsB hw hS (hl.st1 hx hB))
theorem ok_astore {i : Nat} (hd : decode cc pc = .ok (.astore i, 2)) : az_Opk own cc nL ret nm pc (az_astore i (pc + 2)) := by
  intro p l e R s m args below meth c Q G d n0 n1 C Rp X ls st h hf
  obtain ⟨x, st1, ls1, rfl, hx, hk⟩ := iv_astore hf
  refine ⟨hk.1, fun hn H locs lsA hw hS hl => ?_⟩
  have hi2 := (az_st1_spec _ _ _ _ hx).1
  exact lv_astore X.1.1 X.1.2.1 hd hl.has (by rw [hl.2.2.1] at hi2; exact hi2) rfl (fun lsB hB => hk.2 hn H locs lsB hw hS (hl.st1 hx hB))
theorem ok_astore_n {k : Fin 4} {i : Nat} (hd : decode cc pc = .ok (.astore_n k, 1)) (hi : (k : Nat) = i) : az_Opk own cc nL ret nm pc (az_astore i (pc + 1)) := by
  intro p l e R s m args below meth c Q G d n0 n1 C Rp X ls st h hf
  obtain ⟨x, st1, ls1, rfl, hx, hk⟩ := iv_astore hf
  refine ⟨hk.1, fun hn H locs lsA hw hS hl => ?_⟩
  have hi2 := (az_st1_spec _ _ _ _ hx).1
  exact lv_astore_n X.1.1 X.1.2.1 hd hi hl.has (by rw [hl.2.2.1] at hi2; exact hi2) rfl (fun lsB hB => hk.2 hn H locs lsB hw hS (hl.st1 hx hB))
theorem ok_lstore {i : Nat} (hd : decode cc pc = .ok (.lstore i, 2)) : az_Opk own cc nL ret nm pc (az_lstore i (pc + 2)) := by
  intro p l e R s m args below meth c Q G d n0 n1 C Rp X ls st h hf
  obtain ⟨x, st1, ls1, rfl, hx, hk⟩ := iv_lstore hf
  refine ⟨hk.1, fun hn H locs lsA hw hS hl => ?_⟩
  have hi2 := (az_st2_spec _ _ _ _ hx).1
  exact lv_lstore X.1.1 X.1.2.1 hd hl.has (by rw [hl.2.2.1] at hi2; exact hi2) rfl (fun lsB hB => hk.2 hn H locs lsB hw hS (hl.st2 hx hB))
theorem ok_lstore_n {k : Fin 4} {i : Nat} (hd : decode cc pc = .ok (.lstore_n k, 1)) (hi : (k : Nat) = i) : az_Opk own cc nL ret nm pc (az_lstore i (pc + 1)) := by
  intro p l e R s m args below meth c Q G d n0 n1 C Rp X ls st h hf
  obtain ⟨x, st1, ls1, rfl, hx, hk⟩ := iv_lstore hf
  refine ⟨hk.1, fun hn H locs lsA hw hS hl => ?_⟩
  have hi2 := (az_st2_spec _ _ _ _ hx).1
  exact lv_lstore_n X.1.1 X.1.2.1 hd hi hl.has (by rw [hl.2.2.1] at hi2; exact hi2) rfl (fun lsB hB => hk.2 hn H locs lsB hw hS (hl.st2 hx hB))
theorem ok_iinc {i : Nat} {n : Int} {v : Int32} (hd : decode cc pc = .ok (.iinc i n, 3)) (hv : Int32.ofInt n = v) : az_Opk own cc nL ret nm pc (az_iinc i v (pc + 3)) := by
  intro p l e R s m args below meth c Q G d n0 n1 C Rp X ls st h hf
  obtain ⟨x, ls1, h0, hx, hk⟩ := iv_iinc hf
  refine ⟨hk.1, fun hn H locs lsA hw hS hl => ?_⟩
  have hi2 := (az_st1_spec _ _ _ _ hx).1
  obtain ⟨k, hk2⟩ := List.getElem?_of_mem (az_lv_mem.mpr ⟨_, h0, by simp, rfl⟩ : (i, az_tr G (.int x)) ∈ az_lv G ls)
  exact lv_iinc (v := x + v) X.1.1 X.1.2.1 hd hl.has hk2 (by rw [hv]) (by rw [hl.2.2.1] at hi2; exact hi2) rfl (fun lsB hB => hk.2 hn H locs lsB hw hS (hl.st1 hx hB))
theorem ok_iadd (hd : decode cc pc = .ok (.iadd, 1)) : az_Opk own cc nL ret nm pc (az_ii (fun x y => x + y) (pc + 1)) := by
  intro p l e R s m args below meth c Q G d n0 n1 C Rp X ls st h hf
  obtain ⟨x, y, st1, rfl, hk⟩ := iv_ii hf
  refine ⟨hk.1, fun hn H locs lsA hw hS hl => ?_⟩
  exact lv_iadd X.1.1 X.1.2.1 hd (hk.2 hn H locs lsA hw hS hl)
theorem ok_isub (hd : decode cc pc = .ok (.isub, 1)) : az_Opk own cc nL ret nm pc (az_ii (fun x y => x - y) (pc + 1)) := by
  intro p l e R s m args below meth c Q G d n0 n1 C Rp X ls st h hf
  obtain ⟨x, y, st1, rfl, hk⟩ := iv_ii hf
  refine ⟨hk.1, fun hn H locs lsA hw hS hl => ?_⟩
  exact lv_isub X.1.1 X.1.2.1 hd (hk.2 hn H locs lsA hw hS hl)
theorem ok_imul (hd : decode cc pc = .ok (.imul, 1)) : az_Opk own cc nL ret nm pc (az_ii (fun x y => x * y) (pc + 1)) := by
  intro p l e R s m args below meth c Q G d n0 n1 C Rp X ls st h hf
  obtain ⟨x, y, st1, rfl, hk⟩ := iv_ii hf
  refine ⟨hk.1, fun hn H locs lsA hw hS hl => ?_⟩
  exact lv_imul X.1.1 X.1.2.1 hd (hk.2 hn H locs lsA hw hS hl)
theorem ok_iand (hd : decode cc pc = .ok (.iand, 1)) : az_Opk own cc nL ret nm pc (az_ii (fun x y => x &&& y) (pc + 1)) := by
  intro p l e R s m args below meth c Q G d n0 n1 C Rp X ls st h hf
  obtain ⟨x, y, st1, rfl, hk⟩ := iv_ii hf
  refine ⟨hk.1, fun hn H locs lsA hw hS hl => ?_⟩
  exact lv_iand X.1.1 X.1.2.1 hd (hk.2 hn H locs lsA hw hS hl)
theorem ok_ior (hd : decode cc pc = .ok (.ior, 1)) : az_Opk own cc nL ret nm pc (az_ii (fun x y => x ||| y) (pc + 1)) := by
  intro p l e R s m args below meth c Q G d n0 n1 C Rp X ls st h hf
  obtain ⟨x, y, st1, rfl, hk⟩ := iv_ii hf
  refine ⟨hk.1, fun hn H locs lsA hw hS hl => ?_⟩
  exact lv_ior X.1.1 X.1.2.1 hd (hk.2 hn H locs lsA hw hS hl)
theorem ok_ixor (hd : decode cc pc = .ok (.ixor, 1)) : az_Opk own cc nL ret nm pc (az_ii (fun x y => x ^^^ y) (pc + 1)) := by
  intro p l e R s m args below meth c Q G d n0 n1 C Rp X ls st h hf
  obtain ⟨x, y, st1, rfl, hk⟩ := iv_ii hf
  refine ⟨hk.1, fun hn H locs lsA hw hS hl => ?_⟩
  exact lv_ixor X.1.1 X.1.2.1 hd (hk.2 hn H locs lsA hw hS hl)
theorem ok_ishl (hd : decode cc pc = .ok (.ishl, 1)) : az_Opk own cc nL ret nm pc (az_ii (fun x y => x <<< (y &&& 31)) (pc + 1)) := by
  intro p l e R s m args below meth c Q G d n0 n1 C Rp X ls st h hf
  obtain ⟨x, y, st1, rfl, hk⟩ := iv_ii hf
  refine ⟨hk.1, fun hn H locs lsA hw hS hl => ?_⟩
  exact lv_ishl X.1.1 X.1.2.1 hd (hk.2 hn H locs lsA hw hS hl)
theorem ok_ishr (hd : decode cc pc = .ok (.ishr, 1)) : az_Opk own cc nL ret nm pc (az_ii (fun x y => x >>> (y &&& 31)) (pc + 1)) := by
  intro p l e R s m args below meth c Q G d n0 n1 C Rp X ls st h hf
  obtain ⟨x, y, st1, rfl, hk⟩ := iv_ii hf
  refine ⟨hk.1, fun hn H locs lsA hw hS hl => ?_⟩
  exact lv_ishr X.1.1 X.1.2.1 hd (hk.2 hn H locs lsA hw hS hl)
theorem ok_iushr (hd : decode cc pc = .ok (.iushr, 1)) : az_Opk own cc nL ret nm pc (az_ii (fun x y => (x.toUInt32 >>> (y.toUInt32 &&& Int32.toUInt32 31)).toInt32) (pc + 1)) := by
  intro p l e R s m args below meth c Q G d n0 n1 C Rp X ls st h hf
  obtain ⟨x, y, st1, rfl, hk⟩ := iv_ii hf
  refine ⟨hk.1, fun hn H locs lsA hw hS hl => ?_⟩
  exact lv_iushr X.1.1 X.1.2.1 hd rfl (hk.2 hn H locs lsA hw hS hl)
theorem ok_ineg (hd : decode cc pc = .ok (.ineg, 1)) : az_Opk own cc nL ret nm pc (az_i (fun x => -x) (pc + 1)) := by
  intro p l e R s m args below meth c Q G d n0 n1 C Rp X ls st h hf
  obtain ⟨x, st1, rfl, hk⟩ := iv_i hf
  refine ⟨hk.1, fun hn H locs lsA hw hS hl => ?_⟩
  exact lv_ineg X.1.1 X.1.2.1 hd (hk.2 hn H locs lsA hw hS hl)
theorem ok_i2b (hd : decode cc pc = .ok (.i2b, 1)) : az_Opk own cc nL ret nm pc (az_i (fun x => x.toInt8.toInt32) (pc + 1)) := by
  intro p l e R s m args below meth c Q G d n0 n1 C Rp X ls st h hf
  obtain ⟨x, st1, rfl, hk⟩ := iv_i hf
  refine ⟨hk.1, fun hn H locs lsA hw hS hl => ?_⟩
  exact lv_i2b X.1.1 X.1.2.1 hd rfl (hk.2 hn H locs lsA hw hS hl)
theorem ok_i2s (hd : decode cc pc = .ok (.i2s, 1)) : az_Opk own cc nL ret nm pc (az_i (fun x => x.toInt16.toInt32) (pc + 1)) := by
  intro p l e R s m args below meth c Q G d n0 n1 C Rp X ls st h hf
  obtain ⟨x, st1, rfl, hk⟩ := iv_i hf
  refine ⟨hk.1, fun hn H locs lsA hw hS hl => ?_⟩
  exact lv_i2s X.1.1 X.1.2.1 hd rfl (hk.2 hn H locs lsA hw hS hl)
theorem ok_ladd (hd : decode cc pc = .ok (.ladd, 1)) : az_Opk own cc nL ret nm pc (az_ll (fun p q => p + q) (pc + 1)) := by
  intro p l e R s m args below meth c Q G d n0 n1 C Rp X ls st h hf
  obtain ⟨x, y, st1, rfl, hk⟩ := iv_ll hf
  refine ⟨hk.1, fun hn H locs lsA hw hS hl => ?_⟩
  exact lv_ladd X.1.1 X.1.2.1 hd (hk.2 hn H locs lsA hw hS hl)
theorem ok_lsub (hd : decode cc pc = .ok (.lsub, 1)) : az_Opk own cc nL ret nm pc (az_ll (fun p q => p - q) (pc + 1)) := by
  intro p l e R s m args below meth c Q G d n0 n1 C Rp X ls st h hf
  obtain ⟨x, y, st1, rfl, hk⟩ := iv_ll hf
  refine ⟨hk.1, fun hn H locs lsA hw hS hl => ?_⟩
  exact lv_lsub X.1.1 X.1.2.1 hd (hk.2 hn H locs lsA hw hS hl)
theorem ok_lmul (hd : decode cc pc = .ok (.lmul, 1)) : az_Opk own cc nL ret nm pc (az_ll (fun p q => p * q) (pc + 1)) := by
  intro p l e R s m args below meth c Q G d n0 n1 C Rp X ls st h hf
  obtain ⟨x, y, st1, rfl, hk⟩ := iv_ll hf
  refine ⟨hk.1, fun hn H locs lsA hw hS hl => ?_⟩
  exact lv_lmul X.1.1 X.1.2.1 hd (hk.2 hn H locs lsA hw hS hl)
theorem ok_land (hd : decode cc pc = .ok (.land, 1)) : az_Opk own cc nL ret nm pc (az_ll (fun p q => p &&& q) (pc + 1)) := by
  intro p l e R s m args below meth c Q G d n0 n1 C Rp X ls st h hf
  obtain ⟨x, y, st1, rfl, hk⟩ := iv_ll hf
  refine ⟨hk.1, fun hn H locs lsA hw hS hl => ?_⟩
  exact lv_land X.1.1 X.1.2.1 hd (hk.2 hn H locs lsA hw hS hl)
theorem ok_lor (hd : decode cc pc = .ok (.lor, 1)) : az_Opk own cc nL ret nm pc (az_ll (fun p q => p ||| q) (pc + 1)) := by
  intro p l e R s m args below meth c Q G d n0 n1 C Rp X ls st h hf
  obtain ⟨x, y, st1, rfl, hk⟩ := iv_ll hf
  refine ⟨hk.1, fun hn H locs lsA hw hS hl => ?_⟩
  exact lv_lor X.1.1 X.1.2.1 hd (hk.2 hn H locs lsA hw hS hl)
theorem ok_lshl (hd : decode cc pc = .ok (.lshl, 1)) : az_Opk own cc nL ret nm pc (az_li (fun p y => p <<< (y.toInt64 &&& 63)) (pc + 1)) := by
  intro p l e R s m args below meth c Q G d n0 n1 C Rp X ls st h hf
  obtain ⟨x, y, st1, rfl, hk⟩ := iv_li hf
  refine ⟨hk.1, fun hn H locs lsA hw hS hl => ?_⟩
  exact lv_lshl X.1.1 X.1.2.1 hd rfl (hk.2 hn H locs lsA hw hS hl)
theorem ok_lshr (hd : decode cc pc = .ok (.lshr, 1)) : az_Opk own cc nL ret nm pc (az_li (fun p y => p >>> (y.toInt64 &&& 63)) (pc + 1)) := by
  intro p l e R s m args below meth c Q G d n0 n1 C Rp X ls st h hf
  obtain ⟨x, y, st1, rfl, hk⟩ := iv_li hf
  refine ⟨hk.1, fun hn H locs lsA hw hS hl => ?_⟩
  exact lv_lshr X.1.1 X.1.2.1 hd rfl (hk.2 hn H locs lsA hw hS hl)
theorem ok_lneg (hd : decode cc pc = .ok (.lneg, 1)) : az_Opk own cc nL ret nm pc (az_l (fun p => -p) (pc + 1)) := by
  intro p l e R s m args below meth c Q G d n0 n1 C Rp X ls st h hf
  obtain ⟨x, st1, rfl, hk⟩ := iv_l hf
  refine ⟨hk.1, fun hn H locs lsA hw hS hl => ?_⟩
  exact lv_lneg X.1.1 X.1.2.1 hd (hk.2 hn H locs lsA hw hS hl)
theorem ok_i2l (hd : decode cc pc = .ok (.i2l, 1)) : az_Opk own cc nL ret nm pc (az_i2l (pc + 1)) := by
  intro p l e R s m args below meth c Q G d n0 n1 C Rp X ls st h hf
  obtain ⟨x, st1, rfl, hk⟩ := iv_i2l hf
  refine ⟨hk.1, fun hn H locs lsA hw hS hl => ?_⟩
  exact lv_i2l X.1.1 X.1.2.1 hd rfl (hk.2 hn H locs lsA hw hS hl)
theorem ok_l2i (hd : decode cc pc = .ok (.l2i, 1)) : az_Opk own cc nL ret nm pc (az_l2i (pc + 1)) := by
  intro p l e R s m args below meth c Q G d n0 n1 C Rp X ls st h hf
  obtain ⟨x, st1, rfl, hk⟩ := iv_l2i hf
  refine ⟨hk.1, fun hn H locs lsA hw hS hl => ?_⟩
  exact lv_l2i X.1.1 X.1.2.1 hd rfl (hk.2 hn H locs lsA hw hS hl)
theorem ok_lcmp (hd : decode cc pc = .ok (.lcmp, 1)) : az_Opk own cc nL ret nm pc (az_lcmp (pc + 1)) := by
  intro p l e R s m args below meth c Q G d n0 n1 C Rp X ls st h hf
  obtain ⟨x, y, st1, rfl, hk⟩ := iv_lcmp hf
  refine ⟨hk.1, fun hn H locs lsA hw hS hl => ?_⟩
  exact W.lcmp X.1.1 X.1.2.1 hd (hk.2 hn H locs lsA hw hS hl)
theorem ok_dup2 (hd : decode cc pc = .ok (.dup2, 1)) : az_Opk own cc nL ret nm pc (az_dup2 (pc + 1)) := by
  intro p l e R s m args below meth c Q G d n0 n1 C Rp X ls st h hf
  obtain ⟨x, y, st1, rfl, hk⟩ := iv_dup2 hf
  refine ⟨hk.1, fun hn H locs lsA hw hS hl => ?_⟩
  exact lv_dup2_11 X.1.1 X.1.2.1 hd rfl rfl (hk.2 hn H locs lsA hw hS hl)
theorem ok_idiv (hd : decode cc pc = .ok (.idiv, 1)) : az_Opk own cc nL ret nm pc (az_idiv (pc + 1)) := by
  intro p l e R s m args below meth c Q G d n0 n1 C Rp X ls st h hf
  obtain ⟨x, y, st1, rfl, hne, hk⟩ := iv_idiv hf
  refine ⟨hk.1, fun hn H locs lsA hw hS hl => ?_⟩
  exact lv_idiv X.1.1 X.1.2.1 hd hne (hk.2 hn H locs lsA hw hS hl)
theorem ok_irem (hd : decode cc pc = .ok (.irem, 1)) : az_Opk own cc nL ret nm pc (az_irem (pc + 1)) := by
  intro p l e R s m args below meth c Q G d n0 n1 C Rp X ls st h hf
  obtain ⟨x, y, st1, rfl, hne, hk⟩ := iv_irem hf
  refine ⟨hk.1, fun hn H locs lsA hw hS hl => ?_⟩
  exact lv_irem X.1.1 X.1.2.1 hd hne (hk.2 hn H locs lsA hw hS hl)
theorem ok_ldiv (hd : decode cc pc = .ok (.ldiv, 1)) : az_Opk own cc nL ret nm pc (az_ldiv (pc + 1)) := by
  intro p l e R s m args below meth c Q G d n0 n1 C Rp X ls st h hf
  obtain ⟨x, y, st1, rfl, hne, hk⟩ := iv_ldiv hf
  refine ⟨hk.1, fun hn H locs lsA hw hS hl => ?_⟩
  exact lv_ldiv X.1.1 X.1.2.1 hd hne (hk.2 hn H locs lsA hw hS hl)
theorem ok_lrem (hd : decode cc pc = .ok (.lrem, 1)) : az_Opk own cc nL ret nm pc (az_lrem (pc + 1)) := by
  intro p l e R s m args below meth c Q G d n0 n1 C Rp X ls st h hf
  obtain ⟨x, y, st1, rfl, hne, hk⟩ := iv_lrem hf
  refine ⟨hk.1, fun hn H locs lsA hw hS hl => ?_⟩
  exact lv_lrem X.1.1 X.1.2.1 hd hne (hk.2 hn H locs lsA hw hS hl)
theorem ok_dup (hd : decode cc pc = .ok (.dup, 1)) : az_Opk own cc nL ret nm pc (az_dup (pc + 1)) := by
  intro p l e R s m args below meth c Q G d n0 n1 C Rp X ls st h hf
  obtain ⟨v, st1, rfl, hc, hk⟩ := iv_dup hf
  refine ⟨hk.1, fun hn H locs lsA hw hS hl => ?_⟩
  exact lv_dup X.1.1 X.1.2.1 hd ((az_tr_cat G v).trans hc) (hk.2 hn H locs lsA hw hS hl)
theorem ok_ifeq {off : Int} (hd : decode cc pc = .ok (.ifCond .eq off, 3)) (ht : (pc : Int) + off = (t : Int)) : az_Opk own cc nL ret nm pc (az_ifeq t (pc + 3)) := by
  intro p l e R s m args below meth c Q G d n0 n1 C Rp X ls st h hf
  obtain ⟨x, st1, rfl, k1, k2⟩ := iv_ifeq hf
  have hle : h.1 ≤ n1 := (Classical.em (x = (0 : Int32))).elim (fun q => (k1 q).1) (fun q => (k2 q).1)
  refine ⟨hle, fun hn H locs lsA hw hS hl => ?_⟩
  exact lv_if_eq X.1.1 X.1.2.1 hd ht (fun q => (k1 q).2 hn H locs lsA hw hS hl) (fun q => (k2 q).2 hn H locs lsA hw hS hl)
theorem ok_iceq {off : Int} (hd : decode cc pc = .ok (.if_icmp .eq off, 3)) (ht : (pc : Int) + off = (t : Int)) : az_Opk own cc nL ret nm pc (az_iceq t (pc + 3)) := by
  intro p l e R s m args below meth c Q G d n0 n1 C Rp X ls st h hf
  obtain ⟨x, y, st1, rfl, k1, k2⟩ := iv_iceq hf
  have hle : h.1 ≤ n1 := (Classical.em (x = y)).elim (fun q => (k1 q).1) (fun q => (k2 q).1)
  refine ⟨hle, fun hn H locs lsA hw hS hl => ?_⟩
  exact lv_icmp_eq X.1.1 X.1.2.1 hd ht (fun q => (k1 q).2 hn H locs lsA hw hS hl) (fun q => (k2 q).2 hn H locs lsA hw hS hl)
theorem ok_ifne {off : Int} (hd : decode cc pc = .ok (.ifCond .ne off, 3)) (ht : (pc : Int) + off = (t : Int)) : az_Opk own cc nL ret nm pc (az_ifne t (pc + 3)) := by
  intro p l e R s m args below meth c Q G d n0 n1 C Rp X ls st h hf
  obtain ⟨x, st1, rfl, k1, k2⟩ := iv_ifne hf
  have hle : h.1 ≤ n1 := (Classical.em (x = (0 : Int32))).elim (fun q => (k1 q).1) (fun q => (k2 q).1)
  refine ⟨hle, fun hn H locs lsA hw hS hl => ?_⟩
  exact lv_if_ne X.1.1 X.1.2.1 hd ht (fun q => (k2 q).2 hn H locs lsA hw hS hl) (fun q => (k1 q).2 hn H locs lsA hw hS hl)
theorem ok_icne {off : Int} (hd : decode cc pc = .ok (.if_icmp .ne off, 3)) (ht : (pc : Int) + off = (t : Int)) : az_Opk own cc nL ret nm pc (az_icne t (pc + 3)) := by
  intro p l e R s m args below meth c Q G d n0 n1 C Rp X ls st h hf
  obtain ⟨x, y, st1, rfl, k1, k2⟩ := iv_icne hf
  have hle : h.1 ≤ n1 := (Classical.em (x = y)).elim (fun q => (k1 q).1) (fun q => (k2 q).1)
  refine ⟨hle, fun hn H locs lsA hw hS hl => ?_⟩
  exact lv_icmp_ne X.1.1 X.1.2.1 hd ht (fun q => (k2 q).2 hn H locs lsA hw hS hl) (fun q => (k1 q).2 hn H locs lsA hw hS hl)
theorem ok_iflt {off : Int} (hd : decode cc pc = .ok (.ifCond .lt off, 3)) (ht : (pc : Int) + off = (t : Int)) : az_Opk own cc nL ret nm pc (az_iflt t (pc + 3)) := by
  intro p l e R s m args below meth c Q G d n0 n1 C Rp X ls st h hf
  obtain ⟨x, st1, rfl, k1, k2⟩ := iv_iflt hf
  have hle : h.1 ≤ n1 := (Classical.em (x < (0 : Int32))).elim (fun q => (k1 q).1) (fun q => (k2 q).1)
  refine ⟨hle, fun hn H locs lsA hw hS hl => ?_⟩
  exact lv_if_lt X.1.1 X.1.2.1 hd ht (fun q => (k1 q).2 hn H locs lsA hw hS hl) (fun q => (k2 q).2 hn H locs lsA hw hS hl)
theorem ok_iclt {off : Int} (hd : decode cc pc = .ok (.if_icmp .lt off, 3)) (ht : (pc : Int) + off = (t : Int)) : az_Opk own cc nL ret nm pc (az_iclt t (pc + 3)) := by
  intro p l e R s m args below meth c Q G d n0 n1 C Rp X ls st h hf
  obtain ⟨x, y, st1, rfl, k1, k2⟩ := iv_iclt hf
  have hle : h.1 ≤ n1 := (Classical.em (x < y)).elim (fun q => (k1 q).1) (fun q => (k2 q).1)
  refine ⟨hle, fun hn H locs lsA hw hS hl => ?_⟩
  exact lv_icmp_lt X.1.1 X.1.2.1 hd ht (fun q => (k1 q).2 hn H locs lsA hw hS hl) (fun q => (k2 q).2 hn H locs lsA hw hS hl)
theorem ok_ifge {off : Int} (hd : decode cc pc = .ok (.ifCond .ge off, 3)) (ht : (pc : Int) + off = (t : Int)) : az_Opk own cc nL ret nm pc (az_ifge t (pc + 3)) := by
  intro p l e R s m args below meth c Q G d n0 n1 C Rp X ls st h hf
  obtain ⟨x, st1, rfl, k1, k2⟩ := iv_ifge hf
  have hle : h.1 ≤ n1 := (Classical.em ((0 : Int32) ≤ x)).elim (fun q => (k1 q).1) (fun q => (k2 q).1)
  refine ⟨hle, fun hn H locs lsA hw hS hl => ?_⟩
  exact lv_if_ge X.1.1 X.1.2.1 hd ht (fun q => (k1 q).2 hn H locs lsA hw hS hl) (fun q => (k2 q).2 hn H locs lsA hw hS hl)
theorem ok_icge {off : Int} (hd : decode cc pc = .ok (.if_icmp .ge off, 3)) (ht : (pc : Int) + off = (t : Int)) : az_Opk own cc nL ret nm pc (az_icge t (pc + 3)) := by
  intro p l e R s m args below meth c Q G d n0 n1 C Rp X ls st h hf
  obtain ⟨x, y, st1, rfl, k1, k2⟩ := iv_icge hf
  have hle : h.1 ≤ n1 := (Classical.em (y ≤ x)).elim (fun q => (k1 q).1) (fun q => (k2 q).1)
  refine ⟨hle, fun hn H locs lsA hw hS hl => ?_⟩
  exact lv_icmp_ge X.1.1 X.1.2.1 hd ht (fun q => (k1 q).2 hn H locs lsA hw hS hl) (fun q => (k2 q).2 hn H locs lsA hw hS hl)
theorem ok_ifgt {off : Int} (hd : decode cc pc = .ok (.ifCond .gt off, 3)) (ht : (pc : Int) + off = (t : Int)) : az_Opk own cc nL ret nm pc (az_ifgt t (pc + 3)) := by
  intro p l e R s m args below meth c Q G d n0 n1 C Rp X ls st h hf
  obtain ⟨x, st1, rfl, k1, k2⟩ := iv_ifgt hf
  have hle : h.1 ≤ n1 := (Classical.em ((0 : Int32) < x)).elim (fun q => (k1 q).1) (fun q => (k2 q).1)
  refine ⟨hle, fun hn H locs lsA hw hS hl => ?_⟩
  exact lv_if_gt X.1.1 X.1.2.1 hd ht (fun q => (k1 q).2 hn H locs lsA hw hS hl) (fun q => (k2 q).2 hn H locs lsA hw hS hl)
theorem ok_icgt {off : Int} (hd : decode cc pc = .ok (.if_icmp .gt off, 3)) (ht : (pc : Int) + off = (t : Int)) : az_Opk own cc nL ret nm pc (az_icgt t (pc + 3)) := by
  intro p l e R s m args below meth c Q G d n0 n1 C Rp X ls st h hf
  obtain ⟨x, y, st1, rfl, k1, k2⟩ := iv_icgt hf
  have hle : h.1 ≤ n1 := (Classical.em (y < x)).elim (fun q => (k1 q).1) (fun q => (k2 q).1)
  refine ⟨hle, fun hn H locs lsA hw hS hl => ?_⟩
  exact lv_icmp_gt X.1.1 X.1.2.1 hd ht (fun q => (k1 q).2 hn H locs lsA hw hS hl) (fun q => (k2 q).2 hn H locs lsA hw hS hl)
theorem ok_ifle {off : Int} (hd : decode cc pc = .ok (.ifCond .le off, 3)) (ht : (pc : Int) + off = (t : Int)) : az_Opk own cc nL ret nm pc (az_ifle t (pc + 3)) := by
  intro p l e R s m args below meth c Q G d n0 n1 C Rp X ls st h hf
  obtain ⟨x, st1, rfl, k1, k2⟩ := iv_ifle hf
  have hle : h.1 ≤ n1 := (Classical.em (x ≤ (0 : Int32))).elim (fun q => (k1 q).1) (fun q => (k2 q).1)
  refine ⟨hle, fun hn H locs lsA hw hS hl => ?_⟩
  exact lv_if_le X.1.1 X.1.2.1 hd ht (fun q => (k1 q).2 hn H locs lsA hw hS hl) (fun q => (k2 q).2 hn H locs lsA hw hS hl)
theorem ok_icle {off : Int} (hd : decode cc pc = .ok (.if_icmp .le off, 3)) (ht : (pc : Int) + off = (t : Int)) : az_Opk own cc nL ret nm pc (az_icle t (pc + 3)) := by
  intro p l e R s m args below meth c Q G d n0 n1 C Rp X ls st h hf
  obtain ⟨x, y, st1, rfl, k1, k2⟩ := iv_icle hf
  have hle : h.1 ≤ n1 := (Classical.em (x ≤ y)).elim (fun q => (k1 q).1) (fun q => (k2 q).1)
  refine ⟨hle, fun hn H locs lsA hw hS hl => ?_⟩
  exact lv_icmp_le X.1.1 X.1.2.1 hd ht (fun q => (k1 q).2 hn H locs lsA hw hS hl) (fun q => (k2 q).2 hn H locs lsA hw hS hl)
end OK
