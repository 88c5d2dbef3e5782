/-! ===== the law's own operations: its script ===== -/
/-- as az_Opk, with a script of M ints xs at the address that 9003 stands for -/
def az_Opl (M : Nat) (xs : Nat → Int32) (own : String) (cc : ByteArray) (nL : Nat) (ret : Option FieldType) (nm : String) (pc : Nat) (o : az_P) : Prop :=
  ∀ (p : Program) (l : Launch) (e : Env) (R : Room) (s : State) (m : MethodId) (args : Array Value) (below : List Frame) (meth : Method) (c : Code) (Q : State → Prop) (G : az_G) (d n0 n1 : Nat) (C : az_C) (Rp : az_R), az_Cx p l e R s m args below meth c Q own cc nL ret nm G d n0 n1 C Rp → (va_X (G.2.1 3) M xs s s.heap ∧ G.2.1 3 < G.1) →
    ∀ (ls st : List Value) (h : az_H), az_F C Rp (az_St p l e R s m args below meth c Q nL G n0 n1) h (o ls st h) → az_St p l e R s m args below meth c Q nL G n0 n1 pc ls st h
section OL
variable {M : Nat} {xs : Nat → Int32} {own : String} {cc : ByteArray} {nL : Nat} {ret : Option FieldType} {nm : String} {pc nx t : Nat}
theorem ol_of {o : az_P} (h : az_Opk own cc nL ret nm pc o) : az_Opl M xs own cc nL ret nm pc o := by
  intro p l e R s m args below meth c Q G d n0 n1 C Rp X _ ls st hh hf
  exact h p l e R s m args below meth c Q G d n0 n1 C Rp X ls st hh hf
theorem ol_br {k : Nat} {x y : Nat → az_P} (hx : ∀ pc, az_Opl M xs own cc nL ret nm pc (x pc)) (hy : ∀ pc, az_Opl M xs own cc nL ret nm pc (y pc)) : ∀ pc, az_Opl M xs own cc nL ret nm pc (az_br k x y pc) := by
  intro pc
  unfold az_br
  split
  · exact hx pc
  · exact hy pc
theorem ol_lf {k : Nat} {x : az_P} (hx : az_Opl M xs own cc nL ret nm k x) : ∀ pc, az_Opl M xs own cc nL ret nm pc (az_lf k x pc) := by
  intro pc
  unfold az_lf
  split
  · rename_i q; rw [q]; exact hx
  · exact ol_of ok_no
theorem az_siml {p : Program} {l : Launch} {e : Env} {R : Room} {s : State} {m : MethodId} {args : Array Value} {below : List Frame} {meth : Method} {c : Code} {Q : State → Prop} {G : az_G} {d n0 n1 : Nat} {C : az_C} {Rp : az_R} (X : az_Cx p l e R s m args below meth c Q own cc nL ret nm G d n0 n1 C Rp) (hX : va_X (G.2.1 3) M xs s s.heap ∧ G.2.1 3 < G.1) {cd : Nat → az_P} (hc : ∀ pc, az_Opl M xs own cc nL ret nm pc (cd pc)) {pc : Nat} {ls st : List Value} {h : az_H} (w : az_W C Rp cd pc ls st h) : az_St p l e R s m args below meth c Q nL G n0 n1 pc ls st h :=
  w (az_St p l e R s m args below meth c Q nL G n0 n1) (fun pc ls st h hf => hc pc p l e R s m args below meth c Q G d n0 n1 C Rp X hX ls st h hf)
theorem az_ad3 (G : az_G) : az_ad G 9003 = G.2.1 3 := by unfold az_ad; rw [if_neg (by decide)]
theorem ol_sld (hd : decode cc pc = .ok (.iaload, 1)) : az_Opl M xs own cc nL ret nm pc (az_sld M xs (pc + 1)) := by
  intro p l e R s m args below meth c Q G d n0 n1 C Rp X hX ls st h hf
  obtain ⟨i, st1, rfl, hi, hk2⟩ := iv_sld hf
  refine ⟨hk2.1, fun hn H locs lsA hw hS hl => ?_⟩
  show W p l e R s m args below meth c H locs _ _ Q (F0 m pc lsA (.int i :: .ref (az_ad G 9003) :: _))
  rw [az_ad3]
  exact va_sld (A := az_A G) X.1.1 X.1.2.1 hX.1 (Nat.lt_of_lt_of_le hX.2 X.2.1.2.2.2.1) (Nat.not_le.mpr hX.2) hS (az_in_vp hi) hd (hk2.2 hn H locs lsA hw hS hl)
theorem ol_slen (hd : decode cc pc = .ok (.arraylength, 1)) : az_Opl M xs own cc nL ret nm pc (az_slen M (pc + 1)) := by
  intro p l e R s m args below meth c Q G d n0 n1 C Rp X hX ls st h hf
  obtain ⟨st1, rfl, hk2⟩ := iv_slen hf
  refine ⟨hk2.1, fun hn H locs lsA hw hS hl => ?_⟩
  show W p l e R s m args below meth c H locs _ _ Q (F0 m pc lsA (.ref (az_ad G 9003) :: _))
  rw [az_ad3]
  exact va_slen (A := az_A G) X.1.1 X.1.2.1 hX.1 (Nat.lt_of_lt_of_le hX.2 X.2.1.2.2.2.1) (Nat.not_le.mpr hX.2) hS hd (hk2.2 hn H locs lsA hw hS hl)
end OL
