/-! ===== arrays of arrays, constructors' calls, the script; a method's contract ===== -/
theorem aw_outer (c : ClassId) (N h0 : Nat) : ∀ i : Nat, Jvm.Free.Multi.outerC c N h0 i = arrV c N (fun j => va_rf (if j < i then some (h0 + 1 + j) else none))
  | 0 => by
    show ({ cls := c, slots := Array.replicate N .null, vm := .none } : Cell) = _
    rw [arrV_new]
    refine congrArg (arrV c N) (funext fun j => ?_)
    simp [va_rf]
  | i + 1 => by
    show (Jvm.Free.Multi.outerC c N h0 i).setSlot i (.ref (h0 + 1 + i)) = _
    rw [aw_outer c N h0 i, arrV_store]
    refine congrArg (arrV c N) (funext fun j => ?_)
    by_cases e : j = i
    · subst e
      simp [updV, va_rf]
    · by_cases h : j < i
      · simp [updV, e, h, Nat.lt_succ_of_lt h]
      · simp [updV, e, h, show ¬ j < i + 1 by omega]
theorem az_sg_rows {a k : Nat} : ∀ {n : Nat}, (∀ j, j < n → az_kd (a + j) = (1, k)) → az_sg (a + n) = az_sg a + n * k
  | 0, _ => by simp
  | n + 1, h => by
    have h1 := az_sg_rows (n := n) (fun j hj => h j (by omega))
    rw [show a + (n + 1) = (a + n) + 1 by omega, az_sg_s, h1]
    have h2 : az_sz (a + n) = k := by simp [az_sz, h n (by omega)]
    rw [h2, Nat.succ_mul]; omega
section OK
variable {own : String} {cc : ByteArray} {nL : Nat} {ret : Option FieldType} {nm : String} {pc nx t : Nat}
theorem ok_mna {idx : Nat} (h1 : Cond.classLink own idx "[[I" ∈ lwG) (h2 : Cond.arrayClass .int ∈ lwG) (h3 : Cond.arrayOver (.array .int) ∈ lwN) (hd : decode cc pc = .ok (.multianewarray idx 2, 4)) : az_Opk own cc nL ret nm pc (az_mna (pc + 4)) := by
  intro p l e R s m args below meth c Q G d n0 n1 C Rp X ls st h hf
  obtain ⟨k, n, st1, rfl, ⟨hn0, hk0, hkd, hall⟩, hk2⟩ := iv_mna hf
  have hle : h.1 + 1 + n.toNatClampNeg ≤ n1 := hk2.1
  refine ⟨by omega, fun hn H locs lsA hw hS hl => ?_⟩
  have hrow : ∀ j, j < n.toNatClampNeg → az_kd (h.1 + 1 + j) = (1, k.toNatClampNeg) := fun j hj => by
    have := List.all_eq_true.mp hall j (List.mem_range.mpr hj)
    simpa using this
  have hlt := az_kd_lt hkd (by omega)
  have hsm := az_kd_sz hkd (by omega)
  have hkm : 0 < n.toNatClampNeg → k.toNatClampNeg ≤ 240 := fun hp => az_kd_sz (hrow 0 hp) (by omega)
  have hsz : az_sz h.1 = n.toNatClampNeg := by simp [az_sz, hkd]
  have hsg1 : az_sg (h.1 + 1 + n.toNatClampNeg) = az_sg h.1 + n.toNatClampNeg + n.toNatClampNeg * k.toNatClampNeg := by
    rw [az_sg_rows hrow, az_sg_s, hsz]
  have hsg : az_sg (h.1 + 1 + n.toNatClampNeg) ≤ az_sg n1 := az_sg_mono hle
  have hsg0 : az_sg n0 ≤ az_sg h.1 := az_sg_mono hn
  have hkt := aw_nt k hk0
  have hkl : k.toInt ≤ 2147483647 := Int32.toInt_le k
  intro T hT Xs
  have hover : (Cond.arrayOver (.array .int)).before args s = true := X.2.1.2.2.1 _ h3
  by_cases hz : n.toNatClampNeg = 0
  · exfalso
    have : az_kl.all (fun q => decide (q.1 = 3 → 0 < q.2)) = true := by decide +kernel
    have hl9 : az_kl.getD h.1 (9, 0) = (3, n.toNatClampNeg) := by
      unfold az_kd at hkd
      rw [if_pos hlt] at hkd; exact hkd
    by_cases hq : h.1 < az_kl.length
    · have h2 : az_kl.getD h.1 (9, 0) = az_kl[h.1] := by simp [List.getD, hq]
      rw [h2] at hl9
      have h3 := List.all_eq_true.mp this _ (List.getElem_mem hq)
      rw [hl9] at h3
      have h4 : 0 < n.toNatClampNeg := (of_decide_eq_true h3) rfl
      omega
    · have h2 : az_kl.getD h.1 (9, 0) = (9, 0) := by simp [List.getD, List.getElem?_eq_none (Nat.le_of_not_lt hq)]
      rw [h2] at hl9; simp at hl9
  have hkm := hkm (by omega)
  obtain ⟨vm₁, cA, comp, -, fA, fC, hO, -, X', step⟩ := Xs.multianewarray2F X.1.1 X.1.2.2.2.1 (X.1.2.2.2.2 _ h1) hover (X.1.2.2.2.2 _ h2) (g := F0 m pc lsA (.int k :: .int n :: st1.map (az_tr G))) rfl (by rw [X.1.2.1]; exact hd) rfl (aw_nn hn0) (aw_nn hk0) (by omega) (by show _ * 4 ≤ _; omega) (by omega) rfl rfl (Nat.le_trans (show h.1 - n0 + (1 + n.toNatClampNeg) ≤ n1 - n0 by omega) X.2.2.1.2.2.1) (Nat.le_trans (show az_sg h.1 - az_sg n0 + (n.toNatClampNeg + n.toNatClampNeg * k.toNatClampNeg) ≤ az_sg n1 - az_sg n0 by omega) X.2.2.1.2.2.2)
  have ecA : cA = G.2.2.2.2.2 := Option.some.inj (fA.symm.trans (X.2.1.1.2 2 _ rfl).2)
  have ecI : comp = G.2.2.2.1 := Option.some.inj (fC.symm.trans (X.2.1.1.2 0 _ rfl).2)
  subst ecA
  subst ecI
  generalize hF : Jvm.Free.Multi.fill (T.setVm vm₁) G.2.2.2.2.2 G.2.2.2.1 n.toNatClampNeg k.toNatClampNeg (defaultValue .int) n.toNatClampNeg = F at X' step
  have hTh : (T.setVm vm₁).heap = H := hT
  obtain ⟨f1, f2, -, -⟩ := Jvm.Free.Multi.fill_facts (T.setVm vm₁) G.2.2.2.2.2 G.2.2.2.1 n.toNatClampNeg k.toNatClampNeg (defaultValue .int) n.toNatClampNeg
  rw [hF, hTh] at f1 f2
  have hold : ∀ x : Nat, x < H.size → F.heap[x]? = H[x]? := fun x hx => by
    have := Jvm.Free.Multi.fill_old (T.setVm vm₁) G.2.2.2.2.2 G.2.2.2.1 n.toNatClampNeg k.toNatClampNeg (defaultValue .int) (a := x) (by rw [hTh]; exact hx) n.toNatClampNeg
    rw [hF, hTh] at this
    exact this
  have hinn : ∀ j : Nat, j < n.toNatClampNeg → F.heap[H.size + 1 + j]? = some (arrV G.2.2.2.1 k.toNatClampNeg (fun _ => .int 0)) := fun j hj => by
    have := Jvm.Free.Multi.fill_inner (T.setVm vm₁) G.2.2.2.2.2 G.2.2.2.1 n.toNatClampNeg k.toNatClampNeg (defaultValue .int) n.toNatClampNeg j hj
    rw [hF, hTh] at this
    rw [this, ← arrV_new]; rfl
  rw [aw_outer] at f2
  rw [hw.1] at f1 f2 hinn
  have hw1 : az_Wd G (h.1 + 1 + n.toNatClampNeg, az_uR h.2.1 h.1 n.toNatClampNeg, h.2.2.1, h.2.2.2) F.heap := by
    refine hw.grow (by show h.1 ≤ h.1 + 1 + n.toNatClampNeg; omega) ?_ rfl rfl (fun b hb j => ?_) (by rw [f1]; show _ = G.1 + (h.1 + 1 + n.toNatClampNeg); omega) hold (fun a ha hb => ?_)
    · show h.1 + 1 + n.toNatClampNeg ≤ 9000
      have h9 := az_kd_lt (hrow (n.toNatClampNeg - 1) (by omega)) (by omega)
      omega
    · have hb : b < h.1 ∨ h.1 + 1 + n.toNatClampNeg ≤ b := hb
      show az_uR h.2.1 h.1 n.toNatClampNeg b j = h.2.1 b j
      unfold az_uR
      rw [if_neg (by omega)]
    · have hb : a < h.1 + 1 + n.toNatClampNeg := hb
      by_cases ea : a = h.1
      · subst ea
        rw [az_e_a hkd]
        show F.heap[G.1 + h.1]? = some (vp_cell _ _)
        rw [f2, vp_cell_q]
        refine congrArg (fun f => some (arrV _ _ f)) (funext fun j => ?_)
        show _ = va_rf ((az_uR h.2.1 h.1 n.toNatClampNeg h.1 j).map (az_ad G))
        unfold az_uR
        by_cases hj : j < n.toNatClampNeg
        · have h9 := az_kd_lt (hrow j hj) (by omega)
          rw [if_pos hj, if_pos ⟨rfl, hj⟩]
          show va_rf (some _) = va_rf (some (az_ad G (h.1 + 1 + j)))
          rw [az_ad_lt h9, show G.1 + h.1 + 1 + j = G.1 + (h.1 + 1 + j) by omega]
        · rw [if_neg hj, if_neg (fun q => hj q.2), (hw.2.2.2 h.1 (Nat.le_refl _) j).1]; rfl
      · obtain ⟨j, hj, rfl⟩ : ∃ j, j < n.toNatClampNeg ∧ a = h.1 + 1 + j := ⟨a - h.1 - 1, by omega, by omega⟩
        rw [az_e_i (hrow j hj)]
        show F.heap[G.1 + (h.1 + 1 + j)]? = some (vp_cell _ _)
        rw [show G.1 + (h.1 + 1 + j) = G.1 + h.1 + 1 + j by omega, hinn j hj, vp_cell_i]
        show _ = some (arrV _ _ fun i => .int (h.2.2.1 (h.1 + 1 + j) i))
        rw [show h.2.2.1 (h.1 + 1 + j) = fun _ => 0 from funext fun i => (hw.2.2.2 (h.1 + 1 + j) (by omega) i).2.1]
  have hS1 : va_S (az_A G) s.heap F.heap locs := ⟨by rw [f1]; have := hS.1; rw [hw.1] at this; omega, fun x g1 g2 => (hold x (Nat.lt_of_lt_of_le g1 hS.1)).trans (hS.2.1 x g1 g2), hS.2.2⟩
  have h9 := hk2.2 (by show n0 ≤ h.1 + 1 + n.toNatClampNeg; omega) F.heap locs lsA hw1 hS1 hl
  have ead : az_ad G h.1 = G.1 + h.1 := az_ad_lt hlt
  have h9 : W p l e R s m args below meth c F.heap locs (h.1 + 1 + n.toNatClampNeg - n0) (az_sg (h.1 + 1 + n.toNatClampNeg) - az_sg n0) Q (F0 m (pc + 4) lsA (.ref (az_ad G h.1) :: st1.map (az_tr G))) := h9
  rw [ead, hsg1, show h.1 + 1 + n.toNatClampNeg - n0 = h.1 - n0 + 1 + n.toNatClampNeg by omega, show az_sg h.1 + n.toNatClampNeg + n.toNatClampNeg * k.toNatClampNeg - az_sg n0 = az_sg h.1 - az_sg n0 + n.toNatClampNeg + n.toNatClampNeg * k.toNatClampNeg by omega] at h9
  obtain ⟨t, a1, b1⟩ := h9 F rfl X'
  refine ⟨t, step t ?_, b1⟩
  have e : T.heap.size = G.1 + h.1 := by rw [hT]; exact hw.1
  rw [e]
  exact a1
theorem ok_ivi {mno idx : Nat} (hc : az_Cb own idx mno 0) (hret : (az_T mno).2.2.2 = none) (hni : (az_T mno).1.name = "<init>") (hin : Cond.instanceMethod (az_T mno).1 ∈ lwG) (hl0 : Cond.methodLink own idx (az_T mno).1 ∈ lwG) (hd : decode cc pc = .ok (.invokespecial idx, 3)) : az_Opk own cc nL ret nm pc (az_ivi mno (pc + 3)) := by
  intro p l e R s m args below meth c Q G d n0 n1 C Rp X ls st h hf
  obtain ⟨a, st1, rfl, hlen, r, h', hC, hle, hk2⟩ := iv_ivi hf
  refine ⟨Nat.le_trans hle hk2.1, fun hn H locs lsA hw hS hl => ?_⟩
  have hsg : az_sg h'.1 ≤ az_sg n1 := az_sg_mono hk2.1
  have hsg1 : az_sg h.1 ≤ az_sg h'.1 := az_sg_mono hle
  have hsg0 : az_sg n0 ≤ az_sg h.1 := az_sg_mono hn
  have hn1 := hk2.1
  have hw0 : az_wd mno = Cond.code (az_T mno).1 (az_T mno).2.1 (az_T mno).2.2.1 none :: lwG := by unfold az_wd az_cw; rw [hret]
  have hb := callB_of (args := args) (own := own) (index := idx) (R := R) (rm := az_rm d (h'.1 - h.1) (az_sg h'.1 - az_sg h.1)) (ws := az_wd mno) (ws' := lwG) 0 X.1.2.2.2.2 (az_wd_good mno hc.1) hw0 rfl rfl (X.1.2.2.2.2 _ hc.2.1) (X.1.2.2.2.2 _ hl0) hc.2.2.1 (az_room X.2.2.1.1 X.2.2.1.2.1 hc.2.2.2)
  refine aw_call (rest := st1.map (az_tr G)) (va_runI (As := []) (b := az_ad G a) (rest := st1.map (az_tr G)) ⟨X.1.1, X.1.2.1, X.1.2.2.1, X.1.2.2.2.1, X.1.2.2.2.2⟩ (X.2.2.2.1 G mno [.ref a] h r h' hC) ⟨hb, hni, X.1.2.2.2.2 _ hin⟩ ⟨az_blind, fun U hU hW => ⟨rfl, az_Pre_of X.2.1.1 X.2.1.2.1 X.2.1.2.2.1 X.2.1.2.2.2.1 hw hS U hU hW⟩⟩ rfl rfl hl.1 rfl (lv_room (az_cat8 G hlen)) hd ⟨Nat.le_trans (show h.1 - n0 + (h'.1 - h.1) ≤ n1 - n0 by omega) X.2.2.1.2.2.1, Nat.le_trans (show az_sg h.1 - az_sg n0 + (az_sg h'.1 - az_sg h.1) ≤ az_sg n1 - az_sg n0 by omega) X.2.2.1.2.2.2⟩) hS (fun H1 locs1 hw1 hS1 => ?_)
  have h9 := hk2.2 (Nat.le_trans hn hle) H1 locs1 lsA hw1 hS1 hl
  rw [show h.1 - n0 + (h'.1 - h.1) = h'.1 - n0 by omega, show az_sg h.1 - az_sg n0 + (az_sg h'.1 - az_sg h.1) = az_sg h'.1 - az_sg n0 by omega]
  rw [List.map_append] at h9
  cases r <;> exact h9
theorem ok_iviN {mno idx : Nat} {host : String} (hc : az_Cb own idx mno 0) (hret : (az_T mno).2.2.2 = none) (hni : (az_T mno).1.name = "<init>") (hin : Cond.instanceMethod (az_T mno).1 ∈ lwG) (hl0 : Cond.methodLinkNest own idx (az_T mno).1 host ∈ lwN) (hd : decode cc pc = .ok (.invokespecial idx, 3)) : az_Opk own cc nL ret nm pc (az_ivi mno (pc + 3)) := by
  intro p l e R s m args below meth c Q G d n0 n1 C Rp X ls st h hf
  obtain ⟨a, st1, rfl, hlen, r, h', hC, hle, hk2⟩ := iv_ivi hf
  refine ⟨Nat.le_trans hle hk2.1, fun hn H locs lsA hw hS hl => ?_⟩
  have hsg : az_sg h'.1 ≤ az_sg n1 := az_sg_mono hk2.1
  have hsg1 : az_sg h.1 ≤ az_sg h'.1 := az_sg_mono hle
  have hsg0 : az_sg n0 ≤ az_sg h.1 := az_sg_mono hn
  have hn1 := hk2.1
  have hw0 : az_wd mno = Cond.code (az_T mno).1 (az_T mno).2.1 (az_T mno).2.2.1 none :: lwG := by unfold az_wd az_cw; rw [hret]
  have hb := va_cnB (args := args) (own := own) (index := idx) (R := R) (rm := az_rm d (h'.1 - h.1) (az_sg h'.1 - az_sg h.1)) (ws := az_wd mno) (ws' := lwG) 0 X.1.2.2.2.2 (az_wd_good mno hc.1) hw0 rfl rfl (X.2.1.2.2.1 _ hl0) (X.1.2.2.2.2 _ hc.2.1) hc.2.2.1 (az_room X.2.2.1.1 X.2.2.1.2.1 hc.2.2.2)
  refine aw_call (rest := st1.map (az_tr G)) (va_runIN (As := []) (b := az_ad G a) (rest := st1.map (az_tr G)) ⟨X.1.1, X.1.2.1, X.1.2.2.1, X.1.2.2.2.1, X.1.2.2.2.2⟩ (X.2.2.2.1 G mno [.ref a] h r h' hC) ⟨hb, hni, X.1.2.2.2.2 _ hin⟩ ⟨az_blind, fun U hU hW => ⟨rfl, az_Pre_of X.2.1.1 X.2.1.2.1 X.2.1.2.2.1 X.2.1.2.2.2.1 hw hS U hU hW⟩⟩ rfl rfl hl.1 rfl (lv_room (az_cat8 G hlen)) hd ⟨Nat.le_trans (show h.1 - n0 + (h'.1 - h.1) ≤ n1 - n0 by omega) X.2.2.1.2.2.1, Nat.le_trans (show az_sg h.1 - az_sg n0 + (az_sg h'.1 - az_sg h.1) ≤ az_sg n1 - az_sg n0 by omega) X.2.2.1.2.2.2⟩) hS (fun H1 locs1 hw1 hS1 => ?_)
  have h9 := hk2.2 (Nat.le_trans hn hle) H1 locs1 lsA hw1 hS1 hl
  rw [show h.1 - n0 + (h'.1 - h.1) = h'.1 - n0 by omega, show az_sg h.1 - az_sg n0 + (az_sg h'.1 - az_sg h.1) = az_sg h'.1 - az_sg n0 by omega]
  rw [List.map_append] at h9
  cases r <;> exact h9
theorem ok_max {idx : Nat} (hl0 : Cond.methodLink own idx Lib.Math.max.name ∈ lwG) (h1 : Cond.static Lib.Math.max.name ∈ lwG) (h2 : Cond.initialized "java/lang/Math" ∈ lwG) (h3 : Cond.code Lib.Math.max.name Lib.Math.max.code 2 (some .int) ∈ lwG) (hd : decode cc pc = .ok (.invokestatic idx, 3)) : az_Opk own cc nL ret nm pc (az_iim (fun x y => if x < y then y else x) (pc + 3)) := by
  intro p l e R s m args below meth c Q G d n0 n1 C Rp X ls st h hf
  obtain ⟨x, y, st1, rfl, hlen, hk2⟩ := iv_iim hf
  refine ⟨hk2.1, fun hn H locs lsA hw hS hl => ?_⟩
  have hn1 := hk2.1
  have hsg : az_sg h.1 ≤ az_sg n1 := az_sg_mono hn1
  have hcat := az_cat8 G hlen
  exact va_mmax X.1.1 X.1.2.1 (X.1.2.2.1.trans hl.1.symm) X.1.2.2.2.1 (X.1.2.2.2.2 _ hl0) (X.1.2.2.2.2 _ h1) (X.1.2.2.2.2 _ h2) (X.1.2.2.2.2 _ h3) (Nat.le_trans (by omega) X.2.2.1.1) (Nat.le_trans (by omega) X.2.2.1.2.1) (Nat.le_trans (by omega) X.2.2.1.2.2.1) (Nat.le_trans (by omega) X.2.2.1.2.2.2) hd (hk2.2 hn H locs lsA hw hS hl)
theorem ok_min {idx : Nat} (hl0 : Cond.methodLink own idx Lib.Math.min.name ∈ lwG) (h1 : Cond.static Lib.Math.min.name ∈ lwG) (h2 : Cond.initialized "java/lang/Math" ∈ lwG) (h3 : Cond.code Lib.Math.min.name Lib.Math.min.code 2 (some .int) ∈ lwG) (hd : decode cc pc = .ok (.invokestatic idx, 3)) : az_Opk own cc nL ret nm pc (az_iim (fun x y => if y < x then y else x) (pc + 3)) := by
  intro p l e R s m args below meth c Q G d n0 n1 C Rp X ls st h hf
  obtain ⟨x, y, st1, rfl, hlen, hk2⟩ := iv_iim hf
  refine ⟨hk2.1, fun hn H locs lsA hw hS hl => ?_⟩
  have hn1 := hk2.1
  have hsg : az_sg h.1 ≤ az_sg n1 := az_sg_mono hn1
  have hcat := az_cat8 G hlen
  exact va_mmin X.1.1 X.1.2.1 (X.1.2.2.1.trans hl.1.symm) X.1.2.2.2.1 (X.1.2.2.2.2 _ hl0) (X.1.2.2.2.2 _ h1) (X.1.2.2.2.2 _ h2) (X.1.2.2.2.2 _ h3) (Nat.le_trans (by omega) X.2.2.1.1) (Nat.le_trans (by omega) X.2.2.1.2.1) (Nat.le_trans (by omega) X.2.2.1.2.2.1) (Nat.le_trans (by omega) X.2.2.1.2.2.2) hd (hk2.2 hn H locs lsA hw hS hl)
theorem ok_labs {idx : Nat} (hl0 : Cond.methodLink own idx Lib.MathLoose.abs_long.x ∈ lwG) (h1 : Cond.static Lib.MathLoose.abs_long.x ∈ lwG) (h2 : Cond.initialized "java/lang/Math" ∈ lwG) (h3 : Cond.code Lib.MathLoose.abs_long.x Lib.MathLoose.abs_long.code 2 (some .long) ∈ lwG) (hd : decode cc pc = .ok (.invokestatic idx, 3)) : az_Opk own cc nL ret nm pc (az_lm (fun p => if 0 < p then p else -p) (pc + 3)) := by
  intro p l e R s m args below meth c Q G d n0 n1 C Rp X ls st h hf
  obtain ⟨x, st1, rfl, hlen, hk2⟩ := iv_lm hf
  refine ⟨hk2.1, fun hn H locs lsA hw hS hl => ?_⟩
  have hn1 := hk2.1
  have hsg : az_sg h.1 ≤ az_sg n1 := az_sg_mono hn1
  have hcat := az_cat8 G hlen
  exact va_mabs_long X.1.1 X.1.2.1 (X.1.2.2.1.trans hl.1.symm) X.1.2.2.2.1 (X.1.2.2.2.2 _ hl0) (X.1.2.2.2.2 _ h1) (X.1.2.2.2.2 _ h2) (X.1.2.2.2.2 _ h3) (Nat.le_trans (by omega) X.2.2.1.1) (Nat.le_trans (by omega) X.2.2.1.2.1) (Nat.le_trans (by omega) X.2.2.1.2.2.1) (Nat.le_trans (by omega) X.2.2.1.2.2.2) hd (hk2.2 hn H locs lsA hw hS hl)
/-- ends -/
theorem ok_ret (hr : ret = none) (hd : decode cc pc = .ok (.return_, 1)) : az_Opk own cc nL ret nm pc az_ret := by
  intro p l e R s m args below meth c Q G d n0 n1 C Rp X ls st h hf
  obtain ⟨rfl, hk⟩ := iv_ret hf
  exact ⟨Nat.le_of_eq (X.2.2.2.2.1 _ _ hk), fun hn H locs lsA hw hS hl => X.2.2.2.2.2 none h H locs lsA pc .return_ hk hn hw hS hd (by rw [hr]; exact ⟨rfl, rfl⟩)⟩
theorem ok_iret (hr : ret = some .int) (hd : decode cc pc = .ok (.ireturn, 1)) : az_Opk own cc nL ret nm pc az_iret := by
  intro p l e R s m args below meth c Q G d n0 n1 C Rp X ls st h hf
  obtain ⟨x, rfl, hk⟩ := iv_iret hf
  exact ⟨Nat.le_of_eq (X.2.2.2.2.1 _ _ hk), fun hn H locs lsA hw hS hl => X.2.2.2.2.2 _ h H locs lsA pc .ireturn hk hn hw hS hd (by rw [hr]; exact ⟨x, rfl, rfl⟩)⟩
theorem ok_zret (hr : ret = some .boolean) (hd : decode cc pc = .ok (.ireturn, 1)) : az_Opk own cc nL ret nm pc az_zret := by
  intro p l e R s m args below meth c Q G d n0 n1 C Rp X ls st h hf
  obtain ⟨x, rfl, hx, hk⟩ := iv_zret hf
  exact ⟨Nat.le_of_eq (X.2.2.2.2.1 _ _ hk), fun hn H locs lsA hw hS hl => X.2.2.2.2.2 _ h H locs lsA pc .ireturn hk hn hw hS hd (by rw [hr]; exact ⟨x, hx, rfl, rfl⟩)⟩
theorem ok_lret (hr : ret = some .long) (hd : decode cc pc = .ok (.lreturn, 1)) : az_Opk own cc nL ret nm pc az_lret := by
  intro p l e R s m args below meth c Q G d n0 n1 C Rp X ls st h hf
  obtain ⟨x, rfl, hk⟩ := iv_lret hf
  exact ⟨Nat.le_of_eq (X.2.2.2.2.1 _ _ hk), fun hn H locs lsA hw hS hl => X.2.2.2.2.2 _ h H locs lsA pc .lreturn hk hn hw hS hd (by rw [hr]; exact ⟨x, rfl, rfl⟩)⟩
theorem ok_aret (hr : ret = some (.array .int)) (hd : decode cc pc = .ok (.areturn, 1)) : az_Opk own cc nL ret nm pc az_aret := by
  intro p l e R s m args below meth c Q G d n0 n1 C Rp X ls st h hf
  obtain ⟨x, rfl, hk⟩ := iv_aret hf
  exact ⟨Nat.le_of_eq (X.2.2.2.2.1 _ _ hk), fun hn H locs lsA hw hS hl => X.2.2.2.2.2 _ h H locs lsA pc .areturn hk hn hw hS hd (by rw [hr]; exact ⟨x, rfl, rfl⟩)⟩
end OK
/-- locals at a method's start -/
theorem az_lay_at {G : az_G} : ∀ (as : List Value) (j i : Nat) (v : Value), (∀ a ∈ as, ∀ x, a ≠ .double x) → (az_lay as)[i]? = some v → v ≠ .null → (j + i, az_tr G v) ∈ lv_args j (as.map (az_tr G))
  | [], j, i, v, _, h, _ => by simp [az_lay] at h
  | a :: r, j, i, v, hd, h, hn => by
    have hr : ∀ a ∈ r, ∀ x, a ≠ .double x := fun b hb => hd b (List.mem_cons_of_mem _ hb)
    cases a with
    | long x =>
      have e : az_lay (.long x :: r) = .long x :: .null :: az_lay r := rfl
      rw [e] at h
      show _ ∈ lv_args j (.long x :: r.map (az_tr G))
      cases i with
      | zero =>
        simp only [List.getElem?_cons_zero, Option.some.injEq] at h
        subst h
        simp [lv_args, az_tr]
      | succ i =>
        cases i with
        | zero =>
          simp at h
          exact absurd h.symm hn
        | succ i =>
          have h2 := az_lay_at (G := G) r (j + 2) i v hr (by simpa using h) hn
          rw [show j + (i + 1 + 1) = j + 2 + i by omega]
          simp [lv_args, Value.category]
          exact Or.inr h2
    | double x => exact absurd rfl (hd _ List.mem_cons_self x)
    | int x =>
      have e : az_lay (.int x :: r) = .int x :: az_lay r := rfl
      rw [e] at h
      show _ ∈ lv_args j (.int x :: r.map (az_tr G))
      cases i with
      | zero =>
        simp only [List.getElem?_cons_zero, Option.some.injEq] at h
        subst h
        simp [lv_args, az_tr]
      | succ i =>
        have h2 := az_lay_at (G := G) r (j + 1) i v hr (by simpa using h) hn
        rw [show j + (i + 1) = j + 1 + i by omega]
        simp [lv_args, Value.category]
        exact Or.inr h2
    | float x =>
      have e : az_lay (.float x :: r) = .float x :: az_lay r := rfl
      rw [e] at h
      show _ ∈ lv_args j (.float x :: r.map (az_tr G))
      cases i with
      | zero =>
        simp only [List.getElem?_cons_zero, Option.some.injEq] at h
        subst h
        simp [lv_args, az_tr]
      | succ i =>
        have h2 := az_lay_at (G := G) r (j + 1) i v hr (by simpa using h) hn
        rw [show j + (i + 1) = j + 1 + i by omega]
        simp [lv_args, Value.category]
        exact Or.inr h2
    | null =>
      have e : az_lay (.null :: r) = .null :: az_lay r := rfl
      rw [e] at h
      show _ ∈ lv_args j (.null :: r.map (az_tr G))
      cases i with
      | zero =>
        simp only [List.getElem?_cons_zero, Option.some.injEq] at h
        exact absurd h.symm hn
      | succ i =>
        have h2 := az_lay_at (G := G) r (j + 1) i v hr (by simpa using h) hn
        rw [show j + (i + 1) = j + 1 + i by omega]
        simp [lv_args, Value.category]
        exact Or.inr h2
    | ref x =>
      have e : az_lay (.ref x :: r) = .ref x :: az_lay r := rfl
      rw [e] at h
      show _ ∈ lv_args j (.ref (az_ad G x) :: r.map (az_tr G))
      cases i with
      | zero =>
        simp only [List.getElem?_cons_zero, Option.some.injEq] at h
        subst h
        simp [lv_args, az_tr]
      | succ i =>
        have h2 := az_lay_at (G := G) r (j + 1) i v hr (by simpa using h) hn
        rw [show j + (i + 1) = j + 1 + i by omega]
        simp [lv_args, Value.category]
        exact Or.inr h2
    | retAddr x =>
      have e : az_lay (.retAddr x :: r) = .retAddr x :: az_lay r := rfl
      rw [e] at h
      show _ ∈ lv_args j (.retAddr x :: r.map (az_tr G))
      cases i with
      | zero =>
        simp only [List.getElem?_cons_zero, Option.some.injEq] at h
        subst h
        simp [lv_args, az_tr]
      | succ i =>
        have h2 := az_lay_at (G := G) r (j + 1) i v hr (by simpa using h) hn
        rw [show j + (i + 1) = j + 1 + i by omega]
        simp [lv_args, Value.category]
        exact Or.inr h2
/-- a method keeps its contract, one level deeper than its calls do -/
theorem az_entry {G : az_G} {nL : Nat} {as : List Value} (hnd : ∀ a ∈ as, ∀ x, a ≠ .double x) (hlen : (lg_sl (as.map (az_tr G))).length ≤ nL) (hlay : (az_lay as).length ≤ nL) : az_Lo G nL ((lg_sl (as.map (az_tr G)) ++ List.replicate (nL - (lg_sl (as.map (az_tr G))).length) Slot.unset).toArray) (az_ini nL as) := by
  have hl := lv_entry (as.map (az_tr G)) (n := nL) hlen
  refine ⟨hl.1, hl.2.1, by unfold az_ini; simp; omega, fun i v hi hn => ?_⟩
  unfold az_ini at hi
  by_cases hi2 : i < (az_lay as).length
  · rw [List.getElem?_append_left hi2] at hi
    have := az_lay_at (G := G) as 0 i v hnd hi hn
    rw [Nat.zero_add] at this
    exact hl.2.2 (i, az_tr G v) this
  · rw [List.getElem?_append_right (by omega)] at hi
    have := List.mem_of_getElem? hi
    rw [List.mem_replicate] at this
    exact absurd this.2 hn
theorem az_lay_len (G : az_G) : ∀ (as : List Value), (∀ a ∈ as, ∀ x, a ≠ .double x) → (lg_sl (as.map (az_tr G))).length = (az_lay as).length
  | [], _ => rfl
  | a :: r, h => by
    have ih := az_lay_len G r (fun b hb => h b (List.mem_cons_of_mem _ hb))
    have hs : ∀ v (vs : List Value), lg_sl (v :: vs) = (if v.category = 2 then [Slot.val v, Slot.second] else [Slot.val v]) ++ lg_sl vs := fun v vs => by simp [lg_sl]
    rw [List.map_cons, hs, List.length_append, ih]
    cases a with
    | double x => exact absurd rfl (h _ List.mem_cons_self x)
    | long x => simp [az_lay, az_tr, Value.category]; omega
    | int x => simp [az_lay, az_tr, Value.category]; omega
    | float x => simp [az_lay, az_tr, Value.category]; omega
    | null => simp [az_lay, az_tr, Value.category]; omega
    | ref x => simp [az_lay, az_tr, Value.category]; omega
    | retAddr x => simp [az_lay, az_tr, Value.category]; omega
