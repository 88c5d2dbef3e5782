/-! ===== the law from its entry ===== -/
theorem lwG_tbl {w : Cond} (h : w ∈ lwG) : w ∈ lw_tbl := (List.mem_filter.mp h).1
theorem az_len {args : Array Value} {first s : State} {oc : Option Outcome} {idx : List Nat} {t : Term} {v : Value} (h : (Term.length t).eval args first oc idx s = some v) : ∃ b cell, t.eval args first oc idx s = some (.ref b) ∧ s.arrayAt? b = some cell ∧ cell.slots.size < 2 ^ 31 ∧ v = .int cell.slots.size.toInt32 := by
  simp only [Term.eval, Option.bind_eq_bind] at h
  cases ht : t.eval args first oc idx s with
  | none => simp [ht] at h
  | some x =>
    cases x <;> simp only [ht, Option.bind_some] at h <;> try cases h
    rename_i b
    cases ha : s.arrayAt? b with
    | none => simp [ha] at h
    | some cell =>
      simp only [ha, Option.bind_some] at h
      by_cases hs : cell.slots.size < 2 ^ 31
      · rw [if_pos hs] at h; cases h; exact ⟨b, cell, rfl, ha, hs, rfl⟩
      · rw [if_neg hs] at h; cases h
theorem az_stat {args : Array Value} {s : State} {tm : Term} {f : Nat → Int32} (harr : (Cond.arrayOf tm .int).before args s = true) (hlen : (Cond.eq (.length tm) (.int 3)).before args s = true) (h0 : (Cond.eq (.elem tm (.int 0)) (.int (f 0))).before args s = true) (h1 : (Cond.eq (.elem tm (.int 1)) (.int (f 1))).before args s = true) (h2 : (Cond.eq (.elem tm (.int 2)) (.int (f 2))).before args s = true) : ∃ t : Nat, tm.eval args s none [] s = some (.ref t) ∧ va_X t 3 f s s.heap ∧ t < s.heap.size := by
  obtain ⟨t, cell, ht, hat, hsz, hv⟩ := az_len (va_eqt hlen)
  obtain ⟨hcell, hkn, -, -⟩ := State.arrayAt?_spec hat
  obtain ⟨hof, -⟩ := Cond.arrayOf_spec harr ht hcell
  have hs3 : cell.slots.size = 3 := by
    have e : (3 : Int32) = cell.slots.size.toInt32 := Value.int.inj hv
    have e2 := congrArg Int32.toInt e
    rw [show cell.slots.size.toInt32 = nI cell.slots.size from rfl, nI_toInt hsz] at e2
    have e3 : (3 : Int32).toInt = 3 := rfl
    omega
  have key : ∀ (j : Nat) (i : Int32), i.toNatClampNeg = j → (Cond.eq (.elem tm (.int i)) (.int (f j))).before args s = true → cell.slots[j]? = some (.int (f j)) := by
    intro j i hi hc
    obtain ⟨a, i2, cell2, g1, g2, g3, g4, g5⟩ := Term.elem_spec (va_eqt hc)
    cases ht.symm.trans g1
    cases hat.symm.trans g3
    have e : (Term.int i).eval args s none [] s = some (.int i) := rfl
    cases g2.symm.trans e
    rw [hi] at g5; exact g5
  refine ⟨t, ht, ⟨cell, hcell, hof, hkn, hs3, fun j hj => ?_⟩, (Array.getElem?_eq_some_iff.mp hcell).1⟩
  rcases (show j = 0 ∨ j = 1 ∨ j = 2 by omega) with rfl | rfl | rfl
  · exact key 0 0 rfl h0
  · exact key 1 1 rfl h1
  · exact key 2 2 rfl h2
set_option maxRecDepth 100000 in
theorem whole_start {p : Program} {e : Env} {s : State} {m : MethodId} {below : List Frame} {meth : Method} {c : Code} (l : Launch) {b L : Nat} {xs : Nat → Int32} (hL : L ≤ 3072) (C0 : lw_At p s m meth c b L xs) : W p l e room_1 s m #[Value.ref b] below meth c s.heap [] 0 0 (lw_Z below #[Value.ref b] s) (entryFrame m ([Value.ref b] : List Value).toArray 4) := by
  obtain ⟨hx, hb, hr, hml, hown, hts, hX, hbl, hlocks, hgv⟩ := id C0
  have hflat := flat_of_before _ hgv
  obtain ⟨t0, et0, ht0, lt0⟩ := az_stat (args := #[Value.ref b]) (s := s) (tm := (.static "SaidRate$RuleBook" "AT_FIRST" "[I")) (f := az_sc 9000) (hflat _ (by decide +kernel)) (hflat _ (by decide +kernel)) (hflat _ (by decide +kernel)) (hflat _ (by decide +kernel)) (hflat _ (by decide +kernel))
  obtain ⟨t1, et1, ht1, lt1⟩ := az_stat (args := #[Value.ref b]) (s := s) (tm := (.static "SaidRate$RuleBook" "LOWEST_RULE" "[I")) (f := az_sc 9001) (hflat _ (by decide +kernel)) (hflat _ (by decide +kernel)) (hflat _ (by decide +kernel)) (hflat _ (by decide +kernel)) (hflat _ (by decide +kernel))
  obtain ⟨t2, et2, ht2, lt2⟩ := az_stat (args := #[Value.ref b]) (s := s) (tm := (.static "SaidRate$RuleBook" "HIGHEST_RULE" "[I")) (f := az_sc 9002) (hflat _ (by decide +kernel)) (hflat _ (by decide +kernel)) (hflat _ (by decide +kernel)) (hflat _ (by decide +kernel)) (hflat _ (by decide +kernel))
  obtain ⟨c0, i0, k0⟩ := u_known (C := RX0) (T := TX0) (N := 8) (n := 8) hts (fun w hw => lwG_tbl (inG_0 w hw)) (hts _ (lwG_tbl ww_151))
  obtain ⟨c1, i1, k1⟩ := u_known (C := RX1) (T := TX1) (N := 2) (n := 2) hts (fun w hw => lwG_tbl (inG_1 w hw)) (hts _ (lwG_tbl ww_254))
  obtain ⟨c2, i2, k2⟩ := u_known (C := RX2) (T := TX2) (N := 2) (n := 2) hts (fun w hw => lwG_tbl (inG_2 w hw)) (hts _ (lwG_tbl ww_114))
  obtain ⟨c3, i3, k3⟩ := u_known (C := RX3) (T := TX3) (N := 6) (n := 6) hts (fun w hw => lwG_tbl (inG_3 w hw)) (hts _ (lwG_tbl ww_182))
  obtain ⟨c4, i4, k4⟩ := u_known (C := RX4) (T := TX4) (N := 3) (n := 3) hts (fun w hw => lwG_tbl (inG_4 w hw)) (hts _ (lwG_tbl ww_66))
  obtain ⟨c5, i5, k5⟩ := u_known (C := RX5) (T := TX5) (N := 7) (n := 7) hts (fun w hw => lwG_tbl (inG_5 w hw)) (hts _ (lwG_tbl ww_60))
  obtain ⟨c6, i6, k6⟩ := u_known (C := RX6) (T := TX6) (N := 7) (n := 7) hts (fun w hw => lwG_tbl (inG_6 w hw)) (hts _ (lwG_tbl ww_85))
  obtain ⟨c7, i7, k7⟩ := u_known (C := RX7) (T := TX7) (N := 3) (n := 3) hts (fun w hw => lwG_tbl (inG_7 w hw)) (hts _ (lwG_tbl ww_207))
  obtain ⟨c8, i8, k8⟩ := u_known (C := RX8) (T := TX8) (N := 3) (n := 3) hts (fun w hw => lwG_tbl (inG_8 w hw)) (hts _ (lwG_tbl ww_268))
  obtain ⟨c9, i9, k9⟩ := u_known (C := RX9) (T := TX9) (N := 8) (n := 8) hts (fun w hw => lwG_tbl (inG_9 w hw)) (hts _ (lwG_tbl ww_223))
  obtain ⟨c10, i10, k10⟩ := u_known (C := RX10) (T := TX10) (N := 12) (n := 12) hts (fun w hw => lwG_tbl (inG_10 w hw)) (hts _ (lwG_tbl ww_52))
  obtain ⟨c11, i11, k11⟩ := u_known (C := RX11) (T := TX11) (N := 50) (n := 50) hts (fun w hw => lwG_tbl (inG_11 w hw)) (hts _ (lwG_tbl ww_869))
  obtain ⟨dC, dI, hKc⟩ : ∃ (dC : Nat → ClassId) (dI : Nat → Nat → Nat), ∀ (k : Nat) (q : vw_C), vwCl[k]? = some q → u_Kn s q.1 q.2.1 q.2.2 (dC k) (dI k) := by
    refine ⟨fun k => match k with | 0 => c0 | 1 => c1 | 2 => c2 | 3 => c3 | 4 => c4 | 5 => c5 | 6 => c6 | 7 => c7 | 8 => c8 | 9 => c9 | 10 => c10 | _ => c11, fun k => match k with | 0 => i0 | 1 => i1 | 2 => i2 | 3 => i3 | 4 => i4 | 5 => i5 | 6 => i6 | 7 => i7 | 8 => i8 | 9 => i9 | 10 => i10 | _ => i11, ?_⟩
    intro k q hq
    match k, hq with
    | 0, hq => cases hq; exact k0
    | 1, hq => cases hq; exact k1
    | 2, hq => cases hq; exact k2
    | 3, hq => cases hq; exact k3
    | 4, hq => cases hq; exact k4
    | 5, hq => cases hq; exact k5
    | 6, hq => cases hq; exact k6
    | 7, hq => cases hq; exact k7
    | 8, hq => cases hq; exact k8
    | 9, hq => cases hq; exact k9
    | 10, hq => cases hq; exact k10
    | 11, hq => cases hq; exact k11
    | k + 12, hq => simp [vwCl] at hq
  obtain ⟨cI, kI, compI, aI1, aI2, aI3⟩ := Cond.arrayClass_spec (hts _ (lwG_tbl ww_83))
  obtain ⟨cZ, kZ, compZ, aZ1, aZ2, aZ3⟩ := Cond.arrayClass_spec (hts _ (lwG_tbl ww_1025))
  obtain ⟨compA, cA, kA, aA0, aA2, aA3, aA1⟩ := Cond.arrayOver_specA (hts _ (lwN_in _ (List.mem_of_getElem? (i := 10) rfl) : Cond.arrayOver (.array .int) ∈ lw_tbl))
  obtain ⟨G, eG⟩ : ∃ G : az_G, G = (s.heap.size, (fun j => match j with | 0 => t0 | 1 => t1 | 2 => t2 | _ => b), (dC, dI), (cI, cZ, cA)) := ⟨_, rfl⟩
  have g1 : G.1 = s.heap.size := by rw [eG]
  have g3 : G.2.1 3 = b := by rw [eG]; rfl
  have hK : va_K G.2.2.1 vwCl (az_tys G) s := by
    rw [eG]
    refine ⟨hKc, fun k q hq => ?_⟩
    match k, hq with
    | 0, hq => cases hq; exact ⟨fun N z => ⟨(fun k h => by cases h), kI, aI2, compI, aI3⟩, aI1⟩
    | 1, hq => cases hq; exact ⟨fun N z => ⟨(fun k h => by cases h), kZ, aZ2, compZ, aZ3⟩, aZ1⟩
    | 2, hq => cases hq; exact ⟨fun N z => ⟨(fun k h => by cases h), kA, aA2, compA, aA3⟩, aA1⟩
    | k + 3, hq => simp [az_tys] at hq
  have hA : ∀ a : Nat, a < s.heap.size → ¬ az_A G a := fun a ha => by
    show ¬ G.1 ≤ a
    rw [g1]; omega
  have hSx : az_Sx G s s.heap := by
    intro j hj
    have ini := hts _ (lwG_tbl ww_39)
    rcases (show j = 0 ∨ j = 1 ∨ j = 2 by omega) with rfl | rfl | rfl
    · refine ⟨?_, ?_, ?_⟩
      · have := va_Zof (C := RX6) (n := "AT_FIRST") (d := "[I") (hts _ (by decide +kernel)) ini et0 hA
        rw [show G.2.1 0 = t0 by (rw [eG]; rfl)]; exact this
      · rw [show G.2.1 0 = t0 by (rw [eG]; rfl)]; exact ht0
      · rw [show G.2.1 0 = t0 by (rw [eG]; rfl), g1]; exact lt0
    · refine ⟨?_, ?_, ?_⟩
      · have := va_Zof (C := RX6) (n := "LOWEST_RULE") (d := "[I") (hts _ (by decide +kernel)) ini et1 hA
        rw [show G.2.1 1 = t1 by (rw [eG]; rfl)]; exact this
      · rw [show G.2.1 1 = t1 by (rw [eG]; rfl)]; exact ht1
      · rw [show G.2.1 1 = t1 by (rw [eG]; rfl), g1]; exact lt1
    · refine ⟨?_, ?_, ?_⟩
      · have := va_Zof (C := RX6) (n := "HIGHEST_RULE") (d := "[I") (hts _ (by decide +kernel)) ini et2 hA
        rw [show G.2.1 2 = t2 by (rw [eG]; rfl)]; exact this
      · rw [show G.2.1 2 = t2 by (rw [eG]; rfl)]; exact ht2
      · rw [show G.2.1 2 = t2 by (rw [eG]; rfl), g1]; exact lt2
  have hN : az_Nx s := lwN_at hts
  have hw : az_Wd G (0, fun _ _ => none, fun _ _ => 0, fun _ _ => 0) s.heap := ⟨by rw [g1]; rfl, Nat.zero_le _, fun k q hq => by simp [az_ws] at hq, fun a _ j => ⟨rfl, rfl, rfl⟩⟩
  have X : az_Cx p l e room_1 s m #[Value.ref b] below meth c (lw_Z below #[Value.ref b] s) "SaidRateLaw" code 4 (some .boolean) meth.name G 9 0 130 (zD 9) (fun r h => r = some (.int 1) ∧ h.1 = 130) := by
    refine ⟨⟨hx, hb, hml, hown, fun w hw => hts w (lwG_tbl hw)⟩, ⟨hK, hSx, hN, Nat.le_of_eq g1, rfl⟩, ⟨by decide, by decide, by decide, by decide +kernel⟩, az_ok l 9, fun _ _ q => q.2, ?_⟩
    intro r h H locs lsA pc ins hq hn hw2 hS hdec hrk
    obtain ⟨rfl, hq2⟩ := hq
    obtain ⟨v, hv, e1, rfl⟩ := hrk
    refine va_forget (fun q hq => ?_) (W.widen (k := 600000) (n := 7302250) (by rw [hq2]; decide) (by rw [hq2]; decide +kernel) (lw_ret hx hb hr hlocks hdec))
    have := hS.2.2 q hq
    show s.heap.size ≤ q.base
    rw [← g1]; exact this
  have hXs : va_X (G.2.1 3) L xs s s.heap ∧ G.2.1 3 < G.1 := by rw [g3, g1]; exact ⟨hX, hbl⟩
  obtain ⟨-, hW⟩ := az_siml X hXs o_L_law (lw_whole (xs := xs) hL)
  have hnd : ∀ a ∈ ([.ref 9003] : List Value), ∀ x, a ≠ .double x := fun a ha x hx => by
    rw [hx] at ha; simp at ha
  have em : ([.ref 9003] : List Value).map (az_tr G) = [.ref b] := by
    show [Value.ref (az_ad G 9003)] = _
    rw [az_ad3, g3]
  have ent := az_entry (G := G) (nL := 4) (as := [.ref 9003]) hnd (by rw [em]; exact Nat.le_of_ble_eq_true rfl) (by decide)
  rw [em] at ent
  have h9 := hW (Nat.le_refl _) s.heap [] _ hw va_S.rf ent
  rw [lg_entry_eq]
  exact h9
