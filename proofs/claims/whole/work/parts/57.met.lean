/-! ===== contracts of all methods out of their runs ===== -/
def az_Gd (T : MethodName × ByteArray × Nat × Option FieldType) (M : Nat × (Nat → az_P)) : Prop := plainName T.1.cls = true ∧ M.1 = T.2.2.1 ∧ Cond.code T.1 T.2.1 T.2.2.1 T.2.2.2 ∈ lwG ∧ ∀ pc, az_Opk T.1.cls T.2.1 T.2.2.1 T.2.2.2 T.1.name pc (M.2 pc)
theorem az_Gd_ite {c : Prop} {i : Decidable c} {a b : MethodName × ByteArray × Nat × Option FieldType} {x y : Nat × (Nat → az_P)} (h1 : az_Gd a x) (h2 : az_Gd b y) : az_Gd (@ite _ c i a b) (@ite _ c i x y) := by
  by_cases q : c
  · rw [if_pos q, if_pos q]; exact h1
  · rw [if_neg q, if_neg q]; exact h2
theorem az_met {l : Launch} {cds : Nat → Nat × (Nat → az_P)} (hg : ∀ m, az_Gd (az_T m) (cds m)) {d : Nat} (ih : az_Ok l d (az_D cds d)) : az_Ok l (d + 1) (az_D cds (d + 1)) := by
  intro G m as h r h' hD
  obtain ⟨has, w⟩ := hD
  obtain ⟨hpl, hnl, hcw, hops⟩ := hg m
  have hle : h.1 ≤ h'.1 := az_D_le cds (d := d + 1) ⟨has, w⟩
  have hnd : ∀ a ∈ as, ∀ x, a ≠ .double x := by
    intro a ha x hx
    simp only [az_as, Bool.and_eq_true] at has
    have := List.all_eq_true.mp has.2 a ha
    rw [hx] at this
    simp at this
  have hlay : (az_lay as).length ≤ (az_T m).2.2.1 := by
    simp only [az_as, Bool.and_eq_true, decide_eq_true_eq] at has
    rw [← hnl]; exact has.1
  rw [hnl] at w
  refine Met.ofW (cc := (az_T m).2.1) (maxL := (az_T m).2.2.1) (ret := (az_T m).2.2.2) hpl rfl ?_
  intro p e s mm args below meth c s₁ B hml hv
  obtain ⟨rfl, hw, hK, hSx, hN⟩ := hv
  have hx := B.exec
  have hb := B.bytes
  have hr := B.returns
  have hts : ∀ w ∈ lwG, w.before (as.map (az_tr G)).toArray s = true := fun w hw => atoms_spec (ws := az_wd m) B.pre w (List.mem_cons_of_mem _ hw)
  have hown : s.vm.findClass (az_T m).1.cls = some mm.cls := findClass_of_methodNamed B.named
  have hlocks := B.notSynchronized
  have hnm : meth.name = (az_T m).1.name := (name_of_methodNamed B.named B.method).1
  have hG : G.1 ≤ s.heap.size := by rw [hw.1]; omega
  have X : az_Cx p l e (headSpec (az_wd m) (az_rm (d + 1) (h'.1 - h.1) (az_sg h'.1 - az_sg h.1))).room s mm (as.map (az_tr G)).toArray below meth c (MQ below (az_Qs G r h') (as.map (az_tr G)).toArray s (h'.1 - h.1) (az_sg h'.1 - az_sg h.1) (az_A G)) (az_T m).1.cls (az_T m).2.1 (az_T m).2.2.1 (az_T m).2.2.2 (az_T m).1.name G d h.1 h'.1 (az_D cds d) (fun r' h'' => r' = r ∧ h'' = h') := by
    refine ⟨⟨hx, hb, hml, hown, hts⟩, ⟨hK, hSx, hN, hG, hnm⟩, ⟨Nat.le_refl _, Nat.le_of_eq (by show 36 * d + 36 = 36 * (d + 1); omega), Nat.le_refl _, Nat.le_refl _⟩, ih, fun _ _ q => by rw [q.2], ?_⟩
    intro r2 h2 H locs lsA pc ins hq hn hw2 hS hdec hrk
    obtain ⟨rfl, rfl⟩ := hq
    have hrt : meth.sig.returnType = (az_T m).2.2.2 := hr
    generalize (az_T m).2.2.2 = ret at hrt hrk
    unfold az_rk at hrk
    split at hrk
    · obtain ⟨rfl, rfl⟩ := hrk
      exact W.vret hx hb hrt (fun t ht hW => ⟨rfl, by rw [ht]; exact hw2, hS.F ht⟩) hS.2.2 hdec hlocks
    · obtain ⟨v, rfl, rfl⟩ := hrk
      exact W.iret hx hb hrt (fun t ht hW => ⟨rfl, by rw [ht]; exact hw2, hS.F ht⟩) hS.2.2 hdec hlocks
    · obtain ⟨v, hv, rfl, rfl⟩ := hrk
      exact W.zret hx hb hrt (by rcases hv with rfl | rfl <;> rfl) (fun t ht hW => ⟨rfl, by rw [ht]; exact hw2, hS.F ht⟩) hS.2.2 hdec hlocks
    · obtain ⟨v, rfl, rfl⟩ := hrk
      exact W.lret hx hb hrt (fun t ht hW => ⟨rfl, by rw [ht]; exact hw2, hS.F ht⟩) hS.2.2 hdec hlocks
    · obtain ⟨v, rfl, rfl⟩ := hrk
      exact W.aret hx hb hrt (Or.inr ⟨_, rfl⟩) (Or.inr ⟨_, rfl⟩) (fun t ht hW => ⟨rfl, by rw [ht]; exact hw2, hS.F ht⟩) hS.2.2 hdec hlocks
    · exact hrk.elim
  obtain ⟨-, hW⟩ := az_sim X hops w
  have h9 := hW (Nat.le_refl _) s.heap [] _ hw va_S.rf (az_entry hnd (by rw [az_lay_len G as hnd]; exact hlay) hlay)
  rw [Nat.sub_self, Nat.sub_self] at h9
  rw [lg_entry_eq]
  exact h9
theorem az_met_all {l : Launch} {cds : Nat → Nat × (Nat → az_P)} (hg : ∀ m, az_Gd (az_T m) (cds m)) : ∀ d, az_Ok l d (az_D cds d)
  | 0 => fun _ _ _ _ _ _ h => h.elim
  | d + 1 => az_met hg (az_met_all hg d)
