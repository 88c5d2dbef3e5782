/-! ===== a small machine over numbered cells: its operations, its weakest preconditions ===== -/
/-- cells so far, references, ints, longs: by cell and place -/
abbrev az_H : Type := Nat × (Nat → Nat → Option Nat) × (Nat → Nat → Int32) × (Nat → Nat → Int64)
abbrev az_O : Type := Option ((Nat × List Value × List Value × az_H) ⊕ ((Option Value × az_H) ⊕ (Nat × List Value × Nat × List Value × List Value)))
abbrev az_P : Type := List Value → List Value → az_H → az_O
abbrev az_C : Type := Nat → List Value → az_H → Option Value → az_H → Prop
abbrev az_R : Type := Option Value → az_H → Prop
abbrev az_K : Type := Nat → List Value → List Value → az_H → Prop
def az_go (pc : Nat) (ls st : List Value) (h : az_H) : az_O := some (.inl (pc, ls, st, h))
def az_rt (r : Option Value) (h : az_H) : az_O := some (.inr (.inl (r, h)))
def az_cl (m : Nat) (as : List Value) (pc : Nat) (ls st : List Value) : az_O := some (.inr (.inr (m, as, pc, ls, st)))
def az_F (C : az_C) (R : az_R) (K : az_K) (h : az_H) (o : az_O) : Prop := match o with
  | some (.inl (pc, ls, st, h')) => h.1 ≤ h'.1 ∧ K pc ls st h'
  | some (.inr (.inl (r, h'))) => h.1 ≤ h'.1 ∧ R r h'
  | some (.inr (.inr (m, as, pc, ls, st))) => ∃ r h', C m as h r h' ∧ h.1 ≤ h'.1 ∧ K pc ls (r.toList ++ st) h'
  | none => False
theorem az_F_go {C : az_C} {R : az_R} {K : az_K} {h h' : az_H} {pc : Nat} {ls st : List Value} : az_F C R K h (az_go pc ls st h') ↔ (h.1 ≤ h'.1 ∧ K pc ls st h') := Iff.rfl
theorem az_F_rt {C : az_C} {R : az_R} {K : az_K} {h h' : az_H} {r : Option Value} : az_F C R K h (az_rt r h') ↔ (h.1 ≤ h'.1 ∧ R r h') := Iff.rfl
theorem az_F_cl {C : az_C} {R : az_R} {K : az_K} {h : az_H} {m pc : Nat} {as ls st : List Value} : az_F C R K h (az_cl m as pc ls st) ↔ ∃ r h', C m as h r h' ∧ h.1 ≤ h'.1 ∧ K pc ls (r.toList ++ st) h' := Iff.rfl
theorem az_F_no {C : az_C} {R : az_R} {K : az_K} {h : az_H} : az_F C R K h none ↔ False := Iff.rfl
theorem az_F_ite {C : az_C} {R : az_R} {K : az_K} {h : az_H} {c : Prop} {x y : az_O} {i : Decidable c} : az_F C R K h (@ite _ c i x y) ↔ @ite _ c i (az_F C R K h x) (az_F C R K h y) := by
  by_cases q : c <;> simp [q]
theorem az_F_mono {C : az_C} {R : az_R} {K K' : az_K} {h : az_H} {o : az_O} (hk : ∀ pc ls st h, K pc ls st h → K' pc ls st h) (hf : az_F C R K h o) : az_F C R K' h o := by
  match o, hf with
  | some (.inl (pc, ls, st, h')), hf => exact ⟨hf.1, hk _ _ _ _ hf.2⟩
  | some (.inr (.inl (r, h'))), hf => exact hf
  | some (.inr (.inr (m, as, pc, ls, st))), ⟨r, h', a, b, c⟩ => exact ⟨r, h', a, b, hk _ _ _ _ c⟩
/-- from this place the code comes to an end with R -/
def az_W (C : az_C) (R : az_R) (cd : Nat → az_P) (pc : Nat) (ls st : List Value) (h : az_H) : Prop :=
  ∀ X : az_K, (∀ pc ls st h, az_F C R X h (cd pc ls st h) → X pc ls st h) → X pc ls st h
theorem az_fold {C : az_C} {R : az_R} {cd : Nat → az_P} {pc : Nat} {ls st : List Value} {h : az_H} (hf : az_F C R (az_W C R cd) h (cd pc ls st h)) : az_W C R cd pc ls st h :=
  fun X hX => hX _ _ _ _ (az_F_mono (fun _ _ _ _ w => w X hX) hf)
theorem az_iff {C : az_C} {R : az_R} {cd : Nat → az_P} {pc : Nat} {ls st : List Value} {h : az_H} : az_W C R cd pc ls st h ↔ az_F C R (az_W C R cd) h (cd pc ls st h) := by
  refine ⟨fun w => ?_, az_fold⟩
  refine w (fun pc ls st h => az_F C R (az_W C R cd) h (cd pc ls st h)) ?_
  intro pc ls st h hf
  exact az_F_mono (fun _ _ _ _ q => az_fold q) hf
/-- an operation at its place -/
theorem az_at {C : az_C} {R : az_R} {cd : Nat → az_P} {pc : Nat} {ls st : List Value} {h : az_H} {o : az_P} (e : cd pc = o) : az_W C R cd pc ls st h ↔ az_F C R (az_W C R cd) h (o ls st h) := by
  rw [az_iff, e]
theorem az_W_mono {C : az_C} {R R' : az_R} {cd : Nat → az_P} {pc : Nat} {ls st : List Value} {h : az_H} (hr : ∀ r h, R r h → R' r h) (w : az_W C R cd pc ls st h) : az_W C R' cd pc ls st h := by
  refine w (fun pc ls st h => az_W C R' cd pc ls st h) ?_
  intro pc ls st h hf
  refine az_fold ?_
  match hq : cd pc ls st h, hf with
  | some (.inl (pc, ls, st, h')), hf => exact hf
  | some (.inr (.inl (r, h'))), hf => exact ⟨hf.1, hr _ _ hf.2⟩
  | some (.inr (.inr (m, as, pc, ls, st))), hf => exact hf
/-- what is not taken back: the number of cells -/
theorem az_W_le {C : az_C} {R : az_R} {cd : Nat → az_P} {pc : Nat} {ls st : List Value} {h : az_H} (w : az_W C R cd pc ls st h) : ∃ r h', R r h' ∧ h.1 ≤ h'.1 := by
  refine w (fun _ _ _ h => ∃ r h', R r h' ∧ h.1 ≤ h'.1) ?_
  intro pc ls st h hf
  match hq : cd pc ls st h, hf with
  | some (.inl (pc, ls, st, h')), ⟨a, r, h2, b, c⟩ => exact ⟨r, h2, b, Nat.le_trans a c⟩
  | some (.inr (.inl (r, h'))), ⟨a, b⟩ => exact ⟨r, h', b, a⟩
  | some (.inr (.inr (m, as, pc, ls, st))), ⟨r, h', a, b, r2, h2, c, d⟩ => exact ⟨r2, h2, c, Nat.le_trans b d⟩
/-- two ends of one run are one -/
theorem az_W_det {C : az_C} (hC : ∀ m as h r h' r2 h2, C m as h r h' → C m as h r2 h2 → r = r2 ∧ h' = h2) {R R' : az_R} {cd : Nat → az_P} {pc : Nat} {ls st : List Value} {h : az_H} (w : az_W C R cd pc ls st h) (w' : az_W C R' cd pc ls st h) : ∃ r h', R r h' ∧ R' r h' := by
  refine w (fun pc ls st h => az_W C R' cd pc ls st h → ∃ r h', R r h' ∧ R' r h') ?_ w'
  intro pc ls st h hf w'
  have w' := az_iff.mp w'
  match hq : cd pc ls st h, hf, w' with
  | some (.inl (pc, ls, st, h')), hf, w' => exact hf.2 w'.2
  | some (.inr (.inl (r, h'))), hf, w' => exact ⟨r, h', hf.2, w'.2⟩
  | some (.inr (.inr (m, as, pc, ls, st))), ⟨r, h', a, b, k⟩, ⟨r2, h2, a2, b2, k2⟩ =>
    obtain ⟨e1, e2⟩ := hC _ _ _ _ _ _ _ a a2
    subst e1; subst e2
    exact k k2
/-- arguments laid into locals: a long takes two places -/
def az_lay : List Value → List Value
  | [] => []
  | v :: r => match v with
    | .long x => .long x :: .null :: az_lay r
    | v => v :: az_lay r
def az_ini (n : Nat) (as : List Value) : List Value := az_lay as ++ List.replicate (n - (az_lay as).length) .null
/-- arguments that fit: no doubles, no more than there is room for -/
def az_as (n : Nat) (as : List Value) : Bool := decide ((az_lay as).length ≤ n) && as.all fun v => match v with
  | .double _ => false
  | _ => true
/-- calls, by how deep they may go; cds m: the number of locals, and the code of method m -/
def az_D (cds : Nat → Nat × (Nat → az_P)) : Nat → az_C
  | 0 => fun _ _ _ _ _ => False
  | d + 1 => fun m as h r h' => az_as (cds m).1 as = true ∧ az_W (az_D cds d) (fun r' h'' => r' = r ∧ h'' = h') (cds m).2 0 (az_ini (cds m).1 as) [] h
theorem az_D_det (cds : Nat → Nat × (Nat → az_P)) : ∀ d m as h r h' r2 h2, az_D cds d m as h r h' → az_D cds d m as h r2 h2 → r = r2 ∧ h' = h2
  | 0, _, _, _, _, _, _, _, h, _ => h.elim
  | d + 1, m, as, h, r, h', r2, h2, a, b => by
    obtain ⟨r3, h3, ⟨e1, e2⟩, e3, e4⟩ := az_W_det (az_D_det cds d) a.2 b.2
    exact ⟨e1.symm.trans e3, e2.symm.trans e4⟩
theorem az_D_le (cds : Nat → Nat × (Nat → az_P)) : ∀ {d m as h r h'}, az_D cds d m as h r h' → h.1 ≤ h'.1
  | 0, _, _, _, _, _, h => h.elim
  | d + 1, m, as, h, r, h', a => by
    obtain ⟨r3, h3, ⟨e1, e2⟩, e3⟩ := az_W_le a.2
    rw [← e2]; exact e3
/-- a call whose end is known -/
theorem az_call {cds : Nat → Nat × (Nat → az_P)} {d m pc : Nat} {as ls st : List Value} {R : az_R} {K : az_K} {h h' : az_H} {r : Option Value} (hc : az_D cds d m as h r h') : az_F (az_D cds d) R K h (az_cl m as pc ls st) ↔ K pc ls (r.toList ++ st) h' := by
  refine ⟨fun ⟨r2, h2, a, b, c⟩ => ?_, fun k => ⟨r, h', hc, az_D_le cds hc, k⟩⟩
  obtain ⟨e1, e2⟩ := az_D_det cds d _ _ _ _ _ _ _ hc a
  rw [e1, e2]; exact c
theorem az_D_mono (cds : Nat → Nat × (Nat → az_P)) : ∀ {d m as h r h'}, az_D cds d m as h r h' → az_D cds (d + 1) m as h r h'
  | 0, _, _, _, _, _, h => h.elim
  | d + 1, m, as, h, r, h', a => by
    refine ⟨a.1, a.2 (fun pc ls st h => az_W (az_D cds (d + 1)) (fun r' h'' => r' = r ∧ h'' = h') (cds m).2 pc ls st h) ?_⟩
    intro pc ls st h hf
    refine az_fold ?_
    match hq : (cds m).2 pc ls st h, hf with
    | some (.inl (pc, ls, st, h')), hf => exact hf
    | some (.inr (.inl (r, h'))), hf => exact hf
    | some (.inr (.inr (m, as, pc, ls, st))), ⟨r, h', a, b, k⟩ => exact ⟨r, h', az_D_mono cds a, b, k⟩
