/-! ===== the operations ===== -/
def az_uI (I : Nat → Nat → Int32) (a j : Nat) (v : Int32) : Nat → Nat → Int32 := fun b k => if b = a ∧ k = j then v else I b k
def az_uL (L : Nat → Nat → Int64) (a j : Nat) (v : Int64) : Nat → Nat → Int64 := fun b k => if b = a ∧ k = j then v else L b k
def az_uP (P : Nat → Nat → Option Nat) (a j : Nat) (v : Option Nat) : Nat → Nat → Option Nat := fun b k => if b = a ∧ k = j then v else P b k
/-- rows of a new array of arrays: the cells behind it -/
def az_uR (P : Nat → Nat → Option Nat) (a n : Nat) : Nat → Nat → Option Nat := fun b k => if b = a ∧ k < n then some (a + 1 + k) else P b k
/-- cell a gets ints of b -/
def az_uC (I : Nat → Nat → Int32) (a : Nat) (f : Nat → Int32) : Nat → Nat → Int32 := fun b k => if b = a then f k else I b k
abbrev az_in (i : Int32) (n : Nat) : Prop := 0 ≤ i.toInt ∧ i.toInt < n
/-- a long whose second half is written over -/
def az_un : Value → Value
  | .long _ => .null
  | .double _ => .null
  | v => v
/-- a value of one place stored -/
def az_st1 : List Value → Nat → Value → Option (List Value)
  | [], _, _ => none
  | _ :: r, 0, v => some (v :: r)
  | [_], _ + 1, _ => none
  | a :: _ :: r, 1, v => some (az_un a :: v :: r)
  | a :: b :: r, n + 2, v => match az_st1 (b :: r) (n + 1) v with
    | some q => some (a :: q)
    | none => none
/-- a long stored -/
def az_st2 : List Value → Nat → Value → Option (List Value)
  | [], _, _ => none
  | [_], _, _ => none
  | _ :: _ :: r, 0, v => some (v :: .null :: r)
  | a :: b :: r, n + 1, v => match az_st2 (b :: r) n v with
    | some q => some ((if n = 0 then az_un a else a) :: q)
    | none => none
def az_no : az_P := fun _ _ _ => none
def az_const (v : Value) (nx : Nat) : az_P := fun ls st h => az_go nx ls (v :: st) h
def az_iload (i nx : Nat) : az_P := fun ls st h => match ls[i]? with
  | some (.int x) => az_go nx ls (.int x :: st) h
  | _ => none
def az_lload (i nx : Nat) : az_P := fun ls st h => match ls[i]? with
  | some (.long x) => az_go nx ls (.long x :: st) h
  | _ => none
def az_aload (i nx : Nat) : az_P := fun ls st h => match ls[i]? with
  | some (.ref x) => az_go nx ls (.ref x :: st) h
  | _ => none
def az_istore (i nx : Nat) : az_P := fun ls st h => match st with
  | .int x :: st => (match az_st1 ls i (.int x) with
    | some ls => az_go nx ls st h
    | none => none)
  | _ => none
def az_astore (i nx : Nat) : az_P := fun ls st h => match st with
  | .ref x :: st => (match az_st1 ls i (.ref x) with
    | some ls => az_go nx ls st h
    | none => none)
  | _ => none
def az_lstore (i nx : Nat) : az_P := fun ls st h => match st with
  | .long x :: st => (match az_st2 ls i (.long x) with
    | some ls => az_go nx ls st h
    | none => none)
  | _ => none
def az_iinc (i : Nat) (c : Int32) (nx : Nat) : az_P := fun ls st h => match ls[i]? with
  | some (.int x) => (match az_st1 ls i (.int (x + c)) with
    | some ls => az_go nx ls st h
    | none => none)
  | _ => none
def az_ii (f : Int32 → Int32 → Int32) (nx : Nat) : az_P := fun ls st h => match st with
  | .int y :: .int x :: st => az_go nx ls (.int (f x y) :: st) h
  | _ => none
def az_idiv (nx : Nat) : az_P := fun ls st h => match st with
  | .int y :: .int x :: st => if y = 0 then none else az_go nx ls (.int (x / y) :: st) h
  | _ => none
def az_irem (nx : Nat) : az_P := fun ls st h => match st with
  | .int y :: .int x :: st => if y = 0 then none else az_go nx ls (.int (x - x / y * y) :: st) h
  | _ => none
def az_i (f : Int32 → Int32) (nx : Nat) : az_P := fun ls st h => match st with
  | .int x :: st => az_go nx ls (.int (f x) :: st) h
  | _ => none
def az_ll (f : Int64 → Int64 → Int64) (nx : Nat) : az_P := fun ls st h => match st with
  | .long y :: .long x :: st => az_go nx ls (.long (f x y) :: st) h
  | _ => none
def az_ldiv (nx : Nat) : az_P := fun ls st h => match st with
  | .long y :: .long x :: st => if y = 0 then none else az_go nx ls (.long (x / y) :: st) h
  | _ => none
def az_lrem (nx : Nat) : az_P := fun ls st h => match st with
  | .long y :: .long x :: st => if y = 0 then none else az_go nx ls (.long (x - x / y * y) :: st) h
  | _ => none
def az_l (f : Int64 → Int64) (nx : Nat) : az_P := fun ls st h => match st with
  | .long x :: st => az_go nx ls (.long (f x) :: st) h
  | _ => none
def az_li (f : Int64 → Int32 → Int64) (nx : Nat) : az_P := fun ls st h => match st with
  | .int y :: .long x :: st => az_go nx ls (.long (f x y) :: st) h
  | _ => none
def az_i2l (nx : Nat) : az_P := fun ls st h => match st with
  | .int x :: st => az_go nx ls (.long x.toInt64 :: st) h
  | _ => none
def az_l2i (nx : Nat) : az_P := fun ls st h => match st with
  | .long x :: st => az_go nx ls (.int x.toInt32 :: st) h
  | _ => none
def az_lcmp (nx : Nat) : az_P := fun ls st h => match st with
  | .long y :: .long x :: st => az_go nx ls (.int (lg_cmp x y) :: st) h
  | _ => none
def az_dup (nx : Nat) : az_P := fun ls st h => match st with
  | .int x :: st => az_go nx ls (.int x :: .int x :: st) h
  | .ref x :: st => az_go nx ls (.ref x :: .ref x :: st) h
  | _ => none
def az_dup2 (nx : Nat) : az_P := fun ls st h => match st with
  | .int y :: .ref x :: st => az_go nx ls (.int y :: .ref x :: .int y :: .ref x :: st) h
  | _ => none
def az_goto (t : Nat) : az_P := fun ls st h => az_go t ls st h
def az_ifeq (t nx : Nat) : az_P := fun ls st h => match st with
  | .int x :: st => if x = 0 then az_go t ls st h else az_go nx ls st h
  | _ => none
def az_ifne (t nx : Nat) : az_P := fun ls st h => match st with
  | .int x :: st => if x = 0 then az_go nx ls st h else az_go t ls st h
  | _ => none
def az_iflt (t nx : Nat) : az_P := fun ls st h => match st with
  | .int x :: st => if x < 0 then az_go t ls st h else az_go nx ls st h
  | _ => none
def az_ifge (t nx : Nat) : az_P := fun ls st h => match st with
  | .int x :: st => if 0 ≤ x then az_go t ls st h else az_go nx ls st h
  | _ => none
def az_ifgt (t nx : Nat) : az_P := fun ls st h => match st with
  | .int x :: st => if 0 < x then az_go t ls st h else az_go nx ls st h
  | _ => none
def az_ifle (t nx : Nat) : az_P := fun ls st h => match st with
  | .int x :: st => if x ≤ 0 then az_go t ls st h else az_go nx ls st h
  | _ => none
def az_iceq (t nx : Nat) : az_P := fun ls st h => match st with
  | .int y :: .int x :: st => if x = y then az_go t ls st h else az_go nx ls st h
  | _ => none
def az_icne (t nx : Nat) : az_P := fun ls st h => match st with
  | .int y :: .int x :: st => if x = y then az_go nx ls st h else az_go t ls st h
  | _ => none
def az_iclt (t nx : Nat) : az_P := fun ls st h => match st with
  | .int y :: .int x :: st => if x < y then az_go t ls st h else az_go nx ls st h
  | _ => none
def az_icge (t nx : Nat) : az_P := fun ls st h => match st with
  | .int y :: .int x :: st => if y ≤ x then az_go t ls st h else az_go nx ls st h
  | _ => none
def az_icgt (t nx : Nat) : az_P := fun ls st h => match st with
  | .int y :: .int x :: st => if y < x then az_go t ls st h else az_go nx ls st h
  | _ => none
def az_icle (t nx : Nat) : az_P := fun ls st h => match st with
  | .int y :: .int x :: st => if x ≤ y then az_go t ls st h else az_go nx ls st h
  | _ => none
/-- a switch: the first of the pairs whose number it is -/
def az_pick (x : Int32) (d : Nat) : List (Int32 × Nat) → Nat
  | [] => d
  | q :: r => if x = q.1 then q.2 else az_pick x d r
def az_switch (ps : List (Int32 × Nat)) (d : Nat) : az_P := fun ls st h => match st with
  | .int x :: st => az_go (az_pick x d ps) ls st h
  | _ => none
def az_getI (ci j nx : Nat) : az_P := fun ls st h => match st with
  | .ref a :: st => if az_kn h.1 a = (0, ci) then az_go nx ls (.int (h.2.2.1 a j) :: st) h else none
  | _ => none
def az_getL (ci j nx : Nat) : az_P := fun ls st h => match st with
  | .ref a :: st => if az_kn h.1 a = (0, ci) then az_go nx ls (.long (h.2.2.2 a j) :: st) h else none
  | _ => none
def az_getP (ci j nx : Nat) : az_P := fun ls st h => match st with
  | .ref a :: st => if az_kn h.1 a = (0, ci) then (match h.2.1 a j with
    | some q => az_go nx ls (.ref q :: st) h
    | none => none) else none
  | _ => none
def az_putI (ci j nx : Nat) : az_P := fun ls st h => match st with
  | .int v :: .ref a :: st => if az_kn h.1 a = (0, ci) then az_go nx ls st (h.1, h.2.1, az_uI h.2.2.1 a j v, h.2.2.2) else none
  | _ => none
def az_putL (ci j nx : Nat) : az_P := fun ls st h => match st with
  | .long v :: .ref a :: st => if az_kn h.1 a = (0, ci) then az_go nx ls st (h.1, h.2.1, h.2.2.1, az_uL h.2.2.2 a j v) else none
  | _ => none
def az_putP (ci j nx : Nat) : az_P := fun ls st h => match st with
  | .ref v :: .ref a :: st => if az_kn h.1 a = (0, ci) then az_go nx ls st (h.1, az_uP h.2.1 a j (some v), h.2.2.1, h.2.2.2) else none
  | _ => none
def az_iald (nx : Nat) : az_P := fun ls st h => match st with
  | .int i :: .ref a :: st => (match az_kn h.1 a with
    | (1, n) => if az_in i n then az_go nx ls (.int (h.2.2.1 a i.toNatClampNeg) :: st) h else none
    | (4, n) => if az_in i n then az_go nx ls (.int (az_sc a i.toNatClampNeg) :: st) h else none
    | _ => none)
  | _ => none
def az_iast (nx : Nat) : az_P := fun ls st h => match st with
  | .int v :: .int i :: .ref a :: st => (match az_kn h.1 a with
    | (1, n) => if az_in i n then az_go nx ls st (h.1, h.2.1, az_uI h.2.2.1 a i.toNatClampNeg v, h.2.2.2) else none
    | _ => none)
  | _ => none
def az_zald (nx : Nat) : az_P := fun ls st h => match st with
  | .int i :: .ref a :: st => (match az_kn h.1 a with
    | (2, n) => if az_in i n then az_go nx ls (.int (h.2.2.1 a i.toNatClampNeg) :: st) h else none
    | _ => none)
  | _ => none
def az_zast (nx : Nat) : az_P := fun ls st h => match st with
  | .int v :: .int i :: .ref a :: st => (match az_kn h.1 a with
    | (2, n) => if az_in i n ∧ (v = 0 ∨ v = 1) then az_go nx ls st (h.1, h.2.1, az_uI h.2.2.1 a i.toNatClampNeg v, h.2.2.2) else none
    | _ => none)
  | _ => none
def az_aald (nx : Nat) : az_P := fun ls st h => match st with
  | .int i :: .ref a :: st => (match az_kn h.1 a with
    | (3, n) => if az_in i n then (match h.2.1 a i.toNatClampNeg with
      | some q => az_go nx ls (.ref q :: st) h
      | none => none) else none
    | _ => none)
  | _ => none
def az_new (ci nx : Nat) : az_P := fun ls st h => if az_kd h.1 = (0, ci) then az_go nx ls (.ref h.1 :: st) (h.1 + 1, h.2.1, h.2.2.1, h.2.2.2) else none
def az_newa (k nx : Nat) : az_P := fun ls st h => match st with
  | .int i :: st => if 0 ≤ i.toInt ∧ az_kd h.1 = (k, i.toNatClampNeg) then az_go nx ls (.ref h.1 :: st) (h.1 + 1, h.2.1, h.2.2.1, h.2.2.2) else none
  | _ => none
def az_mna (nx : Nat) : az_P := fun ls st h => match st with
  | .int k :: .int n :: st => if 0 ≤ n.toInt ∧ 0 ≤ k.toInt ∧ az_kd h.1 = (3, n.toNatClampNeg) ∧ ((List.range n.toNatClampNeg).all fun j => decide (az_kd (h.1 + 1 + j) = (1, k.toNatClampNeg))) = true then az_go nx ls (.ref h.1 :: st) (h.1 + 1 + n.toNatClampNeg, az_uR h.2.1 h.1 n.toNatClampNeg, h.2.2.1, h.2.2.2) else none
  | _ => none
def az_gets (a nx : Nat) : az_P := fun ls st h => az_go nx ls (.ref a :: st) h
/-- the n topmost values, the last pushed last -/
def az_pop : Nat → List Value → List Value → Option (List Value × List Value)
  | 0, acc, st => some (acc, st)
  | _ + 1, _, [] => none
  | n + 1, acc, v :: st => az_pop n (v :: acc) st
/-- a call of method m with n values on the stack -/
def az_ivs (m n nx : Nat) : az_P := fun ls st _ => match az_pop n [] st with
  | some (as, st) => if st.length ≤ 4 then az_cl m as nx ls st else none
  | none => none
/-- a call of a new cell's own method m -/
def az_ivi (m nx : Nat) : az_P := fun ls st _ => match st with
  | .ref a :: st => if st.length ≤ 4 then az_cl m [.ref a] nx ls st else none
  | _ => none
/-- a call of method m of a cell of class ci, with n more values on the stack -/
def az_ivv (m n ci nx : Nat) : az_P := fun ls st h => match az_pop n [] st with
  | some (as, .ref a :: st) => if az_kn h.1 a = (0, ci) ∧ st.length ≤ 4 then az_cl m (.ref a :: as) nx ls st else none
  | _ => none
def az_oin (nx : Nat) : az_P := fun ls st h => match st with
  | .ref _ :: st => if st.length ≤ 4 then az_go nx ls st h else none
  | _ => none
def az_copy (nx : Nat) : az_P := fun ls st h => match st with
  | .int n :: .int dp :: .ref b :: .int sp :: .ref a :: st => (match az_kn h.1 a, az_kn h.1 b with
    | (1, n0), (1, n1) => if 0 ≤ sp.toInt ∧ 0 ≤ dp.toInt ∧ 0 ≤ n.toInt ∧ sp.toInt + n.toInt ≤ n0 ∧ dp.toInt + n.toInt ≤ n1 ∧ st = [] then az_go nx ls st (h.1, h.2.1, az_uC h.2.2.1 b (va_cpy (h.2.2.1 a) (h.2.2.1 b) sp.toNatClampNeg dp.toNatClampNeg n.toNatClampNeg), h.2.2.2) else none
    | _, _ => none)
  | _ => none
/-- the library's own functions of two ints, of a long -/
def az_iim (f : Int32 → Int32 → Int32) (nx : Nat) : az_P := fun ls st h => match st with
  | .int y :: .int x :: st => if st.length ≤ 4 then az_go nx ls (.int (f x y) :: st) h else none
  | _ => none
def az_lm (f : Int64 → Int64) (nx : Nat) : az_P := fun ls st h => match st with
  | .long x :: st => if st.length ≤ 4 then az_go nx ls (.long (f x) :: st) h else none
  | _ => none
def az_ret : az_P := fun _ st h => match st with
  | [] => az_rt none h
  | _ => none
def az_iret : az_P := fun _ st h => match st with
  | [.int x] => az_rt (some (.int x)) h
  | _ => none
def az_zret : az_P := fun _ st h => match st with
  | [.int x] => if x = 0 ∨ x = 1 then az_rt (some (.int x)) h else none
  | _ => none
def az_lret : az_P := fun _ st h => match st with
  | [.long x] => az_rt (some (.long x)) h
  | _ => none
def az_aret : az_P := fun _ st h => match st with
  | [.ref x] => az_rt (some (.ref x)) h
  | _ => none
/-- the script -/
def az_sld (L : Nat) (xs : Nat → Int32) (nx : Nat) : az_P := fun ls st h => match st with
  | .int i :: .ref 9003 :: st => if az_in i L then az_go nx ls (.int (xs i.toNatClampNeg) :: st) h else none
  | _ => none
def az_slen (L : Nat) (nx : Nat) : az_P := fun ls st h => match st with
  | .ref 9003 :: st => az_go nx ls (.int (Int32.ofNat L) :: st) h
  | _ => none
/-- code as a tree of places -/
def az_br (k : Nat) (x y : Nat → az_P) : Nat → az_P := fun pc => if pc < k then x pc else y pc
def az_lf (k : Nat) (x : az_P) : Nat → az_P := fun pc => if pc = k then x else az_no
