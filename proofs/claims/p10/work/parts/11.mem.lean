/-! THE STEPS THAT READ OR WRITE CELLS -/
def mj_cs (st : List Value) : Nat := (st.map fun v => v.category).sum
def mj_vi (i : Int32) (n : Nat) : Bool := !(decide (i < 0)) && Nat.blt i.toNatClampNeg n
theorem mj_vi_ok {i : Int32} {n : Nat} (h : mj_vi i n = true) : vp_in i n := by
  simp only [mj_vi, Bool.and_eq_true, Bool.not_eq_true', decide_eq_false_iff_not, Nat.blt_eq] at h
  exact fun q => q.elim h.1 (fun z => absurd h.2 (by omega))
def mj_dv (ci : Nat) : List Value := match vwCl[ci]? with
  | some r => (List.range r.2.2).map (fun k => defaultValue (mj_fty ci k))
  | none => []
def mj_me (L : Nat) (xs : Nat → Int32) (own : Nat) (ini : Bool) (ins : Instr) (len r1 r2 : Nat) (M : mj_M) (pc : Nat) (l : mj_L) (st : List Value) : mj_R := match ins, len, st with
  | .getfield _, 3, .ref q :: st => match M[q]? with
    | some (.inr (ci, fs)) => if ci = r1 ∧ r1 < 7 then (match fs[r2]? with
      | some v => mj_go M (pc + 3) l (v :: st)
      | none => none) else none
    | _ => none
  | .getfield _, 3, .retAddr k :: st => if r1 = 100 ∧ 10 ≤ k ∧ k < 23 then mj_go M (pc + 3) l ((bif Nat.beq r2 0 then .int 0 else .retAddr (k + 20)) :: st) else none
  | .putfield _, 3, v :: .ref q :: st => match M[q]? with
    | some (.inr (ci, fs)) => if (ci = r1 ∧ r1 < 7) ∧ r2 < fs.length ∧ mj_fit (mj_fty r1 r2) v = true ∧ (mj_fin r1 r2 = true → ini = true ∧ mj_cow r1 = own) then mj_go (M.set q (.inr (ci, fs.set r2 v))) (pc + 3) l st else none
    | _ => none
  | .getstatic _, 3, st => if r1 < 999 then (match mj_xs[r1]? with
    | some r => if r2 = 0 ∨ r2 = 1 then mj_go M (pc + 3) l (r.2.2.2 :: st) else none
    | none => none) else none
  | .ldc _, 2, st => if r1 < 999 then (match mj_cv r1 with
    | .int v => if r2 = 2 then none else mj_go M (pc + 2) l (.int v :: st)
    | .retAddr k => if r2 = 2 then mj_go M (pc + 2) l (.retAddr k :: st) else none
    | _ => none) else none
  | .ldc_w _, 3, st => if r1 < 999 then (match mj_cv r1 with
    | .int v => mj_go M (pc + 3) l (.int v :: st)
    | _ => none) else none
  | .ldc2_w _, 3, st => if r1 < 999 then (match mj_cv r1 with
    | .long v => mj_go M (pc + 3) l (.long v :: st)
    | _ => none) else none
  | .iaload, 1, .int i :: .ref q :: st => match M[q]? with
    | some (.inl (0, n, .inl f)) => if mj_vi i n = true then mj_go M (pc + 1) l (.int (f i.toNatClampNeg) :: st) else none
    | _ => none
  | .iaload, 1, .int i :: .retAddr k :: st => match mj_xa L xs k with
    | some (.int, n, f) => if mj_vi i n = true then mj_go M (pc + 1) l (.int (f i.toNatClampNeg) :: st) else none
    | _ => none
  | .baload, 1, .int i :: .ref q :: st => match M[q]? with
    | some (.inl (1, n, .inl f)) => if mj_vi i n = true then mj_go M (pc + 1) l (.int (f i.toNatClampNeg) :: st) else none
    | _ => none
  | .baload, 1, .int i :: .retAddr k :: st => match mj_xa L xs k with
    | some (.byte, n, f) => if mj_vi i n = true then mj_go M (pc + 1) l (.int (f i.toNatClampNeg) :: st) else none
    | _ => none
  | .aaload, 1, .int i :: .ref q :: st => match M[q]? with
    | some (.inl (2, n, .inr (.inr (.inr (.inr g))))) => if mj_vi i n = true then (match g i.toNatClampNeg with
      | some r => mj_go M (pc + 1) l (.ref r :: st)
      | none => none) else none
    | _ => none
  | .arraylength, 1, .ref q :: st => match M[q]? with
    | some (.inl (0, n, x)) => mj_go M (pc + 1) l (.int (Int32.ofNat n) :: st)
    | some (.inl (1, n, x)) => mj_go M (pc + 1) l (.int (Int32.ofNat n) :: st)
    | some (.inl (2, n, x)) => mj_go M (pc + 1) l (.int (Int32.ofNat n) :: st)
    | _ => none
  | .arraylength, 1, .retAddr k :: st => match mj_xa L xs k with
    | some (_, n, _) => mj_go M (pc + 1) l (.int (Int32.ofNat n) :: st)
    | none => none
  | .iastore, 1, .int x :: .int i :: .ref q :: st => match M[q]? with
    | some (.inl (0, n, .inl f)) => if mj_vi i n = true then mj_go (M.set q (.inl (0, n, .inl (upd f i.toNatClampNeg x)))) (pc + 1) l st else none
    | _ => none
  | .bastore, 1, .int x :: .int i :: .ref q :: st => match M[q]? with
    | some (.inl (1, n, .inl f)) => if mj_vi i n = true then mj_go (M.set q (.inl (1, n, .inl (upd f i.toNatClampNeg (vp_nar .boolean x))))) (pc + 1) l st else none
    | _ => none
  | .newarray .int, 2, .int n :: st => if n < 0 ∨ 536870912 < n.toNatClampNeg * 4 then none else some (1, n.toNatClampNeg, M ++ [.inl (0, n.toNatClampNeg, .inl (fun _ => 0))], pc + 2, l, .ref M.length :: st)
  | .newarray .boolean, 2, .int n :: st => if n < 0 ∨ 536870912 < n.toNatClampNeg * 4 then none else some (1, n.toNatClampNeg, M ++ [.inl (1, n.toNatClampNeg, .inl (fun _ => 0))], pc + 2, l, .ref M.length :: st)
  | .multianewarray _ 2, 4, .int k :: .int n :: st => if n < 0 ∨ k < 0 ∨ 536870912 < n.toNatClampNeg * 4 ∨ 536870912 < k.toNatClampNeg * 4 ∨ 999 ≤ r1 then none else
    some (1 + n.toNatClampNeg, n.toNatClampNeg + n.toNatClampNeg * k.toNatClampNeg, M ++ (.inl (2, n.toNatClampNeg, .inr (.inr (.inr (.inr (fun i => if i < n.toNatClampNeg then some (M.length + 1 + i) else none))))) :: List.replicate n.toNatClampNeg (.inl (0, k.toNatClampNeg, .inl (fun _ => 0)))), pc + 4, l, .ref M.length :: st)
  | .new _, 3, st => if r1 < 7 then some (1, (mj_dv r1).length, M ++ [.inr (r1, mj_dv r1)], pc + 3, l, .ref M.length :: st) else none
  | .invokespecial _, 3, .ref q :: st => if r1 = 1000 ∧ mj_cs st ≤ 8 then mj_go M (pc + 3) l st else none
  | .invokestatic _, 3, .int n :: .int dp :: .ref q1 :: .int sp :: .ref q0 :: st => if r1 = 1001 ∧ mj_cs st ≤ 8 then (match M[q0]?, M[q1]? with
    | some (.inl (0, n0, .inl f)), some (.inl (0, n1, .inl g)) => if sp < 0 ∨ dp < 0 ∨ n < 0 ∨ n0 < sp.toNatClampNeg + n.toNatClampNeg ∨ n1 < dp.toNatClampNeg + n.toNatClampNeg then none else mj_go (M.set q1 (.inl (0, n1, .inl (va_cpy f g sp.toNatClampNeg dp.toNatClampNeg n.toNatClampNeg)))) (pc + 3) l st
    | _, _ => none) else none
  | .invokestatic _, 3, .int y :: .int x :: st => if r1 = 1002 ∧ mj_cs st ≤ 8 then mj_go M (pc + 3) l (.int (if x < y then y else x) :: st) else if r1 = 1003 ∧ mj_cs st ≤ 8 then mj_go M (pc + 3) l (.int (if y < x then y else x) :: st) else none
  | _, _, _ => none
