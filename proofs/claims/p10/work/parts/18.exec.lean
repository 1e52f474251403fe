/-- what the constructors make -/
def mj_al (i : Nat) : Nat × Nat := bif Nat.beq i 6 then (7, 38) else bif Nat.beq i 52 then (16, 1036) else bif Nat.beq i 31 then (6, 806) else bif Nat.beq i 55 then (22, 159) else bif Nat.beq i 46 then (7, 172) else bif Nat.beq i 78 then (79, 2355) else bif Nat.beq i 134 then (21, 1524) else (0, 0)
noncomputable def ai_ret (rt : Option FieldType) (ins : Instr) (len : Nat) (T : ai_T) (st : List ai_V) : Option (Option ai_V) := match ins with
  | .ireturn => (match rt, st with
    | some ty, [a] => bif Nat.beq len 1 then (match ai_iig ai_at ai_put ai_in32f ai_arf ai_psh ai_ln T a with
      | some p => (match ty with
        | .int => some (some a)
        | .boolean => bif decide (0 ≤ p.1) && decide (p.2 ≤ 1) then some (some a) else none
        | .byte => bif decide (-128 ≤ p.1) && decide (p.2 ≤ 127) then some (some a) else none
        | .char => bif decide (0 ≤ p.1) && decide (p.2 ≤ 65535) then some (some a) else none
        | _ => none)
      | none => none) else none
    | _, _ => none)
  | .lreturn => (match rt, st with
    | some .long, [a] => bif Nat.beq len 1 && (ai_llg ai_at ai_put ai_in32f ai_arf ai_psh ai_ln T a).isSome then some (some a) else none
    | _, _ => none)
  | .areturn => (match rt, st with
    | some (.object _), [(5, k)] => bif Nat.beq len 1 then some (some (5, k)) else none
    | _, _ => none)
  | .return_ => (match rt, st with
    | none, [] => bif Nat.beq len 1 then some none else none
    | _, _ => none)
  | _ => none
def ai_sp : Nat → List ai_V → List ai_V → Option (List ai_V × List ai_V)
  | 0, as, st => some (as, st)
  | n + 1, as, v :: st => ai_sp n (v :: as) st
  | _ + 1, _, [] => none
noncomputable def ai_rc (i : Nat) (M : ai_M) (v : ai_V) : Bool := match v.1 with
  | 4 => (match ai_at _ M v.2.toNat with
    | some (0, ci, _) => Nat.beq ci (mj_oc i) && Nat.blt ci 7
    | _ => false)
  | 5 => Nat.beq (mj_oc i) 99 && (Nat.ble 10 v.2.toNat && Nat.blt v.2.toNat 23)
  | _ => false
def ai_args : Nat → List ai_V → ai_L
  | _, [] => []
  | i, v :: vs => (i, v) :: ai_args (bif ai_isL v then i + 2 else i + 1) vs
/-- a call of a method of ours: its arguments, the rest of the stack -/
noncomputable def ai_call (ins : Instr) (len r1 r2 : Nat) (M : ai_M) (st : List ai_V) : Option (List ai_V × List ai_V) := bif (Nat.blt r1 mj_N && Nat.beq len 3) && (Nat.ble r2 1 && Nat.beq (mj_ki r1) (mj_kd ins)) then
  (match ai_sp (bif Nat.beq (mj_ki r1) 0 then mj_np r1 else mj_np r1 + 1) [] st with
  | some (as, rest) => bif ((!(Nat.beq (mj_ki r1) 1) || ai_rc r1 M (as.headD (6, 0))) && (!(Nat.beq (mj_ki r1) 2) || Nat.beq (as.headD (6, 0)).1 4)) && (Nat.ble (ai_cs rest) 8 && Nat.ble (ai_cs as) (mj_ml r1)) then some (as, rest) else none
  | none => none) else none
def ai_all {α β : Type} (l : List α) (f : α → Option (List β)) : Option (List β) := match l with
  | [] => some []
  | a :: l => (match f a with
    | none => none
    | some x => (match ai_all l f with
      | none => none
      | some y => some (x ++ y)))
def ai_rt (i : Nat) : Option FieldType := bif Nat.blt i mj_N then mj_rt i else some .boolean
def ai_mc (i lmc : Nat) : Nat := bif Nat.blt i mj_N then (mj_al i).1 else lmc
def ai_ms (i lms : Nat) : Nat := bif Nat.blt i mj_N then (mj_al i).2 else lms
def ai_ow (i : Nat) : Nat := bif Nat.blt i mj_N then mj_ow i else 16
def ai_nl (i : Nat) : Nat := bif Nat.blt i mj_N then mj_ml i else 4
/-- fewer ways out of a call, by the callee -/
def ai_mg (_n0 _i : Nat) (outs : List ai_O) : List ai_O := outs
abbrev ai_X : Type := Nat → Nat → Nat → Nat → Nat → ai_T → ai_M → ai_L → List ai_V → Option (List ai_O)
abbrev ai_Y : Type := Bool → Nat → Nat → ai_X
def ai_j4 (r : ai_X) (d i : Nat) (q : Nat × ai_S) : Option (List ai_O) := r d i q.1 q.2.1 q.2.2.1 q.2.2.2.1 q.2.2.2.2.1 q.2.2.2.2.2.1 q.2.2.2.2.2.2
def ai_j3 (r : ai_X) (d i : Nat) (o : ai_R) : Option (List ai_O) := match o with
  | none => none
  | some succs => ai_all succs (ai_j4 r d i)
noncomputable def ai_j5 (r : ai_Y) (scr : Bool) (lmc lms d i pc ce sl : Nat) (T : ai_T) (M : ai_M) (l : ai_L) (st : List ai_V) (ins : Instr) (len r1 r2 : Nat) : Option (List ai_O) := ai_j3 (r scr lmc lms) d i ((ai_hw ins).1 (ai_ow i) (ai_nl i) (Nat.beq (mj_ki i) 2) scr (ai_mc i lmc) (ai_ms i lms) len r1 r2 pc ce sl T M l st)
def ai_j6 (lmc i ce : Nat) (T : ai_T) (M : ai_M) (o : Option (Option ai_V)) : Option (List ai_O) := match o with
  | some rv => bif Nat.beq ce (ai_mc i lmc) then some [(T, M, rv)] else none
  | none => none
def ai_j7 (r : ai_X) (d i pc ce sl : Nat) (l : ai_L) (rest : List ai_V) (o : ai_O) : Option (List ai_O) := r d i pc ce sl o.1 o.2.1 l (o.2.2.toList ++ rest)
def ai_j10 (r : ai_X) (d i pc ce sl : Nat) (l : ai_L) (rest : List ai_V) (n0 r1 : Nat) (o : Option (List ai_O)) : Option (List ai_O) := match o with
  | none => none
  | some outs => ai_all (ai_mg n0 r1 outs) (ai_j7 r d i pc ce sl l rest)
def ai_j9 (r : ai_Y) (scr : Bool) (lmc lms i pc ce sl : Nat) (T : ai_T) (M : ai_M) (l : ai_L) (as rest : List ai_V) (r1 : Nat) (d : Nat) : Option (List ai_O) := match d with
  | d' + 2 => bif Nat.ble (ce + (mj_al r1).1) (ai_mc i lmc) && Nat.ble (sl + (mj_al r1).2) (ai_ms i lms) then
      ai_j10 (r scr lmc lms) (d' + 2) i (pc + 3) (ce + (mj_al r1).1) (sl + (mj_al r1).2) l rest T.length r1 (r false 0 0 (d' + 1) r1 0 0 0 T M (ai_args 0 as) []) else none
  | _ => none
noncomputable def ai_j8 (r : ai_Y) (scr : Bool) (lmc lms d i pc ce sl : Nat) (T : ai_T) (M : ai_M) (l : ai_L) (st : List ai_V) (ins : Instr) (len r1 r2 : Nat) (o : Option (List ai_V × List ai_V)) : Option (List ai_O) := match o with
  | some q => ai_j9 r scr lmc lms i pc ce sl T M l q.1 q.2 r1 d
  | none => ai_j5 r scr lmc lms d i pc ce sl T M l st ins len r1 r2
noncomputable def ai_j2b (r : ai_Y) (scr : Bool) (lmc lms d i pc ce sl : Nat) (T : ai_T) (M : ai_M) (l : ai_L) (st : List ai_V) (ins : Instr) (len r1 r2 : Nat) : Option (List ai_O) :=
  bif Nat.beq (ai_cq ins) 1 then ai_j6 lmc i ce T M (ai_ret (ai_rt i) ins len T st) else ai_j8 r scr lmc lms d i pc ce sl T M l st ins len r1 r2 (ai_call ins len r1 r2 M st)
noncomputable def ai_j2 (r : ai_Y) (scr : Bool) (lmc lms d i pc ce sl : Nat) (T : ai_T) (M : ai_M) (l : ai_L) (st : List ai_V) (ins : Instr) (len r1 r2 : Nat) : Option (List ai_O) :=
  bif Nat.beq (ai_cq ins) 0 then ai_j5 r scr lmc lms d i pc ce sl T M l st ins len r1 r2 else ai_j2b r scr lmc lms d i pc ce sl T M l st ins len r1 r2
noncomputable def ai_j1 (r : ai_Y) (scr : Bool) (lmc lms d i pc ce sl : Nat) (T : ai_T) (M : ai_M) (l : ai_L) (st : List ai_V) (o : Option (Instr × Nat × Nat × Nat)) : Option (List ai_O) := match o with
  | none => none
  | some (ins, len, r1, r2) => ai_j2 r scr lmc lms d i pc ce sl T M l st ins len r1 r2
noncomputable def ai_j0 (r : ai_Y) (scr : Bool) (lmc lms d i pc ce sl : Nat) (T : ai_T) (M : ai_M) (l : ai_L) (st : List ai_V) : Option (List ai_O) := ai_j1 r scr lmc lms d i pc ce sl T M l st (mj_cd i pc)
noncomputable def ai_run (n : Nat) : ai_Y := Nat.rec (motive := fun _ => ai_Y) (fun _ _ _ _ _ _ _ _ _ _ _ _ => none) (fun _ ih => ai_j0 ih) n
noncomputable def ai_ex (scr : Bool) (lmc lms n d i pc ce sl : Nat) (T : ai_T) (M : ai_M) (l : ai_L) (st : List ai_V) : Option (List ai_O) := ai_run n scr lmc lms d i pc ce sl T M l st
