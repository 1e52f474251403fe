/-! A SMALL MACHINE OF OUR OWN: cells by their places (0, 1, ..: the order of making), one successor a step.
A value is the machine's, but '.ref k' is the k-th cell of ours, '.retAddr k' a cell that was there before us. -/
abbrev mj_M : Type := List va_E
abbrev mj_L : Type := List (Nat × Value)
abbrev mj_R : Type := Option (Nat × Nat × mj_M × Nat × mj_L × List Value)
/-- a cell of before; the third may be null (then the fourth place holds 0) -/
def mj_ev (ex : Nat → Nat) (k : Nat) : Value := bif Nat.beq k 3 && Nat.beq (ex 4) 0 then .null else .ref (ex k)
theorem mj_ev_ne {ex : Nat → Nat} {k : Nat} (h : k ≠ 3) : mj_ev ex k = .ref (ex k) := by
  unfold mj_ev
  rw [show Nat.beq k 3 = false by rw [← Bool.not_eq_true, Nat.beq_eq]; exact h]
  rfl
theorem mj_ev_or (ex : Nat → Nat) (k : Nat) : mj_ev ex k = .null ∨ ∃ a, mj_ev ex k = .ref a := by
  unfold mj_ev
  cases Nat.beq k 3 && Nat.beq (ex 4) 0
  · exact Or.inr ⟨_, rfl⟩
  · exact Or.inl rfl
def mj_tv (b0 : Nat) (ex : Nat → Nat) (v : Value) : Value := match v with
  | .ref k => .ref (b0 + k)
  | .retAddr k => mj_ev ex k
  | .int x => .int x
  | .long x => .long x
  | .float x => .float x
  | .double x => .double x
  | .null => .null
def mj_te (b0 : Nat) (ex : Nat → Nat) (dA : Nat → ClassId) (e : va_E) : va_E := match e with
  | .inl (t, n, .inr (.inr (.inr (.inr g)))) => .inl (dA t, n, .inr (.inr (.inr (.inr (fun j => (g j).map (fun k => b0 + k))))))
  | .inl (t, n, x) => .inl (dA t, n, x)
  | .inr (ci, fs) => .inr (ci, fs.map (mj_tv b0 ex))
def mj_ws (b0 : Nat) (ex : Nat → Nat) (dA : Nat → ClassId) (M : mj_M) : va_W := M.mapIdx (fun k e => (b0 + k, mj_te b0 ex dA e))
def mj_tl (b0 : Nat) (ex : Nat → Nat) (l : mj_L) : List (Nat × Value) := l.map (fun q => (q.1, mj_tv b0 ex q.2))
def mj_ts (b0 : Nat) (ex : Nat → Nat) (st : List Value) : List Value := st.map (mj_tv b0 ex)
theorem mj_ts_x {b0 : Nat} {ex : Nat → Nat} {k : Nat} {st : List Value} (h : k ≠ 3) : mj_ts b0 ex (.retAddr k :: st) = .ref (ex k) :: mj_ts b0 ex st := by
  show mj_ev ex k :: mj_ts b0 ex st = _
  rw [mj_ev_ne h]
def mj_tys (dA : Nat → ClassId) : List (ClassId × FieldType) := [(dA 0, .int), (dA 1, .boolean), (dA 2, .array .int)]
theorem mj_tv_cat (b0 : Nat) (ex : Nat → Nat) (v : Value) (h : ∀ k, v ≠ .retAddr k) : (mj_tv b0 ex v).category = v.category := by
  cases v <;> first | rfl | exact absurd rfl (h _)
theorem mj_ev_cat (ex : Nat → Nat) (k : Nat) : (mj_ev ex k).category = (Value.retAddr k).category := by
  rcases mj_ev_or ex k with h | ⟨a, h⟩ <;> rw [h] <;> rfl
theorem mj_tv_cat' (b0 : Nat) (ex : Nat → Nat) (v : Value) : (mj_tv b0 ex v).category = v.category := by
  cases v <;> first | rfl | exact mj_ev_cat _ _
theorem mj_ws_len (b0 : Nat) (ex : Nat → Nat) (dA : Nat → ClassId) (M : mj_M) : (mj_ws b0 ex dA M).length = M.length := by
  simp [mj_ws]
theorem mj_ws_get {b0 : Nat} {ex : Nat → Nat} {dA : Nat → ClassId} {M : mj_M} {k : Nat} {e : va_E} (h : M[k]? = some e) : (mj_ws b0 ex dA M)[k]? = some (b0 + k, mj_te b0 ex dA e) := by
  simp [mj_ws, h]
theorem mj_ws_set {b0 : Nat} {ex : Nat → Nat} {dA : Nat → ClassId} {M : mj_M} {k : Nat} {e : va_E} : (mj_ws b0 ex dA M).set k (b0 + k, mj_te b0 ex dA e) = mj_ws b0 ex dA (M.set k e) := by
  apply List.ext_getElem?
  intro i
  by_cases h : i = k
  · subst h
    by_cases hl : i < M.length
    · rw [List.getElem?_set_self (by rw [mj_ws_len]; exact hl), mj_ws_get (e := e) (by rw [List.getElem?_set_self hl])]
    · rw [List.getElem?_eq_none (by rw [List.length_set, mj_ws_len]; omega), List.getElem?_eq_none (by rw [mj_ws_len, List.length_set]; omega)]
  · rw [List.getElem?_set_ne (Ne.symm h)]
    simp [mj_ws, List.getElem?_set_ne (Ne.symm h)]
theorem mj_ws_app {b0 : Nat} {ex : Nat → Nat} {dA : Nat → ClassId} {M : mj_M} {e : va_E} : mj_ws b0 ex dA M ++ [(b0 + M.length, mj_te b0 ex dA e)] = mj_ws b0 ex dA (M ++ [e]) := by
  simp [mj_ws, List.mapIdx_append]
theorem mj_ws_D {b0 : Nat} {ex : Nat → Nat} {dA : Nat → ClassId} {M : mj_M} : va_D (fun q => b0 ≤ q) (mj_ws b0 ex dA M) := by
  have key : ∀ (i : Nat) (p : Nat × va_E), (mj_ws b0 ex dA M)[i]? = some p → p.1 = b0 + i := by
    intro i p h
    simp only [mj_ws, List.getElem?_mapIdx] at h
    cases hM : M[i]? with
    | none => rw [hM] at h; cases h
    | some e => rw [hM] at h; cases h; rfl
  exact ⟨fun i j p q hi hj h => by have := key i p hi; have := key j q hj; omega, fun k q hk => by have := key k q hk; show b0 ≤ q.1; omega⟩
def mj_lk (l : mj_L) (i : Nat) : Option Value := match l with
  | [] => none
  | q :: l => if q.1 = i then some q.2 else mj_lk l i
theorem mj_lk_mem {l : mj_L} {i : Nat} {v : Value} (h : mj_lk l i = some v) : (i, v) ∈ l := by
  induction l with
  | nil => cases h
  | cons q l ih =>
    unfold mj_lk at h
    by_cases e : q.1 = i
    · rw [if_pos e] at h
      cases h
      subst e
      exact List.mem_cons_self
    · rw [if_neg e] at h
      exact List.mem_cons_of_mem _ (ih h)
theorem mj_lv {b0 : Nat} {ex : Nat → Nat} {ls : Array Slot} {nL : Nat} {l : mj_L} {i : Nat} {v : Value} (hl : lv_has ls nL (mj_tl b0 ex l)) (h : mj_lk l i = some v) : ls[i]? = some (.val (mj_tv b0 ex v)) :=
  hl.2.2 (i, mj_tv b0 ex v) (List.mem_map.mpr ⟨(i, v), mj_lk_mem h, rfl⟩)
def mj_s1 (l : mj_L) (i : Nat) (v : Value) : mj_L := (i, v) :: l.filter (fun q => !(q.1 == i) && !(q.1 + 1 == i && q.2.category == 2))
def mj_s2 (l : mj_L) (i : Nat) (v : Value) : mj_L := (i, v) :: l.filter (fun q => !(q.1 == i) && (!(q.1 == i + 1) && !(q.1 + 1 == i && q.2.category == 2)))
theorem mj_tl_s1 (b0 : Nat) (ex : Nat → Nat) (l : mj_L) (i : Nat) (v : Value) : (i, mj_tv b0 ex v) :: (mj_tl b0 ex l).filter (fun q => !(q.1 == i) && !(q.1 + 1 == i && q.2.category == 2)) = mj_tl b0 ex (mj_s1 l i v) := by
  unfold mj_tl mj_s1
  rw [List.map_cons, List.filter_map]
  congr 2
  apply List.filter_congr
  intro q _
  simp only [Function.comp, mj_tv_cat']
theorem mj_tl_s2 (b0 : Nat) (ex : Nat → Nat) (l : mj_L) (i : Nat) (v : Value) : (i, mj_tv b0 ex v) :: (mj_tl b0 ex l).filter (fun q => !(q.1 == i) && (!(q.1 == i + 1) && !(q.1 + 1 == i && q.2.category == 2))) = mj_tl b0 ex (mj_s2 l i v) := by
  unfold mj_tl mj_s2
  rw [List.map_cons, List.filter_map]
  congr 2
  apply List.filter_congr
  intro q _
  simp only [Function.comp, mj_tv_cat']
def mj_go (M : mj_M) (pc : Nat) (l : mj_L) (st : List Value) : mj_R := some (0, 0, M, pc, l, st)
def mj_jp (M : mj_M) (pc : Nat) (off : Int) (l : mj_L) (st : List Value) : mj_R := if 0 ≤ (pc : Int) + off then some (0, 0, M, ((pc : Int) + off).toNat, l, st) else none
def mj_br (M : mj_M) (pc : Nat) (off : Int) (l : mj_L) (st : List Value) (t : Bool) : mj_R := if 0 ≤ (pc : Int) + off then (match t with
  | true => some (0, 0, M, ((pc : Int) + off).toNat, l, st)
  | false => some (0, 0, M, pc + 3, l, st)) else none
def mj_isr (v : Value) : Bool := match v with
  | .ref _ => true
  | _ => false
/-- what hangs on ints, longs, locals and the stack alone -/
def mj_pu (ins : Instr) (len nL : Nat) (M : mj_M) (pc : Nat) (l : mj_L) (st : List Value) : mj_R := match ins, len, st with
  | .iconst n, 1, st => mj_go M (pc + 1) l (.int (Int32.ofInt n) :: st)
  | .bipush n, 2, st => mj_go M (pc + 2) l (.int (Int8.ofInt n).toInt32 :: st)
  | .sipush n, 3, st => mj_go M (pc + 3) l (.int (Int16.ofInt n).toInt32 :: st)
  | .lconst n, 1, st => mj_go M (pc + 1) l (.long (Int64.ofNat (n : Nat)) :: st)
  | .aconst_null, 1, st => mj_go M (pc + 1) l (.null :: st)
  | .iload_n k, 1, st => match mj_lk l (k : Nat) with
    | some (.int x) => mj_go M (pc + 1) l (.int x :: st)
    | _ => none
  | .iload i, 2, st => match mj_lk l i with
    | some (.int x) => mj_go M (pc + 2) l (.int x :: st)
    | _ => none
  | .lload_n k, 1, st => match mj_lk l (k : Nat) with
    | some (.long x) => mj_go M (pc + 1) l (.long x :: st)
    | _ => none
  | .lload i, 2, st => match mj_lk l i with
    | some (.long x) => mj_go M (pc + 2) l (.long x :: st)
    | _ => none
  | .aload_n k, 1, st => match mj_lk l (k : Nat) with
    | some (.ref x) => mj_go M (pc + 1) l (.ref x :: st)
    | some (.retAddr x) => mj_go M (pc + 1) l (.retAddr x :: st)
    | _ => none
  | .aload i, 2, st => match mj_lk l i with
    | some (.ref x) => mj_go M (pc + 2) l (.ref x :: st)
    | some (.retAddr x) => mj_go M (pc + 2) l (.retAddr x :: st)
    | _ => none
  | .istore_n k, 1, .int x :: st => if (k : Nat) < nL then mj_go M (pc + 1) (mj_s1 l k (.int x)) st else none
  | .istore i, 2, .int x :: st => if i < nL then mj_go M (pc + 2) (mj_s1 l i (.int x)) st else none
  | .lstore_n k, 1, .long x :: st => if (k : Nat) + 1 < nL then mj_go M (pc + 1) (mj_s2 l k (.long x)) st else none
  | .lstore i, 2, .long x :: st => if i + 1 < nL then mj_go M (pc + 2) (mj_s2 l i (.long x)) st else none
  | .astore_n k, 1, .ref x :: st => if (k : Nat) < nL then mj_go M (pc + 1) (mj_s1 l k (.ref x)) st else none
  | .astore i, 2, .ref x :: st => if i < nL then mj_go M (pc + 2) (mj_s1 l i (.ref x)) st else none
  | .iinc i n, 3, st => match mj_lk l i with
    | some (.int x) => if i < nL then mj_go M (pc + 3) (mj_s1 l i (.int (x + Int32.ofInt n))) st else none
    | _ => none
  | .iadd, 1, .int y :: .int x :: st => mj_go M (pc + 1) l (.int (x + y) :: st)
  | .isub, 1, .int y :: .int x :: st => mj_go M (pc + 1) l (.int (x - y) :: st)
  | .imul, 1, .int y :: .int x :: st => mj_go M (pc + 1) l (.int (x * y) :: st)
  | .idiv, 1, .int y :: .int x :: st => if y = 0 then none else mj_go M (pc + 1) l (.int (x / y) :: st)
  | .irem, 1, .int y :: .int x :: st => if y = 0 then none else mj_go M (pc + 1) l (.int (x - x / y * y) :: st)
  | .iand, 1, .int y :: .int x :: st => mj_go M (pc + 1) l (.int (x &&& y) :: st)
  | .ior, 1, .int y :: .int x :: st => mj_go M (pc + 1) l (.int (x ||| y) :: st)
  | .ishl, 1, .int y :: .int x :: st => mj_go M (pc + 1) l (.int (x <<< (y &&& 31)) :: st)
  | .ishr, 1, .int y :: .int x :: st => mj_go M (pc + 1) l (.int (x >>> (y &&& 31)) :: st)
  | .iushr, 1, .int y :: .int x :: st => mj_go M (pc + 1) l (.int (x.toUInt32 >>> (y.toUInt32 &&& Int32.toUInt32 31)).toInt32 :: st)
  | .ineg, 1, .int x :: st => mj_go M (pc + 1) l (.int (-x) :: st)
  | .ladd, 1, .long y :: .long x :: st => mj_go M (pc + 1) l (.long (x + y) :: st)
  | .lsub, 1, .long y :: .long x :: st => mj_go M (pc + 1) l (.long (x - y) :: st)
  | .lmul, 1, .long y :: .long x :: st => mj_go M (pc + 1) l (.long (x * y) :: st)
  | .ldiv, 1, .long y :: .long x :: st => if y = 0 then none else mj_go M (pc + 1) l (.long (x / y) :: st)
  | .lrem, 1, .long y :: .long x :: st => if y = 0 then none else mj_go M (pc + 1) l (.long (x - x / y * y) :: st)
  | .lcmp, 1, .long y :: .long x :: st => mj_go M (pc + 1) l (.int (lg_cmp x y) :: st)
  | .i2l, 1, .int x :: st => mj_go M (pc + 1) l (.long x.toInt64 :: st)
  | .l2i, 1, .long x :: st => mj_go M (pc + 1) l (.int x.toInt32 :: st)
  | .i2b, 1, .int x :: st => mj_go M (pc + 1) l (.int x.toInt8.toInt32 :: st)
  | .i2s, 1, .int x :: st => mj_go M (pc + 1) l (.int x.toInt16.toInt32 :: st)
  | .i2c, 1, .int x :: st => mj_go M (pc + 1) l (.int (x.toUInt32 % 65536).toInt32 :: st)
  | .dup, 1, v :: st => if v.category = 1 then mj_go M (pc + 1) l (v :: v :: st) else none
  | .dup2, 1, v :: w :: st => if v.category = 1 ∧ w.category = 1 then mj_go M (pc + 1) l (v :: w :: v :: w :: st) else none
  | .pop, 1, v :: st => if v.category = 1 then mj_go M (pc + 1) l st else none
  | .pop2, 1, v :: st => if v.category = 2 then mj_go M (pc + 1) l st else none
  | .goto off, 3, st => mj_jp M pc off l st
  | .ifCond .eq off, 3, .int x :: st => mj_br M pc off l st (decide (x = 0))
  | .ifCond .ne off, 3, .int x :: st => mj_br M pc off l st (decide (¬ x = 0))
  | .ifCond .lt off, 3, .int x :: st => mj_br M pc off l st (decide (x < 0))
  | .ifCond .ge off, 3, .int x :: st => mj_br M pc off l st (decide (0 ≤ x))
  | .ifCond .gt off, 3, .int x :: st => mj_br M pc off l st (decide (0 < x))
  | .ifCond .le off, 3, .int x :: st => mj_br M pc off l st (decide (x ≤ 0))
  | .if_icmp .eq off, 3, .int y :: .int x :: st => mj_br M pc off l st (decide (x = y))
  | .if_icmp .ne off, 3, .int y :: .int x :: st => mj_br M pc off l st (decide (¬ x = y))
  | .if_icmp .lt off, 3, .int y :: .int x :: st => mj_br M pc off l st (decide (x < y))
  | .if_icmp .ge off, 3, .int y :: .int x :: st => mj_br M pc off l st (decide (y ≤ x))
  | .if_icmp .gt off, 3, .int y :: .int x :: st => mj_br M pc off l st (decide (y < x))
  | .if_icmp .le off, 3, .int y :: .int x :: st => mj_br M pc off l st (decide (x ≤ y))
  | .tableswitch dflt lo hi offs, _, .int x :: st => if x.toInt < lo ∨ hi < x.toInt then mj_jp M pc dflt l st else match offs[(x.toInt - lo).toNat]? with
    | some off => mj_jp M pc off l st
    | none => none
  | .lookupswitch dflt ps, _, .int x :: st => if (ps.toList.zip (ps.toList.drop 1)).all (fun (a, next) => a.1 < next.1) = true then mj_jp M pc (Op.lookupswitch.offset ps.toList dflt x.toInt) l st else none
  | _, _, _ => none
