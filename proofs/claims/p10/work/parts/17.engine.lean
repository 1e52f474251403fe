/-! AN ENGINE THAT RUNS BODIES OVER NUMBERS THAT ARE KNOWN BY THEIR BOUNDS: a value is a tag and a number
(0 int, 1 int by its symbol, 2 long, 3 long by its symbol, 4 cell of ours, 5 cell of before, 6 null, 7 a plain number) -/
noncomputable section
abbrev ai_V : Type := Nat × Int
abbrev ai_T : Type := List (Int × Int)
abbrev ai_E : Type := Nat × Nat × List ai_V
abbrev ai_M : Type := List ai_E
abbrev ai_L : Type := List (Nat × ai_V)
/-- cells, slots, symbols, memory, locals, stack -/
abbrev ai_S : Type := Nat × Nat × ai_T × ai_M × ai_L × List ai_V
abbrev ai_O : Type := ai_T × ai_M × Option ai_V
def ai_lo32 : Int := -2147483648
def ai_hi32 : Int := 2147483647
def ai_iv (T : ai_T) (a : ai_V) : Option (Int × Int) := match a.1 with
  | 0 => some (a.2, a.2)
  | 1 => T[a.2.toNat]?
  | 2 => some (a.2, a.2)
  | 3 => T[a.2.toNat]?
  | _ => none
def ai_isI (a : ai_V) : Bool := Nat.blt a.1 2
def ai_isL (a : ai_V) : Bool := Nat.beq a.1 2 || Nat.beq a.1 3
def ai_cat (a : ai_V) : Nat := bif ai_isL a then 2 else 1
def ai_cs (st : List ai_V) : Nat := (st.map ai_cat).sum
def ai_in32 (q : Int × Int) : Bool := decide (ai_lo32 ≤ q.1) && decide (q.2 ≤ ai_hi32)
/-- an int's bounds, if they are an int's -/
def ai_ii (T : ai_T) (a : ai_V) : Option (Int × Int) := bif ai_isI a then (match ai_iv T a with
  | some q => bif ai_in32 q then some q else none
  | none => none) else none
def ai_in64 (q : Int × Int) : Bool := decide (-9223372036854775808 ≤ q.1) && decide (q.2 ≤ 9223372036854775807)
def ai_ll (T : ai_T) (a : ai_V) : Option (Int × Int) := bif ai_isL a then (match ai_iv T a with
  | some q => bif ai_in64 q then some q else none
  | none => none) else none
def ai_one (q : Int × Int) : Bool := decide (q.1 = q.2)
/-- a symbol's bounds, made narrower -/
def ai_set (T : ai_T) (a : ai_V) (q : Int × Int) : ai_T := bif Nat.beq a.1 1 || Nat.beq a.1 3 then T.set a.2.toNat q else T
/-- what a comparison may come to, and what is known then: x < y, x = y -/
def ai_lt (T : ai_T) (a b : ai_V) (p q : Int × Int) : List (Bool × ai_T) :=
  (if p.1 < q.2 then [(true, ai_set (ai_set T a (p.1, if p.2 < q.2 then p.2 else q.2 - 1)) b (if p.1 < q.1 then q.1 else p.1 + 1, q.2))] else []) ++
  (if q.1 ≤ p.2 then [(false, ai_set (ai_set T a (if p.1 < q.1 then q.1 else p.1, p.2)) b (q.1, if p.2 < q.2 then p.2 else q.2))] else [])
def ai_eq (T : ai_T) (a b : ai_V) (p q : Int × Int) : List (Bool × ai_T) :=
  (if p.1 ≤ q.2 ∧ q.1 ≤ p.2 then [(true, ai_set (ai_set T a (if p.1 < q.1 then q.1 else p.1, if p.2 < q.2 then p.2 else q.2)) b (if p.1 < q.1 then q.1 else p.1, if p.2 < q.2 then p.2 else q.2))] else []) ++
  (if p.1 = p.2 ∧ q.1 = q.2 ∧ p.1 = q.1 then [] else if q.1 = q.2 ∧ p.1 < q.1 ∧ q.1 < p.2 then [(false, ai_set T a (p.1, q.1 - 1)), (false, ai_set T a (q.1 + 1, p.2))] else
    [(false, if q.1 = q.2 then (if p.1 = q.1 then ai_set T a (p.1 + 1, p.2) else if p.2 = q.1 then ai_set T a (p.1, p.2 - 1) else T) else T)])
def ai_not (l : List (Bool × ai_T)) : List (Bool × ai_T) := l.map (fun r => (!r.1, r.2))
/-- the six comparisons, by 'less' and 'equal' -/
def ai_cmp (k : Nat) (T : ai_T) (a b : ai_V) (p q : Int × Int) : List (Bool × ai_T) := match k with
  | 0 => ai_eq T a b p q
  | 1 => ai_not (ai_eq T a b p q)
  | 2 => ai_lt T a b p q
  | 3 => ai_not (ai_lt T a b p q)
  | 4 => ai_lt T b a q p
  | _ => ai_not (ai_lt T b a q p)
/-- bounds of what an operation gives: 0 add, 1 sub, 2 mul, 3 and, 4 div, 5 rem; else none known -/
def ai_op (k : Nat) (p q : Int × Int) : Int × Int := match k with
  | 0 => (p.1 + q.1, p.2 + q.2)
  | 1 => (p.1 - q.2, p.2 - q.1)
  | 2 => if 0 ≤ p.1 ∧ 0 ≤ q.1 then (p.1 * q.1, p.2 * q.2) else (ai_lo32 - 1, ai_hi32)
  | 3 => if 0 ≤ q.1 then (0, q.2) else (ai_lo32 - 1, ai_hi32)
  | 4 => if 0 ≤ p.1 ∧ 0 < q.1 then (0, p.2) else (ai_lo32 - 1, ai_hi32)
  | 5 => if 0 ≤ p.1 ∧ 0 < q.1 then (0, q.2 - 1) else (ai_lo32 - 1, ai_hi32)
  | _ => (ai_lo32 - 1, ai_hi32)
def ai_top (q : Int × Int) : Int × Int := bif ai_in32 q then q else (ai_lo32, ai_hi32)
def ai_f (k : Nat) (x y : Int32) : Int32 := match k with
  | 0 => x + y
  | 1 => x - y
  | 2 => x * y
  | 3 => x &&& y
  | 4 => x / y
  | 5 => x - x / y * y
  | 6 => x ||| y
  | 7 => x <<< (y &&& 31)
  | 8 => x >>> (y &&& 31)
  | _ => (x.toUInt32 >>> (y.toUInt32 &&& Int32.toUInt32 31)).toInt32
/-- an operation on two ints -/
def ai_bin (k : Nat) (T : ai_T) (a b : ai_V) : Option (ai_T × ai_V) := match ai_ii T a, ai_ii T b with
  | some p, some q => bif (Nat.beq k 4 || Nat.beq k 5) && (decide (q.1 ≤ 0) && decide (0 ≤ q.2)) then none else
    bif ai_one p && ai_one q then some (T, (0, (ai_f k (Int32.ofInt p.1) (Int32.ofInt q.1)).toInt)) else some (T ++ [ai_top (ai_op k p q)], (1, T.length))
  | _, _ => none
def ai_lk (l : ai_L) (i : Nat) : Option ai_V := List.rec (motive := fun _ => Option ai_V) none (fun q _ ih => bif Nat.beq q.1 i then some q.2 else ih) l
def ai_flt (f : Nat × ai_V → Bool) (l : ai_L) : ai_L := List.rec (motive := fun _ => ai_L) [] (fun q _ ih => bif f q then q :: ih else ih) l
theorem ai_flt_eq (f : Nat × ai_V → Bool) : ∀ l : ai_L, ai_flt f l = l.filter f
  | [] => rfl
  | q :: l => by
    show (bif f q then q :: ai_flt f l else ai_flt f l) = _
    rw [ai_flt_eq f l, List.filter_cons]
    cases f q <;> rfl
def ai_s1 (l : ai_L) (i : Nat) (v : ai_V) : ai_L := (i, v) :: ai_flt (fun q => !(Nat.beq q.1 i) && !(Nat.beq (q.1 + 1) i && Nat.beq (ai_cat q.2) 2)) l
def ai_s2 (l : ai_L) (i : Nat) (v : ai_V) : ai_L := (i, v) :: ai_flt (fun q => !(Nat.beq q.1 i) && (!(Nat.beq q.1 (i + 1)) && !(Nat.beq (q.1 + 1) i && Nat.beq (ai_cat q.2) 2))) l
abbrev ai_R : Type := Option (List (Nat × ai_S))
def ai_go (pc ce sl : Nat) (T : ai_T) (M : ai_M) (l : ai_L) (st : List ai_V) : ai_R := some [(pc, ce, sl, T, M, l, st)]
def ai_jp (pc : Nat) (off : Int) : Option Nat := bif decide (0 ≤ (pc : Int) + off) then some ((pc : Int) + off).toNat else none
def ai_br (pc : Nat) (off : Int) (ce sl : Nat) (M : ai_M) (l : ai_L) (st : List ai_V) (rs : List (Bool × ai_T)) : ai_R := match ai_jp pc off with
  | some t => some (rs.map (fun r => ((bif r.1 then t else pc + 3), ce, sl, r.2, M, l, st)))
  | none => none
def ai_ck (c : Jvm.ClassFile.Cond) : Nat := match c with
  | .eq => 0
  | .ne => 1
  | .lt => 2
  | .ge => 3
  | .gt => 4
  | .le => 5
/-- a push -/
def ai_pu (pc ce sl : Nat) (T : ai_T) (M : ai_M) (l : ai_L) (a : ai_V) (st : List ai_V) : ai_R := some [(pc, ce, sl, T, M, l, a :: st)]
def ai_two (k : Nat) (pc ce sl : Nat) (T : ai_T) (M : ai_M) (l : ai_L) (st : List ai_V) : ai_R := match st with
  | b :: a :: st => (match ai_bin k T a b with
    | some (T', v) => some [(pc + 1, ce, sl, T', M, l, v :: st)]
    | none => none)
  | _ => none
/-- long operations: 0 add, 1 sub, 2 mul, 3 div, 4 rem, known numbers or bounds that can't wrap -/
def ai_lop (k : Nat) (p q : Int × Int) : Option (Int × Int) := match k with
  | 0 => some (p.1 + q.1, p.2 + q.2)
  | 1 => some (p.1 - q.2, p.2 - q.1)
  | 2 => if 0 ≤ p.1 ∧ 0 ≤ q.1 then some (p.1 * q.1, p.2 * q.2) else none
  | 3 => if 0 ≤ p.1 ∧ 0 < q.1 then some (0, p.2) else none
  | _ => if 0 ≤ p.1 ∧ 0 < q.1 then some (0, q.2 - 1) else none
def ai_lf (k : Nat) (x y : Int64) : Int64 := match k with
  | 0 => x + y
  | 1 => x - y
  | 2 => x * y
  | 3 => x / y
  | _ => x - x / y * y
def ai_lb (k : Nat) (pc ce sl : Nat) (T : ai_T) (M : ai_M) (l : ai_L) (st : List ai_V) : ai_R := match st with
  | b :: a :: st => (match ai_ll T a, ai_ll T b with
    | some p, some q => bif Nat.ble 3 k && (decide (q.1 ≤ 0) && decide (0 ≤ q.2)) then none else
      bif ai_one p && ai_one q then some [(pc + 1, ce, sl, T, M, l, (2, (ai_lf k (Int64.ofInt p.1) (Int64.ofInt q.1)).toInt) :: st)] else (match ai_lop k p q with
      | some r => bif ai_in64 r then some [(pc + 1, ce, sl, T ++ [r], M, l, (3, T.length) :: st)] else none
      | none => none)
    | _, _ => none)
  | _ => none
def ai_un (k : Nat) (x : Int32) : Int32 := match k with
  | 0 => -x
  | 1 => x.toInt8.toInt32
  | 2 => x.toInt16.toInt32
  | _ => (x.toUInt32 % 65536).toInt32
def ai_ub (k : Nat) (p : Int × Int) : Int × Int := match k with
  | 0 => ai_top (-p.2, -p.1)
  | 1 => (-128, 127)
  | 2 => (-32768, 32767)
  | _ => (0, 65535)
def ai_uo (k : Nat) (pc ce sl : Nat) (T : ai_T) (M : ai_M) (l : ai_L) (st : List ai_V) : ai_R := match st with
  | a :: st => (match ai_ii T a with
    | some p => bif ai_one p then some [(pc + 1, ce, sl, T, M, l, (0, (ai_un k (Int32.ofInt p.1)).toInt) :: st)] else some [(pc + 1, ce, sl, T ++ [ai_ub k p], M, l, (1, T.length) :: st)]
    | none => none)
  | _ => none
/-- all numbers of bounds, each a way of its own -/
def ai_each (q : Int × Int) : List Int := (List.range (q.2 - q.1 + 1).toNat).map (fun j : Nat => q.1 + (j : Int))
/-- the bounds of all of a row -/
def ai_hull (T : ai_T) : List ai_V → Option (Int × Int)
  | [] => none
  | [a] => ai_ii T a
  | a :: l => match ai_ii T a, ai_hull T l with
    | some p, some q => some (if p.1 < q.1 then p.1 else q.1, if p.2 < q.2 then q.2 else p.2)
    | _, _ => none
def ai_inb (p : Int × Int) (n : Nat) : Bool := decide (0 ≤ p.1) && decide (p.2 < (n : Int))
/-- a read of an int row: kind 1 item by item, kind 3 by its bounds -/
def ai_rd (tag : Nat) (pc ce sl : Nat) (T : ai_T) (M : ai_M) (l : ai_L) (i : ai_V) (e : ai_E) (st : List ai_V) : ai_R := match ai_ii T i with
  | some p => (match e with
    | (1, t, items) => bif Nat.beq t tag && ai_inb p items.length then (bif ai_one p then (match items[p.1.toNat]? with
        | some a => bif ai_isI a then some [(pc + 1, ce, sl, T, M, l, a :: st)] else none
        | none => none) else (match ai_hull T items with
        | some q => some [(pc + 1, ce, sl, T ++ [q], M, l, (1, T.length) :: st)]
        | none => none)) else none
    | (3, t, [(7, n), (7, lo), (7, hi)]) => bif Nat.beq t tag && (ai_inb p n.toNat && ai_in32 (lo, hi)) then some [(pc + 1, ce, sl, T ++ [(lo, hi)], M, l, (1, T.length) :: st)] else none
    | _ => none)
  | none => none
/-- a row of before, its items known -/
def ai_rx (pc ce sl : Nat) (T : ai_T) (M : ai_M) (l : ai_L) (i : ai_V) (n : Nat) (f : Nat → Int32) (st : List ai_V) : ai_R := match ai_ii T i with
  | some p => bif ai_inb p n then (bif ai_one p then some [(pc + 1, ce, sl, T, M, l, (0, (f p.1.toNat).toInt) :: st)] else some [(pc + 1, ce, sl, T ++ [(ai_lo32, ai_hi32)], M, l, (1, T.length) :: st)]) else none
  | none => none
/-- a write into an int row -/
def ai_wr (tag : Nat) (pc ce sl : Nat) (T : ai_T) (M : ai_M) (l : ai_L) (q : Nat) (i x : ai_V) (e : ai_E) (st : List ai_V) : ai_R := match ai_ii T i, ai_ii T x with
  | some p, some v => (match e with
    | (1, t, items) => bif Nat.beq t tag && (ai_inb p items.length && (Nat.beq tag 0 || (decide (0 ≤ v.1) && decide (v.2 ≤ 1)))) then some ((ai_each p).map (fun z => (pc + 1, ce, sl, ai_set T i (z, z), M.set q (1, t, items.set z.toNat x), l, st))) else none
    | (3, t, [(7, n), (7, lo), (7, hi)]) => bif Nat.beq t tag && (ai_inb p n.toNat && (Nat.beq tag 0 && (decide (lo ≤ v.1) && decide (v.2 ≤ hi)))) then some [(pc + 1, ce, sl, T, M, l, st)] else none
    | _ => none)
  | _, _ => none
def ai_fit (ty : FieldType) (T : ai_T) (a : ai_V) : Bool := match ty with
  | .int => (ai_ii T a).isSome
  | .boolean => (match ai_ii T a with
    | some p => decide (0 ≤ p.1) && decide (p.2 ≤ 1)
    | none => false)
  | .long => (ai_ll T a).isSome
  | .object _ => Nat.beq a.1 4
  | .array _ => Nat.beq a.1 4
  | _ => false
def ai_dv (ci : Nat) : List ai_V := match vwCl[ci]? with
  | some r => (List.range r.2.2).map (fun k => match mj_fty ci k with
    | .int => (0, 0)
    | .boolean => (0, 0)
    | .long => (2, 0)
    | _ => (6, 0))
  | none => []
def ai_ld (pc ce sl : Nat) (T : ai_T) (M : ai_M) (l : ai_L) (st : List ai_V) (k : Nat) (i : Nat) : ai_R := match ai_lk l i with
  | some a => (match k with
    | 0 => bif ai_isI a then ai_pu pc ce sl T M l a st else none
    | 1 => bif ai_isL a then ai_pu pc ce sl T M l a st else none
    | _ => bif Nat.beq a.1 4 || Nat.beq a.1 5 then ai_pu pc ce sl T M l a st else none)
  | none => none
def ai_sto (pc ce sl : Nat) (T : ai_T) (M : ai_M) (l : ai_L) (st : List ai_V) (nL k : Nat) (i : Nat) : ai_R := match st with
  | a :: st => (match k with
    | 0 => bif ai_isI a && Nat.blt i nL then some [(pc, ce, sl, T, M, ai_s1 l i a, st)] else none
    | 1 => bif ai_isL a && Nat.blt (i + 1) nL then some [(pc, ce, sl, T, M, ai_s2 l i a, st)] else none
    | _ => bif Nat.beq a.1 4 && Nat.blt i nL then some [(pc, ce, sl, T, M, ai_s1 l i a, st)] else none)
  | [] => none
/-- no two cells and a number between them on top (the machine reads such a stack otherwise) -/
def ai_nc (st : List ai_V) : Bool := match st with
  | (4, _) :: _ :: (4, _) :: _ => false
  | _ => true
/-- one step; 'scr': the script is at hand, its length symbol 0, its items symbols 1 .. 6 -/
def ai_step (own nL : Nat) (ini scr : Bool) (mc ms : Nat) (ins : Instr) (len r1 r2 : Nat) (pc ce sl : Nat) (T : ai_T) (M : ai_M) (l : ai_L) (st : List ai_V) : ai_R := match ins with
  | .iconst n => bif Nat.beq len 1 then ai_pu (pc + 1) ce sl T M l (0, (Int32.ofInt n).toInt) st else none
  | .bipush n => bif Nat.beq len 2 then ai_pu (pc + 2) ce sl T M l (0, (Int8.ofInt n).toInt32.toInt) st else none
  | .sipush n => bif Nat.beq len 3 then ai_pu (pc + 3) ce sl T M l (0, (Int16.ofInt n).toInt32.toInt) st else none
  | .lconst n => bif Nat.beq len 1 then ai_pu (pc + 1) ce sl T M l (2, (Int64.ofNat (n : Nat)).toInt) st else none
  | .aconst_null => bif Nat.beq len 1 then ai_pu (pc + 1) ce sl T M l (6, 0) st else none
  | .iload_n k => bif Nat.beq len 1 then ai_ld (pc + 1) ce sl T M l st 0 k else none
  | .iload k => bif Nat.beq len 2 then ai_ld (pc + 2) ce sl T M l st 0 k else none
  | .lload_n k => bif Nat.beq len 1 then ai_ld (pc + 1) ce sl T M l st 1 k else none
  | .lload k => bif Nat.beq len 2 then ai_ld (pc + 2) ce sl T M l st 1 k else none
  | .aload_n k => bif Nat.beq len 1 then ai_ld (pc + 1) ce sl T M l st 2 k else none
  | .aload k => bif Nat.beq len 2 then ai_ld (pc + 2) ce sl T M l st 2 k else none
  | .istore_n k => bif Nat.beq len 1 then ai_sto (pc + 1) ce sl T M l st nL 0 k else none
  | .istore k => bif Nat.beq len 2 then ai_sto (pc + 2) ce sl T M l st nL 0 k else none
  | .lstore_n k => bif Nat.beq len 1 then ai_sto (pc + 1) ce sl T M l st nL 1 k else none
  | .lstore k => bif Nat.beq len 2 then ai_sto (pc + 2) ce sl T M l st nL 1 k else none
  | .astore_n k => bif Nat.beq len 1 then ai_sto (pc + 1) ce sl T M l st nL 2 k else none
  | .astore k => bif Nat.beq len 2 then ai_sto (pc + 2) ce sl T M l st nL 2 k else none
  | .iinc i n => bif Nat.beq len 3 && Nat.blt i nL then (match ai_lk l i with
    | some a => (match ai_bin 0 T a (0, (Int32.ofInt n).toInt) with
      | some (T', v) => some [(pc + 3, ce, sl, T', M, ai_s1 l i v, st)]
      | none => none)
    | none => none) else none
  | .iadd => bif Nat.beq len 1 then ai_two 0 pc ce sl T M l st else none
  | .isub => bif Nat.beq len 1 then ai_two 1 pc ce sl T M l st else none
  | .imul => bif Nat.beq len 1 then ai_two 2 pc ce sl T M l st else none
  | .iand => bif Nat.beq len 1 then ai_two 3 pc ce sl T M l st else none
  | .idiv => bif Nat.beq len 1 then ai_two 4 pc ce sl T M l st else none
  | .irem => bif Nat.beq len 1 then ai_two 5 pc ce sl T M l st else none
  | .ior => bif Nat.beq len 1 then ai_two 6 pc ce sl T M l st else none
  | .ishl => bif Nat.beq len 1 then ai_two 7 pc ce sl T M l st else none
  | .ishr => bif Nat.beq len 1 then ai_two 8 pc ce sl T M l st else none
  | .iushr => bif Nat.beq len 1 then ai_two 9 pc ce sl T M l st else none
  | .ineg => bif Nat.beq len 1 then ai_uo 0 pc ce sl T M l st else none
  | .i2b => bif Nat.beq len 1 then ai_uo 1 pc ce sl T M l st else none
  | .i2s => bif Nat.beq len 1 then ai_uo 2 pc ce sl T M l st else none
  | .i2c => bif Nat.beq len 1 then ai_uo 3 pc ce sl T M l st else none
  | .ladd => bif Nat.beq len 1 then ai_lb 0 pc ce sl T M l st else none
  | .lsub => bif Nat.beq len 1 then ai_lb 1 pc ce sl T M l st else none
  | .lmul => bif Nat.beq len 1 then ai_lb 2 pc ce sl T M l st else none
  | .ldiv => bif Nat.beq len 1 then ai_lb 3 pc ce sl T M l st else none
  | .lrem => bif Nat.beq len 1 then ai_lb 4 pc ce sl T M l st else none
  | .lcmp => bif Nat.beq len 1 then (match st with
    | b :: a :: st => (match ai_ll T a, ai_ll T b with
      | some p, some q => some ((ai_lt T a b p q).flatMap (fun r => bif r.1 then [(pc + 1, ce, sl, r.2, M, l, (0, -1) :: st)] else
          (ai_eq r.2 a b (if p.1 < q.1 then q.1 else p.1, p.2) (q.1, if p.2 < q.2 then p.2 else q.2)).map (fun r2 => (pc + 1, ce, sl, r2.2, M, l, (0, bif r2.1 then 0 else 1) :: st))))
      | _, _ => none)
    | _ => none) else none
  | .i2l => bif Nat.beq len 1 then (match st with
    | a :: st => (match ai_ii T a with
      | some _ => some [(pc + 1, ce, sl, T, M, l, (a.1 + 2, a.2) :: st)]
      | none => none)
    | _ => none) else none
  | .l2i => bif Nat.beq len 1 then (match st with
    | a :: st => (match ai_ll T a with
      | some p => bif ai_in32 p then some [(pc + 1, ce, sl, T, M, l, (a.1 - 2, a.2) :: st)] else none
      | none => none)
    | _ => none) else none
  | .dup => bif Nat.beq len 1 then (match st with
    | a :: st => bif ai_isL a then none else some [(pc + 1, ce, sl, T, M, l, a :: a :: st)]
    | _ => none) else none
  | .dup2 => bif Nat.beq len 1 then (match st with
    | a :: b :: st => bif ai_isL a || ai_isL b then none else some [(pc + 1, ce, sl, T, M, l, a :: b :: a :: b :: st)]
    | _ => none) else none
  | .pop => bif Nat.beq len 1 then (match st with
    | a :: st => bif ai_isL a then none else some [(pc + 1, ce, sl, T, M, l, st)]
    | _ => none) else none
  | .pop2 => bif Nat.beq len 1 then (match st with
    | a :: st => bif ai_isL a then some [(pc + 1, ce, sl, T, M, l, st)] else none
    | _ => none) else none
  | .goto off => bif Nat.beq len 3 then (match ai_jp pc off with
    | some t => ai_go t ce sl T M l st
    | none => none) else none
  | .ifCond c off => bif Nat.beq len 3 then (match st with
    | a :: st => (match ai_ii T a with
      | some p => ai_br pc off ce sl M l st (ai_cmp (ai_ck c) T a (0, 0) p (0, 0))
      | none => none)
    | _ => none) else none
  | .if_icmp c off => bif Nat.beq len 3 then (match st with
    | b :: a :: st => (match ai_ii T a, ai_ii T b with
      | some p, some q => ai_br pc off ce sl M l st (ai_cmp (ai_ck c) T a b p q)
      | _, _ => none)
    | _ => none) else none
  | .tableswitch dflt lo hi offs => (match st with
    | a :: st => (match ai_ii T a, ai_jp pc dflt with
      | some p, some td =>
          bif (ai_each (lo, hi)).all (fun z => match offs[(z - lo).toNat]? with
            | some off => (ai_jp pc off).isSome
            | none => false) then
            some ((if p.1 < lo then [(td, ce, sl, ai_set T a (p.1, if p.2 < lo then p.2 else lo - 1), M, l, st)] else []) ++ ((if hi < p.2 then [(td, ce, sl, ai_set T a (if p.1 ≤ hi then hi + 1 else p.1, p.2), M, l, st)] else []) ++ (ai_each (if p.1 < lo then lo else p.1, if p.2 < hi then p.2 else hi)).map (fun z => (((pc : Int) + offs.getD (z - lo).toNat 0).toNat, ce, sl, ai_set T a (z, z), M, l, st)))) else none
      | _, _ => none)
    | _ => none)
  | .lookupswitch dflt ps => bif (ps.toList.zip (ps.toList.drop 1)).all (fun (a, next) => a.1 < next.1) then (match st with
    | a :: st => (match ai_ii T a with
      | some p => bif decide (p.2 - p.1 ≤ 40) then
          bif (ai_each p).all (fun z => (ai_jp pc (Op.lookupswitch.offset ps.toList dflt z)).isSome) then
            some ((ai_each p).map (fun z => (((pc : Int) + Op.lookupswitch.offset ps.toList dflt z).toNat, ce, sl, ai_set T a (z, z), M, l, st))) else none
        else none
      | none => none)
    | _ => none) else none
  | .getfield _ => bif Nat.beq len 3 then (match st with
    | (4, q) :: st => (match M[q.toNat]? with
      | some (0, ci, items) => bif Nat.beq ci r1 && Nat.blt r1 7 then (match items[r2]? with
        | some a => ai_pu (pc + 3) ce sl T M l a st
        | none => none) else none
      | _ => none)
    | (5, k) :: st => bif Nat.beq r1 100 && (Nat.ble 10 k.toNat && Nat.blt k.toNat 23) then ai_pu (pc + 3) ce sl T M l (bif Nat.beq r2 0 then (0, 0) else (5, k + 20)) st else none
    | _ => none) else none
  | .putfield _ => bif Nat.beq len 3 then (match st with
    | a :: (4, q) :: st => (match M[q.toNat]? with
      | some (0, ci, items) => bif (Nat.beq ci r1 && Nat.blt r1 7) && (Nat.blt r2 items.length && (ai_fit (mj_fty r1 r2) T a && (!(mj_fin r1 r2) || (ini && Nat.beq (mj_cow r1) own)))) then some [(pc + 3, ce, sl, T, M.set q.toNat (0, ci, items.set r2 a), l, st)] else none
      | _ => none)
    | _ => none) else none
  | .getstatic _ => bif Nat.beq len 3 && Nat.ble r2 1 then (match r1 with
    | 0 => ai_pu (pc + 3) ce sl T M l (5, 1) st
    | 1 => ai_pu (pc + 3) ce sl T M l (5, 2) st
    | 2 => ai_pu (pc + 3) ce sl T M l (0, 1) st
    | 3 => ai_pu (pc + 3) ce sl T M l (5, 3) st
    | _ => none) else none
  | .ldc _ => bif Nat.beq len 2 && Nat.blt r1 999 then (match mj_cv r1 with
    | .int v => bif Nat.beq r2 2 then none else ai_pu (pc + 2) ce sl T M l (0, v.toInt) st
    | .retAddr k => bif Nat.beq r2 2 then ai_pu (pc + 2) ce sl T M l (5, (k : Int)) st else none
    | _ => none) else none
  | .ldc_w _ => bif Nat.beq len 3 && Nat.blt r1 999 then (match mj_cv r1 with
    | .int v => ai_pu (pc + 3) ce sl T M l (0, v.toInt) st
    | _ => none) else none
  | .ldc2_w _ => bif Nat.beq len 3 && Nat.blt r1 999 then (match mj_cv r1 with
    | .long v => ai_pu (pc + 3) ce sl T M l (2, v.toInt) st
    | _ => none) else none
  | .iaload => bif Nat.beq len 1 then (match st with
    | i :: (4, q) :: st => (match M[q.toNat]? with
      | some e => ai_rd 0 pc ce sl T M l i e st
      | none => none)
    | i :: (5, k) :: st => (match k.toNat with
      | 0 => (match ai_ii T i, ai_ii T (1, 0) with
        | some p, some n => bif scr && (ai_one p && (decide (0 ≤ p.1) && (decide (p.1 < 6) && decide (p.1 < n.1)))) then ai_pu (pc + 1) ce sl T M l (1, 1 + p.1) st else none
        | _, _ => none)
      | 1 => ai_rx pc ce sl T M l i 10 mj_w1 st
      | 2 => ai_rx pc ce sl T M l i 10 mj_w2 st
      | _ => none)
    | _ => none) else none
  | .baload => bif Nat.beq len 1 then (match st with
    | i :: (4, q) :: st => (match M[q.toNat]? with
      | some e => ai_rd 1 pc ce sl T M l i e st
      | none => none)
    | i :: (5, k) :: st => bif Nat.ble 30 k.toNat && Nat.blt k.toNat 43 then ai_rx pc ce sl T M l i (mj_stb.getD (k.toNat - 30) []).length (fun j => (mj_stb.getD (k.toNat - 30) []).getD j 0) st else none
    | _ => none) else none
  | .aaload => bif Nat.beq len 1 then (match st with
    | i :: (4, q) :: st => (match ai_ii T i, M[q.toNat]? with
      | some p, some (2, 2, items) => bif ai_inb p items.length && (items.all (fun a => Nat.beq a.1 4)) then
          some ((ai_each p).map (fun z => (pc + 1, ce, sl, ai_set T i (z, z), M, l, items.getD z.toNat (6, 0) :: st))) else none
      | _, _ => none)
    | _ => none) else none
  | .arraylength => bif Nat.beq len 1 then (match st with
    | (4, q) :: st => (match M[q.toNat]? with
      | some (1, t, items) => bif Nat.blt t 2 then ai_pu (pc + 1) ce sl T M l (0, (Int32.ofNat items.length).toInt) st else none
      | some (2, 2, items) => ai_pu (pc + 1) ce sl T M l (0, (Int32.ofNat items.length).toInt) st
      | some (3, t, [(7, n), _, _]) => bif Nat.blt t 2 then ai_pu (pc + 1) ce sl T M l (0, (Int32.ofNat n.toNat).toInt) st else none
      | _ => none)
    | (5, k) :: st => (match k.toNat with
      | 0 => bif scr then ai_pu (pc + 1) ce sl T M l (1, 0) st else none
      | 1 => ai_pu (pc + 1) ce sl T M l (0, 10) st
      | 2 => ai_pu (pc + 1) ce sl T M l (0, 10) st
      | _ => bif Nat.ble 30 k.toNat && Nat.blt k.toNat 43 then ai_pu (pc + 1) ce sl T M l (0, (Int32.ofNat (mj_stb.getD (k.toNat - 30) []).length).toInt) st else none)
    | _ => none) else none
  | .iastore => bif Nat.beq len 1 then (match st with
    | x :: i :: (4, q) :: st => (match M[q.toNat]? with
      | some e => ai_wr 0 pc ce sl T M l q.toNat i x e st
      | none => none)
    | _ => none) else none
  | .bastore => bif Nat.beq len 1 then (match st with
    | x :: i :: (4, q) :: st => (match M[q.toNat]? with
      | some e => ai_wr 1 pc ce sl T M l q.toNat i x e st
      | none => none)
    | _ => none) else none
  | .newarray t => bif Nat.beq len 2 then (match t, st with
    | .int, (0, n) :: st => bif (decide (0 ≤ n) && decide (n ≤ 2000)) && (Nat.blt ce mc && Nat.ble (sl + n.toNat) ms) then some [(pc + 2, ce + 1, sl + n.toNat, T, M ++ [(1, 0, List.replicate n.toNat (0, 0))], l, (4, (M.length : Int)) :: st)] else none
    | .boolean, (0, n) :: st => bif (decide (0 ≤ n) && decide (n ≤ 2000)) && (Nat.blt ce mc && Nat.ble (sl + n.toNat) ms) then some [(pc + 2, ce + 1, sl + n.toNat, T, M ++ [(1, 1, List.replicate n.toNat (0, 0))], l, (4, (M.length : Int)) :: st)] else none
    | _, _ => none) else none
  | .multianewarray _ 2 => bif Nat.beq len 4 && Nat.blt r1 999 then (match st with
    | (0, k) :: (0, n) :: st => bif ((decide (0 ≤ n) && decide (n ≤ 2000)) && (decide (0 ≤ k) && decide (k ≤ 2000))) && (Nat.ble (ce + (1 + n.toNat)) mc && Nat.ble (sl + (n.toNat + n.toNat * k.toNat)) ms) then
        some [(pc + 4, ce + (1 + n.toNat), sl + (n.toNat + n.toNat * k.toNat), T, M ++ (2, 2, (List.range n.toNat).map (fun j => (4, ((M.length + 1 + j : Nat) : Int)))) :: List.replicate n.toNat (1, 0, List.replicate k.toNat (0, 0)), l, (4, (M.length : Int)) :: st)] else none
    | _ => none) else none
  | .new _ => bif Nat.beq len 3 && Nat.blt r1 7 then
      bif Nat.blt ce mc && Nat.ble (sl + (ai_dv r1).length) ms then some [(pc + 3, ce + 1, sl + (ai_dv r1).length, T, M ++ [(0, r1, ai_dv r1)], l, (4, (M.length : Int)) :: st)] else none
    else none
  | .invokespecial _ => bif Nat.beq len 3 && Nat.beq r1 1000 then (match st with
    | (4, _) :: st => bif Nat.ble (ai_cs st) 8 then ai_go (pc + 3) ce sl T M l st else none
    | _ => none) else none
  | .invokestatic _ => bif Nat.beq len 3 then (bif Nat.beq r1 1001 then (match st with
      | n :: dp :: (4, q1) :: sp :: (4, q0) :: st => (match ai_ii T n, ai_ii T dp, ai_ii T sp, M[q0.toNat]?, M[q1.toNat]? with
        | some n, some dp, some sp, some (1, 0, f), some (1, 0, g) => bif ((ai_one n && (ai_one dp && ai_one sp)) && (decide (0 ≤ n.1) && (decide (0 ≤ dp.1) && decide (0 ≤ sp.1)))) && (Nat.ble (ai_cs st) 8 && (Nat.ble (sp.1.toNat + n.1.toNat) f.length && Nat.ble (dp.1.toNat + n.1.toNat) g.length)) then
            ai_go (pc + 3) ce sl T (M.set q1.toNat (1, 0, g.take dp.1.toNat ++ ((f.drop sp.1.toNat).take n.1.toNat ++ g.drop (dp.1.toNat + n.1.toNat)))) l st else none
        | _, _, _, _, _ => none)
      | _ => none)
    else bif Nat.beq r1 1002 then (match st with
      | b :: a :: st => (match ai_ii T a, ai_ii T b with
        | some p, some q => bif Nat.ble (ai_cs st) 8 && ai_nc st then some ((ai_lt T a b p q).map (fun r => (pc + 3, ce, sl, r.2, M, l, (bif r.1 then b else a) :: st))) else none
        | _, _ => none)
      | _ => none)
    else bif Nat.beq r1 1003 then (match st with
      | b :: a :: st => (match ai_ii T a, ai_ii T b with
        | some p, some q => bif Nat.ble (ai_cs st) 8 && ai_nc st then some ((ai_lt T b a q p).map (fun r => (pc + 3, ce, sl, r.2, M, l, (bif r.1 then b else a) :: st))) else none
        | _, _ => none)
      | _ => none)
    else none) else none
  | _ => none
end
