/-! THE ENGINE, FASTER FOR THE KERNEL -/
noncomputable section
def ai_at (α : Type) (l : List α) : Nat → Option α := List.rec (motive := fun _ => Nat → Option α) (fun _ => none) (fun a _ ih n => Nat.rec (motive := fun _ => Option α) (some a) (fun m _ => ih m) n) l
theorem ai_at_eq {α : Type} : ∀ (l : List α) (n : Nat), ai_at α l n = l[n]?
  | [], n => by
    show none = _
    simp
  | a :: l, 0 => rfl
  | a :: l, n + 1 => by
    show ai_at α l n = _
    rw [ai_at_eq l n, List.getElem?_cons_succ]
def ai_put (α : Type) (l : List α) : Nat → α → List α := List.rec (motive := fun _ => Nat → α → List α) (fun _ _ => []) (fun a l ih n x => Nat.rec (motive := fun _ => List α) (x :: l) (fun m _ => a :: ih m x) n) l
theorem ai_put_eq {α : Type} : ∀ (l : List α) (n : Nat) (x : α), ai_put α l n x = l.set n x
  | [], n, x => rfl
  | a :: l, 0, x => rfl
  | a :: l, n + 1, x => by
    show a :: ai_put α l n x = _
    rw [ai_put_eq l n x, List.set_cons_succ]
abbrev ai_gT : Type 1 := (α : Type) → List α → Nat → Option α
abbrev ai_pT : Type 1 := (α : Type) → List α → Nat → α → List α
def ai_in32f (q : Int × Int) : Bool := match q with
  | (a, b) => (match a with
    | .ofNat _ => true
    | .negSucc n => Nat.ble n 2147483647) && (match b with
    | .ofNat n => Nat.ble n 2147483647
    | .negSucc _ => true)
theorem ai_it_fn : ai_in32f = ai_in32 := by
  funext q
  obtain ⟨a, b⟩ := q
  apply Bool.eq_iff_iff.mpr
  unfold ai_in32f ai_in32 ai_lo32 ai_hi32
  cases a <;> cases b <;> simp only [Bool.and_eq_true, decide_eq_true_eq, Nat.ble_eq, true_and, and_true, Int.negSucc_eq, Int.ofNat_eq_natCast, eq_self, true_iff] <;> omega
def ai_fit32 (r : Int) (slow : Int) : Int := bif ai_in32f (r, r) then r else slow
def ai_arf (k : Nat) (a b : Int) : Int := match k with
  | 0 => ai_fit32 (a + b) (ai_f 0 (Int32.ofInt a) (Int32.ofInt b)).toInt
  | 1 => ai_fit32 (a - b) (ai_f 1 (Int32.ofInt a) (Int32.ofInt b)).toInt
  | 2 => ai_fit32 (a * b) (ai_f 2 (Int32.ofInt a) (Int32.ofInt b)).toInt
  | k + 3 => (ai_f (k + 3) (Int32.ofInt a) (Int32.ofInt b)).toInt
theorem ai_fit32_ok {r slow : Int} (h : slow = (Int32.ofInt r).toInt) : ai_fit32 r slow = slow := by
  unfold ai_fit32
  cases hb : ai_in32f (r, r) with
  | false => rfl
  | true =>
    rw [ai_it_fn] at hb
    unfold ai_in32 ai_lo32 ai_hi32 at hb
    simp only [Bool.and_eq_true, decide_eq_true_eq] at hb
    rw [h, Int32.toInt_ofInt]
    exact (Int.bmod_eq_of_le (by show -((2 ^ 32 : Nat) : Int) / 2 ≤ r; omega) (by show r < (((2 ^ 32 : Nat) : Int) + 1) / 2; omega)).symm
theorem ai_ar_fn : ai_arf = (fun (k : Nat) (a b : Int) => (ai_f k (Int32.ofInt a) (Int32.ofInt b)).toInt) := by
  funext k a b
  match k with
  | 0 => exact ai_fit32_ok (by show (Int32.ofInt a + Int32.ofInt b).toInt = _; rw [← Int32.ofInt_add])
  | 1 => exact ai_fit32_ok (by show (Int32.ofInt a - Int32.ofInt b).toInt = _; rw [← Int32.ofInt_sub])
  | 2 => exact ai_fit32_ok (by show (Int32.ofInt a * Int32.ofInt b).toInt = _; rw [← Int32.ofInt_mul])
  | k + 3 => rfl
abbrev ai_uT : Type 1 := (α : Type) → List α → α → List α
abbrev ai_nT : Type 1 := (α : Type) → List α → Nat
def ai_apl (α : Type) (l m : List α) : List α := List.rec (motive := fun _ => List α) m (fun a _ ih => a :: ih) l
theorem ai_apl_eq {α : Type} : ∀ (l m : List α), ai_apl α l m = l ++ m
  | [], _ => rfl
  | a :: l, m => by
    show a :: ai_apl α l m = _
    rw [ai_apl_eq l m, List.cons_append]
def ai_psh (α : Type) (l : List α) (x : α) : List α := List.rec (motive := fun _ => List α) [x] (fun a _ ih => a :: ih) l
theorem ai_psh_eq {α : Type} : ∀ (l : List α) (x : α), ai_psh α l x = l ++ [x]
  | [], _ => rfl
  | a :: l, x => by
    show a :: ai_psh α l x = _
    rw [ai_psh_eq l x, List.cons_append]
def ai_ln (α : Type) (l : List α) : Nat := List.rec (motive := fun _ => Nat) 0 (fun _ _ ih => Nat.succ ih) l
theorem ai_ln_eq {α : Type} : ∀ (l : List α), ai_ln α l = l.length
  | [] => rfl
  | a :: l => by
    show Nat.succ (ai_ln α l) = _
    rw [ai_ln_eq l, List.length_cons]
theorem ai_psh_fn : ai_psh = (fun (α : Type) (l : List α) (x : α) => l ++ [x]) := by
  funext α l x
  exact ai_psh_eq l x
theorem ai_ln_fn : ai_ln = (fun (α : Type) (l : List α) => l.length) := by
  funext α l
  exact ai_ln_eq l
abbrev ai_iT : Type := Int × Int → Bool
abbrev ai_rT : Type := Nat → Int → Int → Int
theorem ai_at_fn : ai_at = (fun (α : Type) (l : List α) (n : Nat) => l[n]?) := by
  funext α l n
  exact ai_at_eq l n
theorem ai_put_fn : ai_put = (fun (α : Type) (l : List α) (n : Nat) (x : α) => l.set n x) := by
  funext α l n x
  exact ai_put_eq l n x
def ai_ivg (gt : ai_gT) (pt : ai_pT) (it : ai_iT) (ar : ai_rT) (pu : ai_uT) (ln : ai_nT) (T : ai_T) (a : ai_V) : Option (Int × Int) := match a.1 with
  | 0 => some (a.2, a.2)
  | 1 => (gt _ T (a.2.toNat))
  | 2 => some (a.2, a.2)
  | 3 => (gt _ T (a.2.toNat))
  | _ => none
def ai_iig (gt : ai_gT) (pt : ai_pT) (it : ai_iT) (ar : ai_rT) (pu : ai_uT) (ln : ai_nT) (T : ai_T) (a : ai_V) : Option (Int × Int) := bif ai_isI a then (match ai_ivg gt pt it ar pu ln T a with
  | some q => bif it q then some q else none
  | none => none) else none
def ai_llg (gt : ai_gT) (pt : ai_pT) (it : ai_iT) (ar : ai_rT) (pu : ai_uT) (ln : ai_nT) (T : ai_T) (a : ai_V) : Option (Int × Int) := bif ai_isL a then (match ai_ivg gt pt it ar pu ln T a with
  | some q => bif ai_in64 q then some q else none
  | none => none) else none
def ai_setg (gt : ai_gT) (pt : ai_pT) (it : ai_iT) (ar : ai_rT) (pu : ai_uT) (ln : ai_nT) (T : ai_T) (a : ai_V) (q : Int × Int) : ai_T := bif Nat.beq a.1 1 || Nat.beq a.1 3 then (pt _ T a.2.toNat q) else T
def ai_ltb (a b : Int) : Bool := match a, b with
  | .ofNat m, .ofNat n => Nat.blt m n
  | .ofNat _, .negSucc _ => false
  | .negSucc _, .ofNat _ => true
  | .negSucc m, .negSucc n => Nat.blt n m
theorem ai_ltb_eq (a b : Int) : ai_ltb a b = decide (a < b) := by
  apply Bool.eq_iff_iff.mpr
  unfold ai_ltb
  cases a <;> cases b <;> simp only [decide_eq_true_eq, Nat.blt_eq, Int.negSucc_eq, Int.ofNat_eq_natCast, Bool.false_eq_true, false_iff, true_iff, eq_self] <;> omega
def ai_ltg (gt : ai_gT) (pt : ai_pT) (it : ai_iT) (ar : ai_rT) (pu : ai_uT) (ln : ai_nT) (T : ai_T) (a b : ai_V) (p q : Int × Int) : List (Bool × ai_T) :=
  (bif ai_ltb p.1 q.2 then [(true, ai_setg gt pt it ar pu ln (ai_setg gt pt it ar pu ln T a (p.1, bif ai_ltb p.2 q.2 then p.2 else q.2 - 1)) b (bif ai_ltb p.1 q.1 then q.1 else p.1 + 1, q.2))] else []) ++
  (bif ai_ltb p.2 q.1 then [] else [(false, ai_setg gt pt it ar pu ln (ai_setg gt pt it ar pu ln T a (bif ai_ltb p.1 q.1 then q.1 else p.1, p.2)) b (q.1, bif ai_ltb p.2 q.2 then p.2 else q.2))])
def ai_eqb (a b : Int) : Bool := match a, b with
  | .ofNat m, .ofNat n => Nat.beq m n
  | .negSucc m, .negSucc n => Nat.beq m n
  | _, _ => false
theorem ai_eqb_eq (a b : Int) : ai_eqb a b = decide (a = b) := by
  apply Bool.eq_iff_iff.mpr
  unfold ai_eqb
  cases a <;> cases b <;> simp only [decide_eq_true_eq, Nat.beq_eq, Int.negSucc_eq, Int.ofNat_eq_natCast, Bool.false_eq_true, false_iff, true_iff, eq_self] <;> omega
def ai_eqg (gt : ai_gT) (pt : ai_pT) (it : ai_iT) (ar : ai_rT) (pu : ai_uT) (ln : ai_nT) (T : ai_T) (a b : ai_V) (p q : Int × Int) : List (Bool × ai_T) :=
  (bif ai_ltb q.2 p.1 || ai_ltb p.2 q.1 then [] else [(true, ai_setg gt pt it ar pu ln (ai_setg gt pt it ar pu ln T a (bif ai_ltb p.1 q.1 then q.1 else p.1, bif ai_ltb p.2 q.2 then p.2 else q.2)) b (bif ai_ltb p.1 q.1 then q.1 else p.1, bif ai_ltb p.2 q.2 then p.2 else q.2))]) ++
  (bif ai_eqb q.1 q.2 then (bif ai_ltb p.1 q.1 && ai_ltb q.1 p.2 then [(false, ai_setg gt pt it ar pu ln T a (p.1, q.1 - 1)), (false, ai_setg gt pt it ar pu ln T a (q.1 + 1, p.2))] else
    bif ai_eqb p.1 q.1 then (bif ai_eqb p.1 p.2 then [] else [(false, ai_setg gt pt it ar pu ln T a (p.1 + 1, p.2))]) else bif ai_eqb p.2 q.1 then [(false, ai_setg gt pt it ar pu ln T a (p.1, p.2 - 1))] else [(false, T)]) else [(false, T)])
def ai_cmpg (gt : ai_gT) (pt : ai_pT) (it : ai_iT) (ar : ai_rT) (pu : ai_uT) (ln : ai_nT) (k : Nat) (T : ai_T) (a b : ai_V) (p q : Int × Int) : List (Bool × ai_T) := match k with
  | 0 => ai_eqg gt pt it ar pu ln T a b p q
  | 1 => ai_not (ai_eqg gt pt it ar pu ln T a b p q)
  | 2 => ai_ltg gt pt it ar pu ln T a b p q
  | 3 => ai_not (ai_ltg gt pt it ar pu ln T a b p q)
  | 4 => ai_ltg gt pt it ar pu ln T b a q p
  | _ => ai_not (ai_ltg gt pt it ar pu ln T b a q p)
def ai_topg (gt : ai_gT) (pt : ai_pT) (it : ai_iT) (ar : ai_rT) (pu : ai_uT) (ln : ai_nT) (q : Int × Int) : Int × Int := bif it q then q else (ai_lo32, ai_hi32)
def ai_bing (gt : ai_gT) (pt : ai_pT) (it : ai_iT) (ar : ai_rT) (pu : ai_uT) (ln : ai_nT) (k : Nat) (T : ai_T) (a b : ai_V) : Option (ai_T × ai_V) := match ai_iig gt pt it ar pu ln T a, ai_iig gt pt it ar pu ln T b with
  | some p, some q => bif (Nat.beq k 4 || Nat.beq k 5) && (decide (q.1 ≤ 0) && decide (0 ≤ q.2)) then none else
    bif ai_one p && ai_one q then some (T, (0, (ar k p.1 q.1))) else some (pu _ T (ai_topg gt pt it ar pu ln (ai_op k p q)), (1, ln _ T))
  | _, _ => none
def ai_twog (gt : ai_gT) (pt : ai_pT) (it : ai_iT) (ar : ai_rT) (pu : ai_uT) (ln : ai_nT) (k : Nat) (pc ce sl : Nat) (T : ai_T) (M : ai_M) (l : ai_L) (st : List ai_V) : ai_R := match st with
  | b :: a :: st => (match ai_bing gt pt it ar pu ln k T a b with
    | some (T', v) => some [(pc + 1, ce, sl, T', M, l, v :: st)]
    | none => none)
  | _ => none
def ai_lbg (gt : ai_gT) (pt : ai_pT) (it : ai_iT) (ar : ai_rT) (pu : ai_uT) (ln : ai_nT) (k : Nat) (pc ce sl : Nat) (T : ai_T) (M : ai_M) (l : ai_L) (st : List ai_V) : ai_R := match st with
  | b :: a :: st => (match ai_llg gt pt it ar pu ln T a, ai_llg gt pt it ar pu ln T b with
    | some p, some q => bif Nat.ble 3 k && (decide (q.1 ≤ 0) && decide (0 ≤ q.2)) then none else
      bif ai_one p && ai_one q then some [(pc + 1, ce, sl, T, M, l, (2, (ai_lf k (Int64.ofInt p.1) (Int64.ofInt q.1)).toInt) :: st)] else (match ai_lop k p q with
      | some r => bif ai_in64 r then some [(pc + 1, ce, sl, pu _ T (r), M, l, (3, ln _ T) :: st)] else none
      | none => none)
    | _, _ => none)
  | _ => none
def ai_ubg (gt : ai_gT) (pt : ai_pT) (it : ai_iT) (ar : ai_rT) (pu : ai_uT) (ln : ai_nT) (k : Nat) (p : Int × Int) : Int × Int := match k with
  | 0 => ai_topg gt pt it ar pu ln (-p.2, -p.1)
  | 1 => (-128, 127)
  | 2 => (-32768, 32767)
  | _ => (0, 65535)
def ai_uog (gt : ai_gT) (pt : ai_pT) (it : ai_iT) (ar : ai_rT) (pu : ai_uT) (ln : ai_nT) (k : Nat) (pc ce sl : Nat) (T : ai_T) (M : ai_M) (l : ai_L) (st : List ai_V) : ai_R := match st with
  | a :: st => (match ai_iig gt pt it ar pu ln T a with
    | some p => bif ai_one p then some [(pc + 1, ce, sl, T, M, l, (0, (ai_un k (Int32.ofInt p.1)).toInt) :: st)] else some [(pc + 1, ce, sl, pu _ T (ai_ubg gt pt it ar pu ln k p), M, l, (1, ln _ T) :: st)]
    | none => none)
  | _ => none
def ai_hullg (gt : ai_gT) (pt : ai_pT) (it : ai_iT) (ar : ai_rT) (pu : ai_uT) (ln : ai_nT) (T : ai_T) : List ai_V → Option (Int × Int)
  | [] => none
  | [a] => ai_iig gt pt it ar pu ln T a
  | a :: l => match ai_iig gt pt it ar pu ln T a, ai_hullg gt pt it ar pu ln T l with
    | some p, some q => some (if p.1 < q.1 then p.1 else q.1, if p.2 < q.2 then q.2 else p.2)
    | _, _ => none
def ai_rdg (gt : ai_gT) (pt : ai_pT) (it : ai_iT) (ar : ai_rT) (pu : ai_uT) (ln : ai_nT) (tag : Nat) (pc ce sl : Nat) (T : ai_T) (M : ai_M) (l : ai_L) (i : ai_V) (e : ai_E) (st : List ai_V) : ai_R := match ai_iig gt pt it ar pu ln T i with
  | some p => (match e with
    | (1, t, items) => bif Nat.beq t tag && ai_inb p items.length then (bif ai_one p then (match (gt _ items (p.1.toNat)) with
        | some a => bif ai_isI a then some [(pc + 1, ce, sl, T, M, l, a :: st)] else none
        | none => none) else (match ai_hullg gt pt it ar pu ln T items with
        | some q => some [(pc + 1, ce, sl, pu _ T (q), M, l, (1, ln _ T) :: st)]
        | none => none)) else none
    | (3, t, [(7, n), (7, lo), (7, hi)]) => bif Nat.beq t tag && (ai_inb p n.toNat && it (lo, hi)) then some [(pc + 1, ce, sl, pu _ T ((lo, hi)), M, l, (1, ln _ T) :: st)] else none
    | _ => none)
  | none => none
def ai_rxg (gt : ai_gT) (pt : ai_pT) (it : ai_iT) (ar : ai_rT) (pu : ai_uT) (ln : ai_nT) (pc ce sl : Nat) (T : ai_T) (M : ai_M) (l : ai_L) (i : ai_V) (n : Nat) (f : Nat → Int32) (st : List ai_V) : ai_R := match ai_iig gt pt it ar pu ln T i with
  | some p => bif ai_inb p n then (bif ai_one p then some [(pc + 1, ce, sl, T, M, l, (0, (f p.1.toNat).toInt) :: st)] else some [(pc + 1, ce, sl, pu _ T ((ai_lo32, ai_hi32)), M, l, (1, ln _ T) :: st)]) else none
  | none => none
def ai_wrg (gt : ai_gT) (pt : ai_pT) (it : ai_iT) (ar : ai_rT) (pu : ai_uT) (ln : ai_nT) (tag : Nat) (pc ce sl : Nat) (T : ai_T) (M : ai_M) (l : ai_L) (q : Nat) (i x : ai_V) (e : ai_E) (st : List ai_V) : ai_R := match ai_iig gt pt it ar pu ln T i, ai_iig gt pt it ar pu ln T x with
  | some p, some v => (match e with
    | (1, t, items) => bif Nat.beq t tag && (ai_inb p items.length && (Nat.beq tag 0 || (decide (0 ≤ v.1) && decide (v.2 ≤ 1)))) then some ((ai_each p).map (fun z => (pc + 1, ce, sl, ai_setg gt pt it ar pu ln T i (z, z), (pt _ M q (1, t, (pt _ items z.toNat x))), l, st))) else none
    | (3, t, [(7, n), (7, lo), (7, hi)]) => bif Nat.beq t tag && (ai_inb p n.toNat && (Nat.beq tag 0 && (decide (lo ≤ v.1) && decide (v.2 ≤ hi)))) then some [(pc + 1, ce, sl, T, M, l, st)] else none
    | _ => none)
  | _, _ => none
def ai_fitg (gt : ai_gT) (pt : ai_pT) (it : ai_iT) (ar : ai_rT) (pu : ai_uT) (ln : ai_nT) (ty : FieldType) (T : ai_T) (a : ai_V) : Bool := match ty with
  | .int => (ai_iig gt pt it ar pu ln T a).isSome
  | .boolean => (match ai_iig gt pt it ar pu ln T a with
    | some p => decide (0 ≤ p.1) && decide (p.2 ≤ 1)
    | none => false)
  | .long => (ai_llg gt pt it ar pu ln T a).isSome
  | .object _ => Nat.beq a.1 4
  | .array _ => Nat.beq a.1 4
  | _ => false
def ai_h_iconst (gt : ai_gT) (pt : ai_pT) (it : ai_iT) (ar : ai_rT) (pu : ai_uT) (ln : ai_nT) (n : Int) (own nL : Nat) (ini scr : Bool) (mc ms len r1 r2 pc ce sl : Nat) (T : ai_T) (M : ai_M) (l : ai_L) (st : List ai_V) : ai_R := bif Nat.beq len 1 then ai_pu (pc + 1) ce sl T M l (0, (Int32.ofInt n).toInt) st else none
def ai_h_bipush (gt : ai_gT) (pt : ai_pT) (it : ai_iT) (ar : ai_rT) (pu : ai_uT) (ln : ai_nT) (n : Int) (own nL : Nat) (ini scr : Bool) (mc ms len r1 r2 pc ce sl : Nat) (T : ai_T) (M : ai_M) (l : ai_L) (st : List ai_V) : ai_R := bif Nat.beq len 2 then ai_pu (pc + 2) ce sl T M l (0, (Int8.ofInt n).toInt32.toInt) st else none
def ai_h_sipush (gt : ai_gT) (pt : ai_pT) (it : ai_iT) (ar : ai_rT) (pu : ai_uT) (ln : ai_nT) (n : Int) (own nL : Nat) (ini scr : Bool) (mc ms len r1 r2 pc ce sl : Nat) (T : ai_T) (M : ai_M) (l : ai_L) (st : List ai_V) : ai_R := bif Nat.beq len 3 then ai_pu (pc + 3) ce sl T M l (0, (Int16.ofInt n).toInt32.toInt) st else none
def ai_h_lconst (gt : ai_gT) (pt : ai_pT) (it : ai_iT) (ar : ai_rT) (pu : ai_uT) (ln : ai_nT) (n : Fin 2) (own nL : Nat) (ini scr : Bool) (mc ms len r1 r2 pc ce sl : Nat) (T : ai_T) (M : ai_M) (l : ai_L) (st : List ai_V) : ai_R := bif Nat.beq len 1 then ai_pu (pc + 1) ce sl T M l (2, (Int64.ofNat (n : Nat)).toInt) st else none
def ai_h_aconst_null (gt : ai_gT) (pt : ai_pT) (it : ai_iT) (ar : ai_rT) (pu : ai_uT) (ln : ai_nT) (own nL : Nat) (ini scr : Bool) (mc ms len r1 r2 pc ce sl : Nat) (T : ai_T) (M : ai_M) (l : ai_L) (st : List ai_V) : ai_R := bif Nat.beq len 1 then ai_pu (pc + 1) ce sl T M l (6, 0) st else none
def ai_h_iload_n (gt : ai_gT) (pt : ai_pT) (it : ai_iT) (ar : ai_rT) (pu : ai_uT) (ln : ai_nT) (k : Fin 4) (own nL : Nat) (ini scr : Bool) (mc ms len r1 r2 pc ce sl : Nat) (T : ai_T) (M : ai_M) (l : ai_L) (st : List ai_V) : ai_R := bif Nat.beq len 1 then ai_ld (pc + 1) ce sl T M l st 0 k else none
def ai_h_iload (gt : ai_gT) (pt : ai_pT) (it : ai_iT) (ar : ai_rT) (pu : ai_uT) (ln : ai_nT) (k : Nat) (own nL : Nat) (ini scr : Bool) (mc ms len r1 r2 pc ce sl : Nat) (T : ai_T) (M : ai_M) (l : ai_L) (st : List ai_V) : ai_R := bif Nat.beq len 2 then ai_ld (pc + 2) ce sl T M l st 0 k else none
def ai_h_lload_n (gt : ai_gT) (pt : ai_pT) (it : ai_iT) (ar : ai_rT) (pu : ai_uT) (ln : ai_nT) (k : Fin 4) (own nL : Nat) (ini scr : Bool) (mc ms len r1 r2 pc ce sl : Nat) (T : ai_T) (M : ai_M) (l : ai_L) (st : List ai_V) : ai_R := bif Nat.beq len 1 then ai_ld (pc + 1) ce sl T M l st 1 k else none
def ai_h_lload (gt : ai_gT) (pt : ai_pT) (it : ai_iT) (ar : ai_rT) (pu : ai_uT) (ln : ai_nT) (k : Nat) (own nL : Nat) (ini scr : Bool) (mc ms len r1 r2 pc ce sl : Nat) (T : ai_T) (M : ai_M) (l : ai_L) (st : List ai_V) : ai_R := bif Nat.beq len 2 then ai_ld (pc + 2) ce sl T M l st 1 k else none
def ai_h_aload_n (gt : ai_gT) (pt : ai_pT) (it : ai_iT) (ar : ai_rT) (pu : ai_uT) (ln : ai_nT) (k : Fin 4) (own nL : Nat) (ini scr : Bool) (mc ms len r1 r2 pc ce sl : Nat) (T : ai_T) (M : ai_M) (l : ai_L) (st : List ai_V) : ai_R := bif Nat.beq len 1 then ai_ld (pc + 1) ce sl T M l st 2 k else none
def ai_h_aload (gt : ai_gT) (pt : ai_pT) (it : ai_iT) (ar : ai_rT) (pu : ai_uT) (ln : ai_nT) (k : Nat) (own nL : Nat) (ini scr : Bool) (mc ms len r1 r2 pc ce sl : Nat) (T : ai_T) (M : ai_M) (l : ai_L) (st : List ai_V) : ai_R := bif Nat.beq len 2 then ai_ld (pc + 2) ce sl T M l st 2 k else none
def ai_h_istore_n (gt : ai_gT) (pt : ai_pT) (it : ai_iT) (ar : ai_rT) (pu : ai_uT) (ln : ai_nT) (k : Fin 4) (own nL : Nat) (ini scr : Bool) (mc ms len r1 r2 pc ce sl : Nat) (T : ai_T) (M : ai_M) (l : ai_L) (st : List ai_V) : ai_R := bif Nat.beq len 1 then ai_sto (pc + 1) ce sl T M l st nL 0 k else none
def ai_h_istore (gt : ai_gT) (pt : ai_pT) (it : ai_iT) (ar : ai_rT) (pu : ai_uT) (ln : ai_nT) (k : Nat) (own nL : Nat) (ini scr : Bool) (mc ms len r1 r2 pc ce sl : Nat) (T : ai_T) (M : ai_M) (l : ai_L) (st : List ai_V) : ai_R := bif Nat.beq len 2 then ai_sto (pc + 2) ce sl T M l st nL 0 k else none
def ai_h_lstore_n (gt : ai_gT) (pt : ai_pT) (it : ai_iT) (ar : ai_rT) (pu : ai_uT) (ln : ai_nT) (k : Fin 4) (own nL : Nat) (ini scr : Bool) (mc ms len r1 r2 pc ce sl : Nat) (T : ai_T) (M : ai_M) (l : ai_L) (st : List ai_V) : ai_R := bif Nat.beq len 1 then ai_sto (pc + 1) ce sl T M l st nL 1 k else none
def ai_h_lstore (gt : ai_gT) (pt : ai_pT) (it : ai_iT) (ar : ai_rT) (pu : ai_uT) (ln : ai_nT) (k : Nat) (own nL : Nat) (ini scr : Bool) (mc ms len r1 r2 pc ce sl : Nat) (T : ai_T) (M : ai_M) (l : ai_L) (st : List ai_V) : ai_R := bif Nat.beq len 2 then ai_sto (pc + 2) ce sl T M l st nL 1 k else none
def ai_h_astore_n (gt : ai_gT) (pt : ai_pT) (it : ai_iT) (ar : ai_rT) (pu : ai_uT) (ln : ai_nT) (k : Fin 4) (own nL : Nat) (ini scr : Bool) (mc ms len r1 r2 pc ce sl : Nat) (T : ai_T) (M : ai_M) (l : ai_L) (st : List ai_V) : ai_R := bif Nat.beq len 1 then ai_sto (pc + 1) ce sl T M l st nL 2 k else none
def ai_h_astore (gt : ai_gT) (pt : ai_pT) (it : ai_iT) (ar : ai_rT) (pu : ai_uT) (ln : ai_nT) (k : Nat) (own nL : Nat) (ini scr : Bool) (mc ms len r1 r2 pc ce sl : Nat) (T : ai_T) (M : ai_M) (l : ai_L) (st : List ai_V) : ai_R := bif Nat.beq len 2 then ai_sto (pc + 2) ce sl T M l st nL 2 k else none
def ai_h_iinc (gt : ai_gT) (pt : ai_pT) (it : ai_iT) (ar : ai_rT) (pu : ai_uT) (ln : ai_nT) (i : Nat) (n : Int) (own nL : Nat) (ini scr : Bool) (mc ms len r1 r2 pc ce sl : Nat) (T : ai_T) (M : ai_M) (l : ai_L) (st : List ai_V) : ai_R := bif Nat.beq len 3 && Nat.blt i nL then (match ai_lk l i with
    | some a => (match ai_bing gt pt it ar pu ln 0 T a (0, (Int32.ofInt n).toInt) with
      | some (T', v) => some [(pc + 3, ce, sl, T', M, ai_s1 l i v, st)]
      | none => none)
    | none => none) else none
def ai_h_iadd (gt : ai_gT) (pt : ai_pT) (it : ai_iT) (ar : ai_rT) (pu : ai_uT) (ln : ai_nT) (own nL : Nat) (ini scr : Bool) (mc ms len r1 r2 pc ce sl : Nat) (T : ai_T) (M : ai_M) (l : ai_L) (st : List ai_V) : ai_R := bif Nat.beq len 1 then ai_twog gt pt it ar pu ln 0 pc ce sl T M l st else none
def ai_h_isub (gt : ai_gT) (pt : ai_pT) (it : ai_iT) (ar : ai_rT) (pu : ai_uT) (ln : ai_nT) (own nL : Nat) (ini scr : Bool) (mc ms len r1 r2 pc ce sl : Nat) (T : ai_T) (M : ai_M) (l : ai_L) (st : List ai_V) : ai_R := bif Nat.beq len 1 then ai_twog gt pt it ar pu ln 1 pc ce sl T M l st else none
def ai_h_imul (gt : ai_gT) (pt : ai_pT) (it : ai_iT) (ar : ai_rT) (pu : ai_uT) (ln : ai_nT) (own nL : Nat) (ini scr : Bool) (mc ms len r1 r2 pc ce sl : Nat) (T : ai_T) (M : ai_M) (l : ai_L) (st : List ai_V) : ai_R := bif Nat.beq len 1 then ai_twog gt pt it ar pu ln 2 pc ce sl T M l st else none
def ai_h_iand (gt : ai_gT) (pt : ai_pT) (it : ai_iT) (ar : ai_rT) (pu : ai_uT) (ln : ai_nT) (own nL : Nat) (ini scr : Bool) (mc ms len r1 r2 pc ce sl : Nat) (T : ai_T) (M : ai_M) (l : ai_L) (st : List ai_V) : ai_R := bif Nat.beq len 1 then ai_twog gt pt it ar pu ln 3 pc ce sl T M l st else none
def ai_h_idiv (gt : ai_gT) (pt : ai_pT) (it : ai_iT) (ar : ai_rT) (pu : ai_uT) (ln : ai_nT) (own nL : Nat) (ini scr : Bool) (mc ms len r1 r2 pc ce sl : Nat) (T : ai_T) (M : ai_M) (l : ai_L) (st : List ai_V) : ai_R := bif Nat.beq len 1 then ai_twog gt pt it ar pu ln 4 pc ce sl T M l st else none
def ai_h_irem (gt : ai_gT) (pt : ai_pT) (it : ai_iT) (ar : ai_rT) (pu : ai_uT) (ln : ai_nT) (own nL : Nat) (ini scr : Bool) (mc ms len r1 r2 pc ce sl : Nat) (T : ai_T) (M : ai_M) (l : ai_L) (st : List ai_V) : ai_R := bif Nat.beq len 1 then ai_twog gt pt it ar pu ln 5 pc ce sl T M l st else none
def ai_h_ior (gt : ai_gT) (pt : ai_pT) (it : ai_iT) (ar : ai_rT) (pu : ai_uT) (ln : ai_nT) (own nL : Nat) (ini scr : Bool) (mc ms len r1 r2 pc ce sl : Nat) (T : ai_T) (M : ai_M) (l : ai_L) (st : List ai_V) : ai_R := bif Nat.beq len 1 then ai_twog gt pt it ar pu ln 6 pc ce sl T M l st else none
def ai_h_ishl (gt : ai_gT) (pt : ai_pT) (it : ai_iT) (ar : ai_rT) (pu : ai_uT) (ln : ai_nT) (own nL : Nat) (ini scr : Bool) (mc ms len r1 r2 pc ce sl : Nat) (T : ai_T) (M : ai_M) (l : ai_L) (st : List ai_V) : ai_R := bif Nat.beq len 1 then ai_twog gt pt it ar pu ln 7 pc ce sl T M l st else none
def ai_h_ishr (gt : ai_gT) (pt : ai_pT) (it : ai_iT) (ar : ai_rT) (pu : ai_uT) (ln : ai_nT) (own nL : Nat) (ini scr : Bool) (mc ms len r1 r2 pc ce sl : Nat) (T : ai_T) (M : ai_M) (l : ai_L) (st : List ai_V) : ai_R := bif Nat.beq len 1 then ai_twog gt pt it ar pu ln 8 pc ce sl T M l st else none
def ai_h_iushr (gt : ai_gT) (pt : ai_pT) (it : ai_iT) (ar : ai_rT) (pu : ai_uT) (ln : ai_nT) (own nL : Nat) (ini scr : Bool) (mc ms len r1 r2 pc ce sl : Nat) (T : ai_T) (M : ai_M) (l : ai_L) (st : List ai_V) : ai_R := bif Nat.beq len 1 then ai_twog gt pt it ar pu ln 9 pc ce sl T M l st else none
def ai_h_ineg (gt : ai_gT) (pt : ai_pT) (it : ai_iT) (ar : ai_rT) (pu : ai_uT) (ln : ai_nT) (own nL : Nat) (ini scr : Bool) (mc ms len r1 r2 pc ce sl : Nat) (T : ai_T) (M : ai_M) (l : ai_L) (st : List ai_V) : ai_R := bif Nat.beq len 1 then ai_uog gt pt it ar pu ln 0 pc ce sl T M l st else none
def ai_h_i2b (gt : ai_gT) (pt : ai_pT) (it : ai_iT) (ar : ai_rT) (pu : ai_uT) (ln : ai_nT) (own nL : Nat) (ini scr : Bool) (mc ms len r1 r2 pc ce sl : Nat) (T : ai_T) (M : ai_M) (l : ai_L) (st : List ai_V) : ai_R := bif Nat.beq len 1 then ai_uog gt pt it ar pu ln 1 pc ce sl T M l st else none
def ai_h_i2s (gt : ai_gT) (pt : ai_pT) (it : ai_iT) (ar : ai_rT) (pu : ai_uT) (ln : ai_nT) (own nL : Nat) (ini scr : Bool) (mc ms len r1 r2 pc ce sl : Nat) (T : ai_T) (M : ai_M) (l : ai_L) (st : List ai_V) : ai_R := bif Nat.beq len 1 then ai_uog gt pt it ar pu ln 2 pc ce sl T M l st else none
def ai_h_i2c (gt : ai_gT) (pt : ai_pT) (it : ai_iT) (ar : ai_rT) (pu : ai_uT) (ln : ai_nT) (own nL : Nat) (ini scr : Bool) (mc ms len r1 r2 pc ce sl : Nat) (T : ai_T) (M : ai_M) (l : ai_L) (st : List ai_V) : ai_R := bif Nat.beq len 1 then ai_uog gt pt it ar pu ln 3 pc ce sl T M l st else none
def ai_h_ladd (gt : ai_gT) (pt : ai_pT) (it : ai_iT) (ar : ai_rT) (pu : ai_uT) (ln : ai_nT) (own nL : Nat) (ini scr : Bool) (mc ms len r1 r2 pc ce sl : Nat) (T : ai_T) (M : ai_M) (l : ai_L) (st : List ai_V) : ai_R := bif Nat.beq len 1 then ai_lbg gt pt it ar pu ln 0 pc ce sl T M l st else none
def ai_h_lsub (gt : ai_gT) (pt : ai_pT) (it : ai_iT) (ar : ai_rT) (pu : ai_uT) (ln : ai_nT) (own nL : Nat) (ini scr : Bool) (mc ms len r1 r2 pc ce sl : Nat) (T : ai_T) (M : ai_M) (l : ai_L) (st : List ai_V) : ai_R := bif Nat.beq len 1 then ai_lbg gt pt it ar pu ln 1 pc ce sl T M l st else none
def ai_h_lmul (gt : ai_gT) (pt : ai_pT) (it : ai_iT) (ar : ai_rT) (pu : ai_uT) (ln : ai_nT) (own nL : Nat) (ini scr : Bool) (mc ms len r1 r2 pc ce sl : Nat) (T : ai_T) (M : ai_M) (l : ai_L) (st : List ai_V) : ai_R := bif Nat.beq len 1 then ai_lbg gt pt it ar pu ln 2 pc ce sl T M l st else none
def ai_h_ldiv (gt : ai_gT) (pt : ai_pT) (it : ai_iT) (ar : ai_rT) (pu : ai_uT) (ln : ai_nT) (own nL : Nat) (ini scr : Bool) (mc ms len r1 r2 pc ce sl : Nat) (T : ai_T) (M : ai_M) (l : ai_L) (st : List ai_V) : ai_R := bif Nat.beq len 1 then ai_lbg gt pt it ar pu ln 3 pc ce sl T M l st else none
def ai_h_lrem (gt : ai_gT) (pt : ai_pT) (it : ai_iT) (ar : ai_rT) (pu : ai_uT) (ln : ai_nT) (own nL : Nat) (ini scr : Bool) (mc ms len r1 r2 pc ce sl : Nat) (T : ai_T) (M : ai_M) (l : ai_L) (st : List ai_V) : ai_R := bif Nat.beq len 1 then ai_lbg gt pt it ar pu ln 4 pc ce sl T M l st else none
def ai_h_lcmp (gt : ai_gT) (pt : ai_pT) (it : ai_iT) (ar : ai_rT) (pu : ai_uT) (ln : ai_nT) (own nL : Nat) (ini scr : Bool) (mc ms len r1 r2 pc ce sl : Nat) (T : ai_T) (M : ai_M) (l : ai_L) (st : List ai_V) : ai_R := bif Nat.beq len 1 then (match st with
    | b :: a :: st => (match ai_llg gt pt it ar pu ln T a, ai_llg gt pt it ar pu ln T b with
      | some p, some q => some ((ai_ltg gt pt it ar pu ln T a b p q).flatMap (fun r => bif r.1 then [(pc + 1, ce, sl, r.2, M, l, (0, -1) :: st)] else
          (ai_eqg gt pt it ar pu ln r.2 a b (if p.1 < q.1 then q.1 else p.1, p.2) (q.1, if p.2 < q.2 then p.2 else q.2)).map (fun r2 => (pc + 1, ce, sl, r2.2, M, l, (0, bif r2.1 then 0 else 1) :: st))))
      | _, _ => none)
    | _ => none) else none
def ai_h_i2l (gt : ai_gT) (pt : ai_pT) (it : ai_iT) (ar : ai_rT) (pu : ai_uT) (ln : ai_nT) (own nL : Nat) (ini scr : Bool) (mc ms len r1 r2 pc ce sl : Nat) (T : ai_T) (M : ai_M) (l : ai_L) (st : List ai_V) : ai_R := bif Nat.beq len 1 then (match st with
    | a :: st => (match ai_iig gt pt it ar pu ln T a with
      | some _ => some [(pc + 1, ce, sl, T, M, l, (a.1 + 2, a.2) :: st)]
      | none => none)
    | _ => none) else none
def ai_h_l2i (gt : ai_gT) (pt : ai_pT) (it : ai_iT) (ar : ai_rT) (pu : ai_uT) (ln : ai_nT) (own nL : Nat) (ini scr : Bool) (mc ms len r1 r2 pc ce sl : Nat) (T : ai_T) (M : ai_M) (l : ai_L) (st : List ai_V) : ai_R := bif Nat.beq len 1 then (match st with
    | a :: st => (match ai_llg gt pt it ar pu ln T a with
      | some p => bif it p then some [(pc + 1, ce, sl, T, M, l, (a.1 - 2, a.2) :: st)] else none
      | none => none)
    | _ => none) else none
def ai_h_dup (gt : ai_gT) (pt : ai_pT) (it : ai_iT) (ar : ai_rT) (pu : ai_uT) (ln : ai_nT) (own nL : Nat) (ini scr : Bool) (mc ms len r1 r2 pc ce sl : Nat) (T : ai_T) (M : ai_M) (l : ai_L) (st : List ai_V) : ai_R := bif Nat.beq len 1 then (match st with
    | a :: st => bif ai_isL a then none else some [(pc + 1, ce, sl, T, M, l, a :: a :: st)]
    | _ => none) else none
def ai_h_dup2 (gt : ai_gT) (pt : ai_pT) (it : ai_iT) (ar : ai_rT) (pu : ai_uT) (ln : ai_nT) (own nL : Nat) (ini scr : Bool) (mc ms len r1 r2 pc ce sl : Nat) (T : ai_T) (M : ai_M) (l : ai_L) (st : List ai_V) : ai_R := bif Nat.beq len 1 then (match st with
    | a :: b :: st => bif ai_isL a || ai_isL b then none else some [(pc + 1, ce, sl, T, M, l, a :: b :: a :: b :: st)]
    | _ => none) else none
def ai_h_pop (gt : ai_gT) (pt : ai_pT) (it : ai_iT) (ar : ai_rT) (pu : ai_uT) (ln : ai_nT) (own nL : Nat) (ini scr : Bool) (mc ms len r1 r2 pc ce sl : Nat) (T : ai_T) (M : ai_M) (l : ai_L) (st : List ai_V) : ai_R := bif Nat.beq len 1 then (match st with
    | a :: st => bif ai_isL a then none else some [(pc + 1, ce, sl, T, M, l, st)]
    | _ => none) else none
def ai_h_pop2 (gt : ai_gT) (pt : ai_pT) (it : ai_iT) (ar : ai_rT) (pu : ai_uT) (ln : ai_nT) (own nL : Nat) (ini scr : Bool) (mc ms len r1 r2 pc ce sl : Nat) (T : ai_T) (M : ai_M) (l : ai_L) (st : List ai_V) : ai_R := bif Nat.beq len 1 then (match st with
    | a :: st => bif ai_isL a then some [(pc + 1, ce, sl, T, M, l, st)] else none
    | _ => none) else none
def ai_h_goto (gt : ai_gT) (pt : ai_pT) (it : ai_iT) (ar : ai_rT) (pu : ai_uT) (ln : ai_nT) (off : Int) (own nL : Nat) (ini scr : Bool) (mc ms len r1 r2 pc ce sl : Nat) (T : ai_T) (M : ai_M) (l : ai_L) (st : List ai_V) : ai_R := bif Nat.beq len 3 then (match ai_jp pc off with
    | some t => ai_go t ce sl T M l st
    | none => none) else none
def ai_h_ifCond (gt : ai_gT) (pt : ai_pT) (it : ai_iT) (ar : ai_rT) (pu : ai_uT) (ln : ai_nT) (c : Jvm.ClassFile.Cond) (off : Int) (own nL : Nat) (ini scr : Bool) (mc ms len r1 r2 pc ce sl : Nat) (T : ai_T) (M : ai_M) (l : ai_L) (st : List ai_V) : ai_R := bif Nat.beq len 3 then (match st with
    | a :: st => (match ai_iig gt pt it ar pu ln T a with
      | some p => ai_br pc off ce sl M l st (ai_cmpg gt pt it ar pu ln (ai_ck c) T a (0, 0) p (0, 0))
      | none => none)
    | _ => none) else none
def ai_h_if_icmp (gt : ai_gT) (pt : ai_pT) (it : ai_iT) (ar : ai_rT) (pu : ai_uT) (ln : ai_nT) (c : Jvm.ClassFile.Cond) (off : Int) (own nL : Nat) (ini scr : Bool) (mc ms len r1 r2 pc ce sl : Nat) (T : ai_T) (M : ai_M) (l : ai_L) (st : List ai_V) : ai_R := bif Nat.beq len 3 then (match st with
    | b :: a :: st => (match ai_iig gt pt it ar pu ln T a, ai_iig gt pt it ar pu ln T b with
      | some p, some q => ai_br pc off ce sl M l st (ai_cmpg gt pt it ar pu ln (ai_ck c) T a b p q)
      | _, _ => none)
    | _ => none) else none
def ai_h_tableswitch (gt : ai_gT) (pt : ai_pT) (it : ai_iT) (ar : ai_rT) (pu : ai_uT) (ln : ai_nT) (dflt : Int) (lo : Int) (hi : Int) (offs : Array Int) (own nL : Nat) (ini scr : Bool) (mc ms len r1 r2 pc ce sl : Nat) (T : ai_T) (M : ai_M) (l : ai_L) (st : List ai_V) : ai_R := (match st with
    | a :: st => (match ai_iig gt pt it ar pu ln T a, ai_jp pc dflt with
      | some p, some td =>
          bif (ai_each (lo, hi)).all (fun z => match offs[(z - lo).toNat]? with
            | some off => (ai_jp pc off).isSome
            | none => false) then
            some ((if p.1 < lo then [(td, ce, sl, ai_setg gt pt it ar pu ln T a (p.1, if p.2 < lo then p.2 else lo - 1), M, l, st)] else []) ++ ((if hi < p.2 then [(td, ce, sl, ai_setg gt pt it ar pu ln T a (if p.1 ≤ hi then hi + 1 else p.1, p.2), M, l, st)] else []) ++ (ai_each (if p.1 < lo then lo else p.1, if p.2 < hi then p.2 else hi)).map (fun z => (((pc : Int) + offs.getD (z - lo).toNat 0).toNat, ce, sl, ai_setg gt pt it ar pu ln T a (z, z), M, l, st)))) else none
      | _, _ => none)
    | _ => none)
def ai_h_lookupswitch (gt : ai_gT) (pt : ai_pT) (it : ai_iT) (ar : ai_rT) (pu : ai_uT) (ln : ai_nT) (dflt : Int) (ps : Array (Int × Int)) (own nL : Nat) (ini scr : Bool) (mc ms len r1 r2 pc ce sl : Nat) (T : ai_T) (M : ai_M) (l : ai_L) (st : List ai_V) : ai_R := bif (ps.toList.zip (ps.toList.drop 1)).all (fun (a, next) => a.1 < next.1) then (match st with
    | a :: st => (match ai_iig gt pt it ar pu ln T a with
      | some p => bif decide (p.2 - p.1 ≤ 40) then
          bif (ai_each p).all (fun z => (ai_jp pc (Op.lookupswitch.offset ps.toList dflt z)).isSome) then
            some ((ai_each p).map (fun z => (((pc : Int) + Op.lookupswitch.offset ps.toList dflt z).toNat, ce, sl, ai_setg gt pt it ar pu ln T a (z, z), M, l, st))) else none
        else none
      | none => none)
    | _ => none) else none
def ai_h_getfield (gt : ai_gT) (pt : ai_pT) (it : ai_iT) (ar : ai_rT) (pu : ai_uT) (ln : ai_nT) (own nL : Nat) (ini scr : Bool) (mc ms len r1 r2 pc ce sl : Nat) (T : ai_T) (M : ai_M) (l : ai_L) (st : List ai_V) : ai_R := bif Nat.beq len 3 then (match st with
    | (4, q) :: st => (match (gt _ M (q.toNat)) with
      | some (0, ci, items) => bif Nat.beq ci r1 && Nat.blt r1 7 then (match (gt _ items (r2)) with
        | some a => ai_pu (pc + 3) ce sl T M l a st
        | none => none) else none
      | _ => none)
    | (5, k) :: st => bif Nat.beq r1 100 && (Nat.ble 10 k.toNat && Nat.blt k.toNat 23) then ai_pu (pc + 3) ce sl T M l (bif Nat.beq r2 0 then (0, 0) else (5, k + 20)) st else none
    | _ => none) else none
def ai_h_putfield (gt : ai_gT) (pt : ai_pT) (it : ai_iT) (ar : ai_rT) (pu : ai_uT) (ln : ai_nT) (own nL : Nat) (ini scr : Bool) (mc ms len r1 r2 pc ce sl : Nat) (T : ai_T) (M : ai_M) (l : ai_L) (st : List ai_V) : ai_R := bif Nat.beq len 3 then (match st with
    | a :: (4, q) :: st => (match (gt _ M (q.toNat)) with
      | some (0, ci, items) => bif (Nat.beq ci r1 && Nat.blt r1 7) && (Nat.blt r2 items.length && (ai_fitg gt pt it ar pu ln (mj_fty r1 r2) T a && (!(mj_fin r1 r2) || (ini && Nat.beq (mj_cow r1) own)))) then some [(pc + 3, ce, sl, T, (pt _ M q.toNat (0, ci, (pt _ items r2 a))), l, st)] else none
      | _ => none)
    | _ => none) else none
def ai_h_getstatic (gt : ai_gT) (pt : ai_pT) (it : ai_iT) (ar : ai_rT) (pu : ai_uT) (ln : ai_nT) (own nL : Nat) (ini scr : Bool) (mc ms len r1 r2 pc ce sl : Nat) (T : ai_T) (M : ai_M) (l : ai_L) (st : List ai_V) : ai_R := bif Nat.beq len 3 && Nat.ble r2 1 then (match r1 with
    | 0 => ai_pu (pc + 3) ce sl T M l (5, 1) st
    | 1 => ai_pu (pc + 3) ce sl T M l (5, 2) st
    | 2 => ai_pu (pc + 3) ce sl T M l (0, 1) st
    | 3 => ai_pu (pc + 3) ce sl T M l (5, 3) st
    | _ => none) else none
def ai_h_ldc (gt : ai_gT) (pt : ai_pT) (it : ai_iT) (ar : ai_rT) (pu : ai_uT) (ln : ai_nT) (own nL : Nat) (ini scr : Bool) (mc ms len r1 r2 pc ce sl : Nat) (T : ai_T) (M : ai_M) (l : ai_L) (st : List ai_V) : ai_R := bif Nat.beq len 2 && Nat.blt r1 999 then (match mj_cv r1 with
    | .int v => bif Nat.beq r2 2 then none else ai_pu (pc + 2) ce sl T M l (0, v.toInt) st
    | .retAddr k => bif Nat.beq r2 2 then ai_pu (pc + 2) ce sl T M l (5, (k : Int)) st else none
    | _ => none) else none
def ai_h_ldc_w (gt : ai_gT) (pt : ai_pT) (it : ai_iT) (ar : ai_rT) (pu : ai_uT) (ln : ai_nT) (own nL : Nat) (ini scr : Bool) (mc ms len r1 r2 pc ce sl : Nat) (T : ai_T) (M : ai_M) (l : ai_L) (st : List ai_V) : ai_R := bif Nat.beq len 3 && Nat.blt r1 999 then (match mj_cv r1 with
    | .int v => ai_pu (pc + 3) ce sl T M l (0, v.toInt) st
    | _ => none) else none
def ai_h_ldc2_w (gt : ai_gT) (pt : ai_pT) (it : ai_iT) (ar : ai_rT) (pu : ai_uT) (ln : ai_nT) (own nL : Nat) (ini scr : Bool) (mc ms len r1 r2 pc ce sl : Nat) (T : ai_T) (M : ai_M) (l : ai_L) (st : List ai_V) : ai_R := bif Nat.beq len 3 && Nat.blt r1 999 then (match mj_cv r1 with
    | .long v => ai_pu (pc + 3) ce sl T M l (2, v.toInt) st
    | _ => none) else none
def ai_h_iaload (gt : ai_gT) (pt : ai_pT) (it : ai_iT) (ar : ai_rT) (pu : ai_uT) (ln : ai_nT) (own nL : Nat) (ini scr : Bool) (mc ms len r1 r2 pc ce sl : Nat) (T : ai_T) (M : ai_M) (l : ai_L) (st : List ai_V) : ai_R := bif Nat.beq len 1 then (match st with
    | i :: (4, q) :: st => (match (gt _ M (q.toNat)) with
      | some e => ai_rdg gt pt it ar pu ln 0 pc ce sl T M l i e st
      | none => none)
    | i :: (5, k) :: st => (match k.toNat with
      | 0 => (match ai_iig gt pt it ar pu ln T i, ai_iig gt pt it ar pu ln T (1, 0) with
        | some p, some n => bif scr && (ai_one p && (decide (0 ≤ p.1) && (decide (p.1 < 6) && decide (p.1 < n.1)))) then ai_pu (pc + 1) ce sl T M l (1, 1 + p.1) st else none
        | _, _ => none)
      | 1 => ai_rxg gt pt it ar pu ln pc ce sl T M l i 10 mj_w1 st
      | 2 => ai_rxg gt pt it ar pu ln pc ce sl T M l i 10 mj_w2 st
      | _ => none)
    | _ => none) else none
def ai_h_baload (gt : ai_gT) (pt : ai_pT) (it : ai_iT) (ar : ai_rT) (pu : ai_uT) (ln : ai_nT) (own nL : Nat) (ini scr : Bool) (mc ms len r1 r2 pc ce sl : Nat) (T : ai_T) (M : ai_M) (l : ai_L) (st : List ai_V) : ai_R := bif Nat.beq len 1 then (match st with
    | i :: (4, q) :: st => (match (gt _ M (q.toNat)) with
      | some e => ai_rdg gt pt it ar pu ln 1 pc ce sl T M l i e st
      | none => none)
    | i :: (5, k) :: st => bif Nat.ble 30 k.toNat && Nat.blt k.toNat 43 then ai_rxg gt pt it ar pu ln pc ce sl T M l i (mj_stb.getD (k.toNat - 30) []).length (fun j => (mj_stb.getD (k.toNat - 30) []).getD j 0) st else none
    | _ => none) else none
def ai_h_aaload (gt : ai_gT) (pt : ai_pT) (it : ai_iT) (ar : ai_rT) (pu : ai_uT) (ln : ai_nT) (own nL : Nat) (ini scr : Bool) (mc ms len r1 r2 pc ce sl : Nat) (T : ai_T) (M : ai_M) (l : ai_L) (st : List ai_V) : ai_R := bif Nat.beq len 1 then (match st with
    | i :: (4, q) :: st => (match ai_iig gt pt it ar pu ln T i, (gt _ M (q.toNat)) with
      | some p, some (2, 2, items) => bif ai_inb p items.length && (items.all (fun a => Nat.beq a.1 4)) then
          some ((ai_each p).map (fun z => (pc + 1, ce, sl, ai_setg gt pt it ar pu ln T i (z, z), M, l, items.getD z.toNat (6, 0) :: st))) else none
      | _, _ => none)
    | _ => none) else none
def ai_h_arraylength (gt : ai_gT) (pt : ai_pT) (it : ai_iT) (ar : ai_rT) (pu : ai_uT) (ln : ai_nT) (own nL : Nat) (ini scr : Bool) (mc ms len r1 r2 pc ce sl : Nat) (T : ai_T) (M : ai_M) (l : ai_L) (st : List ai_V) : ai_R := bif Nat.beq len 1 then (match st with
    | (4, q) :: st => (match (gt _ M (q.toNat)) with
      | some (1, t, items) => bif Nat.blt t 2 then ai_pu (pc + 1) ce sl T M l (0, (Int32.ofNat items.length).toInt) st else none
      | some (2, 2, items) => ai_pu (pc + 1) ce sl T M l (0, (Int32.ofNat items.length).toInt) st
      | some (3, t, [(7, n), _, _]) => bif Nat.blt t 2 then ai_pu (pc + 1) ce sl T M l (0, (Int32.ofNat n.toNat).toInt) st else none
      | _ => none)
    | (5, k) :: st => (match k.toNat with
      | 0 => bif scr then ai_pu (pc + 1) ce sl T M l (1, 0) st else none
      | 1 => ai_pu (pc + 1) ce sl T M l (0, 10) st
      | 2 => ai_pu (pc + 1) ce sl T M l (0, 10) st
      | _ => bif Nat.ble 30 k.toNat && Nat.blt k.toNat 43 then ai_pu (pc + 1) ce sl T M l (0, (Int32.ofNat (mj_stb.getD (k.toNat - 30) []).length).toInt) st else none)
    | _ => none) else none
def ai_h_iastore (gt : ai_gT) (pt : ai_pT) (it : ai_iT) (ar : ai_rT) (pu : ai_uT) (ln : ai_nT) (own nL : Nat) (ini scr : Bool) (mc ms len r1 r2 pc ce sl : Nat) (T : ai_T) (M : ai_M) (l : ai_L) (st : List ai_V) : ai_R := bif Nat.beq len 1 then (match st with
    | x :: i :: (4, q) :: st => (match (gt _ M (q.toNat)) with
      | some e => ai_wrg gt pt it ar pu ln 0 pc ce sl T M l q.toNat i x e st
      | none => none)
    | _ => none) else none
def ai_h_bastore (gt : ai_gT) (pt : ai_pT) (it : ai_iT) (ar : ai_rT) (pu : ai_uT) (ln : ai_nT) (own nL : Nat) (ini scr : Bool) (mc ms len r1 r2 pc ce sl : Nat) (T : ai_T) (M : ai_M) (l : ai_L) (st : List ai_V) : ai_R := bif Nat.beq len 1 then (match st with
    | x :: i :: (4, q) :: st => (match (gt _ M (q.toNat)) with
      | some e => ai_wrg gt pt it ar pu ln 1 pc ce sl T M l q.toNat i x e st
      | none => none)
    | _ => none) else none
def ai_h_newarray (gt : ai_gT) (pt : ai_pT) (it : ai_iT) (ar : ai_rT) (pu : ai_uT) (ln : ai_nT) (t : ArrayType) (own nL : Nat) (ini scr : Bool) (mc ms len r1 r2 pc ce sl : Nat) (T : ai_T) (M : ai_M) (l : ai_L) (st : List ai_V) : ai_R := bif Nat.beq len 2 then (match t, st with
    | .int, (0, n) :: st => bif (decide (0 ≤ n) && decide (n ≤ 2000)) && (Nat.blt ce mc && Nat.ble (sl + n.toNat) ms) then some [(pc + 2, ce + 1, sl + n.toNat, T, M ++ [(1, 0, List.replicate n.toNat (0, 0))], l, (4, (M.length : Int)) :: st)] else none
    | .boolean, (0, n) :: st => bif (decide (0 ≤ n) && decide (n ≤ 2000)) && (Nat.blt ce mc && Nat.ble (sl + n.toNat) ms) then some [(pc + 2, ce + 1, sl + n.toNat, T, M ++ [(1, 1, List.replicate n.toNat (0, 0))], l, (4, (M.length : Int)) :: st)] else none
    | _, _ => none) else none
def ai_h_multianewarray (gt : ai_gT) (pt : ai_pT) (it : ai_iT) (ar : ai_rT) (pu : ai_uT) (ln : ai_nT) (own nL : Nat) (ini scr : Bool) (mc ms len r1 r2 pc ce sl : Nat) (T : ai_T) (M : ai_M) (l : ai_L) (st : List ai_V) : ai_R := bif Nat.beq len 4 && Nat.blt r1 999 then (match st with
    | (0, k) :: (0, n) :: st => bif ((decide (0 ≤ n) && decide (n ≤ 2000)) && (decide (0 ≤ k) && decide (k ≤ 2000))) && (Nat.ble (ce + (1 + n.toNat)) mc && Nat.ble (sl + (n.toNat + n.toNat * k.toNat)) ms) then
        some [(pc + 4, ce + (1 + n.toNat), sl + (n.toNat + n.toNat * k.toNat), T, M ++ (2, 2, (List.range n.toNat).map (fun j => (4, ((M.length + 1 + j : Nat) : Int)))) :: List.replicate n.toNat (1, 0, List.replicate k.toNat (0, 0)), l, (4, (M.length : Int)) :: st)] else none
    | _ => none) else none
def ai_h_new (gt : ai_gT) (pt : ai_pT) (it : ai_iT) (ar : ai_rT) (pu : ai_uT) (ln : ai_nT) (own nL : Nat) (ini scr : Bool) (mc ms len r1 r2 pc ce sl : Nat) (T : ai_T) (M : ai_M) (l : ai_L) (st : List ai_V) : ai_R := bif Nat.beq len 3 && Nat.blt r1 7 then
      bif Nat.blt ce mc && Nat.ble (sl + (ai_dv r1).length) ms then some [(pc + 3, ce + 1, sl + (ai_dv r1).length, T, M ++ [(0, r1, ai_dv r1)], l, (4, (M.length : Int)) :: st)] else none
    else none
def ai_h_invokespecial (gt : ai_gT) (pt : ai_pT) (it : ai_iT) (ar : ai_rT) (pu : ai_uT) (ln : ai_nT) (own nL : Nat) (ini scr : Bool) (mc ms len r1 r2 pc ce sl : Nat) (T : ai_T) (M : ai_M) (l : ai_L) (st : List ai_V) : ai_R := bif Nat.beq len 3 && Nat.beq r1 1000 then (match st with
    | (4, _) :: st => bif Nat.ble (ai_cs st) 8 then ai_go (pc + 3) ce sl T M l st else none
    | _ => none) else none
def ai_h_invokestatic (gt : ai_gT) (pt : ai_pT) (it : ai_iT) (ar : ai_rT) (pu : ai_uT) (ln : ai_nT) (own nL : Nat) (ini scr : Bool) (mc ms len r1 r2 pc ce sl : Nat) (T : ai_T) (M : ai_M) (l : ai_L) (st : List ai_V) : ai_R := bif Nat.beq len 3 then (bif Nat.beq r1 1001 then (match st with
      | n :: dp :: (4, q1) :: sp :: (4, q0) :: st => (match ai_iig gt pt it ar pu ln T n, ai_iig gt pt it ar pu ln T dp, ai_iig gt pt it ar pu ln T sp, (gt _ M (q0.toNat)), (gt _ M (q1.toNat)) with
        | some n, some dp, some sp, some (1, 0, f), some (1, 0, g) => bif ((ai_one n && (ai_one dp && ai_one sp)) && (decide (0 ≤ n.1) && (decide (0 ≤ dp.1) && decide (0 ≤ sp.1)))) && (Nat.ble (ai_cs st) 8 && (Nat.ble (sp.1.toNat + n.1.toNat) f.length && Nat.ble (dp.1.toNat + n.1.toNat) g.length)) then
            ai_go (pc + 3) ce sl T ((pt _ M q1.toNat (1, 0, g.take dp.1.toNat ++ ((f.drop sp.1.toNat).take n.1.toNat ++ g.drop (dp.1.toNat + n.1.toNat))))) l st else none
        | _, _, _, _, _ => none)
      | _ => none)
    else bif Nat.beq r1 1002 then (match st with
      | b :: a :: st => (match ai_iig gt pt it ar pu ln T a, ai_iig gt pt it ar pu ln T b with
        | some p, some q => bif Nat.ble (ai_cs st) 8 && ai_nc st then some ((ai_ltg gt pt it ar pu ln T a b p q).map (fun r => (pc + 3, ce, sl, r.2, M, l, (bif r.1 then b else a) :: st))) else none
        | _, _ => none)
      | _ => none)
    else bif Nat.beq r1 1003 then (match st with
      | b :: a :: st => (match ai_iig gt pt it ar pu ln T a, ai_iig gt pt it ar pu ln T b with
        | some p, some q => bif Nat.ble (ai_cs st) 8 && ai_nc st then some ((ai_ltg gt pt it ar pu ln T b a q p).map (fun r => (pc + 3, ce, sl, r.2, M, l, (bif r.1 then b else a) :: st))) else none
        | _, _ => none)
      | _ => none)
    else none) else none
def ai_h_none (_own _nL : Nat) (_ini _scr : Bool) (_mc _ms _len _r1 _r2 _pc _ce _sl : Nat) (_T : ai_T) (_M : ai_M) (_l : ai_L) (_st : List ai_V) : ai_R := none
abbrev ai_W : Type := (Nat → Nat → Bool → Bool → Nat → Nat → Nat → Nat → Nat → Nat → Nat → Nat → ai_T → ai_M → ai_L → List ai_V → ai_R) × Unit
def ai_hw (ins : Instr) : ai_W := match ins with
  | .iconst n => (ai_h_iconst ai_at ai_put ai_in32f ai_arf ai_psh ai_ln n, ())
  | .bipush n => (ai_h_bipush ai_at ai_put ai_in32f ai_arf ai_psh ai_ln n, ())
  | .sipush n => (ai_h_sipush ai_at ai_put ai_in32f ai_arf ai_psh ai_ln n, ())
  | .lconst n => (ai_h_lconst ai_at ai_put ai_in32f ai_arf ai_psh ai_ln n, ())
  | .aconst_null => (ai_h_aconst_null ai_at ai_put ai_in32f ai_arf ai_psh ai_ln, ())
  | .iload_n k => (ai_h_iload_n ai_at ai_put ai_in32f ai_arf ai_psh ai_ln k, ())
  | .iload k => (ai_h_iload ai_at ai_put ai_in32f ai_arf ai_psh ai_ln k, ())
  | .lload_n k => (ai_h_lload_n ai_at ai_put ai_in32f ai_arf ai_psh ai_ln k, ())
  | .lload k => (ai_h_lload ai_at ai_put ai_in32f ai_arf ai_psh ai_ln k, ())
  | .aload_n k => (ai_h_aload_n ai_at ai_put ai_in32f ai_arf ai_psh ai_ln k, ())
  | .aload k => (ai_h_aload ai_at ai_put ai_in32f ai_arf ai_psh ai_ln k, ())
  | .istore_n k => (ai_h_istore_n ai_at ai_put ai_in32f ai_arf ai_psh ai_ln k, ())
  | .istore k => (ai_h_istore ai_at ai_put ai_in32f ai_arf ai_psh ai_ln k, ())
  | .lstore_n k => (ai_h_lstore_n ai_at ai_put ai_in32f ai_arf ai_psh ai_ln k, ())
  | .lstore k => (ai_h_lstore ai_at ai_put ai_in32f ai_arf ai_psh ai_ln k, ())
  | .astore_n k => (ai_h_astore_n ai_at ai_put ai_in32f ai_arf ai_psh ai_ln k, ())
  | .astore k => (ai_h_astore ai_at ai_put ai_in32f ai_arf ai_psh ai_ln k, ())
  | .iinc i n => (ai_h_iinc ai_at ai_put ai_in32f ai_arf ai_psh ai_ln i n, ())
  | .iadd => (ai_h_iadd ai_at ai_put ai_in32f ai_arf ai_psh ai_ln, ())
  | .isub => (ai_h_isub ai_at ai_put ai_in32f ai_arf ai_psh ai_ln, ())
  | .imul => (ai_h_imul ai_at ai_put ai_in32f ai_arf ai_psh ai_ln, ())
  | .iand => (ai_h_iand ai_at ai_put ai_in32f ai_arf ai_psh ai_ln, ())
  | .idiv => (ai_h_idiv ai_at ai_put ai_in32f ai_arf ai_psh ai_ln, ())
  | .irem => (ai_h_irem ai_at ai_put ai_in32f ai_arf ai_psh ai_ln, ())
  | .ior => (ai_h_ior ai_at ai_put ai_in32f ai_arf ai_psh ai_ln, ())
  | .ishl => (ai_h_ishl ai_at ai_put ai_in32f ai_arf ai_psh ai_ln, ())
  | .ishr => (ai_h_ishr ai_at ai_put ai_in32f ai_arf ai_psh ai_ln, ())
  | .iushr => (ai_h_iushr ai_at ai_put ai_in32f ai_arf ai_psh ai_ln, ())
  | .ineg => (ai_h_ineg ai_at ai_put ai_in32f ai_arf ai_psh ai_ln, ())
  | .i2b => (ai_h_i2b ai_at ai_put ai_in32f ai_arf ai_psh ai_ln, ())
  | .i2s => (ai_h_i2s ai_at ai_put ai_in32f ai_arf ai_psh ai_ln, ())
  | .i2c => (ai_h_i2c ai_at ai_put ai_in32f ai_arf ai_psh ai_ln, ())
  | .ladd => (ai_h_ladd ai_at ai_put ai_in32f ai_arf ai_psh ai_ln, ())
  | .lsub => (ai_h_lsub ai_at ai_put ai_in32f ai_arf ai_psh ai_ln, ())
  | .lmul => (ai_h_lmul ai_at ai_put ai_in32f ai_arf ai_psh ai_ln, ())
  | .ldiv => (ai_h_ldiv ai_at ai_put ai_in32f ai_arf ai_psh ai_ln, ())
  | .lrem => (ai_h_lrem ai_at ai_put ai_in32f ai_arf ai_psh ai_ln, ())
  | .lcmp => (ai_h_lcmp ai_at ai_put ai_in32f ai_arf ai_psh ai_ln, ())
  | .i2l => (ai_h_i2l ai_at ai_put ai_in32f ai_arf ai_psh ai_ln, ())
  | .l2i => (ai_h_l2i ai_at ai_put ai_in32f ai_arf ai_psh ai_ln, ())
  | .dup => (ai_h_dup ai_at ai_put ai_in32f ai_arf ai_psh ai_ln, ())
  | .dup2 => (ai_h_dup2 ai_at ai_put ai_in32f ai_arf ai_psh ai_ln, ())
  | .pop => (ai_h_pop ai_at ai_put ai_in32f ai_arf ai_psh ai_ln, ())
  | .pop2 => (ai_h_pop2 ai_at ai_put ai_in32f ai_arf ai_psh ai_ln, ())
  | .goto off => (ai_h_goto ai_at ai_put ai_in32f ai_arf ai_psh ai_ln off, ())
  | .ifCond c off => (ai_h_ifCond ai_at ai_put ai_in32f ai_arf ai_psh ai_ln c off, ())
  | .if_icmp c off => (ai_h_if_icmp ai_at ai_put ai_in32f ai_arf ai_psh ai_ln c off, ())
  | .tableswitch dflt lo hi offs => (ai_h_tableswitch ai_at ai_put ai_in32f ai_arf ai_psh ai_ln dflt lo hi offs, ())
  | .lookupswitch dflt ps => (ai_h_lookupswitch ai_at ai_put ai_in32f ai_arf ai_psh ai_ln dflt ps, ())
  | .getfield _ => (ai_h_getfield ai_at ai_put ai_in32f ai_arf ai_psh ai_ln, ())
  | .putfield _ => (ai_h_putfield ai_at ai_put ai_in32f ai_arf ai_psh ai_ln, ())
  | .getstatic _ => (ai_h_getstatic ai_at ai_put ai_in32f ai_arf ai_psh ai_ln, ())
  | .ldc _ => (ai_h_ldc ai_at ai_put ai_in32f ai_arf ai_psh ai_ln, ())
  | .ldc_w _ => (ai_h_ldc_w ai_at ai_put ai_in32f ai_arf ai_psh ai_ln, ())
  | .ldc2_w _ => (ai_h_ldc2_w ai_at ai_put ai_in32f ai_arf ai_psh ai_ln, ())
  | .iaload => (ai_h_iaload ai_at ai_put ai_in32f ai_arf ai_psh ai_ln, ())
  | .baload => (ai_h_baload ai_at ai_put ai_in32f ai_arf ai_psh ai_ln, ())
  | .aaload => (ai_h_aaload ai_at ai_put ai_in32f ai_arf ai_psh ai_ln, ())
  | .arraylength => (ai_h_arraylength ai_at ai_put ai_in32f ai_arf ai_psh ai_ln, ())
  | .iastore => (ai_h_iastore ai_at ai_put ai_in32f ai_arf ai_psh ai_ln, ())
  | .bastore => (ai_h_bastore ai_at ai_put ai_in32f ai_arf ai_psh ai_ln, ())
  | .newarray t => (ai_h_newarray ai_at ai_put ai_in32f ai_arf ai_psh ai_ln t, ())
  | .multianewarray _ 2 => (ai_h_multianewarray ai_at ai_put ai_in32f ai_arf ai_psh ai_ln, ())
  | .new _ => (ai_h_new ai_at ai_put ai_in32f ai_arf ai_psh ai_ln, ())
  | .invokespecial _ => (ai_h_invokespecial ai_at ai_put ai_in32f ai_arf ai_psh ai_ln, ())
  | .invokestatic _ => (ai_h_invokestatic ai_at ai_put ai_in32f ai_arf ai_psh ai_ln, ())
  | _ => (ai_h_none, ())
/-- 1 a return, 2 a call, else 0 -/
def ai_cq (ins : Instr) : Nat := match ins with
  | .ireturn => 1
  | .lreturn => 1
  | .areturn => 1
  | .return_ => 1
  | .invokevirtual _ => 2
  | .invokespecial _ => 2
  | .invokestatic _ => 2
  | _ => 0
abbrev ai_G1 : ai_gT := fun α l n => l[n]?
abbrev ai_P1 : ai_pT := fun α l n x => l.set n x
abbrev ai_U1 : ai_uT := fun α l x => l ++ [x]
abbrev ai_N1 : ai_nT := fun α l => l.length
abbrev ai_R1 : ai_rT := fun k a b => (ai_f k (Int32.ofInt a) (Int32.ofInt b)).toInt
theorem ai_ifs {α : Type} {c d : Prop} [Decidable c] [Decidable d] {A : List α} (h : c ↔ ¬ d) : (if c then [] else A) = (if d then A else []) := by
  by_cases hd : d
  · rw [if_neg (fun hc => h.mp hc hd), if_pos hd]
  · rw [if_pos (h.mpr hd), if_neg hd]
theorem ai_ifq {β : Type} {p1 p2 q1 q2 : Int} {X : List (Bool × β)} {y z w : β} : (if q1 = q2 then (if p1 < q1 ∧ q1 < p2 then X else if p1 = q1 then (if p1 = p2 then [] else [(false, y)]) else if p2 = q1 then [(false, z)] else [(false, w)]) else [(false, w)]) =
    (if p1 = p2 ∧ q1 = q2 ∧ p1 = q1 then [] else if q1 = q2 ∧ p1 < q1 ∧ q1 < p2 then X else [(false, if q1 = q2 then (if p1 = q1 then y else if p2 = q1 then z else w) else w)]) := by
  by_cases h1 : q1 = q2
  · rw [if_pos h1]
    by_cases h2 : p1 < q1 ∧ q1 < p2
    · rw [if_pos h2, if_neg (by omega), if_pos ⟨h1, h2⟩]
    · rw [if_neg h2]
      by_cases h3 : p1 = q1
      · rw [if_pos h3]
        by_cases h4 : p1 = p2
        · rw [if_pos h4, if_pos ⟨h4, h1, h3⟩]
        · rw [if_neg h4, if_neg (fun z => h4 z.1), if_neg (fun z => h2 z.2), if_pos h1, if_pos h3]
      · rw [if_neg h3]
        by_cases h5 : p2 = q1
        · rw [if_pos h5, if_neg (fun z => h3 z.2.2), if_neg (fun z => h2 z.2), if_pos h1, if_neg h3, if_pos h5]
        · rw [if_neg h5, if_neg (fun z => h3 z.2.2), if_neg (fun z => h2 z.2), if_pos h1, if_neg h3, if_neg h5]
  · rw [if_neg h1, if_neg (fun z => h1 z.2.1), if_neg (fun z => h1 z.1), if_neg h1]
theorem ai_ltg_fn : ai_ltg ai_G1 ai_P1 ai_in32 ai_R1 ai_U1 ai_N1 = ai_lt := by
  funext T a b p q
  have hS : ai_setg ai_G1 ai_P1 ai_in32 ai_R1 ai_U1 ai_N1 = ai_set := rfl
  unfold ai_ltg ai_lt
  rw [hS]
  simp only [ai_ltb_eq, Bool.cond_decide]
  congr 1
  exact ai_ifs ⟨by omega, by omega⟩
theorem ai_eqg_fn : ai_eqg ai_G1 ai_P1 ai_in32 ai_R1 ai_U1 ai_N1 = ai_eq := by
  funext T a b p q
  have hS : ai_setg ai_G1 ai_P1 ai_in32 ai_R1 ai_U1 ai_N1 = ai_set := rfl
  unfold ai_eqg ai_eq
  rw [hS]
  simp only [ai_ltb_eq, ai_eqb_eq, Bool.cond_decide, ← Bool.decide_or, ← Bool.decide_and]
  congr 1
  · exact ai_ifs ⟨by omega, by omega⟩
  · exact ai_ifq
theorem ai_cmpg_fn : ai_cmpg ai_G1 ai_P1 ai_in32 ai_R1 ai_U1 ai_N1 = ai_cmp := by
  funext k T a b p q
  unfold ai_cmpg
  rw [ai_ltg_fn, ai_eqg_fn]
  rfl
theorem ai_hullg_ok (T : ai_T) : ∀ l : List ai_V, ai_hullg ai_G1 ai_P1 ai_in32 ai_R1 ai_U1 ai_N1 T l = ai_hull T l
  | [] => rfl
  | [_] => rfl
  | a :: b :: l => by
    have ih := ai_hullg_ok T (b :: l)
    show (match ai_iig ai_G1 ai_P1 ai_in32 ai_R1 ai_U1 ai_N1 T a, ai_hullg ai_G1 ai_P1 ai_in32 ai_R1 ai_U1 ai_N1 T (b :: l) with
    | some p, some q => some (if p.1 < q.1 then p.1 else q.1, if p.2 < q.2 then q.2 else p.2)
    | _, _ => none) = _
    rw [ih]
    rfl
theorem ai_hullg_fn : ai_hullg ai_G1 ai_P1 ai_in32 ai_R1 ai_U1 ai_N1 = ai_hull := by
  funext T l
  exact ai_hullg_ok T l
theorem ai_rdg_fn : ai_rdg ai_G1 ai_P1 ai_in32 ai_R1 ai_U1 ai_N1 = ai_rd := by
  funext tag pc ce sl T M l i e st
  unfold ai_rdg
  rw [ai_hullg_fn]
  rfl
set_option maxHeartbeats 4000000 in
theorem ai_sel_ok (own nL : Nat) (ini scr : Bool) (mc ms : Nat) (ins : Instr) (len r1 r2 pc ce sl : Nat) (T : ai_T) (M : ai_M) (l : ai_L) (st : List ai_V) : (ai_hw ins).1 own nL ini scr mc ms len r1 r2 pc ce sl T M l st = ai_step own nL ini scr mc ms ins len r1 r2 pc ce sl T M l st := by
  cases ins with
  | iconst x0 =>
    show ai_h_iconst ai_at ai_put ai_in32f ai_arf ai_psh ai_ln x0 own nL ini scr mc ms len r1 r2 pc ce sl T M l st = _
    rw [ai_at_fn, ai_put_fn, ai_it_fn, ai_ar_fn, ai_psh_fn, ai_ln_fn]
    rfl
  | bipush x0 =>
    show ai_h_bipush ai_at ai_put ai_in32f ai_arf ai_psh ai_ln x0 own nL ini scr mc ms len r1 r2 pc ce sl T M l st = _
    rw [ai_at_fn, ai_put_fn, ai_it_fn, ai_ar_fn, ai_psh_fn, ai_ln_fn]
    rfl
  | sipush x0 =>
    show ai_h_sipush ai_at ai_put ai_in32f ai_arf ai_psh ai_ln x0 own nL ini scr mc ms len r1 r2 pc ce sl T M l st = _
    rw [ai_at_fn, ai_put_fn, ai_it_fn, ai_ar_fn, ai_psh_fn, ai_ln_fn]
    rfl
  | lconst x0 =>
    show ai_h_lconst ai_at ai_put ai_in32f ai_arf ai_psh ai_ln x0 own nL ini scr mc ms len r1 r2 pc ce sl T M l st = _
    rw [ai_at_fn, ai_put_fn, ai_it_fn, ai_ar_fn, ai_psh_fn, ai_ln_fn]
    rfl
  | aconst_null =>
    show ai_h_aconst_null ai_at ai_put ai_in32f ai_arf ai_psh ai_ln  own nL ini scr mc ms len r1 r2 pc ce sl T M l st = _
    rw [ai_at_fn, ai_put_fn, ai_it_fn, ai_ar_fn, ai_psh_fn, ai_ln_fn]
    rfl
  | iload_n x0 =>
    show ai_h_iload_n ai_at ai_put ai_in32f ai_arf ai_psh ai_ln x0 own nL ini scr mc ms len r1 r2 pc ce sl T M l st = _
    rw [ai_at_fn, ai_put_fn, ai_it_fn, ai_ar_fn, ai_psh_fn, ai_ln_fn]
    rfl
  | iload x0 =>
    show ai_h_iload ai_at ai_put ai_in32f ai_arf ai_psh ai_ln x0 own nL ini scr mc ms len r1 r2 pc ce sl T M l st = _
    rw [ai_at_fn, ai_put_fn, ai_it_fn, ai_ar_fn, ai_psh_fn, ai_ln_fn]
    rfl
  | lload_n x0 =>
    show ai_h_lload_n ai_at ai_put ai_in32f ai_arf ai_psh ai_ln x0 own nL ini scr mc ms len r1 r2 pc ce sl T M l st = _
    rw [ai_at_fn, ai_put_fn, ai_it_fn, ai_ar_fn, ai_psh_fn, ai_ln_fn]
    rfl
  | lload x0 =>
    show ai_h_lload ai_at ai_put ai_in32f ai_arf ai_psh ai_ln x0 own nL ini scr mc ms len r1 r2 pc ce sl T M l st = _
    rw [ai_at_fn, ai_put_fn, ai_it_fn, ai_ar_fn, ai_psh_fn, ai_ln_fn]
    rfl
  | aload_n x0 =>
    show ai_h_aload_n ai_at ai_put ai_in32f ai_arf ai_psh ai_ln x0 own nL ini scr mc ms len r1 r2 pc ce sl T M l st = _
    rw [ai_at_fn, ai_put_fn, ai_it_fn, ai_ar_fn, ai_psh_fn, ai_ln_fn]
    rfl
  | aload x0 =>
    show ai_h_aload ai_at ai_put ai_in32f ai_arf ai_psh ai_ln x0 own nL ini scr mc ms len r1 r2 pc ce sl T M l st = _
    rw [ai_at_fn, ai_put_fn, ai_it_fn, ai_ar_fn, ai_psh_fn, ai_ln_fn]
    rfl
  | istore_n x0 =>
    show ai_h_istore_n ai_at ai_put ai_in32f ai_arf ai_psh ai_ln x0 own nL ini scr mc ms len r1 r2 pc ce sl T M l st = _
    rw [ai_at_fn, ai_put_fn, ai_it_fn, ai_ar_fn, ai_psh_fn, ai_ln_fn]
    rfl
  | istore x0 =>
    show ai_h_istore ai_at ai_put ai_in32f ai_arf ai_psh ai_ln x0 own nL ini scr mc ms len r1 r2 pc ce sl T M l st = _
    rw [ai_at_fn, ai_put_fn, ai_it_fn, ai_ar_fn, ai_psh_fn, ai_ln_fn]
    rfl
  | lstore_n x0 =>
    show ai_h_lstore_n ai_at ai_put ai_in32f ai_arf ai_psh ai_ln x0 own nL ini scr mc ms len r1 r2 pc ce sl T M l st = _
    rw [ai_at_fn, ai_put_fn, ai_it_fn, ai_ar_fn, ai_psh_fn, ai_ln_fn]
    rfl
  | lstore x0 =>
    show ai_h_lstore ai_at ai_put ai_in32f ai_arf ai_psh ai_ln x0 own nL ini scr mc ms len r1 r2 pc ce sl T M l st = _
    rw [ai_at_fn, ai_put_fn, ai_it_fn, ai_ar_fn, ai_psh_fn, ai_ln_fn]
    rfl
  | astore_n x0 =>
    show ai_h_astore_n ai_at ai_put ai_in32f ai_arf ai_psh ai_ln x0 own nL ini scr mc ms len r1 r2 pc ce sl T M l st = _
    rw [ai_at_fn, ai_put_fn, ai_it_fn, ai_ar_fn, ai_psh_fn, ai_ln_fn]
    rfl
  | astore x0 =>
    show ai_h_astore ai_at ai_put ai_in32f ai_arf ai_psh ai_ln x0 own nL ini scr mc ms len r1 r2 pc ce sl T M l st = _
    rw [ai_at_fn, ai_put_fn, ai_it_fn, ai_ar_fn, ai_psh_fn, ai_ln_fn]
    rfl
  | iinc x0 x1 =>
    show ai_h_iinc ai_at ai_put ai_in32f ai_arf ai_psh ai_ln x0 x1 own nL ini scr mc ms len r1 r2 pc ce sl T M l st = _
    rw [ai_at_fn, ai_put_fn, ai_it_fn, ai_ar_fn, ai_psh_fn, ai_ln_fn]
    rfl
  | iadd =>
    show ai_h_iadd ai_at ai_put ai_in32f ai_arf ai_psh ai_ln  own nL ini scr mc ms len r1 r2 pc ce sl T M l st = _
    rw [ai_at_fn, ai_put_fn, ai_it_fn, ai_ar_fn, ai_psh_fn, ai_ln_fn]
    rfl
  | isub =>
    show ai_h_isub ai_at ai_put ai_in32f ai_arf ai_psh ai_ln  own nL ini scr mc ms len r1 r2 pc ce sl T M l st = _
    rw [ai_at_fn, ai_put_fn, ai_it_fn, ai_ar_fn, ai_psh_fn, ai_ln_fn]
    rfl
  | imul =>
    show ai_h_imul ai_at ai_put ai_in32f ai_arf ai_psh ai_ln  own nL ini scr mc ms len r1 r2 pc ce sl T M l st = _
    rw [ai_at_fn, ai_put_fn, ai_it_fn, ai_ar_fn, ai_psh_fn, ai_ln_fn]
    rfl
  | iand =>
    show ai_h_iand ai_at ai_put ai_in32f ai_arf ai_psh ai_ln  own nL ini scr mc ms len r1 r2 pc ce sl T M l st = _
    rw [ai_at_fn, ai_put_fn, ai_it_fn, ai_ar_fn, ai_psh_fn, ai_ln_fn]
    rfl
  | idiv =>
    show ai_h_idiv ai_at ai_put ai_in32f ai_arf ai_psh ai_ln  own nL ini scr mc ms len r1 r2 pc ce sl T M l st = _
    rw [ai_at_fn, ai_put_fn, ai_it_fn, ai_ar_fn, ai_psh_fn, ai_ln_fn]
    rfl
  | irem =>
    show ai_h_irem ai_at ai_put ai_in32f ai_arf ai_psh ai_ln  own nL ini scr mc ms len r1 r2 pc ce sl T M l st = _
    rw [ai_at_fn, ai_put_fn, ai_it_fn, ai_ar_fn, ai_psh_fn, ai_ln_fn]
    rfl
  | ior =>
    show ai_h_ior ai_at ai_put ai_in32f ai_arf ai_psh ai_ln  own nL ini scr mc ms len r1 r2 pc ce sl T M l st = _
    rw [ai_at_fn, ai_put_fn, ai_it_fn, ai_ar_fn, ai_psh_fn, ai_ln_fn]
    rfl
  | ishl =>
    show ai_h_ishl ai_at ai_put ai_in32f ai_arf ai_psh ai_ln  own nL ini scr mc ms len r1 r2 pc ce sl T M l st = _
    rw [ai_at_fn, ai_put_fn, ai_it_fn, ai_ar_fn, ai_psh_fn, ai_ln_fn]
    rfl
  | ishr =>
    show ai_h_ishr ai_at ai_put ai_in32f ai_arf ai_psh ai_ln  own nL ini scr mc ms len r1 r2 pc ce sl T M l st = _
    rw [ai_at_fn, ai_put_fn, ai_it_fn, ai_ar_fn, ai_psh_fn, ai_ln_fn]
    rfl
  | iushr =>
    show ai_h_iushr ai_at ai_put ai_in32f ai_arf ai_psh ai_ln  own nL ini scr mc ms len r1 r2 pc ce sl T M l st = _
    rw [ai_at_fn, ai_put_fn, ai_it_fn, ai_ar_fn, ai_psh_fn, ai_ln_fn]
    rfl
  | ineg =>
    show ai_h_ineg ai_at ai_put ai_in32f ai_arf ai_psh ai_ln  own nL ini scr mc ms len r1 r2 pc ce sl T M l st = _
    rw [ai_at_fn, ai_put_fn, ai_it_fn, ai_ar_fn, ai_psh_fn, ai_ln_fn]
    rfl
  | i2b =>
    show ai_h_i2b ai_at ai_put ai_in32f ai_arf ai_psh ai_ln  own nL ini scr mc ms len r1 r2 pc ce sl T M l st = _
    rw [ai_at_fn, ai_put_fn, ai_it_fn, ai_ar_fn, ai_psh_fn, ai_ln_fn]
    rfl
  | i2s =>
    show ai_h_i2s ai_at ai_put ai_in32f ai_arf ai_psh ai_ln  own nL ini scr mc ms len r1 r2 pc ce sl T M l st = _
    rw [ai_at_fn, ai_put_fn, ai_it_fn, ai_ar_fn, ai_psh_fn, ai_ln_fn]
    rfl
  | i2c =>
    show ai_h_i2c ai_at ai_put ai_in32f ai_arf ai_psh ai_ln  own nL ini scr mc ms len r1 r2 pc ce sl T M l st = _
    rw [ai_at_fn, ai_put_fn, ai_it_fn, ai_ar_fn, ai_psh_fn, ai_ln_fn]
    rfl
  | ladd =>
    show ai_h_ladd ai_at ai_put ai_in32f ai_arf ai_psh ai_ln  own nL ini scr mc ms len r1 r2 pc ce sl T M l st = _
    rw [ai_at_fn, ai_put_fn, ai_it_fn, ai_ar_fn, ai_psh_fn, ai_ln_fn]
    rfl
  | lsub =>
    show ai_h_lsub ai_at ai_put ai_in32f ai_arf ai_psh ai_ln  own nL ini scr mc ms len r1 r2 pc ce sl T M l st = _
    rw [ai_at_fn, ai_put_fn, ai_it_fn, ai_ar_fn, ai_psh_fn, ai_ln_fn]
    rfl
  | lmul =>
    show ai_h_lmul ai_at ai_put ai_in32f ai_arf ai_psh ai_ln  own nL ini scr mc ms len r1 r2 pc ce sl T M l st = _
    rw [ai_at_fn, ai_put_fn, ai_it_fn, ai_ar_fn, ai_psh_fn, ai_ln_fn]
    rfl
  | ldiv =>
    show ai_h_ldiv ai_at ai_put ai_in32f ai_arf ai_psh ai_ln  own nL ini scr mc ms len r1 r2 pc ce sl T M l st = _
    rw [ai_at_fn, ai_put_fn, ai_it_fn, ai_ar_fn, ai_psh_fn, ai_ln_fn]
    rfl
  | lrem =>
    show ai_h_lrem ai_at ai_put ai_in32f ai_arf ai_psh ai_ln  own nL ini scr mc ms len r1 r2 pc ce sl T M l st = _
    rw [ai_at_fn, ai_put_fn, ai_it_fn, ai_ar_fn, ai_psh_fn, ai_ln_fn]
    rfl
  | lcmp =>
    show ai_h_lcmp ai_at ai_put ai_in32f ai_arf ai_psh ai_ln  own nL ini scr mc ms len r1 r2 pc ce sl T M l st = _
    rw [ai_at_fn, ai_put_fn, ai_it_fn, ai_ar_fn, ai_psh_fn, ai_ln_fn]
    unfold ai_h_lcmp
    rw [ai_ltg_fn, ai_eqg_fn]
    rfl
  | i2l =>
    show ai_h_i2l ai_at ai_put ai_in32f ai_arf ai_psh ai_ln  own nL ini scr mc ms len r1 r2 pc ce sl T M l st = _
    rw [ai_at_fn, ai_put_fn, ai_it_fn, ai_ar_fn, ai_psh_fn, ai_ln_fn]
    rfl
  | l2i =>
    show ai_h_l2i ai_at ai_put ai_in32f ai_arf ai_psh ai_ln  own nL ini scr mc ms len r1 r2 pc ce sl T M l st = _
    rw [ai_at_fn, ai_put_fn, ai_it_fn, ai_ar_fn, ai_psh_fn, ai_ln_fn]
    rfl
  | dup =>
    show ai_h_dup ai_at ai_put ai_in32f ai_arf ai_psh ai_ln  own nL ini scr mc ms len r1 r2 pc ce sl T M l st = _
    rw [ai_at_fn, ai_put_fn, ai_it_fn, ai_ar_fn, ai_psh_fn, ai_ln_fn]
    rfl
  | dup2 =>
    show ai_h_dup2 ai_at ai_put ai_in32f ai_arf ai_psh ai_ln  own nL ini scr mc ms len r1 r2 pc ce sl T M l st = _
    rw [ai_at_fn, ai_put_fn, ai_it_fn, ai_ar_fn, ai_psh_fn, ai_ln_fn]
    rfl
  | pop =>
    show ai_h_pop ai_at ai_put ai_in32f ai_arf ai_psh ai_ln  own nL ini scr mc ms len r1 r2 pc ce sl T M l st = _
    rw [ai_at_fn, ai_put_fn, ai_it_fn, ai_ar_fn, ai_psh_fn, ai_ln_fn]
    rfl
  | pop2 =>
    show ai_h_pop2 ai_at ai_put ai_in32f ai_arf ai_psh ai_ln  own nL ini scr mc ms len r1 r2 pc ce sl T M l st = _
    rw [ai_at_fn, ai_put_fn, ai_it_fn, ai_ar_fn, ai_psh_fn, ai_ln_fn]
    rfl
  | goto x0 =>
    show ai_h_goto ai_at ai_put ai_in32f ai_arf ai_psh ai_ln x0 own nL ini scr mc ms len r1 r2 pc ce sl T M l st = _
    rw [ai_at_fn, ai_put_fn, ai_it_fn, ai_ar_fn, ai_psh_fn, ai_ln_fn]
    rfl
  | ifCond x0 x1 =>
    show ai_h_ifCond ai_at ai_put ai_in32f ai_arf ai_psh ai_ln x0 x1 own nL ini scr mc ms len r1 r2 pc ce sl T M l st = _
    rw [ai_at_fn, ai_put_fn, ai_it_fn, ai_ar_fn, ai_psh_fn, ai_ln_fn]
    unfold ai_h_ifCond
    rw [ai_cmpg_fn]
    rfl
  | if_icmp x0 x1 =>
    show ai_h_if_icmp ai_at ai_put ai_in32f ai_arf ai_psh ai_ln x0 x1 own nL ini scr mc ms len r1 r2 pc ce sl T M l st = _
    rw [ai_at_fn, ai_put_fn, ai_it_fn, ai_ar_fn, ai_psh_fn, ai_ln_fn]
    unfold ai_h_if_icmp
    rw [ai_cmpg_fn]
    rfl
  | tableswitch x0 x1 x2 x3 =>
    show ai_h_tableswitch ai_at ai_put ai_in32f ai_arf ai_psh ai_ln x0 x1 x2 x3 own nL ini scr mc ms len r1 r2 pc ce sl T M l st = _
    rw [ai_at_fn, ai_put_fn, ai_it_fn, ai_ar_fn, ai_psh_fn, ai_ln_fn]
    rfl
  | lookupswitch x0 x1 =>
    show ai_h_lookupswitch ai_at ai_put ai_in32f ai_arf ai_psh ai_ln x0 x1 own nL ini scr mc ms len r1 r2 pc ce sl T M l st = _
    rw [ai_at_fn, ai_put_fn, ai_it_fn, ai_ar_fn, ai_psh_fn, ai_ln_fn]
    rfl
  | getfield x0 =>
    show ai_h_getfield ai_at ai_put ai_in32f ai_arf ai_psh ai_ln  own nL ini scr mc ms len r1 r2 pc ce sl T M l st = _
    rw [ai_at_fn, ai_put_fn, ai_it_fn, ai_ar_fn, ai_psh_fn, ai_ln_fn]
    rfl
  | putfield x0 =>
    show ai_h_putfield ai_at ai_put ai_in32f ai_arf ai_psh ai_ln  own nL ini scr mc ms len r1 r2 pc ce sl T M l st = _
    rw [ai_at_fn, ai_put_fn, ai_it_fn, ai_ar_fn, ai_psh_fn, ai_ln_fn]
    rfl
  | getstatic x0 =>
    show ai_h_getstatic ai_at ai_put ai_in32f ai_arf ai_psh ai_ln  own nL ini scr mc ms len r1 r2 pc ce sl T M l st = _
    rw [ai_at_fn, ai_put_fn, ai_it_fn, ai_ar_fn, ai_psh_fn, ai_ln_fn]
    rfl
  | ldc x0 =>
    show ai_h_ldc ai_at ai_put ai_in32f ai_arf ai_psh ai_ln  own nL ini scr mc ms len r1 r2 pc ce sl T M l st = _
    rw [ai_at_fn, ai_put_fn, ai_it_fn, ai_ar_fn, ai_psh_fn, ai_ln_fn]
    rfl
  | ldc_w x0 =>
    show ai_h_ldc_w ai_at ai_put ai_in32f ai_arf ai_psh ai_ln  own nL ini scr mc ms len r1 r2 pc ce sl T M l st = _
    rw [ai_at_fn, ai_put_fn, ai_it_fn, ai_ar_fn, ai_psh_fn, ai_ln_fn]
    rfl
  | ldc2_w x0 =>
    show ai_h_ldc2_w ai_at ai_put ai_in32f ai_arf ai_psh ai_ln  own nL ini scr mc ms len r1 r2 pc ce sl T M l st = _
    rw [ai_at_fn, ai_put_fn, ai_it_fn, ai_ar_fn, ai_psh_fn, ai_ln_fn]
    rfl
  | iaload =>
    show ai_h_iaload ai_at ai_put ai_in32f ai_arf ai_psh ai_ln  own nL ini scr mc ms len r1 r2 pc ce sl T M l st = _
    rw [ai_at_fn, ai_put_fn, ai_it_fn, ai_ar_fn, ai_psh_fn, ai_ln_fn]
    unfold ai_h_iaload
    rw [ai_rdg_fn]
    rfl
  | baload =>
    show ai_h_baload ai_at ai_put ai_in32f ai_arf ai_psh ai_ln  own nL ini scr mc ms len r1 r2 pc ce sl T M l st = _
    rw [ai_at_fn, ai_put_fn, ai_it_fn, ai_ar_fn, ai_psh_fn, ai_ln_fn]
    unfold ai_h_baload
    rw [ai_rdg_fn]
    rfl
  | aaload =>
    show ai_h_aaload ai_at ai_put ai_in32f ai_arf ai_psh ai_ln  own nL ini scr mc ms len r1 r2 pc ce sl T M l st = _
    rw [ai_at_fn, ai_put_fn, ai_it_fn, ai_ar_fn, ai_psh_fn, ai_ln_fn]
    rfl
  | arraylength =>
    show ai_h_arraylength ai_at ai_put ai_in32f ai_arf ai_psh ai_ln  own nL ini scr mc ms len r1 r2 pc ce sl T M l st = _
    rw [ai_at_fn, ai_put_fn, ai_it_fn, ai_ar_fn, ai_psh_fn, ai_ln_fn]
    rfl
  | iastore =>
    show ai_h_iastore ai_at ai_put ai_in32f ai_arf ai_psh ai_ln  own nL ini scr mc ms len r1 r2 pc ce sl T M l st = _
    rw [ai_at_fn, ai_put_fn, ai_it_fn, ai_ar_fn, ai_psh_fn, ai_ln_fn]
    rfl
  | bastore =>
    show ai_h_bastore ai_at ai_put ai_in32f ai_arf ai_psh ai_ln  own nL ini scr mc ms len r1 r2 pc ce sl T M l st = _
    rw [ai_at_fn, ai_put_fn, ai_it_fn, ai_ar_fn, ai_psh_fn, ai_ln_fn]
    rfl
  | newarray t =>
    show ai_h_newarray ai_at ai_put ai_in32f ai_arf ai_psh ai_ln t own nL ini scr mc ms len r1 r2 pc ce sl T M l st = _
    rw [ai_at_fn, ai_put_fn, ai_it_fn, ai_ar_fn, ai_psh_fn, ai_ln_fn]
    cases t <;> rfl
  | multianewarray i d =>
    match d with
    | 0 => rfl
    | 1 => rfl
    | 2 =>
      show ai_h_multianewarray ai_at ai_put ai_in32f ai_arf ai_psh ai_ln own nL ini scr mc ms len r1 r2 pc ce sl T M l st = _
      rw [ai_at_fn, ai_put_fn, ai_it_fn, ai_ar_fn, ai_psh_fn, ai_ln_fn]
      rfl
    | _ + 3 => rfl
  | new x0 =>
    show ai_h_new ai_at ai_put ai_in32f ai_arf ai_psh ai_ln  own nL ini scr mc ms len r1 r2 pc ce sl T M l st = _
    rw [ai_at_fn, ai_put_fn, ai_it_fn, ai_ar_fn, ai_psh_fn, ai_ln_fn]
    rfl
  | invokespecial x0 =>
    show ai_h_invokespecial ai_at ai_put ai_in32f ai_arf ai_psh ai_ln  own nL ini scr mc ms len r1 r2 pc ce sl T M l st = _
    rw [ai_at_fn, ai_put_fn, ai_it_fn, ai_ar_fn, ai_psh_fn, ai_ln_fn]
    rfl
  | invokestatic x0 =>
    show ai_h_invokestatic ai_at ai_put ai_in32f ai_arf ai_psh ai_ln  own nL ini scr mc ms len r1 r2 pc ce sl T M l st = _
    rw [ai_at_fn, ai_put_fn, ai_it_fn, ai_ar_fn, ai_psh_fn, ai_ln_fn]
    unfold ai_h_invokestatic
    rw [ai_ltg_fn]
    rfl
  | _ => rfl
theorem ai_sel_ok' {own nL : Nat} {ini scr : Bool} {mc ms : Nat} {ins : Instr} {len r1 r2 pc ce sl : Nat} {T : ai_T} {M : ai_M} {l : ai_L} {st : List ai_V} {r : ai_R} (h : (ai_hw ins).1 own nL ini scr mc ms len r1 r2 pc ce sl T M l st = r) : ai_step own nL ini scr mc ms ins len r1 r2 pc ce sl T M l st = r := (ai_sel_ok own nL ini scr mc ms ins len r1 r2 pc ce sl T M l st).symm.trans h
theorem ai_iig_ok (T : ai_T) (a : ai_V) : ai_iig ai_at ai_put ai_in32f ai_arf ai_psh ai_ln T a = ai_ii T a := by
  rw [ai_at_fn, ai_put_fn, ai_it_fn, ai_ar_fn, ai_psh_fn, ai_ln_fn]
  rfl
theorem ai_llg_ok (T : ai_T) (a : ai_V) : ai_llg ai_at ai_put ai_in32f ai_arf ai_psh ai_ln T a = ai_ll T a := by
  rw [ai_at_fn, ai_put_fn, ai_it_fn, ai_ar_fn, ai_psh_fn, ai_ln_fn]
  rfl
end
