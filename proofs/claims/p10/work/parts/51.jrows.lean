/-! ROWS: one instruction a row, numbers as integers -/
abbrev hv (z : Int) : Value := .int (Int32.ofInt z)
def hr (z : Int) : Prop := -2147483648 ≤ z ∧ z ≤ 2147483647
theorem hr_to {z : Int} (h : hr z) : (Int32.ofInt z).toInt = z := Int32.toInt_ofInt_of_le (by have := h.1; omega) (by have := h.2; omega)
def hcb (c : Jvm.ClassFile.Cond) (a b : Int) : Bool := match c with
  | .eq => decide (a = b)
  | .ne => decide (¬ a = b)
  | .lt => decide (a < b)
  | .ge => decide (b ≤ a)
  | .gt => decide (b < a)
  | .le => decide (a ≤ b)
theorem hi_lt {a b : Int} (ha : hr a) (hb : hr b) : (Int32.ofInt a < Int32.ofInt b) ↔ a < b := by
  rw [Int32.lt_iff_toInt_lt, hr_to ha, hr_to hb]
theorem hi_le {a b : Int} (ha : hr a) (hb : hr b) : (Int32.ofInt a ≤ Int32.ofInt b) ↔ a ≤ b := by
  rw [Int32.le_iff_toInt_le, hr_to ha, hr_to hb]
theorem hi_eq {a b : Int} (ha : hr a) (hb : hr b) : (Int32.ofInt a = Int32.ofInt b) ↔ a = b := by
  rw [← Int32.toInt_inj, hr_to ha, hr_to hb]
/-- an int row -/
abbrev hA (t n : Nat) (g : Nat → Int) : va_E := .inl (t, n, .inl (fun j => Int32.ofInt (g j)))
def hu (g : Nat → Int) (k : Nat) (z : Int) : Nat → Int := fun j => if j = k then z else g j
theorem hu_upd (g : Nat → Int) (k : Nat) (z : Int) : upd (fun j => Int32.ofInt (g j)) k (Int32.ofInt z) = fun j => Int32.ofInt (hu g k z j) := by
  funext j
  unfold upd hu
  split <;> rfl
section JR
variable {L own nL i : Nat} {xs : Nat → Int32} {ini : Bool} {J : mj_JT}
variable {M : mj_M} {pc pc' len r1 r2 : Nat} {lo lo' : mj_L} {st : List Value}
theorem jr (R1 : mj_R1 L xs i own nL ini 0 0 J) {ins : Instr} {M' : mj_M} {st' : List Value} (hc : mj_cd i pc = some (ins, len, r1, r2)) (hs : mj_st L xs own nL ini ins len r1 r2 M pc lo st = some (0, 0, M', pc', lo', st')) (k : J 0 0 M' pc' lo' st') : J 0 0 M pc lo st :=
  R1 0 0 M pc lo st ins len r1 r2 0 0 M' pc' lo' st' hc hs (Nat.le_refl 0) (Nat.le_refl 0) k
theorem jr_iconst (R1 : mj_R1 L xs i own nL ini 0 0 J) {n : Int} (hc : mj_cd i pc = some (.iconst n, 1, r1, r2)) (k : J 0 0 M (pc + 1) lo (hv n :: st)) : J 0 0 M pc lo st := jr R1 hc rfl k
theorem jr_bipush (R1 : mj_R1 L xs i own nL ini 0 0 J) {n : Int} (hc : mj_cd i pc = some (.bipush n, 2, r1, r2)) (hn : (Int8.ofInt n).toInt32 = Int32.ofInt n) (k : J 0 0 M (pc + 2) lo (hv n :: st)) : J 0 0 M pc lo st := jr R1 hc rfl (by rw [hn]; exact k)
theorem jr_sipush (R1 : mj_R1 L xs i own nL ini 0 0 J) {n : Int} (hc : mj_cd i pc = some (.sipush n, 3, r1, r2)) (hn : (Int16.ofInt n).toInt32 = Int32.ofInt n) (k : J 0 0 M (pc + 3) lo (hv n :: st)) : J 0 0 M pc lo st := jr R1 hc rfl (by rw [hn]; exact k)
theorem jr_iload_n (R1 : mj_R1 L xs i own nL ini 0 0 J) {n : Fin 4} {x : Int} (hc : mj_cd i pc = some (.iload_n n, 1, r1, r2)) (hl : mj_lk lo (n : Nat) = some (hv x)) (k : J 0 0 M (pc + 1) lo (hv x :: st)) : J 0 0 M pc lo st := jr R1 hc (by simp [mj_st, mj_pu, hl, mj_go]) k
theorem jr_iload (R1 : mj_R1 L xs i own nL ini 0 0 J) {n : Nat} {x : Int} (hc : mj_cd i pc = some (.iload n, 2, r1, r2)) (hl : mj_lk lo n = some (hv x)) (k : J 0 0 M (pc + 2) lo (hv x :: st)) : J 0 0 M pc lo st := jr R1 hc (by simp [mj_st, mj_pu, hl, mj_go]) k
theorem jr_aload_n (R1 : mj_R1 L xs i own nL ini 0 0 J) {n : Fin 4} {x : Nat} (hc : mj_cd i pc = some (.aload_n n, 1, r1, r2)) (hl : mj_lk lo (n : Nat) = some (.ref x)) (k : J 0 0 M (pc + 1) lo (.ref x :: st)) : J 0 0 M pc lo st := jr R1 hc (by simp [mj_st, mj_pu, hl, mj_go]) k
theorem jr_aload_x (R1 : mj_R1 L xs i own nL ini 0 0 J) {n : Fin 4} {x : Nat} (hc : mj_cd i pc = some (.aload_n n, 1, r1, r2)) (hl : mj_lk lo (n : Nat) = some (.retAddr x)) (k : J 0 0 M (pc + 1) lo (.retAddr x :: st)) : J 0 0 M pc lo st := jr R1 hc (by simp [mj_st, mj_pu, hl, mj_go]) k
theorem jr_istore_n (R1 : mj_R1 L xs i own nL ini 0 0 J) {n : Fin 4} {x : Int} (hc : mj_cd i pc = some (.istore_n n, 1, r1, r2)) (hn : (n : Nat) < nL) (hl : mj_s1 lo (n : Nat) (hv x) = lo') (k : J 0 0 M (pc + 1) lo' st) : J 0 0 M pc lo (hv x :: st) := jr R1 hc (by simp [mj_st, mj_pu, hn, hl, mj_go]) k
theorem jr_istore (R1 : mj_R1 L xs i own nL ini 0 0 J) {n : Nat} {x : Int} (hc : mj_cd i pc = some (.istore n, 2, r1, r2)) (hn : n < nL) (hl : mj_s1 lo n (hv x) = lo') (k : J 0 0 M (pc + 2) lo' st) : J 0 0 M pc lo (hv x :: st) := jr R1 hc (by simp [mj_st, mj_pu, hn, hl, mj_go]) k
theorem jr_iinc (R1 : mj_R1 L xs i own nL ini 0 0 J) {n : Nat} {x z : Int} (hc : mj_cd i pc = some (.iinc n z, 3, r1, r2)) (hn : n < nL) (hx : mj_lk lo n = some (hv x)) (hl : mj_s1 lo n (hv (x + z)) = lo') (k : J 0 0 M (pc + 3) lo' st) : J 0 0 M pc lo st := jr R1 hc (by
  have e : Int32.ofInt x + Int32.ofInt z = Int32.ofInt (x + z) := (Int32.ofInt_add x z).symm
  have e2 : mj_st L xs own nL ini (.iinc n z) 3 r1 r2 M pc lo st = some (0, 0, M, pc + 3, mj_s1 lo n (.int (Int32.ofInt x + Int32.ofInt z)), st) := by
    unfold mj_st mj_pu
    simp only [hx, if_pos hn]
    rfl
  rw [e2, e, hl]) k
theorem jr_iadd (R1 : mj_R1 L xs i own nL ini 0 0 J) {a b : Int} (hc : mj_cd i pc = some (.iadd, 1, r1, r2)) (k : J 0 0 M (pc + 1) lo (hv (a + b) :: st)) : J 0 0 M pc lo (hv b :: hv a :: st) := jr R1 hc rfl (by
  rw [← Int32.ofInt_add]
  exact k)
theorem jr_isub (R1 : mj_R1 L xs i own nL ini 0 0 J) {a b : Int} (hc : mj_cd i pc = some (.isub, 1, r1, r2)) (k : J 0 0 M (pc + 1) lo (hv (a - b) :: st)) : J 0 0 M pc lo (hv b :: hv a :: st) := jr R1 hc rfl (by
  rw [← Int32.ofInt_sub]
  exact k)
theorem jr_imul (R1 : mj_R1 L xs i own nL ini 0 0 J) {a b : Int} (hc : mj_cd i pc = some (.imul, 1, r1, r2)) (k : J 0 0 M (pc + 1) lo (hv (a * b) :: st)) : J 0 0 M pc lo (hv b :: hv a :: st) := jr R1 hc rfl (by
  rw [← Int32.ofInt_mul]
  exact k)
theorem jr_ineg (R1 : mj_R1 L xs i own nL ini 0 0 J) {a : Int} (hc : mj_cd i pc = some (.ineg, 1, r1, r2)) (k : J 0 0 M (pc + 1) lo (hv (-a) :: st)) : J 0 0 M pc lo (hv a :: st) := jr R1 hc rfl (by
  rw [← Int32.ofInt_neg]
  exact k)
theorem jr_pop (R1 : mj_R1 L xs i own nL ini 0 0 J) {a : Int} (hc : mj_cd i pc = some (.pop, 1, r1, r2)) (k : J 0 0 M (pc + 1) lo st) : J 0 0 M pc lo (hv a :: st) := jr R1 hc rfl k
theorem jr_dup_r (R1 : mj_R1 L xs i own nL ini 0 0 J) {a : Nat} (hc : mj_cd i pc = some (.dup, 1, r1, r2)) (k : J 0 0 M (pc + 1) lo (.ref a :: .ref a :: st)) : J 0 0 M pc lo (.ref a :: st) := jr R1 hc rfl k
theorem jr_goto (R1 : mj_R1 L xs i own nL ini 0 0 J) {off : Int} (hc : mj_cd i pc = some (.goto off, 3, r1, r2)) (ho : 0 ≤ (pc : Int) + off) (hp : ((pc : Int) + off).toNat = pc') (k : J 0 0 M pc' lo st) : J 0 0 M pc lo st := jr R1 hc (by simp [mj_st, mj_pu, mj_jp, ho, hp]) k
theorem hcb_br {c : Jvm.ClassFile.Cond} {off a b : Int} (ha : hr a) (hb : hr b) : mj_pu (.if_icmp c off) 3 nL M pc lo (hv b :: hv a :: st) = mj_br M pc off lo st (hcb c a b) := by
  cases c
  · show mj_br M pc off lo st (decide (Int32.ofInt a = Int32.ofInt b)) = _
    simp only [hi_eq ha hb, hcb]
  · show mj_br M pc off lo st (decide (¬ Int32.ofInt a = Int32.ofInt b)) = _
    simp only [hi_eq ha hb, hcb]
  · show mj_br M pc off lo st (decide (Int32.ofInt a < Int32.ofInt b)) = _
    simp only [hi_lt ha hb, hcb]
  · show mj_br M pc off lo st (decide (Int32.ofInt b ≤ Int32.ofInt a)) = _
    simp only [hi_le hb ha, hcb]
  · show mj_br M pc off lo st (decide (Int32.ofInt b < Int32.ofInt a)) = _
    simp only [hi_lt hb ha, hcb]
  · show mj_br M pc off lo st (decide (Int32.ofInt a ≤ Int32.ofInt b)) = _
    simp only [hi_le ha hb, hcb]
theorem hcb_br0 {c : Jvm.ClassFile.Cond} {off a : Int} (ha : hr a) : mj_pu (.ifCond c off) 3 nL M pc lo (hv a :: st) = mj_br M pc off lo st (hcb c a 0) := by
  have hb : hr 0 := ⟨by decide, by decide⟩
  have e : (0 : Int32) = Int32.ofInt 0 := rfl
  cases c
  · show mj_br M pc off lo st (decide (Int32.ofInt a = 0)) = _
    rw [e]
    simp only [hi_eq ha hb, hcb]
  · show mj_br M pc off lo st (decide (¬ Int32.ofInt a = 0)) = _
    rw [e]
    simp only [hi_eq ha hb, hcb]
  · show mj_br M pc off lo st (decide (Int32.ofInt a < 0)) = _
    rw [e]
    simp only [hi_lt ha hb, hcb]
  · show mj_br M pc off lo st (decide (0 ≤ Int32.ofInt a)) = _
    rw [e]
    simp only [hi_le hb ha, hcb]
  · show mj_br M pc off lo st (decide (0 < Int32.ofInt a)) = _
    rw [e]
    simp only [hi_lt hb ha, hcb]
  · show mj_br M pc off lo st (decide (Int32.ofInt a ≤ 0)) = _
    rw [e]
    simp only [hi_le ha hb, hcb]
theorem hbr_st {off : Int} {t : Bool} (ho : 0 ≤ (pc : Int) + off) (hp : (bif t then ((pc : Int) + off).toNat else pc + 3) = pc') : mj_br M pc off lo st t = some (0, 0, M, pc', lo, st) := by
  unfold mj_br
  rw [if_pos ho]
  cases t with
  | true => rw [← hp]; rfl
  | false => rw [← hp]; rfl
theorem jr_icmp (R1 : mj_R1 L xs i own nL ini 0 0 J) {c : Jvm.ClassFile.Cond} {off a b : Int} (t : Bool) (hc : mj_cd i pc = some (.if_icmp c off, 3, r1, r2)) (ha : hr a) (hb : hr b) (ht : hcb c a b = t) (ho : 0 ≤ (pc : Int) + off) (hp : (bif t then ((pc : Int) + off).toNat else pc + 3) = pc') (k : J 0 0 M pc' lo st) : J 0 0 M pc lo (hv b :: hv a :: st) :=
  jr R1 hc (by
    unfold mj_st
    rw [hcb_br ha hb, ht, hbr_st ho hp]) k
theorem jr_ifc (R1 : mj_R1 L xs i own nL ini 0 0 J) {c : Jvm.ClassFile.Cond} {off a : Int} (t : Bool) (hc : mj_cd i pc = some (.ifCond c off, 3, r1, r2)) (ha : hr a) (ht : hcb c a 0 = t) (ho : 0 ≤ (pc : Int) + off) (hp : (bif t then ((pc : Int) + off).toNat else pc + 3) = pc') (k : J 0 0 M pc' lo st) : J 0 0 M pc lo (hv a :: st) :=
  jr R1 hc (by
    unfold mj_st
    rw [hcb_br0 ha, ht, hbr_st ho hp]) k
theorem jr_getf (R1 : mj_R1 L xs i own nL ini 0 0 J) {q n : Nat} {fs : List Value} {v : Value} (hc : mj_cd i pc = some (.getfield n, 3, r1, r2)) (hM : M[q]? = some (.inr (r1, fs))) (h7 : r1 < 7) (hf : fs[r2]? = some v) (k : J 0 0 M (pc + 3) lo (v :: st)) : J 0 0 M pc lo (.ref q :: st) :=
  jr R1 hc (by simp [mj_st, mj_pu, mj_me, hM, h7, hf, mj_go]) k
theorem jr_putf (R1 : mj_R1 L xs i own nL ini 0 0 J) {q n : Nat} {fs : List Value} {v : Value} {M' : mj_M} (hc : mj_cd i pc = some (.putfield n, 3, r1, r2)) (hM : M[q]? = some (.inr (r1, fs))) (h7 : r1 < 7) (hl : r2 < fs.length) (hfit : mj_fit (mj_fty r1 r2) v = true) (hfin : mj_fin r1 r2 = false) (hM' : M.set q (.inr (r1, fs.set r2 v)) = M') (k : J 0 0 M' (pc + 3) lo st) : J 0 0 M pc lo (v :: .ref q :: st) :=
  jr R1 hc (by simp [mj_st, mj_pu, mj_me, hM, h7, hl, hfit, hfin, hM', mj_go]) k
theorem hvi {x : Int} {n : Nat} (h0 : 0 ≤ x) (h1 : x < n) (hn : n ≤ 100000) : mj_vi (Int32.ofInt x) n = true ∧ (Int32.ofInt x).toNatClampNeg = x.toNat := by
  have hx : hr x := ⟨by omega, by omega⟩
  refine ⟨ai_vi (by rw [hr_to hx]; exact h0) (by rw [hr_to hx]; exact h1), ?_⟩
  show (Int32.ofInt x).toInt.toNat = _
  rw [hr_to hx]
theorem jr_iald (R1 : mj_R1 L xs i own nL ini 0 0 J) {q n : Nat} {g : Nat → Int} {x : Int} (hc : mj_cd i pc = some (.iaload, 1, r1, r2)) (hM : M[q]? = some (hA 0 n g)) (h0 : 0 ≤ x) (h1 : x < n) (hn : n ≤ 100000) (k : J 0 0 M (pc + 1) lo (hv (g x.toNat) :: st)) : J 0 0 M pc lo (hv x :: .ref q :: st) := by
  obtain ⟨a, b⟩ := hvi h0 h1 hn
  exact jr R1 hc (by simp [mj_st, mj_pu, mj_me, hM, a, b, mj_go]) k
theorem jr_iast (R1 : mj_R1 L xs i own nL ini 0 0 J) {q n : Nat} {g : Nat → Int} {x z : Int} {M' : mj_M} (hc : mj_cd i pc = some (.iastore, 1, r1, r2)) (hM : M[q]? = some (hA 0 n g)) (h0 : 0 ≤ x) (h1 : x < n) (hn : n ≤ 100000) (hM' : M.set q (hA 0 n (hu g x.toNat z)) = M') (k : J 0 0 M' (pc + 1) lo st) : J 0 0 M pc lo (hv z :: hv x :: .ref q :: st) := by
  obtain ⟨a, b⟩ := hvi h0 h1 hn
  refine jr R1 hc ?_ k
  have e : mj_st L xs own nL ini .iastore 1 r1 r2 M pc lo (hv z :: hv x :: .ref q :: st) = (if mj_vi (Int32.ofInt x) n = true then mj_go (M.set q (.inl (0, n, .inl (upd (fun j => Int32.ofInt (g j)) (Int32.ofInt x).toNatClampNeg (Int32.ofInt z))))) (pc + 1) lo st else none) := by
    simp [mj_st, mj_pu, mj_me, hM]
  rw [e, if_pos a, b, hu_upd, hM']
  rfl
theorem jr_alen (R1 : mj_R1 L xs i own nL ini 0 0 J) {q n : Nat} {g : Nat → Int} (hc : mj_cd i pc = some (.arraylength, 1, r1, r2)) (hM : M[q]? = some (hA 0 n g)) (k : J 0 0 M (pc + 1) lo (hv (n : Int) :: st)) : J 0 0 M pc lo (.ref q :: st) :=
  jr R1 hc (by simp [mj_st, mj_pu, mj_me, hM, mj_go]; rfl) k
theorem jr_ret {Qr : Option Value → mj_M → Prop} (R3 : mj_R3 i (mj_rt i) 0 0 Qr J) (hc : mj_cd i pc = some (.return_, 1, r1, r2)) (ht : mj_rt i = none) (k : Qr none M) : J 0 0 M pc lo [] :=
  R3 0 0 M pc lo [] _ _ _ _ none hc (by rw [ht]; rfl) rfl (Nat.le_refl 0) k
theorem jr_reti {Qr : Option Value → mj_M → Prop} (R3 : mj_R3 i (mj_rt i) 0 0 Qr J) {x : Int} (hc : mj_cd i pc = some (.ireturn, 1, r1, r2)) (ht : mj_rt i = some .int) (k : Qr (some (hv x)) M) : J 0 0 M pc lo [hv x] :=
  R3 0 0 M pc lo [hv x] _ _ _ _ (some (hv x)) hc (by
    rw [ht]
    show (if narrow .int (.int (Int32.ofInt x)) = .int (Int32.ofInt x) then some (some (Value.int (Int32.ofInt x))) else none) = _
    exact if_pos rfl) rfl (Nat.le_refl 0) k
theorem jr_retb {Qr : Option Value → mj_M → Prop} (R3 : mj_R3 i (mj_rt i) 0 0 Qr J) {x : Int} (hc : mj_cd i pc = some (.ireturn, 1, r1, r2)) (ht : mj_rt i = some .boolean) (hx : x = 0 ∨ x = 1) (k : Qr (some (hv x)) M) : J 0 0 M pc lo [hv x] :=
  R3 0 0 M pc lo [hv x] _ _ _ _ (some (hv x)) hc (by rw [ht]; rcases hx with rfl | rfl <;> rfl) rfl (Nat.le_refl 0) k
/-- a call: of an object's method, of a class's -/
theorem jr_callv {lch : Launch} {d d' : Nat} {r1 idx : Nat} {as rest : List Value} {Q : Option Value → mj_M → Prop} (R2 : mj_R2 lch i d 0 0 J) (hc : mj_cd i pc = some (.invokevirtual idx, 3, r1, 0)) (h1 : r1 < mj_N) (hk : mj_ki r1 = 1) (hsp : mj_sp (mj_np r1 + 1) [] st = some (as, rest)) (hrc : mj_rc r1 M (as.headD .null) = true) (hM : mj_Me lch r1 d' 0 0 as M Q) (hd : d' + 1 ≤ d) (hcs : mj_cs rest ≤ 8)
    (k : ∀ (rv : Option Value) (M' : mj_M), Q rv M' → J 0 0 M' (pc + 3) lo (rv.toList ++ rest)) : J 0 0 M pc lo st :=
  R2 0 0 M pc lo st _ idx r1 0 as rest d' 0 0 Q hc (Or.inl rfl) h1 (Or.inl rfl) (by rw [hk]; rfl) (by rw [hk]; exact hsp) (fun _ => hrc) (fun e => by rw [hk] at e; cases e) hM hd (Nat.le_refl 0) (Nat.le_refl 0) hcs (fun rv M' q _ => k rv M' q)
theorem jr_calls {lch : Launch} {d d' : Nat} {r1 r2 idx : Nat} {as rest : List Value} {Q : Option Value → mj_M → Prop} (R2 : mj_R2 lch i d 0 0 J) (hc : mj_cd i pc = some (.invokestatic idx, 3, r1, r2)) (h1 : r1 < mj_N) (h2 : r2 = 0 ∨ r2 = 1) (hk : mj_ki r1 = 0) (hsp : mj_sp (mj_np r1) [] st = some (as, rest)) (hM : mj_Me lch r1 d' 0 0 as M Q) (hd : d' + 1 ≤ d) (hcs : mj_cs rest ≤ 8)
    (k : ∀ (rv : Option Value) (M' : mj_M), Q rv M' → J 0 0 M' (pc + 3) lo (rv.toList ++ rest)) : J 0 0 M pc lo st :=
  R2 0 0 M pc lo st _ idx r1 r2 as rest d' 0 0 Q hc (Or.inr (Or.inr rfl)) h1 h2 (by rw [hk]; rfl) (by rw [hk]; exact hsp) (fun e => by rw [hk] at e; cases e) (fun e => by rw [hk] at e; cases e) hM hd (Nat.le_refl 0) (Nat.le_refl 0) hcs (fun rv M' q _ => k rv M' q)
end JR
/-! THE READER'S CELLS -/
def rd (B : mj_M) (n tk at' fl sc : Int) (S P V ST E : Nat → Int) : mj_M := ((((((B.set 20 (hA 0 161 S)).set 21 (hA 0 161 P)).set 22 (hA 0 161 V)).set 23 (hA 0 160 ST)).set 24 (hA 0 3 E))).set 18 (.inr (1, [.ref 19, hv n, .ref 20, .ref 21, .ref 22, hv tk, hv at', hv fl, .ref 23, hv sc, .ref 24]))
section RD
variable {B : mj_M} {n tk at' fl sc n' tk' at'' fl' sc' : Int} {S P V ST E : Nat → Int}
theorem rd_get (hB : 25 ≤ B.length) (k : Nat) : (rd B n tk at' fl sc S P V ST E)[k]? = if k = 18 then some (.inr (1, [.ref 19, hv n, .ref 20, .ref 21, .ref 22, hv tk, hv at', hv fl, .ref 23, hv sc, .ref 24])) else if k = 24 then some (hA 0 3 E) else if k = 23 then some (hA 0 160 ST) else if k = 22 then some (hA 0 161 V) else if k = 21 then some (hA 0 161 P) else if k = 20 then some (hA 0 161 S) else B[k]? := by
  unfold rd
  simp only [List.getElem?_set, List.length_set]
  by_cases h1 : k = 18
  · subst h1; simp; omega
  · by_cases h2 : k = 24
    · subst h2; simp; omega
    · by_cases h3 : k = 23
      · subst h3; simp; omega
      · by_cases h4 : k = 22
        · subst h4; simp; omega
        · by_cases h5 : k = 21
          · subst h5; simp; omega
          · by_cases h6 : k = 20
            · subst h6; simp; omega
            · simp [h1, h2, h3, h4, h5, h6, Ne.symm h1, Ne.symm h2, Ne.symm h3, Ne.symm h4, Ne.symm h5, Ne.symm h6]
theorem rd_len : (rd B n tk at' fl sc S P V ST E).length = B.length := by
  unfold rd
  simp
theorem rd_18 (hB : 25 ≤ B.length) : (rd B n tk at' fl sc S P V ST E)[18]? = some (.inr (1, [.ref 19, hv n, .ref 20, .ref 21, .ref 22, hv tk, hv at', hv fl, .ref 23, hv sc, .ref 24])) := by rw [rd_get hB]; rfl
theorem rd_19 {T : va_E} (hB : 25 ≤ B.length) (h : B[19]? = some T) : (rd B n tk at' fl sc S P V ST E)[19]? = some T := by rw [rd_get hB]; exact h
theorem rd_20 (hB : 25 ≤ B.length) : (rd B n tk at' fl sc S P V ST E)[20]? = some (hA 0 161 S) := by rw [rd_get hB]; rfl
theorem rd_21 (hB : 25 ≤ B.length) : (rd B n tk at' fl sc S P V ST E)[21]? = some (hA 0 161 P) := by rw [rd_get hB]; rfl
theorem rd_22 (hB : 25 ≤ B.length) : (rd B n tk at' fl sc S P V ST E)[22]? = some (hA 0 161 V) := by rw [rd_get hB]; rfl
theorem rd_23 (hB : 25 ≤ B.length) : (rd B n tk at' fl sc S P V ST E)[23]? = some (hA 0 160 ST) := by rw [rd_get hB]; rfl
theorem rd_24 (hB : 25 ≤ B.length) : (rd B n tk at' fl sc S P V ST E)[24]? = some (hA 0 3 E) := by rw [rd_get hB]; rfl
theorem rd_set {q : Nat} {x : va_E} {M' : mj_M} (hB : 25 ≤ B.length) (hq : q < 25) (hl : M'.length = B.length) (h : ∀ k, M'[k]? = if k = q then some x else (rd B n tk at' fl sc S P V ST E)[k]?) : (rd B n tk at' fl sc S P V ST E).set q x = M' := by
  apply List.ext_getElem?
  intro k
  rw [List.getElem?_set, h, rd_len]
  by_cases e : k = q
  · subst e
    rw [if_pos rfl, if_pos rfl, if_pos (by omega)]
  · rw [if_neg (Ne.symm e), if_neg e]
theorem rd_p18 (hB : 25 ≤ B.length) : (rd B n tk at' fl sc S P V ST E).set 18 (.inr (1, [.ref 19, hv n', .ref 20, .ref 21, .ref 22, hv tk', hv at'', hv fl', .ref 23, hv sc', .ref 24])) = rd B n' tk' at'' fl' sc' S P V ST E := by
  refine rd_set hB (by omega) rd_len (fun k => ?_)
  rw [rd_get hB, rd_get hB]
  by_cases e : k = 18
  · subst e; rfl
  · simp only [if_neg e]
theorem rd_p20 {S' : Nat → Int} (hB : 25 ≤ B.length) : (rd B n tk at' fl sc S P V ST E).set 20 (hA 0 161 S') = rd B n tk at' fl sc S' P V ST E := by
  refine rd_set hB (by omega) rd_len (fun k => ?_)
  rw [rd_get hB, rd_get hB]
  by_cases e : k = 20
  · subst e; rfl
  · simp only [if_neg e]
theorem rd_p21 {S' : Nat → Int} (hB : 25 ≤ B.length) : (rd B n tk at' fl sc S P V ST E).set 21 (hA 0 161 S') = rd B n tk at' fl sc S S' V ST E := by
  refine rd_set hB (by omega) rd_len (fun k => ?_)
  rw [rd_get hB, rd_get hB]
  by_cases e : k = 21
  · subst e; rfl
  · simp only [if_neg e]
theorem rd_p22 {S' : Nat → Int} (hB : 25 ≤ B.length) : (rd B n tk at' fl sc S P V ST E).set 22 (hA 0 161 S') = rd B n tk at' fl sc S P S' ST E := by
  refine rd_set hB (by omega) rd_len (fun k => ?_)
  rw [rd_get hB, rd_get hB]
  by_cases e : k = 22
  · subst e; rfl
  · simp only [if_neg e]
theorem rd_p23 {S' : Nat → Int} (hB : 25 ≤ B.length) : (rd B n tk at' fl sc S P V ST E).set 23 (hA 0 160 S') = rd B n tk at' fl sc S P V S' E := by
  refine rd_set hB (by omega) rd_len (fun k => ?_)
  rw [rd_get hB, rd_get hB]
  by_cases e : k = 23
  · subst e; rfl
  · simp only [if_neg e]
theorem rd_p24 {S' : Nat → Int} (hB : 25 ≤ B.length) : (rd B n tk at' fl sc S P V ST E).set 24 (hA 0 3 S') = rd B n tk at' fl sc S P V ST S' := by
  refine rd_set hB (by omega) rd_len (fun k => ?_)
  rw [rd_get hB, rd_get hB]
  by_cases e : k = 24
  · subst e; rfl
  · simp only [if_neg e]
end RD
