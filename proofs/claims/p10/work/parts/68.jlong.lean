/-! LONG ROWS -/
abbrev hl (z : Int) : Value := .long (Int64.ofInt z)
def hR (z : Int) : Prop := -9223372036854775808 ≤ z ∧ z ≤ 9223372036854775807
theorem hR_to {z : Int} (h : hR z) : (Int64.ofInt z).toInt = z := Int64.toInt_ofInt_of_le (by have := h.1; omega) (by have := h.2; omega)
def hcmp (a b : Int) : Int := if b < a then 1 else if a = b then 0 else -1
theorem hl_lt {a b : Int} (ha : hR a) (hb : hR b) : (Int64.ofInt a < Int64.ofInt b) ↔ a < b := by
  rw [Int64.lt_iff_toInt_lt, hR_to ha, hR_to hb]
theorem hl_eq {a b : Int} (ha : hR a) (hb : hR b) : (Int64.ofInt a = Int64.ofInt b) ↔ a = b := by
  constructor
  · intro h
    have := congrArg Int64.toInt h
    rw [hR_to ha, hR_to hb] at this
    exact this
  · intro h; rw [h]
section JL
variable {L own nL i : Nat} {xs : Nat → Int32} {ini : Bool} {J : mj_JT}
variable {M : mj_M} {pc pc' len r1 r2 : Nat} {lo lo' : mj_L} {st : List Value}
theorem jl_const (R1 : mj_R1 L xs i own nL ini 0 0 J) {n : Fin 2} (hc : mj_cd i pc = some (.lconst n, 1, r1, r2)) (k : J 0 0 M (pc + 1) lo (hl ((n : Nat) : Int) :: st)) : J 0 0 M pc lo st := jr R1 hc rfl k
theorem jl_ldc (R1 : mj_R1 L xs i own nL ini 0 0 J) {n : Nat} {z : Int} (hc : mj_cd i pc = some (.ldc2_w n, 3, r1, r2)) (h9 : r1 < 999) (hz : mj_cv r1 = hl z) (k : J 0 0 M (pc + 3) lo (hl z :: st)) : J 0 0 M pc lo st := jr R1 hc (by simp [mj_st, mj_pu, mj_me, h9, hz, mj_go]) k
theorem jl_load_n (R1 : mj_R1 L xs i own nL ini 0 0 J) {n : Fin 4} {x : Int} (hc : mj_cd i pc = some (.lload_n n, 1, r1, r2)) (hl9 : mj_lk lo (n : Nat) = some (hl x)) (k : J 0 0 M (pc + 1) lo (hl x :: st)) : J 0 0 M pc lo st := jr R1 hc (by simp [mj_st, mj_pu, hl9, mj_go]) k
theorem jl_load (R1 : mj_R1 L xs i own nL ini 0 0 J) {n : Nat} {x : Int} (hc : mj_cd i pc = some (.lload n, 2, r1, r2)) (hl9 : mj_lk lo n = some (hl x)) (k : J 0 0 M (pc + 2) lo (hl x :: st)) : J 0 0 M pc lo st := jr R1 hc (by simp [mj_st, mj_pu, hl9, mj_go]) k
theorem jl_add (R1 : mj_R1 L xs i own nL ini 0 0 J) {a b : Int} (hc : mj_cd i pc = some (.ladd, 1, r1, r2)) (k : J 0 0 M (pc + 1) lo (hl (a + b) :: st)) : J 0 0 M pc lo (hl b :: hl a :: st) := jr R1 hc rfl (by
  rw [← Int64.ofInt_add]
  exact k)
theorem jl_sub (R1 : mj_R1 L xs i own nL ini 0 0 J) {a b : Int} (hc : mj_cd i pc = some (.lsub, 1, r1, r2)) (k : J 0 0 M (pc + 1) lo (hl (a - b) :: st)) : J 0 0 M pc lo (hl b :: hl a :: st) := jr R1 hc rfl (by
  rw [← Int64.ofInt_sub]
  exact k)
theorem jl_mul (R1 : mj_R1 L xs i own nL ini 0 0 J) {a b : Int} (hc : mj_cd i pc = some (.lmul, 1, r1, r2)) (k : J 0 0 M (pc + 1) lo (hl (a * b) :: st)) : J 0 0 M pc lo (hl b :: hl a :: st) := jr R1 hc rfl (by
  rw [← Int64.ofInt_mul]
  exact k)
theorem jl_i2l (R1 : mj_R1 L xs i own nL ini 0 0 J) {a : Int} (ha : hr a) (hc : mj_cd i pc = some (.i2l, 1, r1, r2)) (k : J 0 0 M (pc + 1) lo (hl a :: st)) : J 0 0 M pc lo (hv a :: st) := jr R1 hc rfl (by
  have e : (Int32.ofInt a).toInt64 = Int64.ofInt a := by
    apply Int64.toInt_inj.mp
    rw [Int32.toInt_toInt64, hr_to ha, hR_to ⟨by have := ha.1; omega, by have := ha.2; omega⟩]
  rw [e]
  exact k)
theorem jl_cmp (R1 : mj_R1 L xs i own nL ini 0 0 J) {a b : Int} (ha : hR a) (hb : hR b) (hc : mj_cd i pc = some (.lcmp, 1, r1, r2)) (k : J 0 0 M (pc + 1) lo (hv (hcmp a b) :: st)) : J 0 0 M pc lo (hl b :: hl a :: st) := jr R1 hc rfl (by
  have e : lg_cmp (Int64.ofInt a) (Int64.ofInt b) = Int32.ofInt (hcmp a b) := by
    unfold lg_cmp hcmp
    simp only [gt_iff_lt, hl_lt hb ha, hl_eq ha hb]
    split
    · rfl
    · split <;> rfl
  rw [e]
  exact k)
end JL
