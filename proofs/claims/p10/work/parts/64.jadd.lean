/-! ADD: rows for arrays of arrays, for a copy -/
def hcp (n : Nat) (f g : Nat → Int) : Nat → Int := fun j => if j < n then f j else g j
section JR2
variable {L own nL i : Nat} {xs : Nat → Int32} {ini : Bool} {J : mj_JT}
variable {M M' : mj_M} {pc r1 r2 : Nat} {lo : mj_L} {st : List Value}
theorem jr_aald (R1 : mj_R1 L xs i own nL ini 0 0 J) {q n r : Nat} {g : Nat → Option Nat} {x : Int} (hc : mj_cd i pc = some (.aaload, 1, r1, r2)) (hM : M[q]? = some (.inl (2, n, .inr (.inr (.inr (.inr g)))))) (h0 : 0 ≤ x) (h1 : x < n) (hn : n ≤ 100000) (hg : g x.toNat = some r) (k : J 0 0 M (pc + 1) lo (.ref r :: st)) : J 0 0 M pc lo (hv x :: .ref q :: st) := by
  obtain ⟨a, b⟩ := hvi h0 h1 hn
  exact jr R1 hc (by simp [mj_st, mj_pu, mj_me, hM, a, b, hg, mj_go]) k
theorem jr_acp (R1 : mj_R1 L xs i own nL ini 0 0 J) {idx q0 q1 n0 n1 : Nat} {f g : Nat → Int} {n : Nat} (hc : mj_cd i pc = some (.invokestatic idx, 3, 1001, r2)) (h0 : M[q0]? = some (hA 0 n0 f)) (h1 : M[q1]? = some (hA 0 n1 g)) (hn : n ≤ n0) (hn1 : n ≤ n1) (hn9 : n ≤ 100000) (hst : mj_cs st ≤ 8) (hM' : M.set q1 (hA 0 n1 (hcp n f g)) = M') (k : J 0 0 M' (pc + 3) lo st) : J 0 0 M pc lo (hv (n : Int) :: hv 0 :: .ref q1 :: hv 0 :: .ref q0 :: st) := by
  have hx : hr (n : Int) := ⟨by omega, by omega⟩
  have e1 : (Int32.ofInt (n : Int)).toNatClampNeg = n := by
    show (Int32.ofInt (n : Int)).toInt.toNat = _
    rw [hr_to hx]
    rfl
  have e2 : ¬ (Int32.ofInt (n : Int)) < 0 := by
    rw [show (0 : Int32) = Int32.ofInt 0 from rfl, hi_lt hx ⟨by decide, by decide⟩]
    omega
  have e3 : (Int32.ofInt 0).toNatClampNeg = 0 := by decide
  have e4 : ¬ (Int32.ofInt 0) < 0 := by decide
  have e5 : va_cpy (fun j => Int32.ofInt (f j)) (fun j => Int32.ofInt (g j)) 0 0 n = fun j => Int32.ofInt (hcp n f g j) := by
    funext j
    unfold va_cpy hcp
    by_cases h : j < n
    · rw [if_pos ⟨Nat.zero_le _, by omega⟩, if_pos h, show 0 + (j - 0) = j by omega]
    · rw [if_neg (by omega), if_neg h]
  refine jr R1 hc ?_ k
  have e : mj_st L xs own nL ini (.invokestatic idx) 3 1001 r2 M pc lo (hv (n : Int) :: hv 0 :: .ref q1 :: hv 0 :: .ref q0 :: st) = (if (Int32.ofInt 0) < 0 ∨ (Int32.ofInt 0) < 0 ∨ (Int32.ofInt (n : Int)) < 0 ∨ n0 < (Int32.ofInt 0).toNatClampNeg + (Int32.ofInt (n : Int)).toNatClampNeg ∨ n1 < (Int32.ofInt 0).toNatClampNeg + (Int32.ofInt (n : Int)).toNatClampNeg then none else mj_go (M.set q1 (.inl (0, n1, .inl (va_cpy (fun j => Int32.ofInt (f j)) (fun j => Int32.ofInt (g j)) (Int32.ofInt 0).toNatClampNeg (Int32.ofInt 0).toNatClampNeg (Int32.ofInt (n : Int)).toNatClampNeg)))) (pc + 3) lo st) := by
    simp [mj_st, mj_pu, mj_me, h0, h1, hst]
  rw [e, e1, e3, if_neg (by
    intro h
    rcases h with h | h | h | h | h
    · exact e4 h
    · exact e4 h
    · exact e2 h
    · omega
    · omega), e5, hM']
  rfl
end JR2
section RDB
variable {B : mj_M} {n tk at' fl sc : Int} {S P V ST E : Nat → Int}
theorem rd_o (hB : 25 ≤ B.length) {k : Nat} (h : k < 18) : (rd B n tk at' fl sc S P V ST E)[k]? = B[k]? := by
  rw [rd_get hB, if_neg (by omega), if_neg (by omega), if_neg (by omega), if_neg (by omega), if_neg (by omega), if_neg (by omega)]
theorem rd_so {k : Nat} {x : va_E} (h : k < 18) : (rd B n tk at' fl sc S P V ST E).set k x = rd (B.set k x) n tk at' fl sc S P V ST E := by
  unfold rd
  rw [List.set_comm _ _ (by omega : (18 : Nat) ≠ k), List.set_comm _ _ (by omega : (24 : Nat) ≠ k), List.set_comm _ _ (by omega : (23 : Nat) ≠ k), List.set_comm _ _ (by omega : (22 : Nat) ≠ k), List.set_comm _ _ (by omega : (21 : Nat) ≠ k), List.set_comm _ _ (by omega : (20 : Nat) ≠ k)]
end RDB
