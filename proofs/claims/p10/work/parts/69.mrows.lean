/-! THE MODEL'S OBJECT (cell 80) -/
theorem hR_hr {z : Int} (h : hr z) : hR z := ⟨by have := h.1; omega, by have := h.2; omega⟩
theorem hv_any (z : Int) : ∃ z', hr z' ∧ hv z = hv z' := by
  refine ⟨(Int32.ofInt z).toInt, ⟨?_, ?_⟩, ?_⟩
  · exact Int32.le_toInt _
  · have := Int32.toInt_lt (Int32.ofInt z)
    omega
  · show Value.int (Int32.ofInt z) = Value.int (Int32.ofInt (Int32.ofInt z).toInt)
    rw [Int32.ofInt_toInt]
theorem hcmp_hr {a b : Int} : hr (hcmp a b) := by
  unfold hcmp
  split
  · exact ⟨by omega, by omega⟩
  · split <;> exact ⟨by omega, by omega⟩
theorem hcb_cmp {c : Jvm.ClassFile.Cond} {a b : Int} : hcb c (hcmp a b) 0 = hcb c a b := by
  have e : (b < a ∧ hcmp a b = 1) ∨ (a = b ∧ hcmp a b = 0) ∨ (a < b ∧ hcmp a b = -1) := by
    unfold hcmp
    split
    · exact Or.inl ⟨by omega, rfl⟩
    · split
      · exact Or.inr (Or.inl ⟨by omega, rfl⟩)
      · exact Or.inr (Or.inr ⟨by omega, rfl⟩)
  rcases e with ⟨h1, h2⟩ | ⟨h1, h2⟩ | ⟨h1, h2⟩ <;> rw [h2] <;> cases c <;> unfold hcb <;> exact decide_eq_decide.mpr (by constructor <;> intro h <;> omega)
section JL2
variable {L own nL i : Nat} {xs : Nat → Int32} {ini : Bool} {J : mj_JT}
variable {M : mj_M} {pc pc' len r1 r2 r3 r4 : Nat} {lo lo' : mj_L} {st : List Value}
theorem jl_if (R1 : mj_R1 L xs i own nL ini 0 0 J) {c : Jvm.ClassFile.Cond} {off a b : Int} (t : Bool) (ha : hR a) (hb : hR b) (hc : mj_cd i pc = some (.lcmp, 1, r1, r2)) (hc2 : mj_cd i (pc + 1) = some (.ifCond c off, 3, r3, r4)) (ht : hcb c a b = t) (ho : 0 ≤ ((pc + 1 : Nat) : Int) + off) (hp : (bif t then (((pc + 1 : Nat) : Int) + off).toNat else pc + 1 + 3) = pc') (k : J 0 0 M pc' lo st) : J 0 0 M pc lo (hl b :: hl a :: st) :=
  jl_cmp R1 ha hb hc (jr_ifc R1 t hc2 hcmp_hr (by rw [hcb_cmp]; exact ht) ho hp k)
theorem jl_l2i (R1 : mj_R1 L xs i own nL ini 0 0 J) {a : Int} (hc : mj_cd i pc = some (.l2i, 1, r1, r2)) (k : J 0 0 M (pc + 1) lo (hv a :: st)) : J 0 0 M pc lo (hl a :: st) := jr R1 hc rfl (by
  rw [Int64.toInt32_ofInt]
  exact k)
end JL2
def mdf (A : Nat → Value) (U : Nat → Int) (Z : List Value) (tc tp fr sz he to ta wo op ba fa : Int) : List Value := A 0 :: .ref 81 :: .ref 82 :: hv tc :: A 4 :: .ref 83 :: hv tp :: A 7 :: A 8 :: A 9 :: A 10 :: A 11 :: A 12 :: A 13 :: A 14 :: hv (U 15) :: hv (U 16) :: hv (U 17) :: hv (U 18) :: hv (U 19) :: hv (U 20) :: hv fr :: hv sz :: hv he :: hv to :: hv ta :: hl wo :: hv op :: hv ba :: hv fa :: Z
def md (C : mj_M) (A : Nat → Value) (U : Nat → Int) (Z : List Value) (tc tp fr sz he to ta wo op ba fa : Int) : mj_M := C.set 80 (.inr (6, mdf A U Z tc tp fr sz he to ta wo op ba fa))
section MD
variable {C : mj_M} {A : Nat → Value} {U : Nat → Int} {Z : List Value} {tc tp fr sz he to ta wo op ba fa tc' tp' fr' sz' he' to' ta' wo' op' ba' fa' : Int}
theorem md_80 (hC : 84 ≤ C.length) : (md C A U Z tc tp fr sz he to ta wo op ba fa)[80]? = some (.inr (6, mdf A U Z tc tp fr sz he to ta wo op ba fa)) := List.getElem?_set_self (by omega)
theorem md_o {k : Nat} (h : 80 ≠ k) : (md C A U Z tc tp fr sz he to ta wo op ba fa)[k]? = C[k]? := List.getElem?_set_ne h
theorem md_p : (md C A U Z tc tp fr sz he to ta wo op ba fa).set 80 (.inr (6, mdf A U Z tc' tp' fr' sz' he' to' ta' wo' op' ba' fa')) = md C A U Z tc' tp' fr' sz' he' to' ta' wo' op' ba' fa' := List.set_set _
theorem md_pl {k : Nat} (h : k < 30) : k < (mdf A U Z tc tp fr sz he to ta wo op ba fa).length := by
  have : (mdf A U Z tc tp fr sz he to ta wo op ba fa).length = Z.length + 30 := rfl
  omega
theorem md_len : (md C A U Z tc tp fr sz he to ta wo op ba fa).length = C.length := List.length_set
theorem md_so {k : Nat} {x : va_E} (h : 80 ≠ k) : (md C A U Z tc tp fr sz he to ta wo op ba fa).set k x = md (C.set k x) A U Z tc tp fr sz he to ta wo op ba fa := List.set_comm _ _ h
end MD
/-- the token at place p -/
def mp (b : Nat → Int) (n p : Nat) (he to wo : Int) : Prop :=
  (n ≤ p ∧ to = 0 ∧ he = (p : Int)) ∨
  (p < n ∧ hp_lt (b p) = true ∧ to = 1 ∧ he = ((hp_rn hp_lt b n p : Nat) : Int)) ∨
  (p < n ∧ ¬ hp_lt (b p) = true ∧ hp_dg (b p) = true ∧ he = ((hp_rn hp_dg b n p : Nat) : Int) ∧ to = (if 4 < hp_rn hp_dg b n p - p then 4 else 2)) ∨
  (p < n ∧ ¬ hp_lt (b p) = true ∧ ¬ hp_dg (b p) = true ∧ hp_sg (b p) = true ∧ to = 3 ∧ wo = b p ∧ he = (p : Int) + 1) ∨
  (p < n ∧ ¬ hp_lt (b p) = true ∧ ¬ hp_dg (b p) = true ∧ ¬ hp_sg (b p) = true ∧ to = 4 ∧ he = (p : Int))
def mbd (n : Nat) (he to wo : Int) : Prop := (0 ≤ he ∧ he ≤ n) ∧ (0 ≤ to ∧ to ≤ 4) ∧ (-100000 ≤ wo ∧ wo ≤ 10000000)
/-- what `next` leaves, the token at p -/
def mn (C : mj_M) (A : Nat → Value) (U : Nat → Int) (Z : List Value) (tc tp fr : Int) (n : Nat) (b : Nat → Int) (op ba fa : Int) (p : Nat) : Option Value → mj_M → Prop := fun rv M' => rv = none ∧ ∃ he to wo, mp b n p he to wo ∧ mbd n he to wo ∧ M' = md C A U Z tc tp fr (n : Int) he to (p : Int) wo op ba fa
def mt (b : Nat → Int) (n k q : Nat) (to wo : Int) : Prop := mp b n (hp_P b n k) (q : Int) to wo ∧ mbd n (q : Int) to wo
theorem mbd_q {n : Nat} {he to wo : Int} (h : mbd n he to wo) : ∃ q : Nat, he = (q : Int) := ⟨he.toNat, by have := h.1.1; omega⟩
