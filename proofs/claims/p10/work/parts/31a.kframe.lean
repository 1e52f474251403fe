/-! WHAT A STEP MAY WRITE -/
def mj_wc (ins : Instr) (r1 : Nat) (st : List Value) : Option Nat := match ins, st with
  | .putfield _, _ :: .ref q :: _ => some q
  | .iastore, _ :: _ :: .ref q :: _ => some q
  | .bastore, _ :: _ :: .ref q :: _ => some q
  | .invokestatic _, _ :: _ :: .ref q :: _ => if r1 = 1001 then some q else none
  | _, _ => none
section FR
variable {L own nL len r1 r2 pc pc' ds : Nat} {xs : Nat → Int32} {ini : Bool} {ins : Instr} {M M' : mj_M} {lo lo' : mj_L} {st st' : List Value}
set_option maxHeartbeats 4000000 in
theorem mj_pu_M {dc : Nat} (h : mj_pu ins len nL M pc lo st = some (dc, ds, M', pc', lo', st')) : dc = 0 ∧ M' = M := by
  unfold mj_pu at h
  repeat' (split at h)
  all_goals first
    | (cases h; done)
    | (cases h; exact ⟨rfl, rfl⟩)
    | (unfold mj_br at h; repeat' (split at h)) <;> first | (cases h; done) | (cases h; exact ⟨rfl, rfl⟩)
    | (unfold mj_jp at h; repeat' (split at h)) <;> first | (cases h; done) | (cases h; exact ⟨rfl, rfl⟩)
set_option maxHeartbeats 4000000 in
theorem mj_me_fr {q : Nat} (h : mj_me L xs own ini ins len r1 r2 M pc lo st = some (0, ds, M', pc', lo', st')) (hw : mj_wc ins r1 st ≠ some q) : M'[q]? = M[q]? := by
  unfold mj_me at h
  repeat' (split at h)
  all_goals first
    | (cases h; done)
    | (cases h; rfl)
    | (cases h; exact List.getElem?_set_ne (fun e => by subst e; exact hw rfl))
    | (cases h; exact List.getElem?_set_ne (fun e => by subst e; exact hw (by simp_all [mj_wc])))
    | (have h9 := congrArg Prod.fst (Option.some.inj h); simp at h9; done)
    | (have h9 := congrArg Prod.fst (Option.some.inj h); simp only at h9; omega)
theorem mj_st_fr {q : Nat} (h : mj_st L xs own nL ini ins len r1 r2 M pc lo st = some (0, ds, M', pc', lo', st')) (hw : mj_wc ins r1 st ≠ some q) : M'[q]? = M[q]? := by
  unfold mj_st at h
  split at h
  · rename_i r hr
    cases h
    rw [(mj_pu_M hr).2]
  · exact mj_me_fr h hw
theorem mj_st_len (h : mj_st L xs own nL ini ins len r1 r2 M pc lo st = some (0, ds, M', pc', lo', st')) : M'.length = M.length := by
  unfold mj_st at h
  split at h
  · rename_i r hr
    cases h
    rw [(mj_pu_M hr).2]
  · exact (mj_me_len h).1
end FR
/-- cells other than those of a list are as they were -/
def ak_fr (Wl : List Nat) (C M : mj_M) : Prop := M.length = C.length ∧ ∀ q, q ∉ Wl → M[q]? = C[q]?
theorem ak_fr_rf {Wl : List Nat} {C : mj_M} : ak_fr Wl C C := ⟨rfl, fun _ _ => rfl⟩
theorem ak_fr_tr {Wl : List Nat} {A B C : mj_M} (h : ak_fr Wl A B) (g : ak_fr Wl B C) : ak_fr Wl A C := ⟨g.1.trans h.1, fun q hq => (g.2 q hq).trans (h.2 q hq)⟩
theorem ak_fr_mono {Wl Wm : List Nat} {A B : mj_M} (h : ak_fr Wl A B) (hs : ∀ q, q ∈ Wl → q ∈ Wm) : ak_fr Wm A B := ⟨h.1, fun q hq => h.2 q (fun z => hq (hs q z))⟩
/-- a list of cells as bits of a number -/
noncomputable def ak_mk (Wl : List Nat) : Nat := List.rec (motive := fun _ => Nat) 0 (fun c _ ih => Nat.lor (Nat.shiftLeft 1 c) ih) Wl
def ak_bit (m q : Nat) : Bool := Nat.beq (Nat.land (Nat.shiftRight m q) 1) 1
theorem ak_bit_eq (m q : Nat) : ak_bit m q = m.testBit q := by
  unfold ak_bit Nat.testBit
  show Nat.beq ((m >>> q) &&& 1) 1 = (1 &&& (m >>> q) != 0)
  rw [Nat.and_comm 1, Nat.and_one_is_mod]
  rcases Nat.mod_two_eq_zero_or_one (m >>> q) with h | h <;> rw [h] <;> rfl
theorem ak_mk_ok : ∀ {Wl : List Nat} {q : Nat}, ak_bit (ak_mk Wl) q = true ↔ q ∈ Wl
  | [], q => by
    rw [ak_bit_eq]
    show (0 : Nat).testBit q = true ↔ _
    simp
  | c :: Wl, q => by
    have ih := ak_mk_ok (Wl := Wl) (q := q)
    rw [ak_bit_eq] at ih ⊢
    show ((1 <<< c) ||| ak_mk Wl).testBit q = true ↔ _
    rw [Nat.testBit_or, Bool.or_eq_true, ih, List.mem_cons, Nat.one_shiftLeft, Nat.testBit_two_pow, decide_eq_true_eq]
    exact ⟨fun h => h.imp Eq.symm id, fun h => h.imp Eq.symm id⟩
def ak_sub (m n : Nat) : Bool := Nat.beq (Nat.lor m n) n
theorem ak_sub_ok {Wl Wm : List Nat} (h : ak_sub (ak_mk Wl) (ak_mk Wm) = true) : ∀ q, q ∈ Wl → q ∈ Wm := by
  intro q hq
  rw [← ak_mk_ok, ak_bit_eq] at hq ⊢
  have e : (ak_mk Wl ||| ak_mk Wm) = ak_mk Wm := Nat.eq_of_beq_eq_true h
  rw [← e, Nat.testBit_or, hq, Bool.true_or]
/-- 0 a plain step, 1 a return, 2 a call, 3 a write of a field, 4 of an item -/
def ak_q (ins : Instr) : Nat := match ins with
  | .ireturn => 1
  | .lreturn => 1
  | .areturn => 1
  | .return_ => 1
  | .invokevirtual _ => 2
  | .invokespecial _ => 2
  | .invokestatic _ => 2
  | .putfield _ => 3
  | .iastore => 4
  | .bastore => 4
  | _ => 0
def ak_w3 (m : Nat) (st : List ai_V) : Bool := match st with
  | _ :: v :: _ => Nat.beq v.1 4 && ak_bit m v.2.toNat
  | _ => false
def ak_w4 (m : Nat) (st : List ai_V) : Bool := match st with
  | _ :: _ :: v :: _ => Nat.beq v.1 4 && ak_bit m v.2.toNat
  | _ => false
/-- may a step that is no call write what it writes? -/
def ak_wok (m r1 k : Nat) (st : List ai_V) : Bool := match k with
  | 0 => true
  | 1 => true
  | 2 => !(Nat.beq r1 1001) || ak_w4 m st
  | 3 => ak_w3 m st
  | _ => ak_w4 m st
theorem ak_w3_ok {ρ : List Int} {Wl : List Nat} {st : List ai_V} {v : Value} {q : Nat} {rest : List Value} (h : ak_w3 (ak_mk Wl) st = true) (hst : ai_ss ρ st (v :: .ref q :: rest)) : q ∈ Wl := by
  unfold ak_w3 at h
  split at h
  · rename_i a b l
    obtain ⟨-, hb, -⟩ := hst
    simp only [Bool.and_eq_true, Nat.beq_eq] at h
    obtain ⟨t, x⟩ := b
    simp only at h
    obtain ⟨rfl, h⟩ := h
    cases hb
    exact ak_mk_ok.mp h
  · cases h
theorem ak_w4_ok {ρ : List Int} {Wl : List Nat} {st : List ai_V} {v w : Value} {q : Nat} {rest : List Value} (h : ak_w4 (ak_mk Wl) st = true) (hst : ai_ss ρ st (v :: w :: .ref q :: rest)) : q ∈ Wl := by
  unfold ak_w4 at h
  split at h
  · rename_i a b c l
    obtain ⟨-, -, hb, -⟩ := hst
    simp only [Bool.and_eq_true, Nat.beq_eq] at h
    obtain ⟨t, x⟩ := c
    simp only at h
    obtain ⟨rfl, h⟩ := h
    cases hb
    exact ak_mk_ok.mp h
  · cases h
theorem ak_wok_ok {ρ : List Int} {Wl : List Nat} {st : List ai_V} {cst : List Value} {ins : Instr} {r1 q : Nat} (h : ak_wok (ak_mk Wl) r1 (ak_q ins) st = true) (hst : ai_ss ρ st cst) (hw : mj_wc ins r1 cst = some q) : q ∈ Wl := by
  unfold mj_wc at hw
  split at hw
  · cases hw
    exact ak_w3_ok h hst
  · cases hw
    exact ak_w4_ok h hst
  · cases hw
    exact ak_w4_ok h hst
  · split at hw
    · rename_i e
      cases hw
      subst e
      exact ak_w4_ok h hst
    · cases hw
  · cases hw
/-- a step keeps the frame -/
theorem ak_st_fr {L own nL len r1 r2 pc pc' ds : Nat} {xs : Nat → Int32} {ini : Bool} {ins : Instr} {C M M' : mj_M} {lo lo' : mj_L} {cst st' : List Value} {ρ : List Int} {Wl : List Nat} {st : List ai_V} (hf : ak_fr Wl C M) (h : mj_st L xs own nL ini ins len r1 r2 M pc lo cst = some (0, ds, M', pc', lo', st')) (hw : ak_wok (ak_mk Wl) r1 (ak_q ins) st = true) (hst : ai_ss ρ st cst) : ak_fr Wl C M' :=
  ak_fr_tr hf ⟨mj_st_len h, fun q hq => mj_st_fr h (fun e => hq (ak_wok_ok hw hst e))⟩
/-- cells by their places -/
theorem ai_mm_of {ρ : List Int} : ∀ {M : ai_M} {cM : mj_M}, M.length = cM.length → (∀ (q : Nat) (e : ai_E) (c : va_E), M[q]? = some e → cM[q]? = some c → ai_e ρ e c) → ai_mm ρ M cM
  | [], [], _, _ => trivial
  | [], _ :: _, h, _ => by cases h
  | _ :: _, [], h, _ => by cases h
  | e :: M, c :: cM, h, k => ⟨k 0 e c rfl rfl, ai_mm_of (by simpa using h) (fun q e c h1 h2 => k (q + 1) e c h1 h2)⟩
/-- two memories that are the same but for some cells -/
noncomputable def ak_sw (m : Nat) (P : ai_M) : Nat → ai_M → Bool := List.rec (motive := fun _ => Nat → ai_M → Bool) (fun _ N => match N with
  | [] => true
  | _ :: _ => false) (fun e _ ih c N => match N with
  | [] => false
  | h :: N => bif ak_bit m c || ((Nat.beq e.1 h.1 && Nat.beq e.2.1 h.2.1) && ak_leq e.2.2 h.2.2) then ih (Nat.succ c) N else false) P
theorem ak_sw_ok {m : Nat} : ∀ {P N : ai_M} {c : Nat}, ak_sw m P c N = true → P.length = N.length ∧ ∀ q, ak_bit m (c + q) = false → P[q]? = N[q]?
  | [], [], _, _ => ⟨rfl, fun _ _ => rfl⟩
  | [], _ :: _, _, h => by cases h
  | _ :: _, [], _, h => by cases h
  | e :: P, g :: N, c, h => by
    change (bif ak_bit m c || ((Nat.beq e.1 g.1 && Nat.beq e.2.1 g.2.1) && ak_leq e.2.2 g.2.2) then ak_sw m P (Nat.succ c) N else false) = true at h
    cases hb : ak_bit m c || ((Nat.beq e.1 g.1 && Nat.beq e.2.1 g.2.1) && ak_leq e.2.2 g.2.2) with
    | false => rw [hb] at h; cases h
    | true =>
      rw [hb, cond_true] at h
      obtain ⟨h1, h2⟩ := ak_sw_ok h
      refine ⟨by simp [h1], fun q hq => ?_⟩
      cases q with
      | zero =>
        rw [Nat.add_zero] at hq
        rw [hq, Bool.false_or] at hb
        simp only [Bool.and_eq_true, Nat.beq_eq] at hb
        obtain ⟨e1, e2, e3⟩ := e
        obtain ⟨g1, g2, g3⟩ := g
        simp only at hb
        obtain ⟨⟨rfl, rfl⟩, h3⟩ := hb
        rw [ak_leq_ok h3]
        rfl
      | succ q => exact h2 q (by rw [← hq, Nat.succ_add, Nat.add_succ])
