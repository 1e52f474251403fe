/-! A STEP WITH FACTS -/
abbrev ak_R : Type := Option (List ((Nat × ai_S) × ak_X))
abbrev ak_H : Type := Nat → Nat → Bool → Nat → Nat → Nat → Nat → Nat → Nat → Nat → Nat → ai_T → ai_M → ai_L → List ai_V → ak_X → ak_R
def ak_ok (ρ : List Int) (ce sl mc ms : Nat) (r : mj_R) (succs : List ((Nat × ai_S) × ak_X)) : Prop :=
  ∃ (dc ds : Nat) (cM' : mj_M) (pc' : Nat) (cl' : mj_L) (cst' : List Value) (T' : ai_T) (M' : ai_M) (l' : ai_L) (st' : List ai_V) (X' : ak_X) (ρ' : List Int), r = some (dc, ds, cM', pc', cl', cst') ∧ ((pc', ce + dc, sl + ds, T', M', l', st'), X') ∈ succs ∧ ai_le ρ ρ' ∧ ai_G ρ' T' M' l' st' cM' cl' cst' ∧ ak_sx ρ' X' ∧ ce + dc ≤ mc ∧ sl + ds ≤ ms
theorem ak_ok_sub {ρ : List Int} {ce sl mc ms : Nat} {r : mj_R} {s1 s2 : List ((Nat × ai_S) × ak_X)} (h : ak_ok ρ ce sl mc ms r s1) (hs : ∀ q ∈ s1, q ∈ s2) : ak_ok ρ ce sl mc ms r s2 := by
  obtain ⟨dc, ds, cM', pc', cl', cst', T', M', l', st', X', ρ', h1, h2, h3⟩ := h
  exact ⟨dc, ds, cM', pc', cl', cst', T', M', l', st', X', ρ', h1, hs _ h2, h3⟩
theorem ak_ok_of {ρ : List Int} {X : ak_X} {ce sl mc ms : Nat} {r : mj_R} {succs : List (Nat × ai_S)} (hx : ak_sx ρ X) (h : ai_ok ρ ce sl mc ms r succs) : ak_ok ρ ce sl mc ms r (succs.map (fun s => (s, X))) := by
  obtain ⟨dc, ds, cM', pc', cl', cst', T', M', l', st', ρ', h1, h2, h3, h4, h5, h6⟩ := h
  exact ⟨dc, ds, cM', pc', cl', cst', T', M', l', st', X, ρ', h1, List.mem_map.mpr ⟨_, h2, rfl⟩, h3, h4, ak_sx_mono h3 hx, h5, h6⟩
/-- all ways, their bounds made narrower by the facts; those that can't be are left out -/
noncomputable def ak_tl1 (q : (Nat × ai_S) × ak_X) : Option ((Nat × ai_S) × ak_X) := match ak_tg q.2 q.1.2.2.2.1 with
  | some T' => some ((q.1.1, q.1.2.1, q.1.2.2.1, T', q.1.2.2.2.2.1, q.1.2.2.2.2.2.1, q.1.2.2.2.2.2.2), q.2)
  | none => none
noncomputable def ak_tl (r : ak_R) : ak_R := match r with
  | none => none
  | some succs => some (succs.filterMap ak_tl1)
theorem ak_tl_ok {ρ : List Int} {ce sl mc ms : Nat} {r : mj_R} {q : ak_R} {succs : List ((Nat × ai_S) × ak_X)} (h : ak_tl q = some succs) (hq : ∀ s, q = some s → ak_ok ρ ce sl mc ms r s) : ak_ok ρ ce sl mc ms r succs := by
  cases q with
  | none => cases h
  | some s =>
    cases h
    obtain ⟨dc, ds, cM', pc', cl', cst', T', M', l', st', X', ρ', h1, h2, h3, h4, h5, h6, h7⟩ := hq s rfl
    obtain ⟨T2, e2, s2⟩ := ak_tg_ok h5 h4.1
    refine ⟨dc, ds, cM', pc', cl', cst', T2, M', l', st', X', ρ', h1, List.mem_filterMap.mpr ⟨_, h2, ?_⟩, h3, ⟨s2, h4.2⟩, h5, h6, h7⟩
    unfold ak_tl1
    simp only
    rw [e2]
/-- the step of before, the facts as they were -/
noncomputable def ak_h_df (ins : Instr) : ak_H := fun own nL ini mc ms len r1 r2 pc ce sl T M l st X => match (ai_hw ins).1 own nL ini false mc ms len r1 r2 pc ce sl T M l st with
  | none => none
  | some succs => some (succs.map (fun s => (s, X)))
noncomputable def ak_h_br (ins : Instr) : ak_H := fun own nL ini mc ms len r1 r2 pc ce sl T M l st X => ak_tl (ak_h_df ins own nL ini mc ms len r1 r2 pc ce sl T M l st X)
section AKS
variable {ρ : List Int} {T : ai_T} {M : ai_M} {l : ai_L} {st : List ai_V} {X : ak_X} {cM : mj_M} {cl : mj_L} {cst : List Value} {ce sl mc ms pc : Nat} {succs : List ((Nat × ai_S) × ak_X)}
variable {own nL L len r1 r2 : Nat} {xs : Nat → Int32} {ini : Bool} {ins : Instr}
theorem ak_df_ok (hG : ai_G ρ T M l st cM cl cst) (hx : ak_sx ρ X) (hce : ce ≤ mc) (hsl : sl ≤ ms) (h : ak_h_df ins own nL ini mc ms len r1 r2 pc ce sl T M l st X = some succs) : ak_ok ρ ce sl mc ms (mj_st L xs own nL ini ins len r1 r2 cM pc cl cst) succs := by
  unfold ak_h_df at h
  split at h
  · cases h
  · rename_i s hs
    cases h
    exact ak_ok_of hx (ai_step_ok (xs := xs) (L := L) hG hce hsl (fun e => by cases e) (ai_sel_ok' hs))
theorem ak_br_ok (hG : ai_G ρ T M l st cM cl cst) (hx : ak_sx ρ X) (hce : ce ≤ mc) (hsl : sl ≤ ms) (h : ak_h_br ins own nL ini mc ms len r1 r2 pc ce sl T M l st X = some succs) : ak_ok ρ ce sl mc ms (mj_st L xs own nL ini ins len r1 r2 cM pc cl cst) succs :=
  ak_tl_ok h (fun _ e => ak_df_ok hG hx hce hsl e)
end AKS
def ak_fR : ak_E → Nat → Int → Option Nat
  | [], _, _ => none
  | e :: E, r, c => bif Nat.beq e.2.1 r && ai_eqb e.2.2 c then some e.1 else ak_fR E r c
theorem ak_fR_ok {ρ : List Int} : ∀ {E : ak_E} {r : Nat} {c : Int} {j : Nat}, (∀ e ∈ E, ak_sE ρ e) → ak_fR E r c = some j → ∃ z w, ρ[j]? = some z ∧ ρ[r]? = some w ∧ z = w + c
  | [], _, _, _, _, h => by cases h
  | e :: E, r, c, j, hE, h => by
    unfold ak_fR at h
    cases hb : Nat.beq e.2.1 r && ai_eqb e.2.2 c with
    | false =>
      rw [hb] at h
      exact ak_fR_ok (fun g hg => hE g (List.mem_cons_of_mem _ hg)) h
    | true =>
      rw [hb] at h
      cases h
      simp only [Bool.and_eq_true, Nat.beq_eq, ai_eqb_eq, decide_eq_true_eq] at hb
      obtain ⟨z, w, a, b, e3⟩ := hE e List.mem_cons_self
      obtain ⟨rfl, rfl⟩ := hb
      exact ⟨z, w, a, b, e3⟩
/-- a number and a known one, where no wrap can be -/
noncomputable def ak_add (T : ai_T) (X : ak_X) (a : ai_V) (c : Int) : Option (ai_T × ak_X × ai_V) := match ai_iig ai_at ai_put ai_in32f ai_arf ai_psh ai_ln T a with
  | none => none
  | some p => bif ai_in32f (p.1 + c, p.2 + c) then
      (bif Nat.beq a.1 1 then
        (bif ai_eqb ((ak_rt X.1 a.2.toNat).2 + c) 0 then some (T, X, (1, ((ak_rt X.1 a.2.toNat).1 : Int))) else
        (match ak_fR X.1 (ak_rt X.1 a.2.toNat).1 ((ak_rt X.1 a.2.toNat).2 + c) with
        | some j => some (T, X, (1, (j : Int)))
        | none => some (ai_psh _ T (p.1 + c, p.2 + c), ((ai_ln _ T, (ak_rt X.1 a.2.toNat).1, (ak_rt X.1 a.2.toNat).2 + c) :: X.1, X.2), (1, (ai_ln _ T : Int)))))
      else some (T, X, (0, p.1 + c)))
    else none
theorem ak_one0 {a : ai_V} {T : ai_T} {p : Int × Int} (h : ai_ii T a = some p) (h1 : a.1 ≠ 1) : p = (a.2, a.2) := by
  unfold ai_ii at h
  obtain ⟨hb, h⟩ := ai_bt h
  have h2 : a.1 < 2 := by simpa [ai_isI] using hb
  unfold ai_iv at h
  have h0 : a.1 = 0 := by omega
  rw [h0] at h
  simp only at h
  obtain ⟨-, h⟩ := ai_bt h
  cases h
  rfl
theorem ak_add_ok {ρ : List Int} {T T' : ai_T} {X X' : ak_X} {a v : ai_V} {x y : Int32} (hs : ai_sat ρ T) (hx : ak_sx ρ X) (hc : ai_c ρ a = some (.int x)) (h : ak_add T X a y.toInt = some (T', X', v)) : ∃ ρ', ai_le ρ ρ' ∧ ai_sat ρ' T' ∧ ak_sx ρ' X' ∧ ai_c ρ' v = some (.int (x + y)) := by
  unfold ak_add at h
  rw [ai_iig_ok] at h
  simp only [ai_psh_eq, ai_ln_eq] at h
  split at h
  · cases h
  · rename_i p hp
    obtain ⟨x', hx', hz, x2, x3, -⟩ := ai_ii_ok hs hp hc
    cases hx'
    obtain ⟨hb, h⟩ := ai_bt h
    rw [ai_it_fn] at hb
    obtain ⟨b1, b2⟩ := ai_in32_ok hb
    simp only at b1 b2
    have key : Int32.ofInt (x.toInt + y.toInt) = x + y := by rw [Int32.ofInt_add, Int32.ofInt_toInt, Int32.ofInt_toInt]
    cases h1 : Nat.beq a.1 1 with
    | false =>
      rw [h1] at h
      cases h
      have h1' : a.1 ≠ 1 := fun e => by rw [e] at h1; cases h1
      refine ⟨ρ, ai_le_rf, hs, hx, ?_⟩
      have e := ak_one0 hp h1'
      rw [e] at x2 x3
      show some (Value.int (Int32.ofInt (p.1 + y.toInt))) = _
      rw [e]
      simp only at x2 x3 ⊢
      rw [show a.2 = x.toInt by omega, key]
    | true =>
      rw [h1, cond_true] at h
      have ha1 := Nat.eq_of_beq_eq_true h1
      have hz2 : ρ[a.2.toNat]? = some x.toInt := by
        obtain ⟨t, k⟩ := a
        simp only at ha1
        subst ha1
        exact hz
      obtain ⟨w, hw, ew⟩ := ak_rt_ok hx.1 hz2
      generalize ak_rt X.1 a.2.toNat = r at h hw ew
      cases h2 : ai_eqb (r.2 + y.toInt) 0 with
      | true =>
        rw [h2] at h
        cases h
        rw [ai_eqb_eq, decide_eq_true_eq] at h2
        refine ⟨ρ, ai_le_rf, hs, hx, ?_⟩
        show (ρ[((r.1 : Nat) : Int).toNat]?).map _ = _
        rw [show ((r.1 : Nat) : Int).toNat = r.1 from rfl, hw]
        show some (Value.int (Int32.ofInt w)) = _
        rw [show w = x.toInt + y.toInt by omega, key]
      | false =>
        rw [h2, cond_false] at h
        split at h
        · rename_i j hj
          cases h
          obtain ⟨z, w', a1, a2, a3⟩ := ak_fR_ok hx.1 hj
          cases hw.symm.trans a2
          refine ⟨ρ, ai_le_rf, hs, hx, ?_⟩
          show (ρ[((j : Nat) : Int).toNat]?).map _ = _
          rw [show ((j : Nat) : Int).toNat = j from rfl, a1]
          show some (Value.int (Int32.ofInt z)) = _
          rw [show z = x.toInt + y.toInt by omega, key]
        · cases h
          refine ⟨ρ ++ [x.toInt + y.toInt], ai_le_app _, ai_sat_push hs (by simp only; omega) (by simp only; omega), ⟨?_, (ak_sx_mono (ai_le_app _) hx).2⟩, ?_⟩
          · intro e he
            rcases List.mem_cons.mp he with rfl | he
            · exact ⟨_, w, ai_push_get hs, ai_le_app _ _ _ hw, by simp only; omega⟩
            · exact ak_sE_mono (ai_le_app _) (hx.1 e he)
          · show ((ρ ++ [x.toInt + y.toInt])[((T.length : Nat) : Int).toNat]?).map _ = _
            rw [show ((T.length : Nat) : Int).toNat = T.length from rfl, ai_push_get hs]
            show some (Value.int (Int32.ofInt (x.toInt + y.toInt))) = _
            rw [key]
