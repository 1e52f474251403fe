/-! FACTS BETWEEN NUMBERS: an offset (j, r, c): j = r + c; an order (i, c, j): i + c ≤ j; a condition (a, b, lo, hi): if a = 1 then b is within; a sum (i, j, c): i + j ≤ c -/
abbrev ak_E : Type := List (Nat × Nat × Int)
abbrev ak_F : Type := List (Nat × Int × Nat)
abbrev ak_C : Type := List (Nat × Nat × Int × Int)
abbrev ak_S : Type := List (Nat × Nat × Int)
abbrev ak_X : Type := ak_E × ak_F × ak_C × ak_S
def ak_sE (ρ : List Int) (e : Nat × Nat × Int) : Prop := ∃ z w, ρ[e.1]? = some z ∧ ρ[e.2.1]? = some w ∧ z = w + e.2.2
def ak_sF (ρ : List Int) (f : Nat × Int × Nat) : Prop := ∃ z w, ρ[f.1]? = some z ∧ ρ[f.2.2]? = some w ∧ z + f.2.1 ≤ w
def ak_sC (ρ : List Int) (c : Nat × Nat × Int × Int) : Prop := ∃ z w, ρ[c.1]? = some z ∧ ρ[c.2.1]? = some w ∧ (z = 1 → c.2.2.1 ≤ w ∧ w ≤ c.2.2.2)
def ak_sS (ρ : List Int) (f : Nat × Nat × Int) : Prop := ∃ z w, ρ[f.1]? = some z ∧ ρ[f.2.1]? = some w ∧ z + w ≤ f.2.2
def ak_sx (ρ : List Int) (X : ak_X) : Prop := (∀ e ∈ X.1, ak_sE ρ e) ∧ (∀ f ∈ X.2.1, ak_sF ρ f) ∧ (∀ c ∈ X.2.2.1, ak_sC ρ c) ∧ ∀ s ∈ X.2.2.2, ak_sS ρ s
theorem ak_sE_mono {ρ ρ' : List Int} (h : ai_le ρ ρ') {e : Nat × Nat × Int} (q : ak_sE ρ e) : ak_sE ρ' e := by
  obtain ⟨z, w, a, b, c⟩ := q
  exact ⟨z, w, h _ _ a, h _ _ b, c⟩
theorem ak_sF_mono {ρ ρ' : List Int} (h : ai_le ρ ρ') {e : Nat × Int × Nat} (q : ak_sF ρ e) : ak_sF ρ' e := by
  obtain ⟨z, w, a, b, c⟩ := q
  exact ⟨z, w, h _ _ a, h _ _ b, c⟩
theorem ak_sC_mono {ρ ρ' : List Int} (h : ai_le ρ ρ') {e : Nat × Nat × Int × Int} (q : ak_sC ρ e) : ak_sC ρ' e := by
  obtain ⟨z, w, a, b, c⟩ := q
  exact ⟨z, w, h _ _ a, h _ _ b, c⟩
theorem ak_sS_mono {ρ ρ' : List Int} (h : ai_le ρ ρ') {e : Nat × Nat × Int} (q : ak_sS ρ e) : ak_sS ρ' e := by
  obtain ⟨z, w, a, b, c⟩ := q
  exact ⟨z, w, h _ _ a, h _ _ b, c⟩
theorem ak_sx_mono {ρ ρ' : List Int} (h : ai_le ρ ρ') {X : ak_X} (q : ak_sx ρ X) : ak_sx ρ' X :=
  ⟨fun e he => ak_sE_mono h (q.1 e he), fun e he => ak_sF_mono h (q.2.1 e he), fun e he => ak_sC_mono h (q.2.2.1 e he), fun e he => ak_sS_mono h (q.2.2.2 e he)⟩
def ak_fE : ak_E → Nat → Option (Nat × Int)
  | [], _ => none
  | e :: E, k => bif Nat.beq e.1 k then some e.2 else ak_fE E k
theorem ak_fE_mem : ∀ {E : ak_E} {k : Nat} {q : Nat × Int}, ak_fE E k = some q → (k, q) ∈ E
  | [], _, _, h => by cases h
  | e :: E, k, q, h => by
    unfold ak_fE at h
    cases hb : Nat.beq e.1 k with
    | true =>
      rw [hb] at h
      cases h
      obtain rfl := Nat.eq_of_beq_eq_true hb
      exact List.mem_cons_self
    | false =>
      rw [hb] at h
      exact List.mem_cons_of_mem _ (ak_fE_mem h)
/-- a symbol by its root -/
def ak_rt (E : ak_E) (k : Nat) : Nat × Int := match ak_fE E k with
  | some q => q
  | none => (k, 0)
theorem ak_rt_ok {ρ : List Int} {E : ak_E} {k : Nat} {z : Int} (hE : ∀ e ∈ E, ak_sE ρ e) (hz : ρ[k]? = some z) : ∃ w, ρ[(ak_rt E k).1]? = some w ∧ z = w + (ak_rt E k).2 := by
  unfold ak_rt
  split
  · rename_i q hq
    obtain ⟨z', w, a, b, c⟩ := hE _ (ak_fE_mem hq)
    cases hz.symm.trans a
    exact ⟨w, b, c⟩
  · exact ⟨z, hz, by simp⟩
/-- a symbol's bounds met with others: none if nothing is left -/
noncomputable def ak_mt (T : ai_T) (k : Nat) (q : Int × Int) : Option ai_T := match ai_at _ T k with
  | some p => bif ai_ltb p.1 q.1 || ai_ltb q.2 p.2 then
      (bif ai_ltb (bif ai_ltb q.2 p.2 then q.2 else p.2) (bif ai_ltb p.1 q.1 then q.1 else p.1) then none else some (ai_put _ T k (bif ai_ltb p.1 q.1 then q.1 else p.1, bif ai_ltb q.2 p.2 then q.2 else p.2)))
    else some T
  | none => some T
theorem ak_mt_ok {ρ : List Int} {T : ai_T} {k : Nat} {q : Int × Int} {z : Int} (hs : ai_sat ρ T) (hz : ρ[k]? = some z) (h1 : q.1 ≤ z) (h2 : z ≤ q.2) : ∃ T', ak_mt T k q = some T' ∧ ai_sat ρ T' := by
  unfold ak_mt
  rw [ai_at_eq]
  cases hp : T[k]? with
  | none => exact ⟨T, rfl, hs⟩
  | some p =>
    obtain ⟨g1, g2⟩ := hs.2 k z p hz hp
    simp only [ai_ltb_eq, ai_put_eq]
    cases hb : decide (p.1 < q.1) || decide (q.2 < p.2) with
    | false => exact ⟨T, rfl, hs⟩
    | true =>
      simp only [cond_true]
      have e1 : (bif decide (p.1 < q.1) then q.1 else p.1) ≤ z := by cases decide (p.1 < q.1) <;> simpa
      have e2 : z ≤ (bif decide (q.2 < p.2) then q.2 else p.2) := by cases decide (q.2 < p.2) <;> simpa
      generalize (bif decide (p.1 < q.1) then q.1 else p.1) = a at e1 ⊢
      generalize (bif decide (q.2 < p.2) then q.2 else p.2) = b at e2 ⊢
      rw [show decide (b < a) = false by simp; omega]
      refine ⟨_, rfl, ?_⟩
      have h3 := ai_set_ok (a := (1, (k : Int))) (q := (a, b)) hs (z := z) hz e1 e2
      exact h3
noncomputable def ak_tE (T : ai_T) (e : Nat × Nat × Int) : Option ai_T := match ai_at _ T e.1, ai_at _ T e.2.1 with
  | some p, some q => (match ak_mt T e.1 (q.1 + e.2.2, q.2 + e.2.2) with
    | some T1 => ak_mt T1 e.2.1 (p.1 - e.2.2, p.2 - e.2.2)
    | none => none)
  | _, _ => some T
theorem ak_tE_ok {ρ : List Int} {T : ai_T} {e : Nat × Nat × Int} (hs : ai_sat ρ T) (he : ak_sE ρ e) : ∃ T', ak_tE T e = some T' ∧ ai_sat ρ T' := by
  obtain ⟨z, w, a, b, c⟩ := he
  unfold ak_tE
  rw [ai_at_eq, ai_at_eq]
  cases hp : T[e.1]? with
  | none => exact ⟨T, rfl, hs⟩
  | some p =>
    cases hq : T[e.2.1]? with
    | none => exact ⟨T, rfl, hs⟩
    | some q =>
      obtain ⟨p1, p2⟩ := hs.2 _ _ _ a hp
      obtain ⟨q1, q2⟩ := hs.2 _ _ _ b hq
      obtain ⟨T1, e1, s1⟩ := ak_mt_ok hs a (q := (q.1 + e.2.2, q.2 + e.2.2)) (by simp only; omega) (by simp only; omega)
      simp only [e1]
      exact ak_mt_ok s1 b (by simp only; omega) (by simp only; omega)
noncomputable def ak_tF (T : ai_T) (f : Nat × Int × Nat) : Option ai_T := match ai_at _ T f.1, ai_at _ T f.2.2 with
  | some p, some q => (match ak_mt T f.1 (p.1, q.2 - f.2.1) with
    | some T1 => ak_mt T1 f.2.2 (p.1 + f.2.1, q.2)
    | none => none)
  | _, _ => some T
theorem ak_tF_ok {ρ : List Int} {T : ai_T} {f : Nat × Int × Nat} (hs : ai_sat ρ T) (he : ak_sF ρ f) : ∃ T', ak_tF T f = some T' ∧ ai_sat ρ T' := by
  obtain ⟨z, w, a, b, c⟩ := he
  unfold ak_tF
  rw [ai_at_eq, ai_at_eq]
  cases hp : T[f.1]? with
  | none => exact ⟨T, rfl, hs⟩
  | some p =>
    cases hq : T[f.2.2]? with
    | none => exact ⟨T, rfl, hs⟩
    | some q =>
      obtain ⟨p1, p2⟩ := hs.2 _ _ _ a hp
      obtain ⟨q1, q2⟩ := hs.2 _ _ _ b hq
      obtain ⟨T1, e1, s1⟩ := ak_mt_ok hs a (q := (p.1, q.2 - f.2.1)) (by simp only; omega) (by simp only; omega)
      simp only [e1]
      exact ak_mt_ok s1 b (by simp only; omega) (by simp only; omega)
noncomputable def ak_tC (T : ai_T) (c : Nat × Nat × Int × Int) : Option ai_T := match ai_at _ T c.1 with
  | some p => bif ai_eqb p.1 1 && ai_eqb p.2 1 then ak_mt T c.2.1 (c.2.2.1, c.2.2.2) else some T
  | none => some T
theorem ak_tC_ok {ρ : List Int} {T : ai_T} {c : Nat × Nat × Int × Int} (hs : ai_sat ρ T) (he : ak_sC ρ c) : ∃ T', ak_tC T c = some T' ∧ ai_sat ρ T' := by
  obtain ⟨z, w, a, b, h⟩ := he
  unfold ak_tC
  rw [ai_at_eq]
  cases hp : T[c.1]? with
  | none => exact ⟨T, rfl, hs⟩
  | some p =>
    obtain ⟨p1, p2⟩ := hs.2 _ _ _ a hp
    simp only [ai_eqb_eq]
    cases hb : decide (p.1 = 1) && decide (p.2 = 1) with
    | false => exact ⟨T, rfl, hs⟩
    | true =>
      simp only [Bool.and_eq_true, decide_eq_true_eq] at hb
      obtain ⟨g1, g2⟩ := h (by omega)
      simp only [cond_true]
      exact ak_mt_ok hs b g1 g2
noncomputable def ak_tS (T : ai_T) (f : Nat × Nat × Int) : Option ai_T := match ai_at _ T f.1, ai_at _ T f.2.1 with
  | some p, some q => (match ak_mt T f.1 (p.1, f.2.2 - q.1) with
    | some T1 => ak_mt T1 f.2.1 (q.1, f.2.2 - p.1)
    | none => none)
  | _, _ => some T
theorem ak_tS_ok {ρ : List Int} {T : ai_T} {f : Nat × Nat × Int} (hs : ai_sat ρ T) (he : ak_sS ρ f) : ∃ T', ak_tS T f = some T' ∧ ai_sat ρ T' := by
  obtain ⟨z, w, a, b, c⟩ := he
  unfold ak_tS
  rw [ai_at_eq, ai_at_eq]
  cases hp : T[f.1]? with
  | none => exact ⟨T, rfl, hs⟩
  | some p =>
    cases hq : T[f.2.1]? with
    | none => exact ⟨T, rfl, hs⟩
    | some q =>
      obtain ⟨p1, p2⟩ := hs.2 _ _ _ a hp
      obtain ⟨q1, q2⟩ := hs.2 _ _ _ b hq
      obtain ⟨T1, e1, s1⟩ := ak_mt_ok hs a (q := (p.1, f.2.2 - q.1)) (by simp only; omega) (by simp only; omega)
      simp only [e1]
      exact ak_mt_ok s1 b (by simp only; omega) (by simp only; omega)
noncomputable def ak_fold {α : Type} (f : ai_T → α → Option ai_T) : List α → ai_T → Option ai_T
  | [], T => some T
  | a :: l, T => match f T a with
    | some T' => ak_fold f l T'
    | none => none
theorem ak_fold_ok {α : Type} {f : ai_T → α → Option ai_T} {P : α → Prop} {ρ : List Int} (hf : ∀ (T : ai_T) (a : α), ai_sat ρ T → P a → ∃ T', f T a = some T' ∧ ai_sat ρ T') : ∀ {l : List α} {T : ai_T}, (∀ a ∈ l, P a) → ai_sat ρ T → ∃ T', ak_fold f l T = some T' ∧ ai_sat ρ T'
  | [], T, _, h => ⟨T, rfl, h⟩
  | a :: l, T, hl, h => by
    obtain ⟨T1, e1, s1⟩ := hf T a h (hl a List.mem_cons_self)
    obtain ⟨T2, e2, s2⟩ := ak_fold_ok hf (l := l) (T := T1) (fun b hb => hl b (List.mem_cons_of_mem _ hb)) s1
    refine ⟨T2, ?_, s2⟩
    unfold ak_fold
    rw [e1]
    exact e2
/-- all facts brought to bear on the bounds: none if they can't be -/
noncomputable def ak_tg (X : ak_X) (T : ai_T) : Option ai_T := match ak_fold ak_tE X.1 T with
  | none => none
  | some T1 => (match ak_fold ak_tF X.2.1 T1 with
    | none => none
    | some T2 => (match ak_fold ak_tC X.2.2.1 T2 with
      | none => none
      | some T3 => (match ak_fold ak_tS X.2.2.2 T3 with
        | none => none
        | some T3 => ak_fold ak_tE X.1 T3)))
theorem ak_tg_ok {ρ : List Int} {X : ak_X} {T : ai_T} (hx : ak_sx ρ X) (hs : ai_sat ρ T) : ∃ T', ak_tg X T = some T' ∧ ai_sat ρ T' := by
  obtain ⟨T1, e1, s1⟩ := ak_fold_ok (f := ak_tE) (P := ak_sE ρ) (fun T a h q => ak_tE_ok h q) hx.1 hs
  obtain ⟨T2, e2, s2⟩ := ak_fold_ok (f := ak_tF) (P := ak_sF ρ) (fun T a h q => ak_tF_ok h q) hx.2.1 s1
  obtain ⟨T3, e3, s3⟩ := ak_fold_ok (f := ak_tC) (P := ak_sC ρ) (fun T a h q => ak_tC_ok h q) hx.2.2.1 s2
  obtain ⟨T5, e5, s5⟩ := ak_fold_ok (f := ak_tS) (P := ak_sS ρ) (fun T a h q => ak_tS_ok h q) hx.2.2.2 s3
  obtain ⟨T4, e4, s4⟩ := ak_fold_ok (f := ak_tE) (P := ak_sE ρ) (fun T a h q => ak_tE_ok h q) hx.1 s5
  refine ⟨T4, ?_, s4⟩
  unfold ak_tg
  rw [e1]
  simp only [e2, e3, e5, e4]
/-- a number by its root: (0, _, v) known, (1, r, c) the symbol r and c -/
def ak_kv (E : ak_E) (a : ai_V) : Option (Nat × Nat × Int) := match a.1 with
  | 0 => some (0, 0, a.2)
  | 1 => some (1, ak_rt E a.2.toNat)
  | 2 => some (0, 0, a.2)
  | 3 => some (1, ak_rt E a.2.toNat)
  | _ => none
/-- what such a number is -/
def ak_v (ρ : List Int) (r : Nat × Nat × Int) : Option Int := match r.1 with
  | 0 => some r.2.2
  | _ => (ρ[r.2.1]?).map (fun w => w + r.2.2)
theorem ak_kv_ok {ρ : List Int} {E : ak_E} {a : ai_V} {z : Int} {r : Nat × Nat × Int} (hE : ∀ e ∈ E, ak_sE ρ e) (hz : ai_z ρ a = some z) (h : ak_kv E a = some r) : ak_v ρ r = some z := by
  obtain ⟨t, x⟩ := a
  unfold ak_kv at h
  unfold ai_z at hz
  split at h
  · rename_i e
    simp only at e
    subst e
    cases h
    cases hz
    rfl
  · rename_i e
    simp only at e
    subst e
    cases h
    obtain ⟨w, hw, e⟩ := ak_rt_ok hE hz
    show (ρ[(ak_rt E _).1]?).map _ = _
    rw [hw, e]
    rfl
  · rename_i e
    simp only at e
    subst e
    cases h
    cases hz
    rfl
  · rename_i e
    simp only at e
    subst e
    cases h
    obtain ⟨w, hw, e⟩ := ak_rt_ok hE hz
    show (ρ[(ak_rt E _).1]?).map _ = _
    rw [hw, e]
    rfl
  · cases h
/-- is a number at most another one, by facts? -/
def ak_fF : ak_F → Nat → Nat → Int → Bool
  | [], _, _, _ => false
  | f :: F, i, j, d => bif Nat.beq f.1 i && (Nat.beq f.2.2 j && !(ai_ltb f.2.1 d)) then true else ak_fF F i j d
theorem ak_fF_ok {ρ : List Int} : ∀ {F : ak_F} {i j : Nat} {d : Int}, (∀ f ∈ F, ak_sF ρ f) → ak_fF F i j d = true → ∃ z w, ρ[i]? = some z ∧ ρ[j]? = some w ∧ z + d ≤ w
  | [], _, _, _, _, h => by cases h
  | f :: F, i, j, d, hF, h => by
    unfold ak_fF at h
    cases hb : Nat.beq f.1 i && (Nat.beq f.2.2 j && !(ai_ltb f.2.1 d)) with
    | false =>
      rw [hb] at h
      exact ak_fF_ok (fun g hg => hF g (List.mem_cons_of_mem _ hg)) h
    | true =>
      simp only [Bool.and_eq_true, Nat.beq_eq, ai_ltb_eq, Bool.not_eq_true', decide_eq_false_iff_not] at hb
      obtain ⟨z, w, a, b, c⟩ := hF f List.mem_cons_self
      obtain ⟨rfl, rfl, h3⟩ := hb
      exact ⟨z, w, a, b, by omega⟩
noncomputable def ak_lb (T : ai_T) (r : Nat × Nat × Int) : Option (Int × Int) := match r.1 with
  | 0 => some (r.2.2, r.2.2)
  | _ => (match ai_at _ T r.2.1 with
    | some q => some (q.1 + r.2.2, q.2 + r.2.2)
    | none => none)
theorem ak_lb_ok {ρ : List Int} {T : ai_T} {r : Nat × Nat × Int} {q : Int × Int} {z : Int} (hs : ai_sat ρ T) (hv : ak_v ρ r = some z) (h : ak_lb T r = some q) : q.1 ≤ z ∧ z ≤ q.2 := by
  obtain ⟨t, k, c⟩ := r
  unfold ak_v at hv
  unfold ak_lb at h
  cases t with
  | zero =>
    cases hv
    cases h
    exact ⟨Int.le_refl _, Int.le_refl _⟩
  | succ t =>
    simp only [ai_at_eq] at hv h
    cases hz : ρ[k]? with
    | none => rw [hz] at hv; cases hv
    | some w =>
      rw [hz] at hv
      cases hv
      cases hq : T[k]? with
      | none => rw [hq] at h; cases h
      | some p =>
        rw [hq] at h
        cases h
        obtain ⟨a, b⟩ := hs.2 _ _ _ hz hq
        simp only
        omega
/-- ra + d ≤ rb, surely -/
noncomputable def ak_le (T : ai_T) (X : ak_X) (ra rb : Nat × Nat × Int) (d : Int) : Bool :=
  (Nat.beq ra.1 1 && Nat.beq rb.1 1 && ((Nat.beq ra.2.1 rb.2.1 && !(ai_ltb rb.2.2 (ra.2.2 + d))) || ak_fF X.2.1 ra.2.1 rb.2.1 (ra.2.2 + d - rb.2.2))) ||
  (match ak_lb T ra, ak_lb T rb with
    | some p, some q => !(ai_ltb q.1 (p.2 + d))
    | _, _ => false)
theorem ak_le_ok {ρ : List Int} {T : ai_T} {X : ak_X} {ra rb : Nat × Nat × Int} {d x y : Int} (hs : ai_sat ρ T) (hx : ak_sx ρ X) (ha : ak_v ρ ra = some x) (hb : ak_v ρ rb = some y) (h : ak_le T X ra rb d = true) : x + d ≤ y := by
  unfold ak_le at h
  rw [Bool.or_eq_true] at h
  rcases h with h | h
  · simp only [Bool.and_eq_true, Nat.beq_eq, Bool.or_eq_true, ai_ltb_eq, Bool.not_eq_true', decide_eq_false_iff_not] at h
    obtain ⟨⟨h1, h2⟩, h⟩ := h
    obtain ⟨t, k, c⟩ := ra
    obtain ⟨t', k', c'⟩ := rb
    simp only at h1 h2 h
    subst h1
    subst h2
    unfold ak_v at ha hb
    simp only at ha hb
    rcases h with ⟨rfl, h⟩ | h
    · cases hz : ρ[k]? with
      | none => rw [hz] at ha; cases ha
      | some w =>
        rw [hz] at ha hb
        have ha := Option.some.inj ha
        have hb := Option.some.inj hb
        simp only at ha hb
        omega
    · obtain ⟨z, w, a, b, e⟩ := ak_fF_ok hx.2.1 h
      rw [a] at ha
      rw [b] at hb
      have ha := Option.some.inj ha
      have hb := Option.some.inj hb
      simp only at ha hb
      omega
  · split at h
    · rename_i p q hp hq
      obtain ⟨a1, a2⟩ := ak_lb_ok hs ha hp
      obtain ⟨b1, b2⟩ := ak_lb_ok hs hb hq
      simp only [ai_ltb_eq, Bool.not_eq_true', decide_eq_false_iff_not] at h
      omega
    · cases h
/-- one more order, with what follows from it at once -/
def ak_aF (F : ak_F) (i : Nat) (c : Int) (j : Nat) : ak_F := (i, c, j) :: (F.filterMap (fun f => bif Nat.beq f.2.2 i then some (f.1, f.2.1 + c, j) else none) ++ F)
theorem ak_aF_ok {ρ : List Int} {F : ak_F} {i j : Nat} {c : Int} (hF : ∀ f ∈ F, ak_sF ρ f) (h : ak_sF ρ (i, c, j)) : ∀ f ∈ ak_aF F i c j, ak_sF ρ f := by
  intro f hf
  unfold ak_aF at hf
  rcases List.mem_cons.mp hf with rfl | hf
  · exact h
  · rcases List.mem_append.mp hf with hf | hf
    · obtain ⟨g, hg, e⟩ := List.mem_filterMap.mp hf
      cases hb : Nat.beq g.2.2 i with
      | false => rw [hb] at e; cases e
      | true =>
        rw [hb] at e
        cases e
        obtain ⟨z, w, a1, a2, a3⟩ := hF g hg
        obtain ⟨z', w', b1, b2, b3⟩ := h
        rw [Nat.eq_of_beq_eq_true hb] at a2
        cases a2.symm.trans b1
        exact ⟨z, w', a1, b2, by simp only at b3 ⊢; omega⟩
    · exact hF f hf
def ak_cF : ak_F → Nat → Nat → Option Int
  | [], _, _ => none
  | f :: F, i, j => bif Nat.beq f.1 i && Nat.beq f.2.2 j then some f.2.1 else ak_cF F i j
theorem ak_cF_ok {ρ : List Int} : ∀ {F : ak_F} {i j : Nat} {c : Int}, (∀ f ∈ F, ak_sF ρ f) → ak_cF F i j = some c → ∃ z w, ρ[i]? = some z ∧ ρ[j]? = some w ∧ z + c ≤ w
  | [], _, _, _, _, h => by cases h
  | f :: F, i, j, c, hF, h => by
    unfold ak_cF at h
    cases hb : Nat.beq f.1 i && Nat.beq f.2.2 j with
    | false =>
      rw [hb] at h
      exact ak_cF_ok (fun g hg => hF g (List.mem_cons_of_mem _ hg)) h
    | true =>
      rw [hb] at h
      cases h
      simp only [Bool.and_eq_true, Nat.beq_eq] at hb
      obtain ⟨z, w, a, b, c⟩ := hF f List.mem_cons_self
      obtain ⟨rfl, rfl⟩ := hb
      exact ⟨z, w, a, b, c⟩
/-- a number is at most a symbol and an offset -/
def ak_so (F : ak_F) (ra : Nat × Int) (p : Nat) : Option Int := bif Nat.beq ra.1 p then some ra.2 else (match ak_cF F ra.1 p with
  | some c => some (ra.2 - c)
  | none => none)
theorem ak_so_ok {ρ : List Int} {F : ak_F} {ra : Nat × Int} {p : Nat} {o w v : Int} (hF : ∀ f ∈ F, ak_sF ρ f) (hw : ρ[ra.1]? = some w) (hv : ρ[p]? = some v) (h : ak_so F ra p = some o) : w + ra.2 ≤ v + o := by
  unfold ak_so at h
  cases hb : Nat.beq ra.1 p with
  | true =>
    rw [hb] at h
    cases h
    rw [Nat.eq_of_beq_eq_true hb] at hw
    cases hw.symm.trans hv
    exact Int.le_refl _
  | false =>
    rw [hb, cond_false] at h
    split at h
    · rename_i c hc
      cases h
      obtain ⟨z, w', a, b, e⟩ := ak_cF_ok hF hc
      cases hw.symm.trans a
      cases hv.symm.trans b
      omega
    · cases h
/-- a bound of a sum, by the facts on sums -/
def ak_sb1 (F : ak_F) (ra rb : Nat × Int) (s : Nat × Nat × Int) : Option Int := match ak_so F ra s.1, ak_so F rb s.2.1 with
  | some o1, some o2 => some (s.2.2 + o1 + o2)
  | _, _ => none
def ak_sb (F : ak_F) (ra rb : Nat × Int) : ak_S → Option Int
  | [] => none
  | s :: S => match ak_sb1 F ra rb s with
    | some h => some h
    | none => (match ak_sb1 F rb ra s with
      | some h => some h
      | none => ak_sb F ra rb S)
theorem ak_sb1_ok {ρ : List Int} {F : ak_F} {ra rb : Nat × Int} {s : Nat × Nat × Int} {h w v : Int} (hF : ∀ f ∈ F, ak_sF ρ f) (hs : ak_sS ρ s) (hw : ρ[ra.1]? = some w) (hv : ρ[rb.1]? = some v) (e : ak_sb1 F ra rb s = some h) : w + ra.2 + (v + rb.2) ≤ h := by
  unfold ak_sb1 at e
  split at e
  · rename_i o1 o2 h1 h2
    cases e
    obtain ⟨z, y, a, b, c⟩ := hs
    have g1 := ak_so_ok hF hw a h1
    have g2 := ak_so_ok hF hv b h2
    omega
  · cases e
theorem ak_sb_ok {ρ : List Int} {F : ak_F} {ra rb : Nat × Int} {h w v : Int} (hF : ∀ f ∈ F, ak_sF ρ f) (hw : ρ[ra.1]? = some w) (hv : ρ[rb.1]? = some v) : ∀ {S : ak_S}, (∀ s ∈ S, ak_sS ρ s) → ak_sb F ra rb S = some h → w + ra.2 + (v + rb.2) ≤ h
  | [], _, e => by cases e
  | s :: S, hS, e => by
    unfold ak_sb at e
    split at e
    · rename_i h' e1
      cases e
      exact ak_sb1_ok hF (hS s List.mem_cons_self) hw hv e1
    · split at e
      · rename_i h' e1
        cases e
        have := ak_sb1_ok hF (hS s List.mem_cons_self) hv hw e1
        omega
      · exact ak_sb_ok hF hw hv (fun t ht => hS t (List.mem_cons_of_mem _ ht)) e
/-- one more order x + c ≤ y, with the sums that follow: x + b ≤ .. where y + b ≤ .. -/
def ak_aS (S : ak_S) (x : Nat) (c : Int) (y : Nat) : ak_S := S.filterMap (fun s => bif Nat.beq s.1 y then some (x, s.2.1, s.2.2 - c) else none) ++ S
theorem ak_aS_ok {ρ : List Int} {S : ak_S} {x y : Nat} {c : Int} (hS : ∀ s ∈ S, ak_sS ρ s) (h : ak_sF ρ (x, c, y)) : ∀ s ∈ ak_aS S x c y, ak_sS ρ s := by
  intro s hs
  unfold ak_aS at hs
  rcases List.mem_append.mp hs with hs | hs
  · obtain ⟨t, ht, e⟩ := List.mem_filterMap.mp hs
    cases hb : Nat.beq t.1 y with
    | false => rw [hb] at e; cases e
    | true =>
      rw [hb] at e
      cases e
      obtain ⟨z, w, a1, a2, a3⟩ := hS t ht
      obtain ⟨z', w', b1, b2, b3⟩ := h
      rw [Nat.eq_of_beq_eq_true hb] at a1
      cases a1.symm.trans b2
      exact ⟨z', w, b1, a2, by simp only at b3 ⊢; omega⟩
  · exact hS s hs
