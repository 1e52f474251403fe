/-! THE LAW'S OWN RUN: every end is 1, or a state where we cut -/
abbrev ai_Z : Type := Nat → Nat → Nat → ai_T → ai_M → ai_L → List ai_V → Bool
def ai_gd (o : Option (Option ai_V)) : Bool := match o with
  | some (some v) => Nat.beq v.1 0 && decide (v.2 = 1)
  | _ => false
def ai_z4 (r : ai_Z) (q : Nat × ai_S) : Bool := r q.1 q.2.1 q.2.2.1 q.2.2.2.1 q.2.2.2.2.1 q.2.2.2.2.2.1 q.2.2.2.2.2.2
def ai_z3 (r : ai_Z) (o : ai_R) : Bool := match o with
  | none => false
  | some succs => succs.all (ai_z4 r)
noncomputable def ai_z5 (r : ai_Z) (pc ce sl : Nat) (T : ai_T) (M : ai_M) (l : ai_L) (st : List ai_V) (ins : Instr) (len r1 r2 : Nat) : Bool := ai_z3 r ((ai_hw ins).1 (ai_ow 193) (ai_nl 193) (Nat.beq (mj_ki 193) 2) false 600000 7302250 len r1 r2 pc ce sl T M l st)
/-- two ways out that differ in one bound alone, side by side: one way out -/
def ai_h0 : ai_T → ai_T
  | [] => []
  | q :: T => (min 0 q.1, max 0 q.2) :: ai_h0 T
def ai_hT : ai_T → ai_T → ai_T
  | [], B => ai_h0 B
  | p :: T, B => match B with
    | [] => (min p.1 0, max p.2 0) :: ai_hT T []
    | q :: B => (min p.1 q.1, max p.2 q.2) :: ai_hT T B
def ai_veq (a b : ai_V) : Bool := match a.2, b.2 with
  | .ofNat x, .ofNat y => Nat.beq a.1 b.1 && Nat.beq x y
  | .negSucc x, .negSucc y => Nat.beq a.1 b.1 && Nat.beq x y
  | _, _ => false
noncomputable def ai_leq {α : Type} (f : α → α → Bool) (l : List α) : List α → Bool := List.rec (motive := fun _ => List α → Bool) (fun m => match m with
  | [] => true
  | _ :: _ => false) (fun a _ ih m => match m with
  | [] => false
  | b :: m => bif f a b then ih m else false) l
noncomputable def ai_ceq (a b : ai_E) : Bool := bif Nat.beq a.1 b.1 then (bif Nat.beq a.2.1 b.2.1 then ai_leq ai_veq a.2.2 b.2.2 else false) else false
noncomputable def ai_oeq (a b : ai_M × Option ai_V) : Bool := match a.2, b.2 with
  | some v, some w => bif ai_veq v w then ai_leq ai_ceq a.1 b.1 else false
  | _, _ => false
def ai_adj (n0 k : Nat) (A B : ai_T) : Bool := match A[k]?, B[k]? with
  | some a, some b => bif decide (a.1 ≤ b.2 + 1) && decide (b.1 ≤ a.2 + 1) then decide (A.take k = B.take k) && decide ((A.take n0).drop (k + 1) = (B.take n0).drop (k + 1)) else false
  | _, _ => false
noncomputable def ai_ins (n0 k : Nat) (o : ai_O) : List ai_O → List ai_O
  | [] => [o]
  | q :: r => bif ai_adj n0 k q.1 o.1 && ai_oeq q.2 o.2 then (ai_hT q.1 o.1, o.2) :: r else q :: ai_ins n0 k o r
noncomputable def ai_fo (n0 k : Nat) (outs : List ai_O) : List ai_O := outs.foldl (fun acc o => ai_ins n0 k o acc) []
/-- a number in a cell, known no longer but by two bounds -/
def ai_fg (c k : Nat) (lo hi : Int) (o : ai_O) : ai_O := match o.2.1[c]? with
  | some (0, ci, items) => (match items[k]? with
    | some v => (match ai_ii o.1 v with
      | some p => bif decide (lo ≤ p.1) && decide (p.2 ≤ hi) then (o.1 ++ [(lo, hi)], o.2.1.set c (0, ci, items.set k (1, (o.1.length : Int))), o.2.2) else o
      | none => o)
    | none => o)
  | _ => o
noncomputable def ai_ml (n0 i : Nat) (outs : List ai_O) : List ai_O := bif Nat.beq i 65 then ai_fo n0 4 (ai_fo n0 3 (ai_fo n0 2 outs)) else bif Nat.beq i 93 then ai_fo n0 3 (ai_fo n0 2 (outs.map (ai_fg 41 10 0 60))) else outs
def ai_z7 (r : ai_Z) (pc ce sl : Nat) (l : ai_L) (rest : List ai_V) (o : ai_O) : Bool := r pc ce sl o.1 o.2.1 l (o.2.2.toList ++ rest)
noncomputable def ai_z10 (r : ai_Z) (pc ce sl : Nat) (l : ai_L) (rest : List ai_V) (n0 r1 : Nat) (o : Option (List ai_O)) : Bool := match o with
  | none => false
  | some outs => (ai_ml n0 r1 outs).all (ai_z7 r pc ce sl l rest)
noncomputable def ai_z9 (nn dd : Nat) (r : ai_Z) (pc ce sl : Nat) (T : ai_T) (M : ai_M) (l : ai_L) (as rest : List ai_V) (r1 : Nat) : Bool :=
  bif Nat.ble (ce + (mj_al r1).1) 600000 && Nat.ble (sl + (mj_al r1).2) 7302250 then ai_z10 r (pc + 3) (ce + (mj_al r1).1) (sl + (mj_al r1).2) l rest T.length r1 (ai_ex false 0 0 nn dd r1 0 0 0 T M (ai_args 0 as) []) else false
noncomputable def ai_z8 (nn dd : Nat) (r : ai_Z) (pc ce sl : Nat) (T : ai_T) (M : ai_M) (l : ai_L) (st : List ai_V) (ins : Instr) (len r1 r2 : Nat) (o : Option (List ai_V × List ai_V)) : Bool := match o with
  | some q => ai_z9 nn dd r pc ce sl T M l q.1 q.2 r1
  | none => ai_z5 r pc ce sl T M l st ins len r1 r2
noncomputable def ai_z2 (nn dd : Nat) (r : ai_Z) (pc ce sl : Nat) (T : ai_T) (M : ai_M) (l : ai_L) (st : List ai_V) (ins : Instr) (len r1 r2 : Nat) : Bool :=
  bif Nat.beq (ai_cq ins) 0 then ai_z5 r pc ce sl T M l st ins len r1 r2 else
  bif Nat.beq (ai_cq ins) 1 then ai_gd (ai_ret (some .boolean) ins len T st) else ai_z8 nn dd r pc ce sl T M l st ins len r1 r2 (ai_call ins len r1 r2 M st)
noncomputable def ai_z1 (nn dd : Nat) (r : ai_Z) (pc ce sl : Nat) (T : ai_T) (M : ai_M) (l : ai_L) (st : List ai_V) (o : Option (Instr × Nat × Nat × Nat)) : Bool := match o with
  | none => false
  | some (ins, len, r1, r2) => ai_z2 nn dd r pc ce sl T M l st ins len r1 r2
noncomputable def ai_z0 (ct : ai_Z) (nn dd : Nat) (r : ai_Z) (pc ce sl : Nat) (T : ai_T) (M : ai_M) (l : ai_L) (st : List ai_V) : Bool := bif ct pc ce sl T M l st then true else ai_z1 nn dd r pc ce sl T M l st (mj_cd 193 pc)
noncomputable def ai_lx (ct : ai_Z) (nn dd n : Nat) : ai_Z := Nat.rec (motive := fun _ => ai_Z) (fun _ _ _ _ _ _ _ => false) (fun _ ih => ai_z0 ct nn dd ih) n
theorem ai_hT_ok : ∀ {T T' : ai_T} {ρ : List Int}, ai_sat ρ T → ∃ ρ', ai_le ρ ρ' ∧ ai_sat ρ' (ai_hT T T') ∧ ai_sat ρ' (ai_hT T' T)
  | [], [], ρ, h => ⟨ρ, ai_le_rf, h, h⟩
  | p :: T, [], ρ, h => by
    obtain ⟨hl, hq⟩ := h
    cases ρ with
    | nil => cases hl
    | cons z ρ =>
      obtain ⟨ρ', g1, g2, g3⟩ := ai_hT_ok (T := T) (T' := []) (ρ := ρ) ⟨by simpa using hl, fun k y q a b => hq (k + 1) y q a b⟩
      have hz := hq 0 z p rfl rfl
      refine ⟨z :: ρ', fun k y q => ?_, ⟨congrArg Nat.succ g2.1, fun k y q a b => ?_⟩, ⟨congrArg Nat.succ g3.1, fun k y q a b => ?_⟩⟩
      · cases k with
        | zero => exact q
        | succ k => exact g1 k y q
      · cases k with
        | zero =>
          cases a
          cases b
          simp only
          omega
        | succ k => exact g2.2 k y q a b
      · cases k with
        | zero =>
          cases a
          cases b
          simp only
          omega
        | succ k => exact g3.2 k y q a b
  | [], p :: T', ρ, h => by
    obtain ⟨hl, hq⟩ := h
    cases ρ with
    | cons z ρ => cases hl
    | nil =>
      obtain ⟨ρ', g1, g2, g3⟩ := ai_hT_ok (T := []) (T' := T') (ρ := []) ⟨rfl, fun k y q a b => by cases k <;> cases a⟩
      refine ⟨0 :: ρ', (fun k y q => by cases k <;> cases q), ⟨congrArg Nat.succ g2.1, fun k y q a b => ?_⟩, ⟨congrArg Nat.succ g3.1, fun k y q a b => ?_⟩⟩
      · cases k with
        | zero =>
          cases a
          cases b
          simp only
          omega
        | succ k => exact g2.2 k y q a b
      · cases k with
        | zero =>
          cases a
          cases b
          simp only
          omega
        | succ k => exact g3.2 k y q a b
  | p :: T, p' :: T', ρ, h => by
    obtain ⟨hl, hq⟩ := h
    cases ρ with
    | nil => cases hl
    | cons z ρ =>
      obtain ⟨ρ', g1, g2, g3⟩ := ai_hT_ok (T := T) (T' := T') (ρ := ρ) ⟨by simpa using hl, fun k y q a b => hq (k + 1) y q a b⟩
      have hz := hq 0 z p rfl rfl
      refine ⟨z :: ρ', fun k y q => ?_, ⟨congrArg Nat.succ g2.1, fun k y q a b => ?_⟩, ⟨congrArg Nat.succ g3.1, fun k y q a b => ?_⟩⟩
      · cases k with
        | zero => exact q
        | succ k => exact g1 k y q
      · cases k with
        | zero =>
          cases a
          cases b
          simp only
          omega
        | succ k => exact g2.2 k y q a b
      · cases k with
        | zero =>
          cases a
          cases b
          simp only
          omega
        | succ k => exact g3.2 k y q a b
def ai_cov (o o' : ai_O) : Prop := ∀ (ρ : List Int) (cM : mj_M) (rv : Option Value), ai_sat ρ o.1 → ai_mm ρ o.2.1 cM → ai_rk ρ o.2.2 rv → ∃ ρ', ai_le ρ ρ' ∧ ai_sat ρ' o'.1 ∧ ai_mm ρ' o'.2.1 cM ∧ ai_rk ρ' o'.2.2 rv
theorem ai_rk_mono {ρ ρ' : List Int} {o : Option ai_V} {rv : Option Value} (h : ai_le ρ ρ') (q : ai_rk ρ o rv) : ai_rk ρ' o rv := by
  cases o with
  | none => cases rv with
    | none => trivial
    | some v => exact q.elim
  | some a => cases rv with
    | none => exact q.elim
    | some v => exact ai_c_mono h q
theorem ai_cov_rf {o : ai_O} : ai_cov o o := fun ρ _ _ h1 h2 h3 => ⟨ρ, ai_le_rf, h1, h2, h3⟩
theorem ai_cov_tr {a b c : ai_O} (h : ai_cov a b) (g : ai_cov b c) : ai_cov a c := fun ρ cM rv q1 q2 q3 => by
  obtain ⟨ρ1, h1, h2, h3, h4⟩ := h ρ cM rv q1 q2 q3
  obtain ⟨ρ2, g1, g2⟩ := g ρ1 cM rv h2 h3 h4
  exact ⟨ρ2, ai_le_tr h1 g1, g2⟩
theorem ai_cov_of {o o' : ai_O} (e : o'.2 = o.2) (h : ∀ ρ, ai_sat ρ o.1 → ∃ ρ', ai_le ρ ρ' ∧ ai_sat ρ' o'.1) : ai_cov o o' := fun ρ cM rv q1 q2 q3 => by
  obtain ⟨ρ', h1, h2⟩ := h ρ q1
  refine ⟨ρ', h1, h2, ?_, ?_⟩
  · rw [e]
    exact ai_mm_mono h1 q2
  · rw [e]
    exact ai_rk_mono h1 q3
theorem ai_setself {α : Type} : ∀ {l : List α} {k : Nat} {v : α}, l[k]? = some v → l.set k v = l
  | [], _, _, h => by cases h
  | a :: l, 0, v, h => by
    cases h
    rfl
  | a :: l, k + 1, v, h => by
    show a :: l.set k v = a :: l
    rw [ai_setself (l := l) (k := k) (v := v) h]
theorem ai_fg_ok {c k : Nat} {lo hi : Int} {o : ai_O} : ai_cov o (ai_fg c k lo hi o) := by
  unfold ai_fg
  split
  · rename_i ci items hM
    split
    · rename_i v hv
      split
      · rename_i p hp
        cases hb : decide (lo ≤ p.1) && decide (p.2 ≤ hi) with
        | false => exact ai_cov_rf
        | true =>
          rw [cond_true]
          simp only [Bool.and_eq_true, decide_eq_true_eq] at hb
          intro ρ cM rv q1 q2 q3
          obtain ⟨e, he, fs, rfl, hfs⟩ := ai_mm_get q2 hM
          obtain ⟨w, hw, hc⟩ := ai_ss_get hfs hv
          obtain ⟨x, rfl, hz, x1, x2, -⟩ := ai_ii_ok q1 hp hc
          have hle : ai_le ρ (ρ ++ [x.toInt]) := ai_le_app _
          have hcs : ai_c (ρ ++ [x.toInt]) (1, (o.1.length : Int)) = some (.int x) := by
            have h9 := ai_push_get (z := x.toInt) q1
            show ((ρ ++ [x.toInt])[((o.1.length : Nat) : Int).toNat]?).map (fun z => Value.int (Int32.ofInt z)) = _
            rw [show ((o.1.length : Nat) : Int).toNat = o.1.length from rfl, h9]
            show some (Value.int (Int32.ofInt x.toInt)) = _
            rw [Int32.ofInt_toInt]
          refine ⟨_, hle, ai_sat_push q1 (by omega) (by omega), ?_, ai_rk_mono hle q3⟩
          have h1 : ai_e (ρ ++ [x.toInt]) (0, ci, items.set k (1, (o.1.length : Int))) (.inr (ci, fs)) := by
            refine ⟨fs, rfl, ?_⟩
            have h2 := ai_ss_set (k := k) (ai_ss_mono hle hfs) hcs
            rw [ai_setself hw] at h2
            exact h2
          have h3 := ai_mm_set (k := c) (ai_mm_mono hle q2) h1
          rw [ai_setself he] at h3
          exact h3
      · exact ai_cov_rf
    · exact ai_cov_rf
  · exact ai_cov_rf
theorem ai_veq_ok {a b : ai_V} (h : ai_veq a b = true) : a = b := by
  obtain ⟨a1, a2⟩ := a
  obtain ⟨b1, b2⟩ := b
  unfold ai_veq at h
  simp only at h
  split at h
  · simp only [Bool.and_eq_true, Nat.beq_eq] at h
    rw [h.1, h.2]
  · simp only [Bool.and_eq_true, Nat.beq_eq] at h
    rw [h.1, h.2]
  · cases h
theorem ai_leq_ok {α : Type} {f : α → α → Bool} (hf : ∀ a b, f a b = true → a = b) : ∀ {l m : List α}, ai_leq f l m = true → l = m
  | [], [], _ => rfl
  | [], _ :: _, h => by cases h
  | _ :: _, [], h => by cases h
  | a :: l, b :: m, h => by
    change (bif f a b then ai_leq f l m else false) = true at h
    cases hb : f a b with
    | false => rw [hb] at h; cases h
    | true =>
      rw [hb, cond_true] at h
      rw [hf a b hb, ai_leq_ok hf h]
theorem ai_ceq_ok {a b : ai_E} (h : ai_ceq a b = true) : a = b := by
  obtain ⟨a1, a2, a3⟩ := a
  obtain ⟨b1, b2, b3⟩ := b
  unfold ai_ceq at h
  simp only at h
  cases h1 : Nat.beq a1 b1 with
  | false => rw [h1] at h; cases h
  | true =>
    rw [h1, cond_true] at h
    cases h2 : Nat.beq a2 b2 with
    | false => rw [h2] at h; cases h
    | true =>
      rw [h2, cond_true] at h
      rw [Nat.eq_of_beq_eq_true h1, Nat.eq_of_beq_eq_true h2, ai_leq_ok (fun _ _ => ai_veq_ok) h]
theorem ai_oeq_ok {a b : ai_M × Option ai_V} (h : ai_oeq a b = true) : a = b := by
  obtain ⟨a1, a2⟩ := a
  obtain ⟨b1, b2⟩ := b
  unfold ai_oeq at h
  simp only at h
  split at h
  · rename_i v w
    cases h1 : ai_veq v w with
    | false => rw [h1] at h; cases h
    | true =>
      rw [h1, cond_true] at h
      rw [ai_veq_ok h1, ai_leq_ok (fun _ _ => ai_ceq_ok) h]
  · cases h
theorem ai_ins_ok {n0 k : Nat} {o : ai_O} : ∀ {acc : List ai_O} {x : ai_O}, x ∈ o :: acc → ∃ y ∈ ai_ins n0 k o acc, ai_cov x y
  | [], x, h => ⟨x, h, ai_cov_rf⟩
  | q :: r, x, h => by
    unfold ai_ins
    cases hb : ai_adj n0 k q.1 o.1 && ai_oeq q.2 o.2 with
    | false =>
      rw [cond_false]
      rcases List.mem_cons.mp h with rfl | h
      · obtain ⟨y, hy, hc⟩ := ai_ins_ok (n0 := n0) (k := k) (o := x) (acc := r) (x := x) List.mem_cons_self
        exact ⟨y, List.mem_cons_of_mem _ hy, hc⟩
      · rcases List.mem_cons.mp h with rfl | h
        · exact ⟨x, List.mem_cons_self, ai_cov_rf⟩
        · obtain ⟨y, hy, hc⟩ := ai_ins_ok (n0 := n0) (k := k) (o := o) (acc := r) (x := x) (List.mem_cons_of_mem _ h)
          exact ⟨y, List.mem_cons_of_mem _ hy, hc⟩
    | true =>
      rw [cond_true]
      have e : q.2 = o.2 := ai_oeq_ok (Bool.and_eq_true_iff.mp hb).2
      rcases List.mem_cons.mp h with rfl | h
      · refine ⟨_, List.mem_cons_self, ai_cov_of rfl fun ρ hs => ?_⟩
        obtain ⟨ρ', a, b, c⟩ := ai_hT_ok (T' := q.1) hs
        exact ⟨ρ', a, c⟩
      · rcases List.mem_cons.mp h with rfl | h
        · refine ⟨_, List.mem_cons_self, ai_cov_of e.symm fun ρ hs => ?_⟩
          obtain ⟨ρ', a, b, c⟩ := ai_hT_ok (T' := o.1) hs
          exact ⟨ρ', a, b⟩
        · exact ⟨x, List.mem_cons_of_mem _ h, ai_cov_rf⟩
theorem ai_fold_ok {n0 k : Nat} : ∀ {outs acc : List ai_O} {x : ai_O}, (x ∈ outs ∨ x ∈ acc) → ∃ y ∈ outs.foldl (fun acc o => ai_ins n0 k o acc) acc, ai_cov x y
  | [], acc, x, h => ⟨x, h.resolve_left (by simp), ai_cov_rf⟩
  | o :: outs, acc, x, h => by
    rw [List.foldl_cons]
    by_cases hx : x ∈ o :: acc
    · obtain ⟨y, hy, hc⟩ := ai_ins_ok (n0 := n0) (k := k) hx
      obtain ⟨w, hw, hd⟩ := ai_fold_ok (n0 := n0) (k := k) (outs := outs) (acc := ai_ins n0 k o acc) (x := y) (Or.inr hy)
      exact ⟨w, hw, ai_cov_tr hc hd⟩
    · have h2 : x ∈ outs := by
        rcases h with h | h
        · rcases List.mem_cons.mp h with rfl | h
          · exact absurd List.mem_cons_self hx
          · exact h
        · exact absurd (List.mem_cons_of_mem _ h) hx
      exact ai_fold_ok (Or.inl h2)
theorem ai_on_cov {ρ : List Int} {outs outs' : List ai_O} {rv : Option Value} {cM : mj_M} (h : ai_on ρ outs rv cM) (g : ∀ x ∈ outs, ∃ y ∈ outs', ai_cov x y) : ai_on ρ outs' rv cM := by
  obtain ⟨o, ho, ρ', q1, q2, q3, q4⟩ := h
  obtain ⟨y, hy, hc⟩ := g o ho
  obtain ⟨ρ2, g1, g2, g3, g4⟩ := hc ρ' cM rv q2 q3 q4
  exact ⟨y, hy, ρ2, ai_le_tr q1 g1, g2, g3, g4⟩
theorem ai_fo_ok {n0 k : Nat} {outs outs' : List ai_O} (h : ∀ x ∈ outs, ∃ y ∈ outs', ai_cov x y) : ∀ x ∈ outs, ∃ y ∈ ai_fo n0 k outs', ai_cov x y := fun x hx => by
  obtain ⟨y, hy, hc⟩ := h x hx
  obtain ⟨z, hz, hd⟩ := ai_fold_ok (n0 := n0) (k := k) (outs := outs') (acc := []) (Or.inl hy)
  exact ⟨z, hz, ai_cov_tr hc hd⟩
theorem ai_ml_ok {ρ : List Int} {n0 i : Nat} {outs : List ai_O} {rv : Option Value} {cM : mj_M} (h : ai_on ρ outs rv cM) : ai_on ρ (ai_ml n0 i outs) rv cM := by
  have h0 : ∀ x ∈ outs, ∃ y ∈ outs, ai_cov x y := fun x hx => ⟨x, hx, ai_cov_rf⟩
  unfold ai_ml
  cases Nat.beq i 65 with
  | true => exact ai_on_cov h (ai_fo_ok (ai_fo_ok (ai_fo_ok h0)))
  | false =>
    rw [cond_false]
    cases Nat.beq i 93 with
    | false => exact h
    | true => exact ai_on_cov h (ai_fo_ok (ai_fo_ok (fun x hx => ⟨_, List.mem_map.mpr ⟨x, hx, rfl⟩, ai_fg_ok⟩)))
set_option maxHeartbeats 2000000 in
theorem ai_lx_ok {lch : Launch} {ct : ai_Z} {nn dd : Nat} (hdd : 1 ≤ dd) {L : Nat} {xs : Nat → Int32} {J : mj_JT} (R1 : mj_R1 L xs 193 (ai_ow 193) (ai_nl 193) (Nat.beq (mj_ki 193) 2) 600000 7302250 J) (R2 : mj_R2 lch 193 (dd + 1) 600000 7302250 J)
    (R3 : ∀ (ce sl : Nat) (M : mj_M) (pc : Nat) (lo : mj_L) (st : List Value) (ins : Instr) (len r1 r2 : Nat), mj_cd 193 pc = some (ins, len, r1, r2) → mj_rtn (some .boolean) ins len st = some (some (.int 1)) → ce ≤ 600000 → sl ≤ 7302250 → J ce sl M pc lo st)
    (hct : ∀ (pc ce sl : Nat) (T : ai_T) (M : ai_M) (l : ai_L) (st : List ai_V) (ρ : List Int) (cM : mj_M) (cl : mj_L) (cst : List Value), ct pc ce sl T M l st = true → ai_sc false L xs ρ → ai_G ρ T M l st cM cl cst → ce ≤ 600000 → sl ≤ 7302250 → J ce sl cM pc cl cst) :
    ∀ (n pc ce sl : Nat) (T : ai_T) (M : ai_M) (l : ai_L) (st : List ai_V) (ρ : List Int) (cM : mj_M) (cl : mj_L) (cst : List Value), ai_lx ct nn dd n pc ce sl T M l st = true → ai_sc false L xs ρ → ai_G ρ T M l st cM cl cst → ce ≤ 600000 → sl ≤ 7302250 → J ce sl cM pc cl cst
  | 0, _, _, _, _, _, _, _, _, _, _, _, h, _, _, _, _ => by cases h
  | n + 1, pc, ce, sl, T, M, l, st, ρ, cM, cl, cst, h, hsc, hG, hce, hsl => by
    obtain ⟨hs, hm, hl, hst⟩ := id hG
    have ih := ai_lx_ok (lch := lch) (ct := ct) (nn := nn) hdd R1 R2 R3 hct n
    change (bif ct pc ce sl T M l st then true else ai_z1 nn dd (ai_lx ct nn dd n) pc ce sl T M l st (mj_cd 193 pc)) = true at h
    cases hc0 : ct pc ce sl T M l st with
    | true => exact hct pc ce sl T M l st ρ cM cl cst hc0 hsc hG hce hsl
    | false =>
    rw [hc0, cond_false] at h
    unfold ai_z1 at h
    split at h
    · cases h
    · rename_i ins len r1 r2 hcd
      have step : ai_z5 (ai_lx ct nn dd n) pc ce sl T M l st ins len r1 r2 = true → J ce sl cM pc cl cst := by
        intro h
        unfold ai_z5 ai_z3 at h
        split at h
        · cases h
        · rename_i succs hstep
          have hstep := ai_sel_ok' hstep
          obtain ⟨dc, ds, cM', pc', cl', cst', T', M', l', st', ρ', hr, hmem, hle, hG', h1, h2⟩ := ai_step_ok (xs := xs) (L := L) hG hce hsl (hsc) hstep
          have hy := List.all_eq_true.mp h _ hmem
          exact R1 ce sl cM pc cl cst ins len r1 r2 dc ds cM' pc' cl' cst' hcd hr h1 h2 (ih pc' (ce + dc) (sl + ds) T' M' l' st' ρ' cM' cl' cst' hy (ai_sc_mono hsc hle) hG' h1 h2)
      unfold ai_z2 at h
      cases hA : Nat.beq (ai_cq ins) 0 with
      | true =>
        rw [hA] at h
        simp only [cond_true] at h
        exact step h
      | false =>
        rw [hA] at h
        simp only [cond_false] at h
        cases hB : Nat.beq (ai_cq ins) 1 with
        | true =>
          rw [hB] at h
          simp only [cond_true] at h
          unfold ai_gd at h
          split at h
          · rename_i v hrv
            obtain ⟨w, hw, hk⟩ := ai_ret_ok hs hst hrv
            simp only [Bool.and_eq_true, decide_eq_true_eq] at h
            have e1 := ai_bq h.1
            have e2 := h.2
            obtain ⟨v1, v2⟩ := v
            simp only at e1 e2
            subst e1
            subst e2
            cases w with
            | none => exact hk.elim
            | some w =>
              cases hk
              exact R3 ce sl cM pc cl cst ins len r1 r2 hcd hw hce hsl
          · cases h
        | false =>
          rw [hB] at h
          simp only [cond_false] at h
          unfold ai_z8 at h
          split at h
          · rename_i asr hcall
            obtain ⟨as, rest⟩ := asr
            unfold ai_z9 at h
            cases hb : Nat.ble (ce + (mj_al r1).1) 600000 && Nat.ble (sl + (mj_al r1).2) 7302250 with
            | false => rw [hb, cond_false] at h; cases h
            | true =>
            rw [hb, cond_true] at h
            simp only [Bool.and_eq_true, Nat.ble_eq] at hb
            unfold ai_z10 at h
            split at h
            · cases h
            · rename_i outs2 hcal
              obtain ⟨idx, vas, vrest, rfl, c1, c2, c3, c4, c5, c6, c7, c8, c9, c10, c11⟩ := ai_call_ok hm hst hcall
              have emc : ai_mc r1 0 = (mj_al r1).1 := by unfold ai_mc; rw [Nat.blt_eq.mpr c2]; rfl
              have ems : ai_ms r1 0 = (mj_al r1).2 := by unfold ai_ms; rw [Nat.blt_eq.mpr c2]; rfl
              have eow : ai_ow r1 = mj_ow r1 := by unfold ai_ow; rw [Nat.blt_eq.mpr c2]; rfl
              have enl : ai_nl r1 = mj_ml r1 := by unfold ai_nl; rw [Nat.blt_eq.mpr c2]; rfl
              have ert : ai_rt r1 = mj_rt r1 := by unfold ai_rt; rw [Nat.blt_eq.mpr c2]; rfl
              refine R2 ce sl cM pc cl cst ins idx r1 r2 vas vrest dd (mj_al r1).1 (mj_al r1).2 (ai_on ρ (ai_ml T.length r1 outs2)) hcd c1 c2 c3 c4 c5 c6 c7 (mj_Me_of c2 hdd c9 ?_) (Nat.le_refl _) hb.1 hb.2 c8 ?_
              · intro L2 xs2 J2 r1' r2' r3'
                refine ai_ex_ok (lch := lch) nn false 0 0 dd r1 0 0 0 T M (ai_args 0 as) [] outs2 ρ cM (lv_args 0 vas) [] L2 xs2 J2 (ai_on ρ (ai_ml T.length r1 outs2)) hcal (fun e => by cases e) ?_ ?_ ?_ (fun rv cM' q => ai_ml_ok q) ⟨hs, hm, ai_args_ok 0 c10, trivial⟩ (Nat.zero_le _) (Nat.zero_le _)
                · rw [emc, ems, eow, enl]
                  exact r1'
                · rw [emc, ems]
                  exact r2'
                · rw [emc, ems, ert]
                  exact r3'
              · rintro rv cM' ⟨o, ho, ρ', q1, q2, q3, q4⟩ -
                have hy := List.all_eq_true.mp h o ho
                exact ih (pc + 3) _ _ o.1 o.2.1 l _ ρ' cM' cl _ hy (ai_sc_mono hsc q1) ⟨q2, q3, ai_sl_mono q1 hl, ai_rk_ss q4 (ai_ss_mono q1 c11)⟩ hb.1 hb.2
          · exact step h
