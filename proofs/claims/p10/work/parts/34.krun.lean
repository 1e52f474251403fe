/-! A RUN WITH FACTS AND CONTRACTS -/
abbrev ak_OL : Type := List (ai_T × ak_X × ai_M × Option ai_V)
/-- several ways out of a method that changes nothing: one for each answer -/
def ak_h0 : ai_T → ai_T
  | [] => []
  | q :: T => (bif ai_ltb 0 q.1 then 0 else q.1, bif ai_ltb q.2 0 then 0 else q.2) :: ak_h0 T
def ak_hT : ai_T → ai_T → ai_T
  | [], B => ak_h0 B
  | p :: T, B => match B with
    | [] => (bif ai_ltb 0 p.1 then 0 else p.1, bif ai_ltb p.2 0 then 0 else p.2) :: ak_hT T []
    | q :: B => (bif ai_ltb p.1 q.1 then p.1 else q.1, bif ai_ltb p.2 q.2 then q.2 else p.2) :: ak_hT T B
theorem ak_bl (a b : Int) : (bif ai_ltb a b then a else b) ≤ a ∧ (bif ai_ltb a b then a else b) ≤ b ∧ a ≤ (bif ai_ltb a b then b else a) ∧ b ≤ (bif ai_ltb a b then b else a) := by
  rw [ai_ltb_eq]
  cases h : decide (a < b) with
  | true => rw [decide_eq_true_eq] at h; simp only [cond_true]; omega
  | false => rw [decide_eq_false_iff_not] at h; simp only [cond_false]; omega
theorem ak_hT_ok : ∀ {T T' : ai_T} {ρ : List Int}, ai_sat ρ T → ∃ ρ', ai_le ρ ρ' ∧ ai_sat ρ' (ak_hT T T') ∧ ai_sat ρ' (ak_hT T' T)
  | [], [], ρ, h => ⟨ρ, ai_le_rf, h, h⟩
  | p :: T, [], ρ, h => by
    obtain ⟨hl, hq⟩ := h
    cases ρ with
    | nil => cases hl
    | cons z ρ =>
      obtain ⟨ρ', g1, g2, g3⟩ := ak_hT_ok (T := T) (T' := []) (ρ := ρ) ⟨by simpa using hl, fun k y q a b => hq (k + 1) y q a b⟩
      have hz := hq 0 z p rfl rfl
      have b1 := ak_bl 0 p.1
      have b2 := ak_bl p.2 0
      refine ⟨z :: ρ', fun k y q => ?_, ⟨congrArg Nat.succ g2.1, fun k y q a b => ?_⟩, ⟨congrArg Nat.succ g3.1, fun k y q a b => ?_⟩⟩
      · cases k with
        | zero => exact q
        | succ k => exact g1 k y q
      · cases k with
        | zero =>
          cases a
          cases b
          have e1 : (bif ai_ltb 0 p.1 then 0 else p.1) ≤ p.1 := b1.2.1
          have e2 : p.2 ≤ (bif ai_ltb p.2 0 then 0 else p.2) := b2.2.2.1
          exact ⟨Int.le_trans e1 hz.1, Int.le_trans hz.2 e2⟩
        | succ k => exact g2.2 k y q a b
      · cases k with
        | zero =>
          cases a
          cases b
          have e1 : (bif ai_ltb 0 p.1 then 0 else p.1) ≤ p.1 := b1.2.1
          have e2 : p.2 ≤ (bif ai_ltb p.2 0 then 0 else p.2) := b2.2.2.1
          exact ⟨Int.le_trans e1 hz.1, Int.le_trans hz.2 e2⟩
        | succ k => exact g3.2 k y q a b
  | [], p :: T', ρ, h => by
    obtain ⟨hl, hq⟩ := h
    cases ρ with
    | cons z ρ => cases hl
    | nil =>
      obtain ⟨ρ', g1, g2, g3⟩ := ak_hT_ok (T := []) (T' := T') (ρ := []) ⟨rfl, fun k y q a b => by cases k <;> cases a⟩
      have b1 := ak_bl 0 p.1
      have b2 := ak_bl p.2 0
      refine ⟨0 :: ρ', (fun k y q => by cases k <;> cases q), ⟨congrArg Nat.succ g2.1, fun k y q a b => ?_⟩, ⟨congrArg Nat.succ g3.1, fun k y q a b => ?_⟩⟩
      · cases k with
        | zero =>
          cases a
          cases b
          exact ⟨b1.1, b2.2.2.2⟩
        | succ k => exact g2.2 k y q a b
      · cases k with
        | zero =>
          cases a
          cases b
          exact ⟨b1.1, b2.2.2.2⟩
        | succ k => exact g3.2 k y q a b
  | p :: T, p' :: T', ρ, h => by
    obtain ⟨hl, hq⟩ := h
    cases ρ with
    | nil => cases hl
    | cons z ρ =>
      obtain ⟨ρ', g1, g2, g3⟩ := ak_hT_ok (T := T) (T' := T') (ρ := ρ) ⟨by simpa using hl, fun k y q a b => hq (k + 1) y q a b⟩
      have hz := hq 0 z p rfl rfl
      have b1 := ak_bl p.1 p'.1
      have b2 := ak_bl p.2 p'.2
      have b3 := ak_bl p'.1 p.1
      have b4 := ak_bl p'.2 p.2
      refine ⟨z :: ρ', fun k y q => ?_, ⟨congrArg Nat.succ g2.1, fun k y q a b => ?_⟩, ⟨congrArg Nat.succ g3.1, fun k y q a b => ?_⟩⟩
      · cases k with
        | zero => exact q
        | succ k => exact g1 k y q
      · cases k with
        | zero =>
          cases a
          cases b
          exact ⟨Int.le_trans b1.1 hz.1, Int.le_trans hz.2 b2.2.2.1⟩
        | succ k => exact g2.2 k y q a b
      · cases k with
        | zero =>
          cases a
          cases b
          exact ⟨Int.le_trans b3.2.1 hz.1, Int.le_trans hz.2 b4.2.2.2⟩
        | succ k => exact g3.2 k y q a b
noncomputable def ak_meq (M : ai_M) : ai_M → Bool := List.rec (motive := fun _ => ai_M → Bool) (fun N => match N with
  | [] => true
  | _ :: _ => false) (fun e _ ih N => match N with
  | [] => false
  | h :: N => bif (Nat.beq e.1 h.1 && Nat.beq e.2.1 h.2.1) && ak_leq e.2.2 h.2.2 then ih N else false) M
theorem ak_meq_ok : ∀ {M N : ai_M}, ak_meq M N = true → M = N
  | [], [], _ => rfl
  | [], _ :: _, h => by cases h
  | _ :: _, [], h => by cases h
  | e :: M, g :: N, h => by
    change (bif (Nat.beq e.1 g.1 && Nat.beq e.2.1 g.2.1) && ak_leq e.2.2 g.2.2 then ak_meq M N else false) = true at h
    cases hb : (Nat.beq e.1 g.1 && Nat.beq e.2.1 g.2.1) && ak_leq e.2.2 g.2.2 with
    | false => rw [hb] at h; cases h
    | true =>
      rw [hb, cond_true] at h
      simp only [Bool.and_eq_true, Nat.beq_eq] at hb
      obtain ⟨e1, e2, e3⟩ := e
      obtain ⟨g1, g2, g3⟩ := g
      simp only at hb
      rw [ak_meq_ok h, hb.1.1, hb.1.2, ak_leq_ok hb.2]
def ak_req (a b : Option ai_V) : Bool := match a, b with
  | some v, some w => ak_veq v w
  | none, none => true
  | _, _ => false
theorem ak_req_ok {a b : Option ai_V} (h : ak_req a b = true) : a = b := by
  unfold ak_req at h
  split at h
  · rw [ak_veq_ok h]
  · rfl
  · cases h
noncomputable def ak_in (X : ak_X) (o : ai_T × ak_X × ai_M × Option ai_V) : ak_OL → ak_OL
  | [] => [(o.1, X, o.2.2)]
  | q :: r => bif ak_req q.2.2.2 o.2.2.2 && ak_meq q.2.2.1 o.2.2.1 then (ak_hT q.1 o.1, X, o.2.2) :: r else q :: ak_in X o r
noncomputable def ak_mg (i : Nat) (X : ak_X) (outs : ak_OL) : ak_OL := bif Nat.beq i 40 || Nat.beq i 43 then outs.foldl (fun acc o => ak_in X o acc) [] else outs
def ak_cv (o o' : ai_T × ak_X × ai_M × Option ai_V) : Prop := o'.2.2 = o.2.2 ∧ ∀ ρ, ai_sat ρ o.1 → ∃ ρ', ai_le ρ ρ' ∧ ai_sat ρ' o'.1
theorem ak_cv_rf {o : ai_T × ak_X × ai_M × Option ai_V} : ak_cv o o := ⟨rfl, fun ρ h => ⟨ρ, ai_le_rf, h⟩⟩
theorem ak_cv_tr {a b c : ai_T × ak_X × ai_M × Option ai_V} (h : ak_cv a b) (g : ak_cv b c) : ak_cv a c := ⟨g.1.trans h.1, fun ρ q => by
  obtain ⟨ρ1, h1, h2⟩ := h.2 ρ q
  obtain ⟨ρ2, g1, g2⟩ := g.2 ρ1 h2
  exact ⟨ρ2, ai_le_tr h1 g1, g2⟩⟩
theorem ak_in_ok {X : ak_X} {o : ai_T × ak_X × ai_M × Option ai_V} : ∀ {acc : ak_OL} {x : ai_T × ak_X × ai_M × Option ai_V}, x ∈ o :: acc → ∃ y ∈ ak_in X o acc, ak_cv x y
  | [], x, h => by
    rcases List.mem_cons.mp h with rfl | h
    · exact ⟨_, List.mem_cons_self, rfl, fun ρ h => ⟨ρ, ai_le_rf, h⟩⟩
    · cases h
  | q :: r, x, h => by
    unfold ak_in
    cases hb : ak_req q.2.2.2 o.2.2.2 && ak_meq q.2.2.1 o.2.2.1 with
    | false =>
      rw [cond_false]
      rcases List.mem_cons.mp h with rfl | h
      · obtain ⟨y, hy, hc⟩ := ak_in_ok (X := X) (o := x) (acc := r) (x := x) List.mem_cons_self
        exact ⟨y, List.mem_cons_of_mem _ hy, hc⟩
      · rcases List.mem_cons.mp h with rfl | h
        · exact ⟨x, List.mem_cons_self, ak_cv_rf⟩
        · obtain ⟨y, hy, hc⟩ := ak_in_ok (X := X) (o := o) (acc := r) (x := x) (List.mem_cons_of_mem _ h)
          exact ⟨y, List.mem_cons_of_mem _ hy, hc⟩
    | true =>
      rw [cond_true]
      rw [Bool.and_eq_true] at hb
      have e : q.2.2 = o.2.2 := Prod.ext (ak_meq_ok hb.2) (ak_req_ok hb.1)
      rcases List.mem_cons.mp h with rfl | h
      · refine ⟨_, List.mem_cons_self, rfl, fun ρ hs => ?_⟩
        obtain ⟨ρ', a, b, c⟩ := ak_hT_ok (T' := q.1) hs
        exact ⟨ρ', a, c⟩
      · rcases List.mem_cons.mp h with rfl | h
        · refine ⟨_, List.mem_cons_self, e.symm, fun ρ hs => ?_⟩
          obtain ⟨ρ', a, b, c⟩ := ak_hT_ok (T' := o.1) hs
          exact ⟨ρ', a, b⟩
        · exact ⟨x, List.mem_cons_of_mem _ h, ak_cv_rf⟩
theorem ak_fo_ok {X : ak_X} : ∀ {outs acc : ak_OL} {x : ai_T × ak_X × ai_M × Option ai_V}, (x ∈ outs ∨ x ∈ acc) → ∃ y ∈ outs.foldl (fun acc o => ak_in X o acc) acc, ak_cv x y
  | [], acc, x, h => ⟨x, h.resolve_left (by simp), ak_cv_rf⟩
  | o :: outs, acc, x, h => by
    rw [List.foldl_cons]
    by_cases hx : x ∈ o :: acc
    · obtain ⟨y, hy, hc⟩ := ak_in_ok (X := X) hx
      obtain ⟨w, hw, hd⟩ := ak_fo_ok (X := X) (outs := outs) (acc := ak_in X o acc) (x := y) (Or.inr hy)
      exact ⟨w, hw, ak_cv_tr hc hd⟩
    · have h2 : x ∈ outs := by
        rcases h with h | h
        · rcases List.mem_cons.mp h with rfl | h
          · exact absurd List.mem_cons_self hx
          · exact h
        · exact absurd (List.mem_cons_of_mem _ h) hx
      exact ak_fo_ok (Or.inl h2)
theorem ak_in_X {X : ak_X} {o : ai_T × ak_X × ai_M × Option ai_V} : ∀ {acc : ak_OL}, (∀ q ∈ acc, q.2.1 = X) → ∀ q ∈ ak_in X o acc, q.2.1 = X
  | [], _, q, h => by
    rcases List.mem_cons.mp h with rfl | h
    · rfl
    · cases h
  | p :: r, ha, q, h => by
    unfold ak_in at h
    cases hb : ak_req p.2.2.2 o.2.2.2 && ak_meq p.2.2.1 o.2.2.1 with
    | true =>
      rw [hb, cond_true] at h
      rcases List.mem_cons.mp h with rfl | h
      · rfl
      · exact ha q (List.mem_cons_of_mem _ h)
    | false =>
      rw [hb, cond_false] at h
      rcases List.mem_cons.mp h with rfl | h
      · exact ha q List.mem_cons_self
      · exact ak_in_X (fun q hq => ha q (List.mem_cons_of_mem _ hq)) q h
theorem ak_fo_X {X : ak_X} : ∀ {outs acc : ak_OL}, (∀ q ∈ acc, q.2.1 = X) → ∀ q ∈ outs.foldl (fun acc o => ak_in X o acc) acc, q.2.1 = X
  | [], _, ha => ha
  | o :: outs, acc, ha => by
    rw [List.foldl_cons]
    exact ak_fo_X (ak_in_X ha)
theorem ak_mg_ok {ρ : List Int} {i : Nat} {X : ak_X} {outs : ak_OL} {rv : Option Value} {cM : mj_M} (hx : ak_sx ρ X) (h : ak_on ρ outs rv cM) : ak_on ρ (ak_mg i X outs) rv cM := by
  unfold ak_mg
  cases Nat.beq i 40 || Nat.beq i 43 with
  | false => exact h
  | true =>
    rw [cond_true]
    obtain ⟨o, ho, ρ', q1, q2, q3, q4, q5⟩ := h
    obtain ⟨y, hy, he, hc⟩ := ak_fo_ok (X := X) (outs := outs) (acc := []) (x := o) (Or.inl ho)
    obtain ⟨ρ2, g1, g2⟩ := hc ρ' q2
    have hX := ak_fo_X (X := X) (outs := outs) (acc := []) (fun q hq => by cases hq) y hy
    refine ⟨y, hy, ρ2, ai_le_tr q1 g1, g2, by rw [hX]; exact ak_sx_mono (ai_le_tr q1 g1) hx, ?_, ?_⟩
    · rw [he]
      exact ai_mm_mono g1 q4
    · rw [he]
      cases hr : o.2.2.2 with
      | none => cases rv with
        | none => trivial
        | some v => rw [hr] at q5; exact q5.elim
      | some a => cases rv with
        | none => rw [hr] at q5; exact q5.elim
        | some v => rw [hr] at q5; exact ai_c_mono g1 q5
/-- how a call is taken (m: the cells that may be written): none by running it, some none not at all, else by these ways out -/
abbrev ak_CF : Type := Nat → ai_T → ak_X → ai_M → List ai_V → Option (Option ak_OL)
abbrev ak_Y : Type := Nat → Nat → Nat → ai_T → ai_M → ai_L → List ai_V → ak_X → Option ak_OL
def ak_y4 (r : ak_Y) (j i : Nat) (q : (Nat × ai_S) × ak_X) : Option ak_OL := r j i q.1.1 q.1.2.2.2.1 q.1.2.2.2.2.1 q.1.2.2.2.2.2.1 q.1.2.2.2.2.2.2 q.2
def ak_y3 (r : ak_Y) (j i : Nat) (o : ak_R) : Option ak_OL := match o with
  | none => none
  | some succs => ai_all succs (ak_y4 r j i)
noncomputable def ak_y5 (r : ak_Y) (j i pc : Nat) (T : ai_T) (M : ai_M) (l : ai_L) (st : List ai_V) (X : ak_X) (ins : Instr) (len r1 r2 : Nat) : Option ak_OL := ak_y3 r j i ((ak_hw ins).1 (mj_ow i) (mj_ml i) (Nat.beq (mj_ki i) 2) 0 0 len r1 r2 pc 0 0 T M l st X)
def ak_y6 (T : ai_T) (X : ak_X) (M : ai_M) (o : Option (Option ai_V)) : Option ak_OL := match o with
  | some rv => some [(T, X, M, rv)]
  | none => none
def ak_y7 (r : ak_Y) (j i pc : Nat) (l : ai_L) (rest : List ai_V) (o : ai_T × ak_X × ai_M × Option ai_V) : Option ak_OL := r j i pc o.1 o.2.2.1 l (o.2.2.2.toList ++ rest) o.2.1
def ak_y10 (r : ak_Y) (j i pc : Nat) (l : ai_L) (rest : List ai_V) (o : Option ak_OL) : Option ak_OL := match o with
  | none => none
  | some outs => ai_all outs (ak_y7 r j i pc l rest)
noncomputable def ak_y11 (r : ak_Y) (j : Nat) (T : ai_T) (X : ak_X) (M : ai_M) (as : List ai_V) (r1 : Nat) : Option ak_OL := match j with
  | 0 => none
  | j + 1 => (match r j r1 0 T M (ai_args 0 as) [] X with
    | none => none
    | some outs => some (ak_mg r1 X outs))
noncomputable def ak_y9 (cf : ak_CF) (r : ak_Y) (j i pc : Nat) (T : ai_T) (M : ai_M) (l : ai_L) (X : ak_X) (as rest : List ai_V) (r1 : Nat) : Option ak_OL := ak_y10 r j i (pc + 3) l rest (match cf r1 T X M as with
  | some o => o
  | none => ak_y11 r j T X M as r1)
noncomputable def ak_y8 (cf : ak_CF) (m : Nat) (r : ak_Y) (j i pc : Nat) (T : ai_T) (M : ai_M) (l : ai_L) (st : List ai_V) (X : ak_X) (ins : Instr) (len r1 r2 : Nat) (o : Option (List ai_V × List ai_V)) : Option ak_OL := match o with
  | some q => bif Nat.beq (mj_al r1).1 0 && Nat.beq (mj_al r1).2 0 then ak_y9 cf r j i pc T M l X q.1 q.2 r1 else none
  | none => bif ak_wok m r1 2 st then ak_y5 r j i pc T M l st X ins len r1 r2 else none
noncomputable def ak_y2 (cf : ak_CF) (m : Nat) (r : ak_Y) (j i pc : Nat) (T : ai_T) (M : ai_M) (l : ai_L) (st : List ai_V) (X : ak_X) (ins : Instr) (len r1 r2 : Nat) : Option ak_OL :=
  bif Nat.beq (ak_q ins) 0 then ak_y5 r j i pc T M l st X ins len r1 r2 else
  bif Nat.beq (ak_q ins) 1 then ak_y6 T X M (ai_ret (mj_rt i) ins len T st) else
  bif Nat.beq (ak_q ins) 2 then ak_y8 cf m r j i pc T M l st X ins len r1 r2 (ai_call ins len r1 r2 M st) else
  bif ak_wok m r1 (ak_q ins) st then ak_y5 r j i pc T M l st X ins len r1 r2 else none
noncomputable def ak_y1 (cf : ak_CF) (m : Nat) (r : ak_Y) (j i pc : Nat) (T : ai_T) (M : ai_M) (l : ai_L) (st : List ai_V) (X : ak_X) (o : Option (Instr × Nat × Nat × Nat)) : Option ak_OL := match o with
  | none => none
  | some (ins, len, r1, r2) => ak_y2 cf m r j i pc T M l st X ins len r1 r2
noncomputable def ak_y0 (cf : ak_CF) (m : Nat) (r : ak_Y) (j i pc : Nat) (T : ai_T) (M : ai_M) (l : ai_L) (st : List ai_V) (X : ak_X) : Option ak_OL := ak_y1 cf m r j i pc T M l st X (mj_cd i pc)
noncomputable def ak_kx (cf : ak_CF) (m : Nat) (n : Nat) : ak_Y := Nat.rec (motive := fun _ => ak_Y) (fun _ _ _ _ _ _ _ _ => none) (fun _ ih => ak_y0 cf m ih) n
/-- what the callees' ways out are worth -/
def ak_hC (lch : Launch) (cf : ak_CF) (Wl : List Nat) (D : Nat) (ρ0 : List Int) : Prop := ∀ (r1 : Nat) (T : ai_T) (X : ak_X) (M : ai_M) (as : List ai_V) (rs : ak_OL) (ρ : List Int) (cM : mj_M) (vas : List Value), cf r1 T X M as = some (some rs) → ai_le ρ0 ρ → ai_sat ρ T → ak_sx ρ X → ai_mm ρ M cM → ai_ss ρ as vas → ∃ d', d' + 1 ≤ D ∧ mj_Me lch r1 d' 0 0 vas cM (fun rv cM' => ak_on ρ rs rv cM' ∧ ak_fr Wl cM cM')
set_option maxHeartbeats 2000000 in
theorem ak_kx_ok {lch : Launch} {cf : ak_CF} {Wl : List Nat} {C0 : mj_M} {D : Nat} {ρ0 : List Int} (hD : 1 ≤ D) (hC : ak_hC lch cf Wl D ρ0) : ∀ (n j i pc : Nat) (T : ai_T) (M : ai_M) (l : ai_L) (st : List ai_V) (X : ak_X) (outs : ak_OL) (ρ : List Int) (cM : mj_M) (cl : mj_L) (cst : List Value) (L : Nat) (xs : Nat → Int32) (J : mj_JT) (Qr : Option Value → mj_M → Prop),
    ak_kx cf (ak_mk Wl) n j i pc T M l st X = some outs → mj_R1 L xs i (mj_ow i) (mj_ml i) (Nat.beq (mj_ki i) 2) 0 0 J → mj_R2 lch i (D + j) 0 0 J → mj_R3 i (mj_rt i) 0 0 Qr J →
    (∀ rv cM', ak_on ρ outs rv cM' → ak_fr Wl C0 cM' → Qr rv cM') → ai_le ρ0 ρ → ai_G ρ T M l st cM cl cst → ak_sx ρ X → ak_fr Wl C0 cM → J 0 0 cM pc cl cst
  | 0, _, _, _, _, _, _, _, _, _, _, _, _, _, _, _, _, _, h, _, _, _, _, _, _, _, _ => by cases h
  | n + 1, j, i, pc, T, M, l, st, X, outs, ρ, cM, cl, cst, L, xs, J, Qr, h, R1, R2, R3, hQ, hle0, hG, hx, hfr => by
    obtain ⟨hs, hm, hl, hst⟩ := id hG
    have ih := fun {C0 : mj_M} => ak_kx_ok (lch := lch) (cf := cf) (Wl := Wl) (C0 := C0) (D := D) (ρ0 := ρ0) hD hC n
    change ak_y1 cf (ak_mk Wl) (ak_kx cf (ak_mk Wl) n) j i pc T M l st X (mj_cd i pc) = some outs at h
    unfold ak_y1 at h
    split at h
    · cases h
    · rename_i ins len r1 r2 hcd
      have step : ak_wok (ak_mk Wl) r1 (ak_q ins) st = true → ak_y5 (ak_kx cf (ak_mk Wl) n) j i pc T M l st X ins len r1 r2 = some outs → J 0 0 cM pc cl cst := by
        intro hwok h
        unfold ak_y5 ak_y3 at h
        split at h
        · cases h
        · rename_i succs hstep
          obtain ⟨dc, ds, cM', pc', cl', cst', T', M', l', st', X', ρ', hr, hmem, hle, hG', hx', h1, h2⟩ := ak_step_ok (xs := xs) (L := L) hG hx (Nat.le_refl 0) (Nat.le_refl 0) hstep
          obtain ⟨y, hy, hyr⟩ := ai_all_ok h _ hmem
          have e1 : dc = 0 := by omega
          have e2 : ds = 0 := by omega
          subst e1
          subst e2
          refine R1 0 0 cM pc cl cst ins len r1 r2 0 0 cM' pc' cl' cst' hcd hr (Nat.le_refl 0) (Nat.le_refl 0) (ih j i pc' T' M' l' st' X' y ρ' cM' cl' cst' L xs J Qr hy R1 R2 R3 (fun rv2 cM2 q qf => ?_) (ai_le_tr hle0 hle) hG' hx' (ak_st_fr hfr hr hwok hst))
          obtain ⟨o2, ho2, ρ2, z1, z2⟩ := q
          exact hQ _ _ ⟨o2, hyr _ ho2, ρ2, ai_le_tr hle z1, z2⟩ qf
      unfold ak_y2 at h
      cases hA : Nat.beq (ak_q ins) 0 with
      | true =>
        rw [hA, cond_true] at h
        exact step (by rw [ai_bq hA]; rfl) h
      | false =>
        rw [hA, cond_false] at h
        cases hB : Nat.beq (ak_q ins) 1 with
        | true =>
          rw [hB, cond_true] at h
          unfold ak_y6 at h
          split at h
          · rename_i rv hrv
            cases h
            obtain ⟨v, hv, hk⟩ := ai_ret_ok hs hst hrv
            exact R3 0 0 cM pc cl cst ins len r1 r2 v hcd hv rfl (Nat.le_refl 0) (hQ _ _ ⟨_, List.mem_cons_self, ρ, ai_le_rf, hs, hx, hm, hk⟩ hfr)
          · cases h
        | false =>
          rw [hB, cond_false] at h
          cases hB2 : Nat.beq (ak_q ins) 2 with
          | false =>
            rw [hB2, cond_false] at h
            have hbh := ai_bt h
            exact step hbh.1 hbh.2
          | true =>
          rw [hB2, cond_true] at h
          unfold ak_y8 at h
          split at h
          · rename_i asr hcall
            obtain ⟨as, rest⟩ := asr
            have hbh := ai_bt h
            clear h
            obtain ⟨hal, h⟩ := hbh
            simp only [Bool.and_eq_true, Nat.beq_eq] at hal
            obtain ⟨idx, vas, vrest, rfl, c1, c2, c3, c4, c5, c6, c7, c8, c9, c10, c11⟩ := ai_call_ok hm hst hcall
            unfold ak_y9 ak_y10 at h
            split at h
            · cases h
            · rename_i outs2 houts
              have hMe : ∃ d', d' + 1 ≤ D + j ∧ mj_Me lch r1 d' 0 0 vas cM (fun rv cM' => ak_on ρ outs2 rv cM' ∧ ak_fr Wl cM cM') := by
                split at houts
                · rename_i o ho
                  subst houts
                  obtain ⟨d', h1, h2⟩ := hC r1 T X M as outs2 ρ cM vas ho hle0 hs hx hm c10
                  exact ⟨d', by omega, h2⟩
                · unfold ak_y11 at houts
                  split at houts
                  · cases houts
                  · rename_i j'
                    split at houts
                    · cases houts
                    · rename_i outs3 h3
                      cases houts
                      refine ⟨D + j', by omega, mj_Me_of c2 (by omega) c9 ?_⟩
                      intro L2 xs2 J2 r1' r2' r3'
                      exact ih (C0 := cM) j' r1 0 T M (ai_args 0 as) [] X outs3 ρ cM (lv_args 0 vas) [] L2 xs2 J2 (fun rv cM' => ak_on ρ (ak_mg r1 X outs3) rv cM' ∧ ak_fr Wl cM cM') h3 r1' r2' r3' (fun rv cM' q qf => ⟨ak_mg_ok hx q, qf⟩) hle0 ⟨hs, hm, ai_args_ok 0 c10, trivial⟩ hx ak_fr_rf
              obtain ⟨d', hd', hMe⟩ := hMe
              refine R2 0 0 cM pc cl cst ins idx r1 r2 vas vrest d' 0 0 (fun rv cM' => ak_on ρ outs2 rv cM' ∧ ak_fr Wl cM cM') hcd c1 c2 c3 c4 c5 c6 c7 hMe hd' (Nat.le_refl 0) (Nat.le_refl 0) c8 ?_
              rintro rv cM' ⟨⟨o, ho, ρ', q1, q2, q3, q4, q5⟩, hfr2⟩ -
              obtain ⟨y, hy, hyr⟩ := ai_all_ok h o ho
              refine ih j i (pc + 3) o.1 o.2.2.1 l _ o.2.1 y ρ' cM' cl _ L xs J Qr hy R1 R2 R3 (fun rv2 cM2 q qf => ?_) (ai_le_tr hle0 q1) ⟨q2, q4, ai_sl_mono q1 hl, ai_rk_ss q5 (ai_ss_mono q1 c11)⟩ q3 (ak_fr_tr hfr hfr2)
              obtain ⟨o2, ho2, ρ2, z1, z2⟩ := q
              exact hQ _ _ ⟨o2, hyr _ ho2, ρ2, ai_le_tr q1 z1, z2⟩ qf
          · have hbh := ai_bt h
            exact step (by rw [ai_bq hB2]; exact hbh.1) hbh.2
