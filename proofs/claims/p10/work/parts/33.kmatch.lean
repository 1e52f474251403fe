/-! A STATE HELD AGAINST A PATTERN: at a way out, at a place where we cut -/
theorem ak_kv_inv {ρ : List Int} {E : ak_E} {a : ai_V} {r : Nat × Int} {w : Int} (hE : ∀ e ∈ E, ak_sE ρ e) (h : ak_kv E a = some (1, r)) (hw : ρ[r.1]? = some w) : ai_z ρ a = some (w + r.2) := by
  obtain ⟨t, x⟩ := a
  have key : ak_rt E x.toNat = r → ρ[x.toNat]? = some (w + r.2) := fun e => by
    unfold ak_rt at e
    split at e
    · rename_i q hq
      subst e
      obtain ⟨z, w', a, b, c⟩ := hE _ (ak_fE_mem hq)
      cases hw.symm.trans b
      rw [a, c]
    · subst e
      rw [hw]
      simp
  unfold ak_kv at h
  split at h
  · cases h
  · rename_i e
    simp only at e
    subst e
    exact key (by cases h; rfl)
  · cases h
  · rename_i e
    simp only at e
    subst e
    exact key (by cases h; rfl)
  · cases h
/-- surely the same number? -/
def ak_sm (E : ak_E) (u w : ai_V) : Bool := ak_veq u w || (match ak_kv E u, ak_kv E w with
  | some (1, ra), some (1, rb) => Nat.beq ra.1 rb.1 && ai_eqb ra.2 rb.2
  | _, _ => false)
theorem ak_sm_ok {ρ : List Int} {E : ak_E} {u w : ai_V} {z : Int} (hE : ∀ e ∈ E, ak_sE ρ e) (h : ak_sm E u w = true) (hz : ai_z ρ w = some z) : ai_z ρ u = some z := by
  unfold ak_sm at h
  rw [Bool.or_eq_true] at h
  rcases h with h | h
  · rw [ak_veq_ok h]
    exact hz
  · split at h
    · rename_i ra rb h1 h2
      simp only [Bool.and_eq_true, Nat.beq_eq, ai_eqb_eq, decide_eq_true_eq] at h
      obtain ⟨t, ht, et⟩ := ak_v1 (ak_kv_ok hE hz h2)
      rw [← h.1] at ht
      rw [ak_kv_inv hE h1 ht, h.2, et]
    · cases h
noncomputable def ak_lkr (q : ak_A) (k : Nat) : Option ai_V := ai_at _ q.2 (q.1 - 1 - k)
/-- quickly: the same number, and one that both know from before -/
def ak_qs (n0 : Nat) (a b : ai_V) : Bool := match a.2, b.2 with
  | .ofNat x, .ofNat y => Nat.beq a.1 b.1 && (Nat.beq x y && (Nat.blt x n0 || (!(Nat.beq a.1 1) && !(Nat.beq a.1 3))))
  | _, _ => false
theorem ak_qs_ok {n0 : Nat} {a b : ai_V} (h : ak_qs n0 a b = true) : a = b ∧ ((a.1 = 1 ∨ a.1 = 3) → a.2.toNat < n0 ∧ ((a.2.toNat : Nat) : Int) = a.2) := by
  obtain ⟨a1, a2⟩ := a
  obtain ⟨b1, b2⟩ := b
  unfold ak_qs at h
  simp only at h
  split at h
  · simp only [Bool.and_eq_true, Nat.beq_eq, Bool.or_eq_true, Nat.blt_eq, Bool.not_eq_true'] at h
    obtain ⟨rfl, rfl, h⟩ := h
    refine ⟨rfl, fun e => ?_⟩
    rcases h with h | ⟨h1, h3⟩
    · exact ⟨h, rfl⟩
    · rcases e with e | e
      · simp only at e
        subst e
        exact absurd h1 (by decide)
      · simp only at e
        subst e
        exact absurd h3 (by decide)
  · cases h
noncomputable def ak_gs0 (E : ak_E) (q : ak_A) (a w : ai_V) : Option ak_A := match a.1 with
  | 1 => bif Nat.blt w.1 2 then (bif Nat.blt a.2.toNat q.1 then (match ak_lkr q a.2.toNat with
      | some u => bif ak_sm E u w then some q else none
      | none => none) else bif Nat.beq a.2.toNat q.1 then some (q.1 + 1, w :: q.2) else none) else none
  | 3 => bif Nat.beq w.1 2 || Nat.beq w.1 3 then (bif Nat.blt a.2.toNat q.1 then (match ak_lkr q a.2.toNat with
      | some u => bif ak_sm E u (w.1 - 2, w.2) then some q else none
      | none => none) else bif Nat.beq a.2.toNat q.1 then some (q.1 + 1, (w.1 - 2, w.2) :: q.2) else none) else none
  | _ => bif ak_veq a w then some q else none
noncomputable def ak_gs (n0 : Nat) (E : ak_E) (q : ak_A) (a w : ai_V) : Option ak_A := bif ak_qs n0 a w then some q else ak_gs0 E q a w
def ak_gp (ρ : List Int) (σ : List ai_V) (a w : ai_V) : Prop := ∀ v, ai_c ρ w = some v → ai_c ρ (ak_t σ a) = some v
theorem ak_lkr_ok {q : ak_A} {k : Nat} {u : ai_V} {σ : List ai_V} (hP : ak_P q σ) (hk : k < q.1) (h : ak_lkr q k = some u) : σ[k]? = some u ∧ u.1 < 2 := by
  obtain ⟨h1, h2, h3⟩ := hP
  unfold ak_lkr at h
  rw [ai_at_eq] at h
  refine ⟨h3 k u ?_, h2 u (List.mem_of_getElem? h)⟩
  rw [List.getElem?_reverse (by omega), h1]
  exact h
theorem ak_int_c {ρ : List Int} {w : ai_V} {v : Value} (h : w.1 < 2) (hc : ai_c ρ w = some v) : ∃ z, ai_z ρ w = some z ∧ v = .int (Int32.ofInt z) := by
  obtain ⟨t, x⟩ := w
  match t, h, hc with
  | 0, _, hc => cases hc; exact ⟨x, rfl, rfl⟩
  | 1, _, hc =>
    have hc : (ρ[x.toNat]?).map (fun z => Value.int (Int32.ofInt z)) = some v := hc
    cases hz : ρ[x.toNat]? with
    | none => rw [hz] at hc; cases hc
    | some z => rw [hz] at hc; cases hc; exact ⟨z, hz, rfl⟩
theorem ak_int_b {ρ : List Int} {u : ai_V} {z : Int} (h : u.1 < 2) (hz : ai_z ρ u = some z) : ai_c ρ u = some (.int (Int32.ofInt z)) ∧ ai_c ρ (u.1 + 2, u.2) = some (.long (Int64.ofInt z)) := by
  obtain ⟨t, y⟩ := u
  match t, h, hz with
  | 0, _, hz => cases hz; exact ⟨rfl, rfl⟩
  | 1, _, hz =>
    have hz : ρ[y.toNat]? = some z := hz
    refine ⟨?_, ?_⟩
    · show (ρ[y.toNat]?).map _ = _
      rw [hz]
      rfl
    · show (ρ[y.toNat]?).map _ = _
      rw [hz]
      rfl
theorem ak_long_c {ρ : List Int} {w : ai_V} {v : Value} (h : w.1 = 2 ∨ w.1 = 3) (hc : ai_c ρ w = some v) : ∃ z, ai_z ρ (w.1 - 2, w.2) = some z ∧ v = .long (Int64.ofInt z) := by
  obtain ⟨t, x⟩ := w
  simp only at h
  rcases h with rfl | rfl
  · cases hc; exact ⟨x, rfl, rfl⟩
  · have hc : (ρ[x.toNat]?).map (fun z => Value.long (Int64.ofInt z)) = some v := hc
    cases hz : ρ[x.toNat]? with
    | none => rw [hz] at hc; cases hc
    | some z => rw [hz] at hc; cases hc; exact ⟨z, hz, rfl⟩
theorem ak_t1 {σ : List ai_V} {x : Int} {u : ai_V} (h : σ[x.toNat]? = some u) : ak_t σ (1, x) = u := by
  show (match ai_at _ σ x.toNat with
    | some v => v
    | none => (9, 0)) = u
  rw [ai_at_eq, h]
theorem ak_t3 {σ : List ai_V} {x : Int} {u : ai_V} (h : σ[x.toNat]? = some u) : ak_t σ (3, x) = (u.1 + 2, u.2) := by
  show (match ai_at _ σ x.toNat with
    | some v => (v.1 + 2, v.2)
    | none => (9, 0)) = (u.1 + 2, u.2)
  rw [ai_at_eq, h]
theorem ak_gs0_ok {ρ : List Int} {E : ak_E} {q q' : ak_A} {a w : ai_V} {σ : List ai_V} (hE : ∀ e ∈ E, ak_sE ρ e) (h : ak_gs0 E q a w = some q') (hP : ak_P q' σ) : ak_P q σ ∧ ak_gp ρ σ a w := by
  obtain ⟨n, l⟩ := q
  obtain ⟨t, x⟩ := a
  unfold ak_gs0 at h
  simp only at h
  split at h
  · have hbh := ai_bt h
    clear h
    obtain ⟨hw, h⟩ := hbh
    rw [Nat.blt_eq] at hw
    cases hlt : Nat.blt x.toNat n with
    | true =>
      rw [hlt, cond_true] at h
      rw [Nat.blt_eq] at hlt
      split at h
      · rename_i u hu
        have hbh := ai_bt h
        clear h
        obtain ⟨hsm, h⟩ := hbh
        cases h
        obtain ⟨g1, g2⟩ := ak_lkr_ok hP hlt hu
        refine ⟨hP, fun v hv => ?_⟩
        obtain ⟨z, hz, rfl⟩ := ak_int_c hw hv
        rw [ak_t1 g1]
        exact (ak_int_b g2 (ak_sm_ok hE hsm hz)).1
      · cases h
    | false =>
      rw [hlt, cond_false] at h
      have hbh := ai_bt h
      clear h
      obtain ⟨hb, h⟩ := hbh
      cases h
      rw [Nat.beq_eq] at hb
      obtain ⟨g1, g2⟩ := ak_P_push hP
      refine ⟨g1, fun v hv => ?_⟩
      rw [ak_t1 (by rw [hb]; exact g2)]
      exact hv
  · have hbh := ai_bt h
    clear h
    obtain ⟨hw, h⟩ := hbh
    simp only [Bool.or_eq_true, Nat.beq_eq] at hw
    cases hlt : Nat.blt x.toNat n with
    | true =>
      rw [hlt, cond_true] at h
      rw [Nat.blt_eq] at hlt
      split at h
      · rename_i u hu
        have hbh := ai_bt h
        clear h
        obtain ⟨hsm, h⟩ := hbh
        cases h
        obtain ⟨g1, g2⟩ := ak_lkr_ok hP hlt hu
        refine ⟨hP, fun v hv => ?_⟩
        obtain ⟨z, hz, rfl⟩ := ak_long_c hw hv
        rw [ak_t3 g1]
        exact (ak_int_b g2 (ak_sm_ok hE hsm hz)).2
      · cases h
    | false =>
      rw [hlt, cond_false] at h
      have hbh := ai_bt h
      clear h
      obtain ⟨hb, h⟩ := hbh
      cases h
      rw [Nat.beq_eq] at hb
      obtain ⟨g1, g2⟩ := ak_P_push hP
      refine ⟨g1, fun v hv => ?_⟩
      rw [ak_t3 (by rw [hb]; exact g2)]
      obtain ⟨z, hz, rfl⟩ := ak_long_c hw hv
      exact (ak_int_b (by show w.1 - 2 < 2; omega) hz).2
  · rename_i n1 n3
    have hbh := ai_bt h
    clear h
    obtain ⟨hb, h⟩ := hbh
    cases h
    refine ⟨hP, fun v hv => ?_⟩
    rw [← ak_veq_ok hb] at hv
    have e : ak_t σ (t, x) = (t, x) := by
      unfold ak_t
      split
      · rename_i e; exact absurd e n1
      · rename_i e; exact absurd e n3
      · rfl
    rw [e]
    exact hv
def ak_id (n0 : Nat) (σ : List ai_V) : Prop := ∀ k, k < n0 → σ[k]? = some (1, (k : Int))
theorem ak_gs_ok {n0 : Nat} {ρ : List Int} {E : ak_E} {q q' : ak_A} {a w : ai_V} {σ : List ai_V} (hE : ∀ e ∈ E, ak_sE ρ e) (hi : ak_id n0 σ) (h : ak_gs n0 E q a w = some q') (hP : ak_P q' σ) : ak_P q σ ∧ ak_gp ρ σ a w := by
  unfold ak_gs at h
  cases hq : ak_qs n0 a w with
  | false =>
    rw [hq, cond_false] at h
    exact ak_gs0_ok hE h hP
  | true =>
    rw [hq, cond_true] at h
    cases h
    obtain ⟨rfl, h⟩ := ak_qs_ok hq
    refine ⟨hP, fun v hv => ?_⟩
    have e : ak_t σ a = a := by
      obtain ⟨t, x⟩ := a
      by_cases h1 : t = 1
      · subst h1
        obtain ⟨g1, g2⟩ := h (Or.inl rfl)
        rw [ak_t1 (hi _ g1)]
        exact Prod.ext rfl g2
      · by_cases h3 : t = 3
        · subst h3
          obtain ⟨g1, g2⟩ := h (Or.inr rfl)
          rw [ak_t3 (hi _ g1)]
          exact Prod.ext rfl g2
        · unfold ak_t
          split
          · rename_i e; exact absurd e h1
          · rename_i e; exact absurd e h3
          · rfl
    rw [e]
    exact hv
/-- what the matching adds: more symbols, behind those that are there -/
def ak_xt (q q' : ak_A) : Prop := (q.2.length = q.1 → q'.2.length = q'.1) ∧ ((∀ v ∈ q.2, v.1 < 2) → ∀ v ∈ q'.2, v.1 < 2) ∧ ∃ l, q'.2 = l ++ q.2
theorem ak_xt_rf {q : ak_A} : ak_xt q q := ⟨id, id, [], rfl⟩
theorem ak_xt_tr {p q r : ak_A} (h : ak_xt p q) (g : ak_xt q r) : ak_xt p r := by
  obtain ⟨h1, h2, l, h3⟩ := h
  obtain ⟨g1, g2, m, g3⟩ := g
  exact ⟨fun e => g1 (h1 e), fun e => g2 (h2 e), m ++ l, by rw [g3, h3, List.append_assoc]⟩
theorem ak_xt_push {n : Nat} {l : List ai_V} {w : ai_V} (hw : w.1 < 2) : ak_xt (n, l) (n + 1, w :: l) := by
  refine ⟨fun e => ?_, fun e v hv => ?_, [w], rfl⟩
  · show l.length + 1 = n + 1
    rw [show l.length = n from e]
  · rcases List.mem_cons.mp hv with rfl | hv
    · exact hw
    · exact e v hv
theorem ak_gs_xt {n0 : Nat} {E : ak_E} {q q' : ak_A} {a w : ai_V} (h : ak_gs n0 E q a w = some q') : ak_xt q q' := by
  unfold ak_gs at h
  cases hq : ak_qs n0 a w with
  | true =>
    rw [hq, cond_true] at h
    cases h
    exact ak_xt_rf
  | false =>
    rw [hq, cond_false] at h
    obtain ⟨n, l⟩ := q
    unfold ak_gs0 at h
    split at h
    · have hbh := ai_bt h
      clear h
      obtain ⟨hw, h⟩ := hbh
      rw [Nat.blt_eq] at hw
      cases hlt : Nat.blt a.2.toNat (n, l).1 with
      | true =>
        rw [hlt, cond_true] at h
        split at h
        · have hbh := ai_bt h
          clear h
          obtain ⟨-, h⟩ := hbh
          cases h
          exact ak_xt_rf
        · cases h
      | false =>
        rw [hlt, cond_false] at h
        have hbh := ai_bt h
        clear h
        obtain ⟨-, h⟩ := hbh
        cases h
        exact ak_xt_push hw
    · have hbh := ai_bt h
      clear h
      obtain ⟨hw, h⟩ := hbh
      simp only [Bool.or_eq_true, Nat.beq_eq] at hw
      cases hlt : Nat.blt a.2.toNat (n, l).1 with
      | true =>
        rw [hlt, cond_true] at h
        split at h
        · have hbh := ai_bt h
          clear h
          obtain ⟨-, h⟩ := hbh
          cases h
          exact ak_xt_rf
        · cases h
      | false =>
        rw [hlt, cond_false] at h
        have hbh := ai_bt h
        clear h
        obtain ⟨-, h⟩ := hbh
        cases h
        exact ak_xt_push (by show w.1 - 2 < 2; omega)
    · have hbh := ai_bt h
      clear h
      obtain ⟨-, h⟩ := hbh
      cases h
      exact ak_xt_rf
noncomputable def ak_gl (n0 : Nat) (E : ak_E) (as : List ai_V) : List ai_V → ak_A → Option ak_A := List.rec (motive := fun _ => List ai_V → ak_A → Option ak_A) (fun ws q => match ws with
  | [] => some q
  | _ :: _ => none) (fun a _ ih ws q => match ws with
  | [] => none
  | w :: ws => (match ak_gs n0 E q a w with
    | some q' => ih ws q'
    | none => none)) as
theorem ak_gl_ok {n0 : Nat} {ρ : List Int} {E : ak_E} {σ : List ai_V} (hE : ∀ e ∈ E, ak_sE ρ e) (hi : ak_id n0 σ) : ∀ {as ws : List ai_V} {q q' : ak_A}, ak_gl n0 E as ws q = some q' → ak_P q' σ → ak_P q σ ∧ as.length = ws.length ∧ (∀ vs, ai_ss ρ ws vs → ai_ss ρ (as.map (ak_t σ)) vs) ∧ ∀ (k : Nat) (a w : ai_V), as[k]? = some a → ws[k]? = some w → ak_gp ρ σ a w
  | [], [], q, q', h, hP => by
    cases h
    exact ⟨hP, rfl, fun vs h => h, fun k a w h => by cases k <;> cases h⟩
  | [], _ :: _, _, _, h, _ => by cases h
  | _ :: _, [], _, _, h, _ => by cases h
  | a :: as, w :: ws, q, q', h, hP => by
    change (match ak_gs n0 E q a w with
      | some q' => ak_gl n0 E as ws q'
      | none => none) = some q' at h
    split at h
    · rename_i q1 h1
      obtain ⟨g1, g2, g3, g4⟩ := ak_gl_ok hE hi h hP
      obtain ⟨g5, g6⟩ := ak_gs_ok hE hi h1 g1
      refine ⟨g5, by simp [g2], fun vs hv => ?_, fun k b u hb hu => ?_⟩
      · cases vs with
        | nil => exact hv.elim
        | cons v vs => exact ⟨g6 v hv.1, g3 vs hv.2⟩
      · cases k with
        | zero =>
          cases hb
          cases hu
          exact g6
        | succ k => exact g4 k b u hb hu
    · cases h
noncomputable def ak_gc (n0 : Nat) (E : ak_E) (e h : ai_E) (q : ak_A) : Option ak_A := bif Nat.beq e.1 h.1 && Nat.beq e.2.1 h.2.1 then (match e.1 with
  | 0 => ak_gl n0 E e.2.2 h.2.2 q
  | 1 => ak_gl n0 E e.2.2 h.2.2 q
  | _ => bif ak_leq e.2.2 h.2.2 then some q else none) else none
theorem ak_gc_ok {n0 : Nat} {ρ : List Int} {E : ak_E} {e h : ai_E} {q q' : ak_A} {σ : List ai_V} (hE : ∀ e ∈ E, ak_sE ρ e) (hi : ak_id n0 σ) (hm : ak_gc n0 E e h q = some q') (hP : ak_P q' σ) : ak_P q σ ∧ ∀ c, ai_e ρ h c → ai_e ρ (ak_te σ e) c := by
  obtain ⟨e1, e2, e3⟩ := e
  obtain ⟨h1, h2, h3⟩ := h
  unfold ak_gc at hm
  have hbh := ai_bt hm
  clear hm
  obtain ⟨hb, hm⟩ := hbh
  simp only [Bool.and_eq_true, Nat.beq_eq] at hb
  obtain ⟨rfl, rfl⟩ := hb
  simp only at hm
  split at hm
  · obtain ⟨a, b, c, d⟩ := ak_gl_ok hE hi hm hP
    refine ⟨a, fun x hx => ?_⟩
    obtain ⟨fs, rfl, hf⟩ := hx
    exact ⟨fs, rfl, c fs hf⟩
  · obtain ⟨a, b, c, d⟩ := ak_gl_ok hE hi hm hP
    refine ⟨a, fun x hx => ?_⟩
    obtain ⟨f, rfl, hf⟩ := hx
    refine ⟨f, by rw [List.length_map, b], fun j u hj => ?_⟩
    rw [List.getElem?_map] at hj
    cases hi : e3[j]? with
    | none => rw [hi] at hj; cases hj
    | some y =>
      rw [hi] at hj
      cases hj
      have hl : j < h3.length := by
        rw [← b]
        exact (List.getElem?_eq_some_iff.mp hi).1
      have hw := List.getElem?_eq_getElem hl
      exact d j y _ hi hw _ (hf j _ hw)
  · rename_i n0 n1
    have hbh := ai_bt hm
    clear hm
    obtain ⟨hb, hm⟩ := hbh
    cases hm
    refine ⟨hP, fun x hx => ?_⟩
    rw [← ak_leq_ok hb] at hx
    have e : ak_te σ (e1, e2, e3) = (e1, e2, e3) := by
      unfold ak_te
      split
      · rename_i e; exact absurd e n0
      · rename_i e; exact absurd e n1
      · rfl
    rw [e]
    exact hx
noncomputable def ak_gm (n0 : Nat) (E : ak_E) (M : ai_M) : ai_M → ak_A → Option ak_A := List.rec (motive := fun _ => ai_M → ak_A → Option ak_A) (fun N q => match N with
  | [] => some q
  | _ :: _ => none) (fun e _ ih N q => match N with
  | [] => none
  | h :: N => (match ak_gc n0 E e h q with
    | some q' => ih N q'
    | none => none)) M
theorem ak_gm_ok {n0 : Nat} {ρ : List Int} {E : ak_E} {σ : List ai_V} (hE : ∀ e ∈ E, ak_sE ρ e) (hi : ak_id n0 σ) : ∀ {M N : ai_M} {q q' : ak_A}, ak_gm n0 E M N q = some q' → ak_P q' σ → ak_P q σ ∧ ∀ cM, ai_mm ρ N cM → ai_mm ρ (M.map (ak_te σ)) cM
  | [], [], q, q', h, hP => by
    cases h
    exact ⟨hP, fun cM h => h⟩
  | [], _ :: _, _, _, h, _ => by cases h
  | _ :: _, [], _, _, h, _ => by cases h
  | a :: as, w :: ws, q, q', h, hP => by
    change (match ak_gc n0 E a w q with
      | some q' => ak_gm n0 E as ws q'
      | none => none) = some q' at h
    split at h
    · rename_i q1 h1
      obtain ⟨g1, g2⟩ := ak_gm_ok hE hi h hP
      obtain ⟨g3, g4⟩ := ak_gc_ok hE hi h1 g1
      refine ⟨g3, fun cM hc => ?_⟩
      cases cM with
      | nil => exact hc.elim
      | cons c cM => exact ⟨g4 c hc.1, g2 cM hc.2⟩
    · cases h
/-- the cells of a list alone -/
noncomputable def ak_gw (n0 : Nat) (E : ak_E) (P M : ai_M) (Wl : List Nat) : ak_A → Option ak_A := List.rec (motive := fun _ => ak_A → Option ak_A) (fun q => some q) (fun c _ ih q => match ai_at _ P c, ai_at _ M c with
  | some e, some h => (match ak_gc n0 E e h q with
    | some q' => ih q'
    | none => none)
  | _, _ => none) Wl
theorem ak_gw_ok {n0 : Nat} {ρ : List Int} {E : ak_E} {P M : ai_M} {σ : List ai_V} (hE : ∀ e ∈ E, ak_sE ρ e) (hi : ak_id n0 σ) : ∀ {Wl : List Nat} {q q' : ak_A}, ak_gw n0 E P M Wl q = some q' → ak_P q' σ → ak_P q σ ∧ ∀ c ∈ Wl, ∃ e h, P[c]? = some e ∧ M[c]? = some h ∧ ∀ x, ai_e ρ h x → ai_e ρ (ak_te σ e) x
  | [], q, q', h, hP => by
    cases h
    exact ⟨hP, fun c hc => by cases hc⟩
  | c :: Wl, q, q', h, hP => by
    change (match ai_at _ P c, ai_at _ M c with
      | some e, some h => (match ak_gc n0 E e h q with
        | some q' => ak_gw n0 E P M Wl q'
        | none => none)
      | _, _ => none) = some q' at h
    simp only [ai_at_eq] at h
    split at h
    · rename_i e g he hg
      split at h
      · rename_i q1 h1
        obtain ⟨g1, g2⟩ := ak_gw_ok hE hi h hP
        obtain ⟨g3, g4⟩ := ak_gc_ok hE hi h1 g1
        refine ⟨g3, fun d hd => ?_⟩
        rcases List.mem_cons.mp hd with rfl | hd
        · exact ⟨e, g, he, hg, g4⟩
        · exact g2 d hd
      · cases h
    · cases h
/-- locals: those of the pattern, by their places -/
noncomputable def ak_gk (n0 : Nat) (E : ak_E) (l : ai_L) : ai_L → ak_A → Option ak_A
  | [], q => some q
  | p :: ps, q => (match ai_lk l p.1 with
    | some w => (bif (Nat.beq p.2.1 4 || Nat.beq p.2.1 5) && !(ak_veq p.2 w) then none else (match ak_gs n0 E q p.2 w with
      | some q' => ak_gk n0 E l ps q'
      | none => none))
    | none => none)
theorem ak_gk_ok {n0 : Nat} {ρ : List Int} {E : ak_E} {σ : List ai_V} {l : ai_L} {cl : mj_L} (hE : ∀ e ∈ E, ak_sE ρ e) (hi : ak_id n0 σ) (hl : ai_sl ρ l cl) : ∀ {ps : ai_L} {q q' : ak_A}, ak_gk n0 E l ps q = some q' → ak_P q' σ → ak_P q σ ∧ ∃ cl' : mj_L, ai_sl ρ (ps.map (fun p => (p.1, ak_t σ p.2))) cl' ∧ ∀ p ∈ cl', p ∈ cl
  | [], q, q', h, hP => by
    cases h
    exact ⟨hP, [], trivial, fun p hp => by cases hp⟩
  | p :: ps, q, q', h, hP => by
    unfold ak_gk at h
    split at h
    · rename_i w hw
      have hbh := ai_bn h
      clear h
      obtain ⟨-, h⟩ := hbh
      split at h
      · rename_i q1 h1
        obtain ⟨g1, cl', g2, g3⟩ := ak_gk_ok hE hi hl h hP
        obtain ⟨g4, g5⟩ := ak_gs_ok hE hi h1 g1
        obtain ⟨v, hv, hc⟩ := ai_sl_lk hl hw
        refine ⟨g4, (p.1, v) :: cl', ⟨rfl, g5 v hc, g2⟩, fun r hr => ?_⟩
        rcases List.mem_cons.mp hr with rfl | hr
        · exact mj_lk_mem hv
        · exact g3 r hr
      · cases h
    · cases h
theorem ak_gl_xt {n0 : Nat} {E : ak_E} : ∀ {as ws : List ai_V} {q q' : ak_A}, ak_gl n0 E as ws q = some q' → ak_xt q q'
  | [], [], q, q', h => by
    cases h
    exact ak_xt_rf
  | [], _ :: _, _, _, h => by cases h
  | _ :: _, [], _, _, h => by cases h
  | a :: as, w :: ws, q, q', h => by
    change (match ak_gs n0 E q a w with
      | some q' => ak_gl n0 E as ws q'
      | none => none) = some q' at h
    split at h
    · rename_i q1 h1
      exact ak_xt_tr (ak_gs_xt h1) (ak_gl_xt h)
    · cases h
theorem ak_gc_xt {n0 : Nat} {E : ak_E} {e h : ai_E} {q q' : ak_A} (hm : ak_gc n0 E e h q = some q') : ak_xt q q' := by
  unfold ak_gc at hm
  have hbh := ai_bt hm
  clear hm
  obtain ⟨-, hm⟩ := hbh
  split at hm
  · exact ak_gl_xt hm
  · exact ak_gl_xt hm
  · have hbh := ai_bt hm
    clear hm
    obtain ⟨-, hm⟩ := hbh
    cases hm
    exact ak_xt_rf
theorem ak_gm_xt {n0 : Nat} {E : ak_E} : ∀ {M N : ai_M} {q q' : ak_A}, ak_gm n0 E M N q = some q' → ak_xt q q'
  | [], [], q, q', h => by
    cases h
    exact ak_xt_rf
  | [], _ :: _, _, _, h => by cases h
  | _ :: _, [], _, _, h => by cases h
  | e :: M, w :: N, q, q', h => by
    change (match ak_gc n0 E e w q with
      | some q' => ak_gm n0 E M N q'
      | none => none) = some q' at h
    split at h
    · rename_i q1 h1
      exact ak_xt_tr (ak_gc_xt h1) (ak_gm_xt h)
    · cases h
theorem ak_gw_xt {n0 : Nat} {E : ak_E} {P M : ai_M} : ∀ {Wl : List Nat} {q q' : ak_A}, ak_gw n0 E P M Wl q = some q' → ak_xt q q'
  | [], q, q', h => by
    cases h
    exact ak_xt_rf
  | c :: Wl, q, q', h => by
    change (match ai_at _ P c, ai_at _ M c with
      | some e, some h => (match ak_gc n0 E e h q with
        | some q' => ak_gw n0 E P M Wl q'
        | none => none)
      | _, _ => none) = some q' at h
    split at h
    · split at h
      · rename_i q1 h1
        exact ak_xt_tr (ak_gc_xt h1) (ak_gw_xt h)
      · cases h
    · cases h
theorem ak_gk_xt {n0 : Nat} {E : ak_E} {l : ai_L} : ∀ {ps : ai_L} {q q' : ak_A}, ak_gk n0 E l ps q = some q' → ak_xt q q'
  | [], q, q', h => by
    cases h
    exact ak_xt_rf
  | p :: ps, q, q', h => by
    unfold ak_gk at h
    split at h
    · have hbh := ai_bn h
      clear h
      obtain ⟨-, h⟩ := hbh
      split at h
      · rename_i q9 h9
        exact ak_xt_tr (ak_gs_xt h9) (ak_gk_xt h)
      · cases h
    · cases h
def ak_idr : Nat → List ai_V
  | 0 => []
  | n + 1 => (1, (n : Int)) :: ak_idr n
theorem ak_idr_len : ∀ n : Nat, (ak_idr n).length = n
  | 0 => rfl
  | n + 1 => by
    show (ak_idr n).length + 1 = n + 1
    rw [ak_idr_len]
theorem ak_idr_get : ∀ (n k : Nat), k < n → (ak_idr n).reverse[k]? = some (1, (k : Int))
  | 0, _, h => absurd h (Nat.not_lt_zero _)
  | n + 1, k, h => by
    show ((1, (n : Int)) :: ak_idr n).reverse[k]? = _
    rw [List.reverse_cons]
    by_cases e : k = n
    · subst e
      rw [List.getElem?_append_right (by simp [ak_idr_len])]
      simp [ak_idr_len]
    · rw [List.getElem?_append_left (by simp [ak_idr_len]; omega)]
      exact ak_idr_get n k (by omega)
/-- a pattern: bounds of numbers of before, bounds of new numbers, facts, memory, locals, stack -/
abbrev ak_Pt : Type := List (Nat × (Int × Int)) × ai_T × ak_X × ai_M × ai_L × List ai_V
def ak_pm (ρ0 ν : List Int) (p : ak_Pt) (cM : mj_M) (cl : mj_L) (cst : List Value) : Prop := ai_sat ν p.2.1 ∧ (∀ q ∈ p.1, ∃ z, ρ0[q.1]? = some z ∧ q.2.1 ≤ z ∧ z ≤ q.2.2) ∧ ak_sx (ρ0 ++ ν) p.2.2.1 ∧ ai_mm (ρ0 ++ ν) p.2.2.2.1 cM ∧ ai_sl (ρ0 ++ ν) p.2.2.2.2.1 cl ∧ ai_ss (ρ0 ++ ν) p.2.2.2.2.2 cst
noncomputable def ak_nck (npre : Nat) (T : ai_T) (nar : List (Nat × (Int × Int))) : Bool := nar.all (fun q => match ai_at _ T q.1 with
  | some r => Nat.blt q.1 npre && (!(ai_ltb r.1 q.2.1) && !(ai_ltb q.2.2 r.2))
  | none => false)
noncomputable def ak_eck (E : ak_E) (σ : List ai_V) (e : Nat × Nat × Int) : Bool := match ai_at _ σ e.1, ai_at _ σ e.2.1 with
  | some v, some w => (match ak_kv E v, ak_kv E w with
    | some (1, a), some (1, b) => Nat.beq a.1 b.1 && ai_eqb a.2 (b.2 + e.2.2)
    | some (0, a), some (0, b) => ai_eqb a.2 (b.2 + e.2.2)
    | _, _ => false)
  | _, _ => false
noncomputable def ak_fck (T : ai_T) (X : ak_X) (σ : List ai_V) (f : Nat × Int × Nat) : Bool := match ai_at _ σ f.1, ai_at _ σ f.2.2 with
  | some v, some w => (match ak_kv X.1 v, ak_kv X.1 w with
    | some a, some b => ak_le T X a b f.2.1
    | _, _ => false)
  | _, _ => false
noncomputable def ak_sck (T : ai_T) (X : ak_X) (σ : List ai_V) (s : Nat × Nat × Int) : Bool := match ai_at _ σ s.1, ai_at _ σ s.2.1 with
  | some v, some w => (match ak_vi T v, ak_vi T w with
    | some p, some q => !(ai_ltb s.2.2 (p.2 + q.2)) || (match ak_kv X.1 v, ak_kv X.1 w with
      | some (1, a), some (1, b) => (match ak_sb X.2.1 a b X.2.2.2 with
        | some h => !(ai_ltb s.2.2 h)
        | none => false)
      | _, _ => false)
    | _, _ => false)
  | _, _ => false
noncomputable def ak_xck (T : ai_T) (X : ak_X) (σ : List ai_V) (Y : ak_X) : Bool := (Y.1.all (ak_eck X.1 σ) && Y.2.1.all (ak_fck T X σ)) && (ak_cck T X.2.2.1 σ Y.2.2.1 && Y.2.2.2.all (ak_sck T X σ))
noncomputable def ak_hd2 (f : List ai_V → Bool) (npre : Nat) (T : ai_T) (X : ak_X) (p : ak_Pt) (σ : List ai_V) : Bool := (ak_tck T (ai_dr _ σ npre) p.2.1 && ak_nck npre T p.1) && (ak_xck T X σ p.2.2.1 && f σ)
/-- does a state hold a pattern? -/
noncomputable def ak_hd (Wl : List Nat) (f : List ai_V → Bool) (npre : Nat) (T : ai_T) (X : ak_X) (M : ai_M) (l : ai_L) (st : List ai_V) (p : ak_Pt) : Bool := match ak_gw npre X.1 p.2.2.2.1 M Wl (npre, ak_idr npre) with
  | none => false
  | some q1 => (match ak_gk npre X.1 l p.2.2.2.2.1 q1 with
    | none => false
    | some q2 => (match ak_gl npre X.1 p.2.2.2.2.2 st q2 with
      | none => false
      | some q3 => ak_hd2 f npre T X p (ai_rv _ q3.2)))
theorem ak_sl_t {ρ : List Int} {σ : List ai_V} {ρc : List Int} (h : ak_rel ρ σ ρc) : ∀ {as : ai_L} {vs : mj_L}, ai_sl ρ (as.map (fun p => (p.1, ak_t σ p.2))) vs ↔ ai_sl ρc as vs
  | [], [] => Iff.rfl
  | [], _ :: _ => Iff.rfl
  | _ :: _, [] => Iff.rfl
  | a :: as, v :: vs => by
    show (a.1 = v.1 ∧ ai_c ρ (ak_t σ a.2) = some v.2 ∧ ai_sl ρ (as.map (fun p => (p.1, ak_t σ p.2))) vs) ↔ (a.1 = v.1 ∧ ai_c ρc a.2 = some v.2 ∧ ai_sl ρc as vs)
    rw [ak_t_c h, ak_sl_t h]
theorem ak_v0 {ρ : List Int} {r : Nat × Int} {z : Int} (h : ak_v ρ (0, r) = some z) : r.2 = z := by
  unfold ak_v at h
  exact Option.some.inj h
theorem ak_xck_ok {ρ : List Int} {T : ai_T} {X Y : ak_X} {σ : List ai_V} {ρc : List Int} (hs : ai_sat ρ T) (hx : ak_sx ρ X) (hr : ak_rel ρ σ ρc) (h : ak_xck T X σ Y = true) : ak_sx ρc Y := by
  unfold ak_xck at h
  simp only [Bool.and_eq_true] at h
  obtain ⟨⟨h1, h2⟩, h3, h4⟩ := h
  refine ⟨fun e he => ?_, fun f hf => ?_, ak_cck_ok hs hx.2.2.1 hr h3, fun s hs4 => ?_⟩
  · have h := List.all_eq_true.mp h1 e he
    unfold ak_eck at h
    simp only [ai_at_eq] at h
    split at h
    · rename_i v w hv hw
      obtain ⟨-, z, a1, a2⟩ := hr.2 _ _ hv
      obtain ⟨-, y, b1, b2⟩ := hr.2 _ _ hw
      refine ⟨z, y, a1, b1, ?_⟩
      split at h
      · rename_i a b e1 e2
        simp only [Bool.and_eq_true, Nat.beq_eq, ai_eqb_eq, decide_eq_true_eq] at h
        obtain ⟨u, hu, eu⟩ := ak_v1 (ak_kv_ok hx.1 a2 e1)
        obtain ⟨t, ht, et⟩ := ak_v1 (ak_kv_ok hx.1 b2 e2)
        rw [h.1] at hu
        cases hu.symm.trans ht
        omega
      · rename_i a b e1 e2
        simp only [ai_eqb_eq, decide_eq_true_eq] at h
        have g1 := ak_v0 (ak_kv_ok hx.1 a2 e1)
        have g2 := ak_v0 (ak_kv_ok hx.1 b2 e2)
        omega
      · cases h
    · cases h
  · have h := List.all_eq_true.mp h2 f hf
    unfold ak_fck at h
    simp only [ai_at_eq] at h
    split at h
    · rename_i v w hv hw
      obtain ⟨-, z, a1, a2⟩ := hr.2 _ _ hv
      obtain ⟨-, y, b1, b2⟩ := hr.2 _ _ hw
      split at h
      · rename_i a b e1 e2
        exact ⟨z, y, a1, b1, ak_le_ok hs hx (ak_kv_ok hx.1 a2 e1) (ak_kv_ok hx.1 b2 e2) h⟩
      · cases h
    · cases h
  · have h := List.all_eq_true.mp h4 s hs4
    unfold ak_sck at h
    simp only [ai_at_eq] at h
    split at h
    · rename_i v w hv hw
      obtain ⟨-, z, a1, a2⟩ := hr.2 _ _ hv
      obtain ⟨-, y, b1, b2⟩ := hr.2 _ _ hw
      refine ⟨z, y, a1, b1, ?_⟩
      split at h
      · rename_i p q hp hq
        obtain ⟨z', hz', z1, z2⟩ := ak_vi_ok hs hp
        cases hz'.symm.trans a2
        obtain ⟨y', hy', y1, y2⟩ := ak_vi_ok hs hq
        cases hy'.symm.trans b2
        rw [Bool.or_eq_true] at h
        rcases h with h | h
        · simp only [ai_ltb_eq, Bool.not_eq_true', decide_eq_false_iff_not] at h
          omega
        · split at h
          · rename_i a b e1 e2
            obtain ⟨u, hu, eu⟩ := ak_v1 (ak_kv_ok hx.1 a2 e1)
            obtain ⟨t, ht, et⟩ := ak_v1 (ak_kv_ok hx.1 b2 e2)
            split at h
            · rename_i b9 hb9
              have g := ak_sb_ok hx.2.1 hu ht hx.2.2.2 hb9
              simp only [ai_ltb_eq, Bool.not_eq_true', decide_eq_false_iff_not] at h
              omega
            · cases h
          · cases h
      · cases h
    · cases h
theorem ak_hd_ok {Wl : List Nat} {MI : ai_M} {C0 : mj_M} {f : List ai_V → Bool} {npre : Nat} {ρ ρ0 : List Int} {T : ai_T} {X : ak_X} {M : ai_M} {l : ai_L} {st : List ai_V} {p : ak_Pt} {cM : mj_M} {cl : mj_L} {cst : List Value} (hs : ai_sat ρ T) (hx : ak_sx ρ X) (hm : ai_mm ρ M cM) (hl : ai_sl ρ l cl) (hst : ai_ss ρ st cst) (hle : ai_le ρ0 ρ) (hn : ρ0.length = npre) (hMI : ai_mm ρ0 MI C0) (hfr : ak_fr Wl C0 cM) (hsw : p.2.2.2.1.length = MI.length ∧ ∀ q, q ∉ Wl → p.2.2.2.1[q]? = MI[q]?) (h : ak_hd Wl f npre T X M l st p = true) : ∃ (cl' : mj_L) (ν : List Int) (σ : List ai_V), (∀ q ∈ cl', q ∈ cl) ∧ f σ = true ∧ ak_rel ρ σ (ρ0 ++ ν) ∧ ak_pm ρ0 ν p cM cl' cst := by
  unfold ak_hd at h
  split at h
  · cases h
  · rename_i q1 h1
    split at h
    · cases h
    · rename_i q2 h2
      split at h
      · cases h
      · rename_i q3 h3
        rw [ai_rv_eq] at h
        unfold ak_hd2 at h
        rw [ai_dr_eq] at h
        simp only [Bool.and_eq_true] at h
        obtain ⟨⟨t1, t2⟩, t3, tf⟩ := h
        have hid : ∀ v ∈ ak_idr npre, v.1 < 2 := by
          intro v hv
          obtain ⟨k, hk⟩ := List.getElem?_of_mem (List.mem_reverse.mpr hv)
          have hl := (List.getElem?_eq_some_iff.mp hk).1
          rw [List.length_reverse, ak_idr_len] at hl
          rw [ak_idr_get _ _ hl] at hk
          cases hk
          exact Nat.lt_succ_self 1
        obtain ⟨x1, x2, lx, x3⟩ := ak_xt_tr (ak_gw_xt h1) (ak_xt_tr (ak_gk_xt h2) (ak_gl_xt h3))
        have a5 := x1 (ak_idr_len npre)
        have a6 := x2 hid
        have hi : ak_id npre q3.2.reverse := fun k hk => by
          rw [x3, List.reverse_append, List.getElem?_append_left (by rw [List.length_reverse, ak_idr_len]; exact hk)]
          exact ak_idr_get npre k hk
        have hP : ak_P q3 q3.2.reverse := ⟨a5, a6, fun k v hk => hk⟩
        obtain ⟨p3, -, m3, -⟩ := ak_gl_ok hx.1 hi h3 hP
        obtain ⟨p2, cl', m2, m2'⟩ := ak_gk_ok hx.1 hi hl h2 p3
        obtain ⟨p1, m1⟩ := ak_gw_ok hx.1 hi h1 p2
        have hσ : ∀ k, k < npre → q3.2.reverse[k]? = some (1, (k : Int)) := fun k hk => p1.2.2 k _ (ak_idr_get npre k hk)
        have hv1 : ∀ v ∈ q3.2.reverse, v.1 < 2 := fun v hv => a6 v (List.mem_reverse.mp hv)
        generalize q3.2.reverse = σ at *
        obtain ⟨u1, u2⟩ := ak_tck_ok hs t1
        have hlen : npre ≤ σ.length := by
          cases npre with
          | zero => exact Nat.zero_le _
          | succ n => exact (List.getElem?_eq_some_iff.mp (hσ n (Nat.lt_succ_self n))).1
        have hz : ∀ v ∈ σ, ∃ z, ai_z ρ v = some z := by
          intro v hv
          obtain ⟨k, hk⟩ := List.getElem?_of_mem hv
          by_cases hlt : k < npre
          · rw [hσ k hlt] at hk
            cases hk
            have hl0 : k < ρ0.length := by omega
            exact ⟨ρ0[k], hle _ _ (List.getElem?_eq_getElem hl0)⟩
          · refine u1 v (List.mem_of_getElem? (i := k - npre) ?_)
            rw [List.getElem?_drop, show npre + (k - npre) = k by omega]
            exact hk
        have hr : ak_rel ρ σ (ak_ev ρ σ) := ak_rel_of hv1 hz
        have hev : ak_ev ρ σ = ρ0 ++ ak_ev ρ (σ.drop npre) := by
          have e1 : σ = σ.take npre ++ σ.drop npre := (List.take_append_drop npre σ).symm
          have e2 : ak_ev ρ (σ.take npre) = ρ0 := by
            apply List.ext_getElem?
            intro k
            unfold ak_ev
            rw [List.getElem?_map]
            by_cases hlt : k < npre
            · rw [List.getElem?_take_of_lt hlt, hσ k hlt]
              have hl0 : k < ρ0.length := by omega
              rw [List.getElem?_eq_getElem hl0]
              show some ((ai_z ρ (1, (k : Int))).getD 0) = _
              have : ai_z ρ (1, (k : Int)) = some ρ0[k] := hle _ _ (List.getElem?_eq_getElem hl0)
              rw [this]
              rfl
            · rw [List.getElem?_eq_none (by rw [List.length_take]; omega), List.getElem?_eq_none (by omega)]
              rfl
          calc ak_ev ρ σ = ak_ev ρ (σ.take npre ++ σ.drop npre) := by rw [← e1]
            _ = ak_ev ρ (σ.take npre) ++ ak_ev ρ (σ.drop npre) := List.map_append
            _ = _ := by rw [e2]
        refine ⟨cl', ak_ev ρ (σ.drop npre), σ, m2', tf, by rw [← hev]; exact hr, u2, fun q hq => ?_, ?_, ?_, ?_, ?_⟩
        · have h := List.all_eq_true.mp t2 q hq
          simp only [ai_at_eq] at h
          split at h
          · rename_i r9 hr9
            simp only [Bool.and_eq_true, ai_ltb_eq, Bool.not_eq_true', decide_eq_false_iff_not] at h
            have hl0 : q.1 < ρ0.length := by
              have := Nat.blt_eq.mp h.1
              omega
            have hg := List.getElem?_eq_getElem hl0
            obtain ⟨c1, c2⟩ := hs.2 _ _ _ (hle _ _ hg) hr9
            exact ⟨_, hg, by omega, by omega⟩
          · cases h
        · rw [← hev]
          exact ak_xck_ok hs hx hr t3
        · refine ai_mm_of (by rw [hsw.1, ai_mm_len hMI, hfr.1]) (fun q e c he hc => ?_)
          by_cases hq : q ∈ Wl
          · obtain ⟨e', g, i1, i2, i3⟩ := m1 q hq
            cases he.symm.trans i1
            obtain ⟨c', j1, j2⟩ := ai_mm_get hm i2
            cases hc.symm.trans j1
            rw [← hev]
            exact (ak_t_e hr).mp (i3 c j2)
          · rw [hsw.2 q hq] at he
            rw [hfr.2 q hq] at hc
            obtain ⟨c', j1, j2⟩ := ai_mm_get hMI he
            cases hc.symm.trans j1
            exact ai_e_mono (ai_le_app _) j2
        · rw [← hev, ← ak_sl_t hr]
          exact m2
        · rw [← hev, ← ak_t_ss hr]
          exact m3 cst hst
