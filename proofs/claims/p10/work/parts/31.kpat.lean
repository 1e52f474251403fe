/-! PATTERNS: what a pattern's numbers stand for in a state -/
noncomputable def ak_t (σ : List ai_V) (a : ai_V) : ai_V := match a.1 with
  | 1 => (match ai_at _ σ a.2.toNat with
    | some v => v
    | none => (9, 0))
  | 3 => (match ai_at _ σ a.2.toNat with
    | some v => (v.1 + 2, v.2)
    | none => (9, 0))
  | _ => a
def ak_rel (ρ : List Int) (σ : List ai_V) (ρc : List Int) : Prop := ρc.length = σ.length ∧ ∀ (k : Nat) (v : ai_V), σ[k]? = some v → v.1 < 2 ∧ ∃ z, ρc[k]? = some z ∧ ai_z ρ v = some z
theorem ak_t_c {ρ : List Int} {σ : List ai_V} {ρc : List Int} (h : ak_rel ρ σ ρc) (a : ai_V) : ai_c ρ (ak_t σ a) = ai_c ρc a := by
  obtain ⟨t, x⟩ := a
  have key : ∀ k : Nat, (σ[k]? = none ∧ ρc[k]? = none) ∨ ∃ v z, σ[k]? = some v ∧ ρc[k]? = some z ∧ v.1 < 2 ∧ ai_z ρ v = some z := fun k => by
    cases hk : σ[k]? with
    | none =>
      refine Or.inl ⟨rfl, ?_⟩
      rw [List.getElem?_eq_none_iff] at hk ⊢
      rw [h.1]
      exact hk
    | some v =>
      obtain ⟨a, z, b, c⟩ := h.2 k v hk
      exact Or.inr ⟨v, z, rfl, b, a, c⟩
  have two : ∀ (v : ai_V) (z : Int), v.1 < 2 → ai_z ρ v = some z → ai_c ρ v = some (.int (Int32.ofInt z)) ∧ ai_c ρ (v.1 + 2, v.2) = some (.long (Int64.ofInt z)) := fun v z hv hz => by
    obtain ⟨t, y⟩ := v
    match t, hv, hz with
    | 0, _, hz => cases hz; exact ⟨rfl, rfl⟩
    | 1, _, hz =>
      have hz : ρ[y.toNat]? = some z := hz
      refine ⟨?_, ?_⟩
      · show (ρ[y.toNat]?).map _ = _
        rw [hz]
        rfl
      · show (ρ[y.toNat]?).map _ = _
        rw [hz]
        rfl
  unfold ak_t
  match t with
  | 0 => rfl
  | 1 =>
    simp only [ai_at_eq]
    show _ = (ρc[x.toNat]?).map _
    rcases key x.toNat with ⟨a, b⟩ | ⟨v, z, a, b, c, d⟩
    · rw [a, b]; rfl
    · rw [a, b]; exact (two v z c d).1
  | 2 => rfl
  | 3 =>
    simp only [ai_at_eq]
    show _ = (ρc[x.toNat]?).map _
    rcases key x.toNat with ⟨a, b⟩ | ⟨v, z, a, b, c, d⟩
    · rw [a, b]; rfl
    · rw [a, b]; exact (two v z c d).2
  | 4 => rfl
  | 5 => rfl
  | 6 => rfl
  | n + 7 => rfl
theorem ak_t_ss {ρ : List Int} {σ : List ai_V} {ρc : List Int} (h : ak_rel ρ σ ρc) : ∀ {as : List ai_V} {vs : List Value}, ai_ss ρ (as.map (ak_t σ)) vs ↔ ai_ss ρc as vs
  | [], [] => Iff.rfl
  | [], _ :: _ => Iff.rfl
  | _ :: _, [] => Iff.rfl
  | a :: as, v :: vs => by
    show (ai_c ρ (ak_t σ a) = some v ∧ ai_ss ρ (as.map (ak_t σ)) vs) ↔ (ai_c ρc a = some v ∧ ai_ss ρc as vs)
    rw [ak_t_c h, ak_t_ss h]
noncomputable def ak_te (σ : List ai_V) (e : ai_E) : ai_E := match e.1 with
  | 0 => (0, e.2.1, e.2.2.map (ak_t σ))
  | 1 => (1, e.2.1, e.2.2.map (ak_t σ))
  | _ => e
theorem ak_t_e {ρ : List Int} {σ : List ai_V} {ρc : List Int} (h : ak_rel ρ σ ρc) {e : ai_E} {c : va_E} : ai_e ρ (ak_te σ e) c ↔ ai_e ρc e c := by
  obtain ⟨t, ci, items⟩ := e
  match t with
  | 0 =>
    show (∃ fs, c = .inr (ci, fs) ∧ ai_ss ρ (items.map (ak_t σ)) fs) ↔ (∃ fs, c = .inr (ci, fs) ∧ ai_ss ρc items fs)
    simp only [ak_t_ss h]
  | 1 =>
    show (∃ f : Nat → Int32, c = .inl (ci, (items.map (ak_t σ)).length, .inl f) ∧ ∀ j a, (items.map (ak_t σ))[j]? = some a → ai_c ρ a = some (.int (f j))) ↔ (∃ f : Nat → Int32, c = .inl (ci, items.length, .inl f) ∧ ∀ j a, items[j]? = some a → ai_c ρc a = some (.int (f j)))
    rw [List.length_map]
    constructor
    · rintro ⟨f, rfl, hf⟩
      exact ⟨f, rfl, fun j a ha => by rw [← ak_t_c h]; exact hf j _ (by rw [List.getElem?_map, ha]; rfl)⟩
    · rintro ⟨f, rfl, hf⟩
      refine ⟨f, rfl, fun j a ha => ?_⟩
      rw [List.getElem?_map] at ha
      cases hi : items[j]? with
      | none => rw [hi] at ha; cases ha
      | some b =>
        rw [hi] at ha
        cases ha
        rw [ak_t_c h]
        exact hf j b hi
  | 2 =>
    show ai_e ρ (2, ci, items) c ↔ ai_e ρc (2, ci, items) c
    unfold ai_e
    split <;> first | exact Iff.rfl | (rename_i e; cases e)
  | n + 3 =>
    show ai_e ρ (n + 3, ci, items) c ↔ ai_e ρc (n + 3, ci, items) c
    unfold ai_e
    split <;> first | exact Iff.rfl | (rename_i e; cases e)
theorem ak_t_mm {ρ : List Int} {σ : List ai_V} {ρc : List Int} (h : ak_rel ρ σ ρc) : ∀ {M : ai_M} {cM : mj_M}, ai_mm ρ (M.map (ak_te σ)) cM ↔ ai_mm ρc M cM
  | [], [] => Iff.rfl
  | [], _ :: _ => Iff.rfl
  | _ :: _, [] => Iff.rfl
  | e :: M, c :: cM => by
    show (ai_e ρ (ak_te σ e) c ∧ ai_mm ρ (M.map (ak_te σ)) cM) ↔ (ai_e ρc e c ∧ ai_mm ρc M cM)
    rw [ak_t_e h, ak_t_mm h]
/-! MATCHING: a pattern whose symbols come in their order, each once -/
def ak_veq (a b : ai_V) : Bool := match a.2, b.2 with
  | .ofNat x, .ofNat y => Nat.beq a.1 b.1 && Nat.beq x y
  | .negSucc x, .negSucc y => Nat.beq a.1 b.1 && Nat.beq x y
  | _, _ => false
theorem ak_veq_ok {a b : ai_V} (h : ak_veq a b = true) : a = b := by
  obtain ⟨a1, a2⟩ := a
  obtain ⟨b1, b2⟩ := b
  unfold ak_veq at h
  simp only at h
  split at h
  · simp only [Bool.and_eq_true, Nat.beq_eq] at h
    rw [h.1, h.2]
  · simp only [Bool.and_eq_true, Nat.beq_eq] at h
    rw [h.1, h.2]
  · cases h
noncomputable def ak_leq (l : List ai_V) : List ai_V → Bool := List.rec (motive := fun _ => List ai_V → Bool) (fun m => match m with
  | [] => true
  | _ :: _ => false) (fun a _ ih m => match m with
  | [] => false
  | b :: m => bif ak_veq a b then ih m else false) l
theorem ak_leq_ok : ∀ {l m : List ai_V}, ak_leq l m = true → l = m
  | [], [], _ => rfl
  | [], _ :: _, h => by cases h
  | _ :: _, [], h => by cases h
  | a :: l, b :: m, h => by
    change (bif ak_veq a b then ak_leq l m else false) = true at h
    cases hb : ak_veq a b with
    | false => rw [hb] at h; cases h
    | true =>
      rw [hb, cond_true] at h
      rw [ak_veq_ok hb, ak_leq_ok h]
abbrev ak_A : Type := Nat × List ai_V
def ak_sy (q : ak_A) (a w : ai_V) : Option ak_A := match a.1 with
  | 1 => bif Nat.beq a.2.toNat q.1 && Nat.blt w.1 2 then some (q.1 + 1, w :: q.2) else none
  | 3 => bif Nat.beq a.2.toNat q.1 && (Nat.beq w.1 2 || Nat.beq w.1 3) then some (q.1 + 1, (w.1 - 2, w.2) :: q.2) else none
  | _ => bif ak_veq a w then some q else none
noncomputable def ak_ms (as : List ai_V) : List ai_V → ak_A → Option ak_A := List.rec (motive := fun _ => List ai_V → ak_A → Option ak_A) (fun ws q => match ws with
  | [] => some q
  | _ :: _ => none) (fun a _ ih ws q => match ws with
  | [] => none
  | w :: ws => (match ak_sy q a w with
    | some q' => ih ws q'
    | none => none)) as
def ak_P (q : ak_A) (σ : List ai_V) : Prop := q.2.length = q.1 ∧ (∀ v ∈ q.2, v.1 < 2) ∧ ∀ (k : Nat) (v : ai_V), q.2.reverse[k]? = some v → σ[k]? = some v
theorem ak_P_push {n : Nat} {l : List ai_V} {w : ai_V} {σ : List ai_V} (h : ak_P (n + 1, w :: l) σ) : ak_P (n, l) σ ∧ σ[n]? = some w := by
  obtain ⟨h1, h2, h3⟩ := h
  have hl : l.length = n := by simpa using h1
  refine ⟨⟨hl, fun v hv => h2 v (List.mem_cons_of_mem _ hv), fun k v hk => h3 k v ?_⟩, h3 n w ?_⟩
  · simp only [List.reverse_cons]
    rw [List.getElem?_append_left (List.getElem?_eq_some_iff.mp hk).1]
    exact hk
  · simp only [List.reverse_cons]
    rw [List.getElem?_append_right (by simp [hl])]
    simp [hl]
theorem ak_sy_ok {q q' : ak_A} {a w : ai_V} {σ : List ai_V} (h : ak_sy q a w = some q') (hP : ak_P q' σ) : ak_P q σ ∧ ak_t σ a = w := by
  obtain ⟨n, l⟩ := q
  obtain ⟨t, x⟩ := a
  unfold ak_sy at h
  unfold ak_t
  simp only at h
  split at h
  · have hbh := ai_bt h
    clear h
    obtain ⟨hb, h⟩ := hbh
    cases h
    simp only [Bool.and_eq_true, Nat.beq_eq, Nat.blt_eq] at hb
    obtain ⟨g1, g2⟩ := ak_P_push hP
    refine ⟨g1, ?_⟩
    simp only [ai_at_eq, hb.1, g2]
  · have hbh := ai_bt h
    clear h
    obtain ⟨hb, h⟩ := hbh
    cases h
    simp only [Bool.and_eq_true, Nat.beq_eq, Bool.or_eq_true] at hb
    obtain ⟨g1, g2⟩ := ak_P_push hP
    refine ⟨g1, ?_⟩
    simp only [ai_at_eq, hb.1, g2]
    obtain ⟨w1, w2⟩ := w
    simp only at hb
    rcases hb.2 with e | e <;> subst e <;> rfl
  · rename_i n1 n3
    have hbh := ai_bt h
    clear h
    obtain ⟨hb, h⟩ := hbh
    cases h
    refine ⟨hP, ?_⟩
    rw [← ak_veq_ok hb]
theorem ak_ms_ok {σ : List ai_V} : ∀ {as ws : List ai_V} {q q' : ak_A}, ak_ms as ws q = some q' → ak_P q' σ → ak_P q σ ∧ as.map (ak_t σ) = ws
  | [], [], q, q', h, hP => by
    cases h
    exact ⟨hP, rfl⟩
  | [], _ :: _, _, _, h, _ => by cases h
  | _ :: _, [], _, _, h, _ => by cases h
  | a :: as, w :: ws, q, q', h, hP => by
    change (match ak_sy q a w with
      | some q' => ak_ms as ws q'
      | none => none) = some q' at h
    split at h
    · rename_i q1 h1
      obtain ⟨g1, g2⟩ := ak_ms_ok h hP
      obtain ⟨g3, g4⟩ := ak_sy_ok h1 g1
      exact ⟨g3, by rw [List.map_cons, g4, g2]⟩
    · cases h
noncomputable def ak_mc (e h : ai_E) (q : ak_A) : Option ak_A := bif Nat.beq e.1 h.1 && Nat.beq e.2.1 h.2.1 then (match e.1 with
  | 0 => ak_ms e.2.2 h.2.2 q
  | 1 => ak_ms e.2.2 h.2.2 q
  | _ => bif ak_leq e.2.2 h.2.2 then some q else none) else none
theorem ak_mc_ok {e h : ai_E} {q q' : ak_A} {σ : List ai_V} (hm : ak_mc e h q = some q') (hP : ak_P q' σ) : ak_P q σ ∧ ak_te σ e = h := by
  obtain ⟨e1, e2, e3⟩ := e
  obtain ⟨h1, h2, h3⟩ := h
  unfold ak_mc at hm
  have hbh := ai_bt hm
  clear hm
  obtain ⟨hb, hm⟩ := hbh
  simp only [Bool.and_eq_true, Nat.beq_eq] at hb
  obtain ⟨rfl, rfl⟩ := hb
  unfold ak_te
  simp only at hm
  split at hm
  · obtain ⟨a, b⟩ := ak_ms_ok hm hP
    exact ⟨a, by simp only [b]⟩
  · obtain ⟨a, b⟩ := ak_ms_ok hm hP
    exact ⟨a, by simp only [b]⟩
  · rename_i n0 n1
    have hbh := ai_bt hm
    clear hm
    obtain ⟨hb, hm⟩ := hbh
    cases hm
    refine ⟨hP, ?_⟩
    rw [ak_leq_ok hb]
noncomputable def ak_mm (M : ai_M) : ai_M → ak_A → Option ak_A := List.rec (motive := fun _ => ai_M → ak_A → Option ak_A) (fun N q => match N with
  | [] => some q
  | _ :: _ => none) (fun e _ ih N q => match N with
  | [] => none
  | h :: N => (match ak_mc e h q with
    | some q' => ih N q'
    | none => none)) M
theorem ak_mm_ok {σ : List ai_V} : ∀ {M N : ai_M} {q q' : ak_A}, ak_mm M N q = some q' → ak_P q' σ → ak_P q σ ∧ M.map (ak_te σ) = N
  | [], [], q, q', h, hP => by
    cases h
    exact ⟨hP, rfl⟩
  | [], _ :: _, _, _, h, _ => by cases h
  | _ :: _, [], _, _, h, _ => by cases h
  | a :: as, w :: ws, q, q', h, hP => by
    change (match ak_mc a w q with
      | some q' => ak_mm as ws q'
      | none => none) = some q' at h
    split at h
    · rename_i q1 h1
      obtain ⟨g1, g2⟩ := ak_mm_ok h hP
      obtain ⟨g3, g4⟩ := ak_mc_ok h1 g1
      exact ⟨g3, by rw [List.map_cons, g4, g2]⟩
    · cases h
/-- arguments: some are known, the others are the next symbols -/
def ak_pa : Nat → List (Option ai_V) → List ai_V
  | _, [] => []
  | n, some v :: ps => v :: ak_pa n ps
  | n, none :: ps => (1, (n : Int)) :: ak_pa (n + 1) ps
def ak_ma : List (Option ai_V) → List ai_V → ak_A → Option ak_A
  | [], [], q => some q
  | some v :: ps, a :: as, q => bif ak_veq v a then ak_ma ps as q else none
  | none :: ps, a :: as, q => bif Nat.blt a.1 2 then ak_ma ps as (q.1 + 1, a :: q.2) else none
  | _, _, _ => none
/-- known arguments are no symbols -/
def ak_pk (ps : List (Option ai_V)) : Bool := ps.all (fun p => match p with
  | some v => !(Nat.beq v.1 1) && !(Nat.beq v.1 3)
  | none => true)
theorem ak_ma_ok {σ : List ai_V} : ∀ {ps : List (Option ai_V)} {as : List ai_V} {q q' : ak_A}, ak_pk ps = true → ak_ma ps as q = some q' → ak_P q' σ → ak_P q σ ∧ (ak_pa q.1 ps).map (ak_t σ) = as
  | [], [], q, q', _, h, hP => by
    cases h
    exact ⟨hP, rfl⟩
  | some v :: ps, a :: as, q, q', hk, h, hP => by
    unfold ak_ma at h
    have hbh := ai_bt h
    clear h
    obtain ⟨hb, h⟩ := hbh
    unfold ak_pk at hk
    rw [List.all_cons, Bool.and_eq_true] at hk
    obtain ⟨g1, g2⟩ := ak_ma_ok hk.2 h hP
    refine ⟨g1, ?_⟩
    show ak_t σ v :: (ak_pa q.1 ps).map (ak_t σ) = a :: as
    rw [g2, ← ak_veq_ok hb]
    congr 1
    simp only [Bool.and_eq_true, Bool.not_eq_true'] at hk
    unfold ak_t
    split
    · rename_i e; rw [e] at hk; exact absurd hk.1.1 (by decide)
    · rename_i e; rw [e] at hk; exact absurd hk.1.2 (by decide)
    · rfl
  | none :: ps, a :: as, q, q', hk, h, hP => by
    unfold ak_ma at h
    have hbh := ai_bt h
    clear h
    obtain ⟨hb, h⟩ := hbh
    unfold ak_pk at hk
    rw [List.all_cons, Bool.and_eq_true] at hk
    obtain ⟨g1, g2⟩ := ak_ma_ok hk.2 h hP
    obtain ⟨n, l⟩ := q
    obtain ⟨g3, g4⟩ := ak_P_push g1
    refine ⟨g3, ?_⟩
    show ak_t σ (1, (n : Int)) :: (ak_pa (n + 1) ps).map (ak_t σ) = a :: as
    rw [g2]
    congr 1
    show (match ai_at _ σ ((n : Nat) : Int).toNat with
      | some v => v
      | none => (9, 0)) = a
    rw [show ((n : Nat) : Int).toNat = n from rfl, ai_at_eq, g4]
  | [], _ :: _, _, _, _, h, _ => by cases h
  | some _ :: _, [], _, _, _, h, _ => by cases h
  | none :: _, [], _, _, _, h, _ => by cases h
