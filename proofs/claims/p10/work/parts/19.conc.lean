/-! WHAT THE ENGINE'S STATES STAND FOR -/
def ai_z (ρ : List Int) (a : ai_V) : Option Int := match a.1 with
  | 0 => some a.2
  | 1 => ρ[a.2.toNat]?
  | 2 => some a.2
  | 3 => ρ[a.2.toNat]?
  | _ => none
def ai_c (ρ : List Int) (a : ai_V) : Option Value := match a.1 with
  | 0 => some (.int (Int32.ofInt a.2))
  | 1 => (ρ[a.2.toNat]?).map (fun z => .int (Int32.ofInt z))
  | 2 => some (.long (Int64.ofInt a.2))
  | 3 => (ρ[a.2.toNat]?).map (fun z => .long (Int64.ofInt z))
  | 4 => some (.ref a.2.toNat)
  | 5 => some (.retAddr a.2.toNat)
  | 6 => some .null
  | _ => none
def ai_sat (ρ : List Int) (T : ai_T) : Prop := ρ.length = T.length ∧ ∀ (k : Nat) (z : Int) (q : Int × Int), ρ[k]? = some z → T[k]? = some q → q.1 ≤ z ∧ z ≤ q.2
def ai_ss (ρ : List Int) : List ai_V → List Value → Prop
  | [], [] => True
  | a :: as, v :: vs => ai_c ρ a = some v ∧ ai_ss ρ as vs
  | _, _ => False
def ai_sl (ρ : List Int) : ai_L → mj_L → Prop
  | [], [] => True
  | a :: as, v :: vs => a.1 = v.1 ∧ ai_c ρ a.2 = some v.2 ∧ ai_sl ρ as vs
  | _, _ => False
def ai_e (ρ : List Int) (e : ai_E) (ce : va_E) : Prop := match e with
  | (0, ci, items) => ∃ fs, ce = .inr (ci, fs) ∧ ai_ss ρ items fs
  | (1, t, items) => ∃ f : Nat → Int32, ce = .inl (t, items.length, .inl f) ∧ ∀ j a, items[j]? = some a → ai_c ρ a = some (.int (f j))
  | (2, 2, items) => ∃ g : Nat → Option Nat, ce = .inl (2, items.length, .inr (.inr (.inr (.inr g)))) ∧ ∀ j k, items[j]? = some (4, k) → g j = some k.toNat
  | (3, t, [(7, n), (7, lo), (7, hi)]) => ∃ f : Nat → Int32, ce = .inl (t, n.toNat, .inl f) ∧ ∀ j, j < n.toNat → lo ≤ (f j).toInt ∧ (f j).toInt ≤ hi
  | _ => False
def ai_mm (ρ : List Int) : ai_M → mj_M → Prop
  | [], [] => True
  | e :: es, c :: cs => ai_e ρ e c ∧ ai_mm ρ es cs
  | _, _ => False
def ai_le (ρ ρ' : List Int) : Prop := ∀ (k : Nat) (z : Int), ρ[k]? = some z → ρ'[k]? = some z
theorem ai_le_rf {ρ : List Int} : ai_le ρ ρ := fun _ _ h => h
theorem ai_le_tr {a b c : List Int} (h : ai_le a b) (g : ai_le b c) : ai_le a c := fun k z q => g k z (h k z q)
theorem ai_le_app {ρ : List Int} (r : List Int) : ai_le ρ (ρ ++ r) := fun k z h => by
  rw [List.getElem?_append_left (List.getElem?_eq_some_iff.mp h).1]
  exact h
theorem ai_c_mono {ρ ρ' : List Int} (h : ai_le ρ ρ') {a : ai_V} {v : Value} (hc : ai_c ρ a = some v) : ai_c ρ' a = some v := by
  unfold ai_c at hc ⊢
  split at hc <;> first
    | exact hc
    | (cases hz : ρ[a.2.toNat]? with
      | none => rw [hz] at hc; cases hc
      | some z => rw [hz] at hc; rw [h _ _ hz]; exact hc)
theorem ai_z_mono {ρ ρ' : List Int} (h : ai_le ρ ρ') {a : ai_V} {v : Int} (hc : ai_z ρ a = some v) : ai_z ρ' a = some v := by
  unfold ai_z at hc ⊢
  split at hc <;> first
    | exact hc
    | exact h _ _ hc
theorem ai_ss_mono {ρ ρ' : List Int} (h : ai_le ρ ρ') : ∀ {as : List ai_V} {vs : List Value}, ai_ss ρ as vs → ai_ss ρ' as vs
  | [], [], _ => trivial
  | _ :: _, _ :: _, hc => ⟨ai_c_mono h hc.1, ai_ss_mono h hc.2⟩
  | [], _ :: _, hc => hc.elim
  | _ :: _, [], hc => hc.elim
theorem ai_sl_mono {ρ ρ' : List Int} (h : ai_le ρ ρ') : ∀ {as : ai_L} {vs : mj_L}, ai_sl ρ as vs → ai_sl ρ' as vs
  | [], [], _ => trivial
  | _ :: _, _ :: _, hc => ⟨hc.1, ai_c_mono h hc.2.1, ai_sl_mono h hc.2.2⟩
  | [], _ :: _, hc => hc.elim
  | _ :: _, [], hc => hc.elim
theorem ai_e_mono {ρ ρ' : List Int} (h : ai_le ρ ρ') {e : ai_E} {ce : va_E} (hc : ai_e ρ e ce) : ai_e ρ' e ce := by
  unfold ai_e at hc ⊢
  split at hc
  · obtain ⟨fs, h1, h2⟩ := hc
    exact ⟨fs, h1, ai_ss_mono h h2⟩
  · obtain ⟨f, h1, h2⟩ := hc
    exact ⟨f, h1, fun j a hj => ai_c_mono h (h2 j a hj)⟩
  · exact hc
  · exact hc
  · exact hc
theorem ai_mm_mono {ρ ρ' : List Int} (h : ai_le ρ ρ') : ∀ {as : ai_M} {vs : mj_M}, ai_mm ρ as vs → ai_mm ρ' as vs
  | [], [], _ => trivial
  | _ :: _, _ :: _, hc => ⟨ai_e_mono h hc.1, ai_mm_mono h hc.2⟩
  | [], _ :: _, hc => hc.elim
  | _ :: _, [], hc => hc.elim
theorem ai_mm_len {ρ : List Int} : ∀ {as : ai_M} {vs : mj_M}, ai_mm ρ as vs → as.length = vs.length
  | [], [], _ => rfl
  | _ :: _, _ :: _, hc => by simp [ai_mm_len hc.2]
  | [], _ :: _, hc => hc.elim
  | _ :: _, [], hc => hc.elim
theorem ai_mm_get {ρ : List Int} : ∀ {as : ai_M} {vs : mj_M} {k : Nat} {e : ai_E}, ai_mm ρ as vs → as[k]? = some e → ∃ c, vs[k]? = some c ∧ ai_e ρ e c
  | _ :: _, c :: _, 0, _, hc, h => by
    cases h
    exact ⟨c, rfl, hc.1⟩
  | _ :: as, _ :: vs, k + 1, e, hc, h => ai_mm_get (as := as) (vs := vs) (k := k) hc.2 h
  | [], _, _, _, _, h => by simp at h
  | _ :: _, [], _, _, hc, _ => hc.elim
theorem ai_mm_set {ρ : List Int} : ∀ {as : ai_M} {vs : mj_M} {k : Nat} {e : ai_E} {c : va_E}, ai_mm ρ as vs → ai_e ρ e c → ai_mm ρ (as.set k e) (vs.set k c)
  | _ :: _, _ :: _, 0, _, _, hc, h => ⟨h, hc.2⟩
  | _ :: as, _ :: vs, k + 1, e, c, hc, h => ⟨hc.1, ai_mm_set (k := k) hc.2 h⟩
  | [], [], _, _, _, _, _ => trivial
  | [], _ :: _, _, _, _, hc, _ => hc.elim
  | _ :: _, [], _, _, _, hc, _ => hc.elim
theorem ai_mm_app {ρ : List Int} : ∀ {as : ai_M} {vs : mj_M} {bs : ai_M} {ws : mj_M}, ai_mm ρ as vs → ai_mm ρ bs ws → ai_mm ρ (as ++ bs) (vs ++ ws)
  | [], [], _, _, _, h => h
  | _ :: _, _ :: _, _, _, hc, h => ⟨hc.1, ai_mm_app hc.2 h⟩
  | [], _ :: _, _, _, hc, _ => hc.elim
  | _ :: _, [], _, _, hc, _ => hc.elim
theorem ai_ss_len {ρ : List Int} : ∀ {as : List ai_V} {vs : List Value}, ai_ss ρ as vs → as.length = vs.length
  | [], [], _ => rfl
  | _ :: _, _ :: _, hc => by simp [ai_ss_len hc.2]
  | [], _ :: _, hc => hc.elim
  | _ :: _, [], hc => hc.elim
theorem ai_ss_get {ρ : List Int} : ∀ {as : List ai_V} {vs : List Value} {k : Nat} {a : ai_V}, ai_ss ρ as vs → as[k]? = some a → ∃ v, vs[k]? = some v ∧ ai_c ρ a = some v
  | _ :: _, v :: _, 0, _, hc, h => by
    cases h
    exact ⟨v, rfl, hc.1⟩
  | _ :: as, _ :: vs, k + 1, a, hc, h => ai_ss_get (as := as) (vs := vs) (k := k) hc.2 h
  | [], _, _, _, _, h => by simp at h
  | _ :: _, [], _, _, hc, _ => hc.elim
theorem ai_ss_set {ρ : List Int} : ∀ {as : List ai_V} {vs : List Value} {k : Nat} {a : ai_V} {v : Value}, ai_ss ρ as vs → ai_c ρ a = some v → ai_ss ρ (as.set k a) (vs.set k v)
  | _ :: _, _ :: _, 0, _, _, hc, h => ⟨h, hc.2⟩
  | _ :: as, _ :: vs, k + 1, e, c, hc, h => ⟨hc.1, ai_ss_set (k := k) hc.2 h⟩
  | [], [], _, _, _, _, _ => trivial
  | [], _ :: _, _, _, _, hc, _ => hc.elim
  | _ :: _, [], _, _, _, hc, _ => hc.elim
theorem ai_ss_app {ρ : List Int} : ∀ {as : List ai_V} {vs : List Value} {bs : List ai_V} {ws : List Value}, ai_ss ρ as vs → ai_ss ρ bs ws → ai_ss ρ (as ++ bs) (vs ++ ws)
  | [], [], _, _, _, h => h
  | _ :: _, _ :: _, _, _, hc, h => ⟨hc.1, ai_ss_app hc.2 h⟩
  | [], _ :: _, _, _, hc, _ => hc.elim
  | _ :: _, [], _, _, hc, _ => hc.elim
theorem ai_sl_lk {ρ : List Int} : ∀ {l : ai_L} {cl : mj_L} {i : Nat} {a : ai_V}, ai_sl ρ l cl → ai_lk l i = some a → ∃ v, mj_lk cl i = some v ∧ ai_c ρ a = some v
  | q :: l, c :: cl, i, a, hc, h => by
    obtain ⟨h1, h2, h3⟩ := hc
    change (bif Nat.beq q.1 i then some q.2 else ai_lk l i) = some a at h
    unfold mj_lk
    by_cases e : q.1 = i
    · rw [show Nat.beq q.1 i = true by rw [Nat.beq_eq]; exact e] at h
      cases h
      rw [if_pos (h1 ▸ e)]
      exact ⟨_, rfl, h2⟩
    · rw [show Nat.beq q.1 i = false by rw [← Bool.not_eq_true, Nat.beq_eq]; exact e] at h
      rw [if_neg (h1 ▸ e)]
      exact ai_sl_lk h3 h
  | [], _, _, _, _, h => by cases h
  | _ :: _, [], _, _, hc, _ => hc.elim
theorem ai_cat_ok {ρ : List Int} {a : ai_V} {v : Value} (h : ai_c ρ a = some v) : ai_cat a = v.category ∧ (ai_isL a = true ↔ v.category = 2) := by
  obtain ⟨t, x⟩ := a
  unfold ai_c at h
  split at h
  all_goals first
    | (rename_i e; simp only at e; subst e; cases h; exact ⟨rfl, by simp [ai_isL, Value.category]⟩)
    | (rename_i e; simp only at e; subst e; cases hz : ρ[x.toNat]? with
      | none => simp only [hz] at h; cases h
      | some z => simp only [hz] at h; cases h; exact ⟨rfl, by simp [ai_isL, Value.category]⟩)
    | cases h
theorem ai_cs_ok {ρ : List Int} : ∀ {as : List ai_V} {vs : List Value}, ai_ss ρ as vs → ai_cs as = mj_cs vs
  | [], [], _ => rfl
  | a :: as, v :: vs, hc => by
    have h1 : ai_cs (a :: as) = ai_cat a + ai_cs as := by simp [ai_cs]
    have h2 : mj_cs (v :: vs) = v.category + mj_cs vs := by simp [mj_cs]
    rw [h1, h2, ai_cs_ok hc.2, (ai_cat_ok hc.1).1]
  | [], _ :: _, hc => hc.elim
  | _ :: _, [], hc => hc.elim
theorem ai_beq {a b : Nat} : (Nat.beq a b = true) ↔ a = b := Nat.beq_eq ▸ Iff.rfl
theorem ai_nb (a b : Nat) : Nat.beq a b = (a == b) := by
  rw [Bool.eq_iff_iff, Nat.beq_eq, beq_iff_eq]
theorem ai_sl_s1 {ρ : List Int} {i : Nat} {a : ai_V} {v : Value} {l : ai_L} {cl : mj_L} (h : ai_sl ρ l cl) (hv : ai_c ρ a = some v) : ai_sl ρ (ai_s1 l i a) (mj_s1 cl i v) := by
  unfold ai_s1 mj_s1
  rw [ai_flt_eq]
  refine ⟨rfl, hv, ?_⟩
  induction l generalizing cl with
  | nil => cases cl with
    | nil => trivial
    | cons c cl => exact h.elim
  | cons q l ih => cases cl with
    | nil => exact h.elim
    | cons c cl =>
      obtain ⟨h1, h2, h3⟩ := h
      have e : (!(Nat.beq q.1 i) && !(Nat.beq (q.1 + 1) i && Nat.beq (ai_cat q.2) 2)) = (!(c.1 == i) && !(c.1 + 1 == i && c.2.category == 2)) := by
        rw [(ai_cat_ok h2).1, h1]
        simp only [ai_nb]
      rw [List.filter_cons, List.filter_cons, e]
      split
      · exact ⟨h1, h2, ih h3⟩
      · exact ih h3
theorem ai_sl_s2 {ρ : List Int} {i : Nat} {a : ai_V} {v : Value} {l : ai_L} {cl : mj_L} (h : ai_sl ρ l cl) (hv : ai_c ρ a = some v) : ai_sl ρ (ai_s2 l i a) (mj_s2 cl i v) := by
  unfold ai_s2 mj_s2
  rw [ai_flt_eq]
  refine ⟨rfl, hv, ?_⟩
  induction l generalizing cl with
  | nil => cases cl with
    | nil => trivial
    | cons c cl => exact h.elim
  | cons q l ih => cases cl with
    | nil => exact h.elim
    | cons c cl =>
      obtain ⟨h1, h2, h3⟩ := h
      have e : (!(Nat.beq q.1 i) && (!(Nat.beq q.1 (i + 1)) && !(Nat.beq (q.1 + 1) i && Nat.beq (ai_cat q.2) 2))) = (!(c.1 == i) && (!(c.1 == i + 1) && !(c.1 + 1 == i && c.2.category == 2))) := by
        rw [(ai_cat_ok h2).1, h1]
        simp only [ai_nb]
      rw [List.filter_cons, List.filter_cons, e]
      split
      · exact ⟨h1, h2, ih h3⟩
      · exact ih h3
theorem ai_sat_push {ρ : List Int} {T : ai_T} {q : Int × Int} {z : Int} (h : ai_sat ρ T) (h1 : q.1 ≤ z) (h2 : z ≤ q.2) : ai_sat (ρ ++ [z]) (T ++ [q]) := by
  refine ⟨by simp [h.1], fun k w r hk hr => ?_⟩
  by_cases hl : k < ρ.length
  · rw [List.getElem?_append_left hl] at hk
    rw [List.getElem?_append_left (by rw [← h.1]; exact hl)] at hr
    exact h.2 k w r hk hr
  · rw [List.getElem?_append_right (by omega)] at hk
    rw [List.getElem?_append_right (by rw [← h.1]; omega)] at hr
    have hz : k - ρ.length < 1 := (List.getElem?_eq_some_iff.mp hk).1
    rw [show k - ρ.length = 0 by omega] at hk
    rw [← h.1, show k - ρ.length = 0 by omega] at hr
    cases hk
    cases hr
    exact ⟨h1, h2⟩
theorem ai_push_get {ρ : List Int} {T : ai_T} {z : Int} (h : ai_sat ρ T) : (ρ ++ [z])[T.length]? = some z := by
  rw [← h.1]
  simp
theorem ai_set_ok {ρ : List Int} {T : ai_T} {a : ai_V} {q : Int × Int} {z : Int} (h : ai_sat ρ T) (hz : ai_z ρ a = some z) (h1 : q.1 ≤ z) (h2 : z ≤ q.2) : ai_sat ρ (ai_set T a q) := by
  unfold ai_set
  cases hb : (Nat.beq a.1 1 || Nat.beq a.1 3) with
  | false => exact h
  | true =>
    have hz2 : ρ[a.2.toNat]? = some z := by
      unfold ai_z at hz
      rcases (by simpa using hb : a.1 = 1 ∨ a.1 = 3) with e | e <;> (rw [e] at hz; exact hz)
    refine ⟨by simpa using h.1, fun k w r hk hr => ?_⟩
    simp only [cond_true] at hr
    by_cases e : k = a.2.toNat
    · subst e
      rw [hz2] at hk
      cases hk
      have hl : a.2.toNat < T.length := by
        have := (List.getElem?_eq_some_iff.mp hz2).1
        rw [h.1] at this
        exact this
      rw [List.getElem?_set_self hl] at hr
      cases hr
      exact ⟨h1, h2⟩
    · rw [List.getElem?_set_ne (Ne.symm e)] at hr
      exact h.2 k w r hk hr
