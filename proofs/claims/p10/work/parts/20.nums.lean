/-! NUMBERS -/
theorem ai_i32 {z : Int} (h1 : ai_lo32 ≤ z) (h2 : z ≤ ai_hi32) : (Int32.ofInt z).toInt = z := by
  unfold ai_lo32 at h1
  unfold ai_hi32 at h2
  exact Int32.toInt_ofInt_of_le (by omega) (by omega)
theorem ai_b32 (x : Int32) : ai_lo32 ≤ x.toInt ∧ x.toInt ≤ ai_hi32 := by
  have h1 := x.le_toInt
  have h2 := x.toInt_lt
  unfold ai_lo32 ai_hi32
  omega
theorem ai_in32_ok {q : Int × Int} (h : ai_in32 q = true) : ai_lo32 ≤ q.1 ∧ q.2 ≤ ai_hi32 := by
  simpa [ai_in32] using h
theorem ai_iv_ok {ρ : List Int} {T : ai_T} {a : ai_V} {q : Int × Int} {v : Value} (hs : ai_sat ρ T) (h : ai_iv T a = some q) (hc : ai_c ρ a = some v) : ∃ z, ai_z ρ a = some z ∧ q.1 ≤ z ∧ z ≤ q.2 ∧ ((a.1 < 2 ∧ v = .int (Int32.ofInt z)) ∨ (2 ≤ a.1 ∧ v = .long (Int64.ofInt z))) := by
  obtain ⟨t, x⟩ := a
  unfold ai_iv at h
  unfold ai_c at hc
  unfold ai_z
  match t, h, hc with
  | 0, h, hc => cases h; cases hc; exact ⟨x, rfl, Int.le_refl _, Int.le_refl _, Or.inl ⟨by dsimp only; omega, rfl⟩⟩
  | 2, h, hc => cases h; cases hc; exact ⟨x, rfl, Int.le_refl _, Int.le_refl _, Or.inr ⟨Nat.le_of_ble_eq_true rfl, rfl⟩⟩
  | 1, h, hc =>
    simp only at h hc
    cases hz : ρ[x.toNat]? with
    | none => rw [hz] at hc; cases hc
    | some z =>
      rw [hz] at hc
      cases hc
      obtain ⟨g1, g2⟩ := hs.2 _ _ _ hz h
      exact ⟨z, rfl, g1, g2, Or.inl ⟨by dsimp only; omega, rfl⟩⟩
  | 3, h, hc =>
    simp only at h hc
    cases hz : ρ[x.toNat]? with
    | none => rw [hz] at hc; cases hc
    | some z =>
      rw [hz] at hc
      cases hc
      obtain ⟨g1, g2⟩ := hs.2 _ _ _ hz h
      exact ⟨z, rfl, g1, g2, Or.inr ⟨Nat.le_of_ble_eq_true rfl, rfl⟩⟩
  | n + 4, h, hc => cases h
/-- an int with bounds -/
theorem ai_ii_ok {ρ : List Int} {T : ai_T} {a : ai_V} {q : Int × Int} {v : Value} (hs : ai_sat ρ T) (h : ai_ii T a = some q) (hc : ai_c ρ a = some v) : ∃ x : Int32, v = .int x ∧ ai_z ρ a = some x.toInt ∧ q.1 ≤ x.toInt ∧ x.toInt ≤ q.2 ∧ ai_lo32 ≤ q.1 ∧ q.2 ≤ ai_hi32 := by
  unfold ai_ii at h
  cases hi : ai_isI a with
  | false => rw [hi] at h; cases h
  | true =>
    rw [hi] at h
    simp only [cond_true] at h
    cases hv : ai_iv T a with
    | none => rw [hv] at h; cases h
    | some p =>
      rw [hv] at h
      simp only at h
      cases hb : ai_in32 p with
      | false => rw [hb] at h; cases h
      | true =>
        rw [hb] at h
        cases h
        obtain ⟨b1, b2⟩ := ai_in32_ok hb
        obtain ⟨z, h1, h2, h3, h4 | h4⟩ := ai_iv_ok hs hv hc
        · have e := ai_i32 (Int.le_trans b1 h2) (Int.le_trans h3 b2)
          exact ⟨Int32.ofInt z, h4.2, by rw [e]; exact h1, by rw [e]; exact h2, by rw [e]; exact h3, b1, b2⟩
        · have : a.1 < 2 := by simpa [ai_isI] using hi
          omega
theorem ai_ll_ok {ρ : List Int} {T : ai_T} {a : ai_V} {q : Int × Int} {v : Value} (hs : ai_sat ρ T) (h : ai_ll T a = some q) (hc : ai_c ρ a = some v) : ∃ x : Int64, v = .long x ∧ ai_z ρ a = some x.toInt ∧ q.1 ≤ x.toInt ∧ x.toInt ≤ q.2 ∧ -9223372036854775808 ≤ q.1 ∧ q.2 ≤ 9223372036854775807 := by
  unfold ai_ll at h
  cases hi : ai_isL a with
  | false => rw [hi] at h; cases h
  | true =>
    rw [hi] at h
    simp only [cond_true] at h
    cases hv : ai_iv T a with
    | none => rw [hv] at h; cases h
    | some p =>
      rw [hv] at h
      simp only at h
      cases hb : ai_in64 p with
      | false => rw [hb] at h; cases h
      | true =>
        rw [hb] at h
        cases h
        obtain ⟨b1, b2⟩ : -9223372036854775808 ≤ q.1 ∧ q.2 ≤ 9223372036854775807 := by simpa [ai_in64] using hb
        obtain ⟨z, h1, h2, h3, h4 | h4⟩ := ai_iv_ok hs hv hc
        · have : a.1 = 2 ∨ a.1 = 3 := by simpa [ai_isL] using hi
          omega
        · have e : (Int64.ofInt z).toInt = z := Int64.toInt_ofInt_of_le (by omega) (by omega)
          exact ⟨Int64.ofInt z, h4.2, by rw [e]; exact h1, by rw [e]; exact h2, by rw [e]; exact h3, b1, b2⟩
/-- x < y -/
theorem ai_lt_ok {ρ : List Int} {T : ai_T} {a b : ai_V} {p q : Int × Int} {x y : Int} (hs : ai_sat ρ T) (hx : ai_z ρ a = some x) (hy : ai_z ρ b = some y) (h1 : p.1 ≤ x) (h2 : x ≤ p.2) (h3 : q.1 ≤ y) (h4 : y ≤ q.2) : ∃ T', (decide (x < y), T') ∈ ai_lt T a b p q ∧ ai_sat ρ T' := by
  unfold ai_lt
  by_cases h : x < y
  · refine ⟨ai_set (ai_set T a (p.1, if p.2 < q.2 then p.2 else q.2 - 1)) b (if p.1 < q.1 then q.1 else p.1 + 1, q.2), ?_, ai_set_ok (ai_set_ok hs hx h1 ?_) hy ?_ h4⟩
    · rw [decide_eq_true h, if_pos (by omega)]
      exact List.mem_append_left _ List.mem_cons_self
    · show x ≤ if p.2 < q.2 then p.2 else q.2 - 1
      split <;> omega
    · show (if p.1 < q.1 then q.1 else p.1 + 1) ≤ y
      split <;> omega
  · refine ⟨ai_set (ai_set T a (if p.1 < q.1 then q.1 else p.1, p.2)) b (q.1, if p.2 < q.2 then p.2 else q.2), ?_, ai_set_ok (ai_set_ok hs hx ?_ h2) hy h3 ?_⟩
    · rw [decide_eq_false h]
      exact List.mem_append_right _ (by rw [if_pos (by omega)]; exact List.mem_cons_self)
    · show (if p.1 < q.1 then q.1 else p.1) ≤ x
      split <;> omega
    · show y ≤ if p.2 < q.2 then p.2 else q.2
      split <;> omega
theorem ai_eq_ok {ρ : List Int} {T : ai_T} {a b : ai_V} {p q : Int × Int} {x y : Int} (hs : ai_sat ρ T) (hx : ai_z ρ a = some x) (hy : ai_z ρ b = some y) (h1 : p.1 ≤ x) (h2 : x ≤ p.2) (h3 : q.1 ≤ y) (h4 : y ≤ q.2) : ∃ T', (decide (x = y), T') ∈ ai_eq T a b p q ∧ ai_sat ρ T' := by
  unfold ai_eq
  by_cases h : x = y
  · subst h
    refine ⟨ai_set (ai_set T a (if p.1 < q.1 then q.1 else p.1, if p.2 < q.2 then p.2 else q.2)) b (if p.1 < q.1 then q.1 else p.1, if p.2 < q.2 then p.2 else q.2), ?_, ?_⟩
    · rw [decide_eq_true rfl, if_pos (by omega)]
      exact List.mem_append_left _ List.mem_cons_self
    · have g1 : (if p.1 < q.1 then q.1 else p.1) ≤ x := by split <;> omega
      have g2 : x ≤ if p.2 < q.2 then p.2 else q.2 := by split <;> omega
      exact ai_set_ok (ai_set_ok hs hx g1 g2) hy g1 g2
  · rw [decide_eq_false h]
    by_cases hin : q.1 = q.2 ∧ p.1 < q.1 ∧ q.1 < p.2
    · rw [if_neg (show ¬ (p.1 = p.2 ∧ q.1 = q.2 ∧ p.1 = q.1) by omega), if_pos hin]
      by_cases hlt : x < q.1
      · exact ⟨_, List.mem_append_right _ List.mem_cons_self, ai_set_ok (q := (p.1, q.1 - 1)) hs hx h1 (by show x ≤ q.1 - 1; omega)⟩
      · exact ⟨_, List.mem_append_right _ (List.mem_cons_of_mem _ List.mem_cons_self), ai_set_ok (q := (q.1 + 1, p.2)) hs hx (by show q.1 + 1 ≤ x; omega) h2⟩
    refine ⟨_, List.mem_append_right _ (by rw [if_neg (by omega), if_neg hin]; exact List.mem_cons_self), ?_⟩
    split
    · split
      · exact ai_set_ok hs hx (by show p.1 + 1 ≤ x; omega) h2
      · split
        · exact ai_set_ok hs hx h1 (by show x ≤ p.2 - 1; omega)
        · exact hs
    · exact hs
def ai_cr (k : Nat) (x y : Int) : Bool := match k with
  | 0 => decide (x = y)
  | 1 => !decide (x = y)
  | 2 => decide (x < y)
  | 3 => !decide (x < y)
  | 4 => decide (y < x)
  | _ => !decide (y < x)
theorem ai_not_ok {ρ : List Int} {l : List (Bool × ai_T)} {r : Bool} (h : ∃ T', (r, T') ∈ l ∧ ai_sat ρ T') : ∃ T', (!r, T') ∈ ai_not l ∧ ai_sat ρ T' := by
  obtain ⟨T', h1, h2⟩ := h
  exact ⟨T', List.mem_map.mpr ⟨_, h1, rfl⟩, h2⟩
theorem ai_cmp_ok {ρ : List Int} {T : ai_T} {a b : ai_V} {p q : Int × Int} {x y : Int} (k : Nat) (hs : ai_sat ρ T) (hx : ai_z ρ a = some x) (hy : ai_z ρ b = some y) (h1 : p.1 ≤ x) (h2 : x ≤ p.2) (h3 : q.1 ≤ y) (h4 : y ≤ q.2) : ∃ T', (ai_cr k x y, T') ∈ ai_cmp k T a b p q ∧ ai_sat ρ T' := by
  match k with
  | 0 => exact ai_eq_ok hs hx hy h1 h2 h3 h4
  | 1 => exact ai_not_ok (ai_eq_ok hs hx hy h1 h2 h3 h4)
  | 2 => exact ai_lt_ok hs hx hy h1 h2 h3 h4
  | 3 => exact ai_not_ok (ai_lt_ok hs hx hy h1 h2 h3 h4)
  | 4 => exact ai_lt_ok hs hy hx h3 h4 h1 h2
  | n + 5 => exact ai_not_ok (ai_lt_ok hs hy hx h3 h4 h1 h2)
theorem ai_top_ok {q : Int × Int} {x : Int32} (h : ai_in32 q = true → q.1 ≤ x.toInt ∧ x.toInt ≤ q.2) : (ai_top q).1 ≤ x.toInt ∧ x.toInt ≤ (ai_top q).2 := by
  unfold ai_top
  cases hb : ai_in32 q with
  | true => exact h hb
  | false => exact ai_b32 x
theorem ai_bm {z : Int} (h1 : ai_lo32 ≤ z) (h2 : z ≤ ai_hi32) : z.bmod (2 ^ 32) = z := by
  unfold ai_lo32 at h1
  unfold ai_hi32 at h2
  exact Int.bmod_eq_of_le (by omega) (by omega)
theorem ai_mulb {x y a b : Int} (h1 : 0 ≤ x) (h2 : x ≤ a) (h3 : 0 ≤ y) (h4 : y ≤ b) : x * y ≤ a * b := Int.mul_le_mul h2 h4 h3 (by omega)
theorem ai_mula {x y a b : Int} (h1 : 0 ≤ a) (h2 : a ≤ x) (h3 : 0 ≤ b) (h4 : b ≤ y) : a * b ≤ x * y := Int.mul_le_mul h2 h4 h3 (by omega)
theorem ai_no32 {q : Int × Int} {P : Prop} (h : ai_in32 q = true) (hq : q = (ai_lo32 - 1, ai_hi32)) : P := by
  subst hq
  exact absurd h (by decide)
theorem ai_divn {x y : Int32} (hx : 0 ≤ x.toInt) (hy : 0 < y.toInt) : (x / y).toInt = x.toInt / y.toInt := lg_idiv_nonneg hx hy
theorem ai_remn {x y : Int32} (hx : 0 ≤ x.toInt) (hy : 0 < y.toInt) : (x - x / y * y).toInt = x.toInt % y.toInt := by
  have hd := ai_divn hx hy
  have b1 := ai_b32 x
  have b2 := ai_b32 y
  have e1 := Int.emod_add_mul_ediv x.toInt y.toInt
  have e2 := Int.emod_nonneg x.toInt (show y.toInt ≠ 0 by omega)
  have e3 := Int.emod_lt_of_pos x.toInt hy
  have e4 : 0 ≤ x.toInt / y.toInt := Int.ediv_nonneg hx (Int.le_of_lt hy)
  have e5 : y.toInt * (x.toInt / y.toInt) = x.toInt / y.toInt * y.toInt := Int.mul_comm _ _
  have e6 : 0 ≤ x.toInt / y.toInt * y.toInt := Int.mul_nonneg e4 (Int.le_of_lt hy)
  have e7 : (x / y * y).toInt = x.toInt / y.toInt * y.toInt := by
    rw [Int32.toInt_mul, hd]
    exact ai_bm (by unfold ai_lo32; omega) (by omega)
  rw [Int32.toInt_sub, e7, ai_bm (by unfold ai_lo32; omega) (by omega)]
  omega
