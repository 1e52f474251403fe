theorem ai_and {x y : Int32} (hy : 0 ≤ y.toInt) : 0 ≤ (x &&& y).toInt ∧ (x &&& y).toInt ≤ y.toInt := by
  have e1 : (x &&& y).toInt = (x.toBitVec &&& y.toBitVec).toInt := rfl
  have e2 : y.toInt = y.toBitVec.toInt := rfl
  rw [e2] at hy ⊢
  rw [e1]
  rw [BitVec.toInt_eq_toNat_cond] at hy
  rw [BitVec.toInt_eq_toNat_cond, BitVec.toInt_eq_toNat_cond, BitVec.toNat_and]
  have h1 : x.toBitVec.toNat &&& y.toBitVec.toNat ≤ y.toBitVec.toNat := Nat.and_le_right
  have h2 := y.toBitVec.isLt
  have h3 : 2 * y.toBitVec.toNat < 2 ^ 32 := by
    refine Nat.lt_of_not_le fun h => ?_
    rw [if_neg (by omega)] at hy
    omega
  rw [if_pos (by omega), if_pos h3]
  omega
theorem ai_op_ok {k : Nat} {p q : Int × Int} {x y : Int32} (h1 : p.1 ≤ x.toInt) (h2 : x.toInt ≤ p.2) (h3 : q.1 ≤ y.toInt) (h4 : y.toInt ≤ q.2) (hb : ai_in32 (ai_op k p q) = true) : (ai_op k p q).1 ≤ (ai_f k x y).toInt ∧ (ai_f k x y).toInt ≤ (ai_op k p q).2 := by
  obtain ⟨b1, b2⟩ := ai_in32_ok hb
  match k with
  | 0 =>
    have b1 : ai_lo32 ≤ p.1 + q.1 := b1
    have b2 : p.2 + q.2 ≤ ai_hi32 := b2
    show p.1 + q.1 ≤ (x + y).toInt ∧ (x + y).toInt ≤ p.2 + q.2
    rw [Int32.toInt_add, ai_bm (by omega) (by omega)]
    omega
  | 1 =>
    have b1 : ai_lo32 ≤ p.1 - q.2 := b1
    have b2 : p.2 - q.1 ≤ ai_hi32 := b2
    show p.1 - q.2 ≤ (x - y).toInt ∧ (x - y).toInt ≤ p.2 - q.1
    rw [Int32.toInt_sub, ai_bm (by omega) (by omega)]
    omega
  | 2 =>
    by_cases h : 0 ≤ p.1 ∧ 0 ≤ q.1
    · have e : ai_op 2 p q = (p.1 * q.1, p.2 * q.2) := if_pos h
      rw [e] at b1 b2 ⊢
      have g1 : p.1 * q.1 ≤ x.toInt * y.toInt := ai_mula h.1 h1 h.2 h3
      have g2 : x.toInt * y.toInt ≤ p.2 * q.2 := ai_mulb (by omega) h2 (by omega) h4
      have b1 : ai_lo32 ≤ p.1 * q.1 := b1
      have b2 : p.2 * q.2 ≤ ai_hi32 := b2
      show p.1 * q.1 ≤ (x * y).toInt ∧ (x * y).toInt ≤ p.2 * q.2
      rw [Int32.toInt_mul, ai_bm (by omega) (by omega)]
      exact ⟨g1, g2⟩
    · exact ai_no32 hb (if_neg h)
  | 3 =>
    by_cases h : 0 ≤ q.1
    · have e : ai_op 3 p q = (0, q.2) := if_pos h
      rw [e]
      have := ai_and (x := x) (y := y) (by omega)
      show 0 ≤ (x &&& y).toInt ∧ (x &&& y).toInt ≤ q.2
      omega
    · exact ai_no32 hb (if_neg h)
  | 4 =>
    by_cases h : 0 ≤ p.1 ∧ 0 < q.1
    · have e : ai_op 4 p q = (0, p.2) := if_pos h
      rw [e]
      show 0 ≤ (x / y).toInt ∧ (x / y).toInt ≤ p.2
      rw [ai_divn (by omega) (by omega)]
      have g1 : 0 ≤ x.toInt / y.toInt := Int.ediv_nonneg (by omega) (by omega)
      have g2 : x.toInt / y.toInt ≤ x.toInt := Int.ediv_le_self _ (by omega)
      omega
    · exact ai_no32 hb (if_neg h)
  | 5 =>
    by_cases h : 0 ≤ p.1 ∧ 0 < q.1
    · have e : ai_op 5 p q = (0, q.2 - 1) := if_pos h
      rw [e]
      show 0 ≤ (x - x / y * y).toInt ∧ (x - x / y * y).toInt ≤ q.2 - 1
      rw [ai_remn (by omega) (by omega)]
      have g1 := Int.emod_nonneg x.toInt (show y.toInt ≠ 0 by omega)
      have g2 := Int.emod_lt_of_pos x.toInt (show 0 < y.toInt by omega)
      omega
    · exact ai_no32 hb (if_neg h)
  | n + 6 => exact ai_no32 hb rfl
/-- an operation on two ints: the bounds, perhaps with a new symbol -/
theorem ai_bin_ok {ρ : List Int} {T T' : ai_T} {k : Nat} {a b r : ai_V} {v w : Value} (hs : ai_sat ρ T) (h : ai_bin k T a b = some (T', r)) (ha : ai_c ρ a = some v) (hb : ai_c ρ b = some w) : ∃ (x y : Int32) (ρ' : List Int), v = .int x ∧ w = .int y ∧ ai_le ρ ρ' ∧ ai_sat ρ' T' ∧ ai_c ρ' r = some (.int (ai_f k x y)) ∧ (k = 4 ∨ k = 5 → ¬ y = 0) := by
  unfold ai_bin at h
  split at h
  · rename_i p q hp hq
    obtain ⟨x, rfl, x1, x2, x3, x4, x5⟩ := ai_ii_ok hs hp ha
    obtain ⟨y, rfl, y1, y2, y3, y4, y5⟩ := ai_ii_ok hs hq hb
    cases hz : ((Nat.beq k 4 || Nat.beq k 5) && (decide (q.1 ≤ 0) && decide (0 ≤ q.2))) with
    | true => rw [hz] at h; cases h
    | false =>
      rw [hz] at h
      have hne : k = 4 ∨ k = 5 → ¬ y = 0 := fun hk e => by
        subst e
        have e0 : (0 : Int32).toInt = 0 := rfl
        rw [e0] at y2 y3
        have : (Nat.beq k 4 || Nat.beq k 5) = true := by rcases hk with rfl | rfl <;> rfl
        rw [this] at hz
        simp at hz
        omega
      cases ho : (ai_one p && ai_one q) with
      | true =>
        rw [ho] at h
        cases h
        obtain ⟨o1, o2⟩ : p.1 = p.2 ∧ q.1 = q.2 := by simpa [ai_one] using ho
        have ex : Int32.ofInt p.1 = x := by rw [show p.1 = x.toInt by omega, Int32.ofInt_toInt]
        have ey : Int32.ofInt q.1 = y := by rw [show q.1 = y.toInt by omega, Int32.ofInt_toInt]
        refine ⟨x, y, ρ, rfl, rfl, ai_le_rf, hs, ?_, hne⟩
        show some (Value.int (Int32.ofInt (ai_f k (Int32.ofInt p.1) (Int32.ofInt q.1)).toInt)) = _
        rw [ex, ey, Int32.ofInt_toInt]
      | false =>
        rw [ho] at h
        cases h
        obtain ⟨t1, t2⟩ := ai_top_ok (q := ai_op k p q) (x := ai_f k x y) (ai_op_ok x2 x3 y2 y3)
        refine ⟨x, y, ρ ++ [(ai_f k x y).toInt], rfl, rfl, ai_le_app _, ai_sat_push hs t1 t2, ?_, hne⟩
        show ((ρ ++ [(ai_f k x y).toInt])[T.length]?).map _ = _
        rw [ai_push_get hs]
        show some (Value.int (Int32.ofInt (ai_f k x y).toInt)) = _
        rw [Int32.ofInt_toInt]
  · cases h
