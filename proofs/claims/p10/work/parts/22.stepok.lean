/-! A STEP OF THE ENGINE COVERS THE STEP OF THE MACHINE -/
def ai_G (ρ : List Int) (T : ai_T) (M : ai_M) (l : ai_L) (st : List ai_V) (cM : mj_M) (cl : mj_L) (cst : List Value) : Prop := ai_sat ρ T ∧ ai_mm ρ M cM ∧ ai_sl ρ l cl ∧ ai_ss ρ st cst
def ai_ok (ρ : List Int) (ce sl mc ms : Nat) (r : mj_R) (succs : List (Nat × ai_S)) : Prop :=
  ∃ (dc ds : Nat) (cM' : mj_M) (pc' : Nat) (cl' : mj_L) (cst' : List Value) (T' : ai_T) (M' : ai_M) (l' : ai_L) (st' : List ai_V) (ρ' : List Int), r = some (dc, ds, cM', pc', cl', cst') ∧ (pc', ce + dc, sl + ds, T', M', l', st') ∈ succs ∧ ai_le ρ ρ' ∧ ai_G ρ' T' M' l' st' cM' cl' cst' ∧ ce + dc ≤ mc ∧ sl + ds ≤ ms
theorem ai_bt {α : Type} {b : Bool} {x : Option α} {y : α} (h : (bif b then x else none) = some y) : b = true ∧ x = some y := by
  cases b with
  | true => exact ⟨rfl, h⟩
  | false => cases h
theorem ai_bn {α : Type} {b : Bool} {x : Option α} {y : α} (h : (bif b then none else x) = some y) : b = false ∧ x = some y := by
  cases b with
  | false => exact ⟨rfl, h⟩
  | true => cases h
theorem ai_bq {a b : Nat} (h : Nat.beq a b = true) : a = b := Nat.eq_of_beq_eq_true h
section AIS
variable {ρ : List Int} {T : ai_T} {M : ai_M} {l : ai_L} {st : List ai_V} {cM : mj_M} {cl : mj_L} {cst : List Value} {ce sl mc ms pc pc' : Nat} {r : mj_R} {succs : List (Nat × ai_S)}
theorem ai_ok1 {T' : ai_T} {M' : ai_M} {l' : ai_L} {st' : List ai_V} {ρ' : List Int} {cM' : mj_M} {cl' : mj_L} {cst' : List Value} (hce : ce ≤ mc) (hsl : sl ≤ ms) (hr : r = some (0, 0, cM', pc', cl', cst')) (hm : (pc', ce, sl, T', M', l', st') ∈ succs) (hle : ai_le ρ ρ') (hG : ai_G ρ' T' M' l' st' cM' cl' cst') : ai_ok ρ ce sl mc ms r succs :=
  ⟨0, 0, cM', pc', cl', cst', T', M', l', st', ρ', hr, hm, hle, hG, hce, hsl⟩
theorem ai_pu_ok {a : ai_V} {v : Value} (hG : ai_G ρ T M l st cM cl cst) (hce : ce ≤ mc) (hsl : sl ≤ ms) (h : ai_pu pc' ce sl T M l a st = some succs) (hv : ai_c ρ a = some v) (hr : r = some (0, 0, cM, pc', cl, v :: cst)) : ai_ok ρ ce sl mc ms r succs := by
  cases h
  exact ai_ok1 hce hsl hr List.mem_cons_self ai_le_rf ⟨hG.1, hG.2.1, hG.2.2.1, hv, hG.2.2.2⟩
theorem ai_ci {a : ai_V} {v : Value} (h : ai_isI a = true) (hc : ai_c ρ a = some v) : ∃ x, v = .int x := by
  have h2 : a.1 < 2 := by simpa [ai_isI] using h
  obtain ⟨t, x⟩ := a
  unfold ai_c at hc
  match t, h2, hc with
  | 0, _, hc => cases hc; exact ⟨_, rfl⟩
  | 1, _, hc =>
    simp only at hc
    cases hz : ρ[x.toNat]? with
    | none => rw [hz] at hc; cases hc
    | some z => rw [hz] at hc; cases hc; exact ⟨_, rfl⟩
theorem ai_cl {a : ai_V} {v : Value} (h : ai_isL a = true) (hc : ai_c ρ a = some v) : ∃ x, v = .long x := by
  have h2 : a.1 = 2 ∨ a.1 = 3 := by simpa [ai_isL] using h
  obtain ⟨t, x⟩ := a
  unfold ai_c at hc
  rcases h2 with h2 | h2
  · simp only at h2
    subst h2
    cases hc
    exact ⟨_, rfl⟩
  · simp only at h2
    subst h2
    simp only at hc
    cases hz : ρ[x.toNat]? with
    | none => rw [hz] at hc; cases hc
    | some z => rw [hz] at hc; cases hc; exact ⟨_, rfl⟩
theorem ai_c4 {x : Int} {v : Value} (hc : ai_c ρ (4, x) = some v) : v = .ref x.toNat := by
  cases hc
  rfl
theorem ai_c5 {x : Int} {v : Value} (hc : ai_c ρ (5, x) = some v) : v = .retAddr x.toNat := by
  cases hc
  rfl
theorem ai_c4' {a : ai_V} {v : Value} (h : a.1 = 4) (hc : ai_c ρ a = some v) : v = .ref a.2.toNat := by
  obtain ⟨t, x⟩ := a
  simp only at h
  subst h
  exact ai_c4 hc
theorem ai_c5' {a : ai_V} {v : Value} (h : a.1 = 5) (hc : ai_c ρ a = some v) : v = .retAddr a.2.toNat := by
  obtain ⟨t, x⟩ := a
  simp only at h
  subst h
  exact ai_c5 hc
/-- a load: 0 int, 1 long, 2 a reference -/
theorem ai_ld_ok {k i : Nat} (hG : ai_G ρ T M l st cM cl cst) (hce : ce ≤ mc) (hsl : sl ≤ ms) (h : ai_ld pc' ce sl T M l st k i = some succs)
    (h0 : ∀ x, k = 0 → mj_lk cl i = some (.int x) → r = some (0, 0, cM, pc', cl, .int x :: cst)) (h1 : ∀ x, k = 1 → mj_lk cl i = some (.long x) → r = some (0, 0, cM, pc', cl, .long x :: cst)) (h2 : ∀ x, k ≠ 0 → k ≠ 1 → mj_lk cl i = some (.ref x) → r = some (0, 0, cM, pc', cl, .ref x :: cst)) (h3 : ∀ x, k ≠ 0 → k ≠ 1 → mj_lk cl i = some (.retAddr x) → r = some (0, 0, cM, pc', cl, .retAddr x :: cst)) : ai_ok ρ ce sl mc ms r succs := by
  unfold ai_ld at h
  cases ha : ai_lk l i with
  | none => rw [ha] at h; cases h
  | some a =>
    rw [ha] at h
    simp only at h
    obtain ⟨v, hv, hc⟩ := ai_sl_lk hG.2.2.1 ha
    match k, h with
    | 0, h =>
      obtain ⟨hb, h⟩ := ai_bt h
      obtain ⟨x, rfl⟩ := ai_ci hb hc
      exact ai_pu_ok hG hce hsl h hc (h0 x rfl hv)
    | 1, h =>
      obtain ⟨hb, h⟩ := ai_bt h
      obtain ⟨x, rfl⟩ := ai_cl hb hc
      exact ai_pu_ok hG hce hsl h hc (h1 x rfl hv)
    | n + 2, h =>
      obtain ⟨hb, h⟩ := ai_bt h
      rcases (by simpa using hb : a.1 = 4 ∨ a.1 = 5) with e | e
      · obtain rfl := ai_c4' e hc
        exact ai_pu_ok hG hce hsl h hc (h2 _ (by omega) (by omega) hv)
      · obtain rfl := ai_c5' e hc
        exact ai_pu_ok hG hce hsl h hc (h3 _ (by omega) (by omega) hv)
theorem ai_ss_cons {a : ai_V} {as : List ai_V} {vs : List Value} (h : ai_ss ρ (a :: as) vs) : ∃ v vs', vs = v :: vs' ∧ ai_c ρ a = some v ∧ ai_ss ρ as vs' := by
  cases vs with
  | nil => exact h.elim
  | cons v vs => exact ⟨v, vs, rfl, h.1, h.2⟩
/-- a store -/
theorem ai_sto_ok {nL k i : Nat} (hG : ai_G ρ T M l st cM cl cst) (hce : ce ≤ mc) (hsl : sl ≤ ms) (h : ai_sto pc' ce sl T M l st nL k i = some succs)
    (h0 : ∀ x cst', k = 0 → i < nL → cst = .int x :: cst' → r = some (0, 0, cM, pc', mj_s1 cl i (.int x), cst')) (h1 : ∀ x cst', k = 1 → i + 1 < nL → cst = .long x :: cst' → r = some (0, 0, cM, pc', mj_s2 cl i (.long x), cst')) (h2 : ∀ x cst', k ≠ 0 → k ≠ 1 → i < nL → cst = .ref x :: cst' → r = some (0, 0, cM, pc', mj_s1 cl i (.ref x), cst')) : ai_ok ρ ce sl mc ms r succs := by
  unfold ai_sto at h
  cases st with
  | nil => cases h
  | cons a st =>
    simp only at h
    obtain ⟨v, cst', rfl, hc, hs⟩ := ai_ss_cons hG.2.2.2
    match k, h with
    | 0, h =>
      obtain ⟨hb, h⟩ := ai_bt h
      cases h
      obtain ⟨b1, b2⟩ : ai_isI a = true ∧ i < nL := by simpa using hb
      obtain ⟨x, rfl⟩ := ai_ci b1 hc
      exact ai_ok1 hce hsl (h0 x _ rfl b2 rfl) List.mem_cons_self ai_le_rf ⟨hG.1, hG.2.1, ai_sl_s1 hG.2.2.1 hc, hs⟩
    | 1, h =>
      obtain ⟨hb, h⟩ := ai_bt h
      cases h
      obtain ⟨b1, b2⟩ : ai_isL a = true ∧ i + 1 < nL := by simpa using hb
      obtain ⟨x, rfl⟩ := ai_cl b1 hc
      exact ai_ok1 hce hsl (h1 x _ rfl b2 rfl) List.mem_cons_self ai_le_rf ⟨hG.1, hG.2.1, ai_sl_s2 hG.2.2.1 hc, hs⟩
    | n + 2, h =>
      obtain ⟨hb, h⟩ := ai_bt h
      cases h
      obtain ⟨b1, b2⟩ : a.1 = 4 ∧ i < nL := by simpa using hb
      obtain rfl := ai_c4' b1 hc
      exact ai_ok1 hce hsl (h2 _ _ (by omega) (by omega) b2 rfl) List.mem_cons_self ai_le_rf ⟨hG.1, hG.2.1, ai_sl_s1 hG.2.2.1 hc, hs⟩
/-- an operation on the two topmost ints -/
theorem ai_two_ok {k : Nat} (hG : ai_G ρ T M l st cM cl cst) (hce : ce ≤ mc) (hsl : sl ≤ ms) (h : ai_two k pc ce sl T M l st = some succs)
    (h0 : ∀ x y cst', cst = .int y :: .int x :: cst' → (k = 4 ∨ k = 5 → ¬ y = 0) → r = some (0, 0, cM, pc + 1, cl, .int (ai_f k x y) :: cst')) : ai_ok ρ ce sl mc ms r succs := by
  unfold ai_two at h
  split at h
  · rename_i b a st
    split at h
    · rename_i T' v hb
      cases h
      obtain ⟨w, cst', rfl, hc, hs⟩ := ai_ss_cons hG.2.2.2
      obtain ⟨w2, cst', rfl, hc2, hs2⟩ := ai_ss_cons hs
      obtain ⟨x, y, ρ', rfl, rfl, hle, hs', hcr, hne⟩ := ai_bin_ok hG.1 hb hc2 hc
      exact ai_ok1 hce hsl (h0 x y _ rfl hne) List.mem_cons_self hle ⟨hs', ai_mm_mono hle hG.2.1, ai_sl_mono hle hG.2.2.1, hcr, ai_ss_mono hle hs2⟩
    · cases h
  · cases h
theorem ai_jp_ok {off : Int} {t : Nat} (h : ai_jp pc off = some t) : 0 ≤ (pc : Int) + off ∧ t = ((pc : Int) + off).toNat := by
  unfold ai_jp at h
  obtain ⟨h1, h⟩ := ai_bt h
  cases h
  exact ⟨of_decide_eq_true h1, rfl⟩
/-- a branch -/
theorem ai_br_ok {off : Int} {rs : List (Bool × ai_T)} {b : Bool} (hm : ai_mm ρ M cM) (hl : ai_sl ρ l cl) (hs : ai_ss ρ st cst) (hce : ce ≤ mc) (hsl : sl ≤ ms) (h : ai_br pc off ce sl M l st rs = some succs) (hb : ∃ T', (b, T') ∈ rs ∧ ai_sat ρ T') (hr : ∀ X, mj_br cM pc off cl cst b = some X → r = some X) : ai_ok ρ ce sl mc ms r succs := by
  unfold ai_br at h
  cases hj : ai_jp pc off with
  | none => rw [hj] at h; cases h
  | some t =>
    rw [hj] at h
    cases h
    obtain ⟨h0, rfl⟩ := ai_jp_ok hj
    obtain ⟨T', h1, h2⟩ := hb
    have hr := fun X (hX : mj_br cM pc off cl cst b = some X) => hr X hX
    unfold mj_br at hr
    rw [if_pos h0] at hr
    cases b with
    | true => exact ai_ok1 hce hsl (hr _ rfl) (List.mem_map.mpr ⟨_, h1, rfl⟩) ai_le_rf ⟨h2, hm, hl, hs⟩
    | false => exact ai_ok1 hce hsl (hr _ rfl) (List.mem_map.mpr ⟨_, h1, rfl⟩) ai_le_rf ⟨h2, hm, hl, hs⟩
theorem ai_un_ok {k : Nat} {p : Int × Int} {x : Int32} (h1 : p.1 ≤ x.toInt) (h2 : x.toInt ≤ p.2) : (ai_ub k p).1 ≤ (ai_un k x).toInt ∧ (ai_un k x).toInt ≤ (ai_ub k p).2 := by
  match k with
  | 0 =>
    refine ai_top_ok (q := (-p.2, -p.1)) (x := -x) (fun hb => ?_)
    obtain ⟨b1, b2⟩ := ai_in32_ok hb
    have b1 : ai_lo32 ≤ -p.2 := b1
    have b2 : -p.1 ≤ ai_hi32 := b2
    show -p.2 ≤ (-x).toInt ∧ (-x).toInt ≤ -p.1
    rw [Int32.toInt_neg, ai_bm (by omega) (by omega)]
    omega
  | 1 =>
    show -128 ≤ (x.toInt8.toInt32).toInt ∧ (x.toInt8.toInt32).toInt ≤ 127
    rw [Int8.toInt_toInt32]
    have h1 := x.toInt8.le_toInt
    have h2 := x.toInt8.toInt_lt
    omega
  | 2 =>
    show -32768 ≤ (x.toInt16.toInt32).toInt ∧ (x.toInt16.toInt32).toInt ≤ 32767
    rw [Int16.toInt_toInt32]
    have h1 := x.toInt16.le_toInt
    have h2 := x.toInt16.toInt_lt
    omega
  | n + 3 =>
    show 0 ≤ ((x.toUInt32 % 65536).toInt32).toInt ∧ ((x.toUInt32 % 65536).toInt32).toInt ≤ 65535
    have e : ((x.toUInt32 % 65536).toInt32).toInt = (x.toUInt32 % 65536).toBitVec.toInt := rfl
    have hm : (x.toUInt32 % 65536).toBitVec.toNat < 65536 := by
      show (x.toUInt32 % 65536).toNat < 65536
      rw [UInt32.toNat_mod]
      exact Nat.mod_lt _ (by decide)
    rw [e, BitVec.toInt_eq_toNat_cond, if_pos (by omega)]
    omega
theorem ai_uo_ok {k : Nat} (hG : ai_G ρ T M l st cM cl cst) (hce : ce ≤ mc) (hsl : sl ≤ ms) (h : ai_uo k pc ce sl T M l st = some succs)
    (h0 : ∀ x cst', cst = .int x :: cst' → r = some (0, 0, cM, pc + 1, cl, .int (ai_un k x) :: cst')) : ai_ok ρ ce sl mc ms r succs := by
  unfold ai_uo at h
  split at h
  · rename_i a st
    split at h
    · rename_i p hp
      obtain ⟨w, cst', rfl, hc, hs⟩ := ai_ss_cons hG.2.2.2
      obtain ⟨x, rfl, x1, x2, x3, x4, x5⟩ := ai_ii_ok hG.1 hp hc
      cases ho : ai_one p with
      | true =>
        rw [ho] at h
        cases h
        have o1 : p.1 = p.2 := by simpa [ai_one] using ho
        have ex : Int32.ofInt p.1 = x := by rw [show p.1 = x.toInt by omega, Int32.ofInt_toInt]
        refine ai_ok1 hce hsl (h0 x _ rfl) List.mem_cons_self ai_le_rf ⟨hG.1, hG.2.1, hG.2.2.1, ?_, hs⟩
        show some (Value.int (Int32.ofInt (ai_un k (Int32.ofInt p.1)).toInt)) = _
        rw [ex, Int32.ofInt_toInt]
      | false =>
        rw [ho] at h
        cases h
        obtain ⟨t1, t2⟩ := ai_un_ok (k := k) x2 x3
        have hle : ai_le ρ (ρ ++ [(ai_un k x).toInt]) := ai_le_app _
        refine ai_ok1 hce hsl (h0 x _ rfl) List.mem_cons_self hle ⟨ai_sat_push hG.1 t1 t2, ai_mm_mono hle hG.2.1, ai_sl_mono hle hG.2.2.1, ?_, ai_ss_mono hle hs⟩
        show ((ρ ++ [(ai_un k x).toInt])[T.length]?).map _ = _
        rw [ai_push_get hG.1]
        show some (Value.int (Int32.ofInt (ai_un k x).toInt)) = _
        rw [Int32.ofInt_toInt]
    · cases h
  · cases h
theorem ai_bm64 {z : Int} (h1 : -9223372036854775808 ≤ z) (h2 : z ≤ 9223372036854775807) : z.bmod (2 ^ 64) = z := Int.bmod_eq_of_le (by omega) (by omega)
theorem ai_ldivn {x y : Int64} (hx : 0 ≤ x.toInt) (hy : 0 < y.toInt) : (x / y).toInt = x.toInt / y.toInt := by
  have h : y ≠ -1 := fun e => by subst e; exact absurd hy (by decide)
  rw [Int64.toInt_div_of_ne_right _ _ h, Int.tdiv_eq_ediv_of_nonneg hx]
theorem ai_lremn {x y : Int64} (hx : 0 ≤ x.toInt) (hy : 0 < y.toInt) : (x - x / y * y).toInt = x.toInt % y.toInt := by
  have hd := ai_ldivn hx hy
  have b1 := x.toInt_lt
  have e1 := Int.emod_add_mul_ediv x.toInt y.toInt
  have e2 := Int.emod_nonneg x.toInt (show y.toInt ≠ 0 by omega)
  have e3 := Int.emod_lt_of_pos x.toInt hy
  have e4 : 0 ≤ x.toInt / y.toInt := Int.ediv_nonneg hx (Int.le_of_lt hy)
  have e5 : y.toInt * (x.toInt / y.toInt) = x.toInt / y.toInt * y.toInt := Int.mul_comm _ _
  have e6 : 0 ≤ x.toInt / y.toInt * y.toInt := Int.mul_nonneg e4 (Int.le_of_lt hy)
  have e7 : (x / y * y).toInt = x.toInt / y.toInt * y.toInt := by
    rw [Int64.toInt_mul, hd]
    exact ai_bm64 (by omega) (by omega)
  rw [Int64.toInt_sub, e7, ai_bm64 (by omega) (by omega)]
  omega
theorem ai_lop_ok {k : Nat} {p q r : Int × Int} {x y : Int64} (h1 : p.1 ≤ x.toInt) (h2 : x.toInt ≤ p.2) (h3 : q.1 ≤ y.toInt) (h4 : y.toInt ≤ q.2) (ho : ai_lop k p q = some r) (hb : ai_in64 r = true) : r.1 ≤ (ai_lf k x y).toInt ∧ (ai_lf k x y).toInt ≤ r.2 := by
  obtain ⟨b1, b2⟩ : -9223372036854775808 ≤ r.1 ∧ r.2 ≤ 9223372036854775807 := by simpa [ai_in64] using hb
  match k with
  | 0 =>
    cases ho
    have b1 : -9223372036854775808 ≤ p.1 + q.1 := b1
    have b2 : p.2 + q.2 ≤ 9223372036854775807 := b2
    show p.1 + q.1 ≤ (x + y).toInt ∧ (x + y).toInt ≤ p.2 + q.2
    rw [Int64.toInt_add, ai_bm64 (by omega) (by omega)]
    omega
  | 1 =>
    cases ho
    have b1 : -9223372036854775808 ≤ p.1 - q.2 := b1
    have b2 : p.2 - q.1 ≤ 9223372036854775807 := b2
    show p.1 - q.2 ≤ (x - y).toInt ∧ (x - y).toInt ≤ p.2 - q.1
    rw [Int64.toInt_sub, ai_bm64 (by omega) (by omega)]
    omega
  | 2 =>
    by_cases h : 0 ≤ p.1 ∧ 0 ≤ q.1
    · have e : ai_lop 2 p q = some (p.1 * q.1, p.2 * q.2) := if_pos h
      rw [e] at ho
      cases ho
      have g1 : p.1 * q.1 ≤ x.toInt * y.toInt := ai_mula h.1 h1 h.2 h3
      have g2 : x.toInt * y.toInt ≤ p.2 * q.2 := ai_mulb (by omega) h2 (by omega) h4
      have b1 : -9223372036854775808 ≤ p.1 * q.1 := b1
      have b2 : p.2 * q.2 ≤ 9223372036854775807 := b2
      show p.1 * q.1 ≤ (x * y).toInt ∧ (x * y).toInt ≤ p.2 * q.2
      rw [Int64.toInt_mul, ai_bm64 (by omega) (by omega)]
      exact ⟨g1, g2⟩
    · have e : ai_lop 2 p q = none := if_neg h
      rw [e] at ho
      cases ho
  | 3 =>
    by_cases h : 0 ≤ p.1 ∧ 0 < q.1
    · have e : ai_lop 3 p q = some (0, p.2) := if_pos h
      rw [e] at ho
      cases ho
      show 0 ≤ (x / y).toInt ∧ (x / y).toInt ≤ p.2
      rw [ai_ldivn (by omega) (by omega)]
      have g1 : 0 ≤ x.toInt / y.toInt := Int.ediv_nonneg (by omega) (by omega)
      have g2 : x.toInt / y.toInt ≤ x.toInt := Int.ediv_le_self _ (by omega)
      omega
    · have e : ai_lop 3 p q = none := if_neg h
      rw [e] at ho
      cases ho
  | n + 4 =>
    by_cases h : 0 ≤ p.1 ∧ 0 < q.1
    · have e : ai_lop (n + 4) p q = some (0, q.2 - 1) := if_pos h
      rw [e] at ho
      cases ho
      show 0 ≤ (x - x / y * y).toInt ∧ (x - x / y * y).toInt ≤ q.2 - 1
      rw [ai_lremn (by omega) (by omega)]
      have g1 := Int.emod_nonneg x.toInt (show y.toInt ≠ 0 by omega)
      have g2 := Int.emod_lt_of_pos x.toInt (show 0 < y.toInt by omega)
      omega
    · have e : ai_lop (n + 4) p q = none := if_neg h
      rw [e] at ho
      cases ho
theorem ai_lb_ok {k : Nat} (hG : ai_G ρ T M l st cM cl cst) (hce : ce ≤ mc) (hsl : sl ≤ ms) (h : ai_lb k pc ce sl T M l st = some succs)
    (h0 : ∀ x y cst', cst = .long y :: .long x :: cst' → (3 ≤ k → ¬ y = 0) → r = some (0, 0, cM, pc + 1, cl, .long (ai_lf k x y) :: cst')) : ai_ok ρ ce sl mc ms r succs := by
  unfold ai_lb at h
  split at h
  · rename_i b a st
    split at h
    · rename_i p q hp hq
      obtain ⟨w, cst', rfl, hc, hs⟩ := ai_ss_cons hG.2.2.2
      obtain ⟨w2, cst', rfl, hc2, hs2⟩ := ai_ss_cons hs
      obtain ⟨x, rfl, x1, x2, x3, x4, x5⟩ := ai_ll_ok hG.1 hp hc2
      obtain ⟨y, rfl, y1, y2, y3, y4, y5⟩ := ai_ll_ok hG.1 hq hc
      obtain ⟨hz, h⟩ := ai_bn h
      have hne : 3 ≤ k → ¬ y = 0 := fun hk e => by
        subst e
        have e0 : (0 : Int64).toInt = 0 := rfl
        rw [e0] at y2 y3
        have : Nat.ble 3 k = true := by rw [Nat.ble_eq]; exact hk
        rw [this] at hz
        simp at hz
        omega
      cases ho : (ai_one p && ai_one q) with
      | true =>
        rw [ho] at h
        cases h
        obtain ⟨o1, o2⟩ : p.1 = p.2 ∧ q.1 = q.2 := by simpa [ai_one] using ho
        have ex : Int64.ofInt p.1 = x := by rw [show p.1 = x.toInt by omega, Int64.ofInt_toInt]
        have ey : Int64.ofInt q.1 = y := by rw [show q.1 = y.toInt by omega, Int64.ofInt_toInt]
        refine ai_ok1 hce hsl (h0 x y _ rfl hne) List.mem_cons_self ai_le_rf ⟨hG.1, hG.2.1, hG.2.2.1, ?_, hs2⟩
        show some (Value.long (Int64.ofInt (ai_lf k (Int64.ofInt p.1) (Int64.ofInt q.1)).toInt)) = _
        rw [ex, ey, Int64.ofInt_toInt]
      | false =>
        rw [ho] at h
        simp only [cond_false] at h
        split at h
        · rename_i r9 hr9
          obtain ⟨h64, h⟩ := ai_bt h
          cases h
          obtain ⟨t1, t2⟩ := ai_lop_ok x2 x3 y2 y3 hr9 h64
          have hle : ai_le ρ (ρ ++ [(ai_lf k x y).toInt]) := ai_le_app _
          refine ai_ok1 hce hsl (h0 x y _ rfl hne) List.mem_cons_self hle ⟨ai_sat_push hG.1 t1 t2, ai_mm_mono hle hG.2.1, ai_sl_mono hle hG.2.2.1, ?_, ai_ss_mono hle hs2⟩
          show ((ρ ++ [(ai_lf k x y).toInt])[T.length]?).map _ = _
          rw [ai_push_get hG.1]
          show some (Value.long (Int64.ofInt (ai_lf k x y).toInt)) = _
          rw [Int64.ofInt_toInt]
        · cases h
    · cases h
  · cases h
end AIS
