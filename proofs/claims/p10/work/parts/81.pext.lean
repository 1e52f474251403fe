/-! THE PATTERN'S CELLS, AS THE TEXTS' METHODS SEE THEM -/
def nz (ρ : List Int) (k : Nat) : Int := (ρ[k]?).getD 0
theorem nz_get {ρ : List Int} {T : ai_T} {k : Nat} {q : Int × Int} (h : ai_sat ρ T) (hk : T[k]? = some q) : ρ[k]? = some (nz ρ k) ∧ q.1 ≤ nz ρ k ∧ nz ρ k ≤ q.2 := by
  have hl : k < ρ.length := by
    rw [h.1]
    exact (List.getElem?_eq_some_iff.mp hk).1
  have e : ρ[k]? = some ρ[k] := List.getElem?_eq_getElem hl
  have e2 : nz ρ k = ρ[k] := by
    unfold nz
    rw [e]
    rfl
  rw [e2]
  exact ⟨e, h.2 k _ q e hk⟩
def bqv (ρ : List Int) (a : ai_V) : Value := (ai_c ρ a).getD .null
theorem bqv_ss {ρ : List Int} : ∀ {as : List ai_V} {vs : List Value}, ai_ss ρ as vs → vs = as.map (bqv ρ)
  | [], [], _ => rfl
  | [], _ :: _, h => h.elim
  | _ :: _, [], h => h.elim
  | a :: as, v :: vs, h => by
    rw [List.map_cons, ← bqv_ss h.2]
    congr 1
    unfold bqv
    rw [h.1]
    rfl
theorem bqv_1 {ρ : List Int} {a z : Int} (h : ρ[a.toNat]? = some z) : bqv ρ (1, a) = hv z := by
  show ((ρ[a.toNat]?).map (fun z => Value.int (Int32.ofInt z))).getD .null = _
  rw [h]
  rfl
theorem bqv_3 {ρ : List Int} {a z : Int} (h : ρ[a.toNat]? = some z) : bqv ρ (3, a) = hl z := by
  show ((ρ[a.toNat]?).map (fun z => Value.long (Int64.ofInt z))).getD .null = _
  rw [h]
  rfl
theorem bqc_1 {ρ : List Int} {a z : Int} (h : ρ[a.toNat]? = some z) : ai_c ρ (1, a) = some (hv z) := by
  show (ρ[a.toNat]?).map (fun z => Value.int (Int32.ofInt z)) = _
  rw [h]
  rfl
theorem bqc_3 {ρ : List Int} {a z : Int} (h : ρ[a.toNat]? = some z) : ai_c ρ (3, a) = some (hl z) := by
  show (ρ[a.toNat]?).map (fun z => Value.long (Int64.ofInt z)) = _
  rw [h]
  rfl
/-- an int row of the pattern -/
theorem bx_row {ρ : List Int} {M : ai_M} {cM : mj_M} {c : Nat} {n lo hi : Int} (h : ai_mm ρ M cM) (hc : M[c]? = some (3, 0, [(7, n), (7, lo), (7, hi)])) : ∃ g : Nat → Int, cM[c]? = some (hA 0 n.toNat g) ∧ (∀ j, hr (g j)) ∧ ∀ j, j < n.toNat → lo ≤ g j ∧ g j ≤ hi := by
  obtain ⟨e, he, f, rfl, hf⟩ := ai_mm_get h hc
  refine ⟨fun j => (f j).toInt, ?_, fun j => ⟨Int32.le_toInt _, by have := Int32.toInt_lt (f j); show (f j).toInt ≤ 2147483647; omega⟩, hf⟩
  rw [he]
  show some _ = some (Sum.inl (0, n.toNat, Sum.inl (fun j => Int32.ofInt ((f j).toInt))))
  simp only [Int32.ofInt_toInt]
/-- a row that is within its bounds keeps the pattern -/
theorem bx_put {ρ : List Int} {M : ai_M} {cM : mj_M} {c : Nat} {n lo hi : Int} {m : Nat} {g : Nat → Int} (h : ai_mm ρ M cM) (hc : M[c]? = some (3, 0, [(7, n), (7, lo), (7, hi)])) (hn : n.toNat = m) (hg : ∀ j, j < m → lo ≤ (Int32.ofInt (g j)).toInt ∧ (Int32.ofInt (g j)).toInt ≤ hi) : ai_mm ρ M (cM.set c (hA 0 m g)) := by
  subst hn
  have h2 := ai_mm_set (k := c) (e := (3, 0, [(7, n), (7, lo), (7, hi)])) (c := hA 0 n.toNat g) h ⟨_, rfl, hg⟩
  rw [ai_setself hc] at h2
  exact h2
theorem bx_any {g : Nat → Int} {n : Nat} : ∀ j, j < n → -2147483648 ≤ (Int32.ofInt (g j)).toInt ∧ (Int32.ofInt (g j)).toInt ≤ 2147483647 := fun j _ => ⟨Int32.le_toInt _, by have := Int32.toInt_lt (Int32.ofInt (g j)); omega⟩
theorem bx_bd {g : Nat → Int} {n : Nat} {lo hi : Int} (h1 : -2147483648 ≤ lo) (h2 : hi ≤ 2147483647) (h : ∀ j, j < n → lo ≤ g j ∧ g j ≤ hi) : ∀ j, j < n → lo ≤ (Int32.ofInt (g j)).toInt ∧ (Int32.ofInt (g j)).toInt ≤ hi := fun j hj => by
  have := h j hj
  rw [hr_to ⟨by omega, by omega⟩]
  exact this
theorem bx_len {ρ : List Int} {cM : mj_M} (h : ai_mm ρ kz_M cM) : cM.length = 102 := (ai_mm_len h).symm
theorem bx_0 {ρ : List Int} {cM : mj_M} (h : ai_mm ρ kz_M cM) : ∃ fs, cM[0]? = some (.inr (5, .ref 1 :: .ref 18 :: fs)) := by
  obtain ⟨e, he, fs, rfl, hf⟩ := ai_mm_get (k := 0) h rfl
  rw [bqv_ss hf] at he
  exact ⟨_, he⟩
theorem bx_1 {ρ : List Int} {cM : mj_M} {z : Int} (h : ai_mm ρ kz_M cM) (hz : ρ[1]? = some z) : cM[1]? = some (tx1 z) := by
  obtain ⟨e, he, fs, rfl, hf⟩ := ai_mm_get (k := 1) h rfl
  rw [bqv_ss hf] at he
  rw [he]
  show some (Sum.inr (3, [bqv ρ (4, 2), bqv ρ (4, 9), bqv ρ (4, 16), bqv ρ (4, 17), bqv ρ (1, 1)])) = _
  rw [bqv_1 (a := 1) hz]
  rfl
theorem bx_2 {ρ : List Int} {cM : mj_M} (h : ai_mm ρ kz_M cM) : ∃ r, cM[2]? = some (txR r) ∧ ∀ c, c < 6 → r c = some (3 + c) := by
  obtain ⟨e, he, r, rfl, hf⟩ := ai_mm_get (k := 2) h rfl
  refine ⟨r, he, fun c hc => ?_⟩
  match c, hc with
  | 0, _ => exact hf 0 3 rfl
  | 1, _ => exact hf 1 4 rfl
  | 2, _ => exact hf 2 5 rfl
  | 3, _ => exact hf 3 6 rfl
  | 4, _ => exact hf 4 7 rfl
  | 5, _ => exact hf 5 8 rfl
  | c + 6, hc => omega
theorem bx_9 {ρ : List Int} {cM : mj_M} (h : ai_mm ρ kz_M cM) : ∃ r, cM[9]? = some (txR r) ∧ ∀ c, c < 6 → r c = some (10 + c) := by
  obtain ⟨e, he, r, rfl, hf⟩ := ai_mm_get (k := 9) h rfl
  refine ⟨r, he, fun c hc => ?_⟩
  match c, hc with
  | 0, _ => exact hf 0 10 rfl
  | 1, _ => exact hf 1 11 rfl
  | 2, _ => exact hf 2 12 rfl
  | 3, _ => exact hf 3 13 rfl
  | 4, _ => exact hf 4 14 rfl
  | 5, _ => exact hf 5 15 rfl
  | c + 6, hc => omega
/-- rows of the texts: steps, their ends -/
theorem bk_3 {c : Nat} (hc : c < 6) : kz_M[3 + c]? = some (3, 0, [(7, 160), (7, -2147483648), (7, 2147483647)]) := by
  match c, hc with
  | 0, _ => rfl
  | 1, _ => rfl
  | 2, _ => rfl
  | 3, _ => rfl
  | 4, _ => rfl
  | 5, _ => rfl
  | c + 6, hc => omega
theorem bk_10 {c : Nat} (hc : c < 6) : kz_M[10 + c]? = some (3, 0, [(7, 3), (7, 0), (7, 160)]) := by
  match c, hc with
  | 0, _ => rfl
  | 1, _ => rfl
  | 2, _ => rfl
  | 3, _ => rfl
  | 4, _ => rfl
  | 5, _ => rfl
  | c + 6, hc => omega
def bl_18 (n tk at' fl sc : Int) : va_E := .inr (1, [.ref 19, hv n, .ref 20, .ref 21, .ref 22, hv tk, hv at', hv fl, .ref 23, hv sc, .ref 24])
theorem bx_18 {ρ : List Int} {cM : mj_M} {n tk at' fl sc : Int} (h : ai_mm ρ kz_M cM) (h2 : ρ[2]? = some n) (h3 : ρ[3]? = some tk) (h4 : ρ[4]? = some at') (h5 : ρ[5]? = some fl) (h6 : ρ[6]? = some sc) : cM[18]? = some (bl_18 n tk at' fl sc) := by
  obtain ⟨e, he, fs, rfl, hf⟩ := ai_mm_get (k := 18) h rfl
  rw [bqv_ss hf] at he
  rw [he]
  show some (Sum.inr (1, [bqv ρ (4, 19), bqv ρ (1, 2), bqv ρ (4, 20), bqv ρ (4, 21), bqv ρ (4, 22), bqv ρ (1, 3), bqv ρ (1, 4), bqv ρ (1, 5), bqv ρ (4, 23), bqv ρ (1, 6), bqv ρ (4, 24)])) = _
  rw [bqv_1 (a := 2) h2, bqv_1 (a := 3) h3, bqv_1 (a := 4) h4, bqv_1 (a := 5) h5, bqv_1 (a := 6) h6]
  rfl
def bl_i80 : List ai_V := [(1, 48), (4, 81), (4, 82), (1, 49), (1, 50), (4, 83), (1, 51), (1, 52), (1, 53), (1, 54), (4, 84), (4, 85), (4, 86), (4, 87), (1, 55), (1, 56), (1, 57), (1, 58), (1, 59), (1, 60), (1, 61), (1, 62), (1, 63), (1, 64), (1, 65), (1, 66), (3, 67), (1, 68), (1, 69), (1, 70), (4, 88), (4, 89), (4, 90), (1, 71), (1, 72), (1, 73), (4, 91), (4, 92), (1, 74), (1, 75), (1, 76), (1, 77), (4, 93), (1, 78), (1, 79), (4, 94), (4, 95), (4, 96), (4, 97), (1, 80), (1, 81), (1, 82), (1, 83), (1, 84), (4, 98), (4, 99), (4, 100), (4, 101)]
def bl_A (ρ : List Int) (k : Nat) : Value := match bl_i80[k]? with
  | some a => bqv ρ a
  | none => .null
def bl_U (ρ : List Int) (k : Nat) : Int := nz ρ (41 + k)
def bl_Z (ρ : List Int) : List Value := (bl_i80.drop 30).map (bqv ρ)
theorem bx_80 {ρ : List Int} {cM : mj_M} (h : ai_mm ρ kz_M cM) (hs : ∀ k, k < 108 → ρ[k]? = some (nz ρ k)) : cM[80]? = some (.inr (6, mdf (bl_A ρ) (bl_U ρ) (bl_Z ρ) (nz ρ 49) (nz ρ 51) (nz ρ 62) (nz ρ 63) (nz ρ 64) (nz ρ 65) (nz ρ 66) (nz ρ 67) (nz ρ 68) (nz ρ 69) (nz ρ 70))) ∧ ai_ss ρ bl_i80 (mdf (bl_A ρ) (bl_U ρ) (bl_Z ρ) (nz ρ 49) (nz ρ 51) (nz ρ 62) (nz ρ 63) (nz ρ 64) (nz ρ 65) (nz ρ 66) (nz ρ 67) (nz ρ 68) (nz ρ 69) (nz ρ 70)) := by
  obtain ⟨e, he, fs, rfl, hf⟩ := ai_mm_get (k := 80) h rfl
  have hf : ai_ss ρ bl_i80 fs := hf
  have e1 : fs = mdf (bl_A ρ) (bl_U ρ) (bl_Z ρ) (nz ρ 49) (nz ρ 51) (nz ρ 62) (nz ρ 63) (nz ρ 64) (nz ρ 65) (nz ρ 66) (nz ρ 67) (nz ρ 68) (nz ρ 69) (nz ρ 70) := by
    rw [bqv_ss hf]
    have h49 := hs 49 (by omega)
    have h51 := hs 51 (by omega)
    have h56 := hs 56 (by omega)
    have h57 := hs 57 (by omega)
    have h58 := hs 58 (by omega)
    have h59 := hs 59 (by omega)
    have h60 := hs 60 (by omega)
    have h61 := hs 61 (by omega)
    have h62 := hs 62 (by omega)
    have h63 := hs 63 (by omega)
    have h64 := hs 64 (by omega)
    have h65 := hs 65 (by omega)
    have h66 := hs 66 (by omega)
    have h67 := hs 67 (by omega)
    have h68 := hs 68 (by omega)
    have h69 := hs 69 (by omega)
    have h70 := hs 70 (by omega)
    unfold mdf bl_U
    show bqv ρ (1, 48) :: bqv ρ (4, 81) :: bqv ρ (4, 82) :: bqv ρ (1, 49) :: bqv ρ (1, 50) :: bqv ρ (4, 83) :: bqv ρ (1, 51) :: bqv ρ (1, 52) :: bqv ρ (1, 53) :: bqv ρ (1, 54) :: bqv ρ (4, 84) :: bqv ρ (4, 85) :: bqv ρ (4, 86) :: bqv ρ (4, 87) :: bqv ρ (1, 55) :: bqv ρ (1, 56) :: bqv ρ (1, 57) :: bqv ρ (1, 58) :: bqv ρ (1, 59) :: bqv ρ (1, 60) :: bqv ρ (1, 61) :: bqv ρ (1, 62) :: bqv ρ (1, 63) :: bqv ρ (1, 64) :: bqv ρ (1, 65) :: bqv ρ (1, 66) :: bqv ρ (3, 67) :: bqv ρ (1, 68) :: bqv ρ (1, 69) :: bqv ρ (1, 70) :: bl_Z ρ = _
    rw [bqv_1 (a := 49) h49, bqv_1 (a := 51) h51, bqv_1 (a := 56) h56, bqv_1 (a := 57) h57, bqv_1 (a := 58) h58, bqv_1 (a := 59) h59, bqv_1 (a := 60) h60, bqv_1 (a := 61) h61, bqv_1 (a := 62) h62, bqv_1 (a := 63) h63, bqv_1 (a := 64) h64, bqv_1 (a := 65) h65, bqv_1 (a := 66) h66, bqv_3 (a := 67) h67, bqv_1 (a := 68) h68, bqv_1 (a := 69) h69, bqv_1 (a := 70) h70]
    rfl
  rw [← e1]
  exact ⟨he, hf⟩
/-- the pattern behind a text or a feed: 116 count, 117 size, 118 .. 121 the Reader's, 122 .. 130 the Model's -/
def bl_E1 : ai_E := (0, 3, [(4, 2), (4, 9), (4, 16), (4, 17), (1, 116)])
def bl_E18 : ai_E := (0, 1, [(4, 19), (1, 117), (4, 20), (4, 21), (4, 22), (1, 118), (1, 119), (1, 120), (4, 23), (1, 121), (4, 24)])
def bl_E80 : ai_E := (0, 6, [(1, 48), (4, 81), (4, 82), (1, 116), (1, 50), (4, 83), (1, 117), (1, 52), (1, 53), (1, 54), (4, 84), (4, 85), (4, 86), (4, 87), (1, 55), (1, 56), (1, 57), (1, 58), (1, 59), (1, 60), (1, 61), (1, 122), (1, 123), (1, 124), (1, 125), (1, 126), (3, 127), (1, 128), (1, 129), (1, 130), (4, 88), (4, 89), (4, 90), (1, 71), (1, 72), (1, 73), (4, 91), (4, 92), (1, 74), (1, 75), (1, 76), (1, 77), (4, 93), (1, 78), (1, 79), (4, 94), (4, 95), (4, 96), (4, 97), (1, 80), (1, 81), (1, 82), (1, 83), (1, 84), (4, 98), (4, 99), (4, 100), (4, 101)])
def bl_Ma : ai_M := ((kz_M.set 1 bl_E1).set 18 bl_E18).set 80 bl_E80
def bl_T15 : ai_T := [(0, 6), (0, 160), (0, 161), (0, 160), (-1, 160), (0, 160), (0, 800), (0, 160), (0, 160), (0, 4), (0, 160), (-100000, 10000000), (0, 5), (0, 1), (0, 160)]
theorem bl_e1 {ρ : List Int} {z : Int} (h : ρ[116]? = some z) : ai_e ρ bl_E1 (tx1 z) := ⟨_, rfl, rfl, rfl, rfl, rfl, bqc_1 (a := 116) h, trivial⟩
theorem bl_e18 {ρ : List Int} {n tk at' fl sc : Int} (h2 : ρ[117]? = some n) (h3 : ρ[118]? = some tk) (h4 : ρ[119]? = some at') (h5 : ρ[120]? = some fl) (h6 : ρ[121]? = some sc) : ai_e ρ bl_E18 (bl_18 n tk at' fl sc) := ⟨_, rfl, rfl, bqc_1 (a := 117) h2, rfl, rfl, rfl, bqc_1 (a := 118) h3, bqc_1 (a := 119) h4, bqc_1 (a := 120) h5, rfl, bqc_1 (a := 121) h6, rfl, trivial⟩
theorem bl_e80 {ρ : List Int} {A : Nat → Value} {U : Nat → Int} {Z : List Value} {tc0 tp0 fr0 sz0 he0 to0 ta0 wo0 op0 ba0 fa0 tc tp fr sz he to ta wo op ba fa : Int} (h : ai_ss ρ bl_i80 (mdf A U Z tc0 tp0 fr0 sz0 he0 to0 ta0 wo0 op0 ba0 fa0)) (h3 : ρ[116]? = some tc) (h6 : ρ[117]? = some tp) (h21 : ρ[122]? = some fr) (h22 : ρ[123]? = some sz) (h23 : ρ[124]? = some he) (h24 : ρ[125]? = some to) (h25 : ρ[126]? = some ta) (h26 : ρ[127]? = some wo) (h27 : ρ[128]? = some op) (h28 : ρ[129]? = some ba) (h29 : ρ[130]? = some fa) : ai_e ρ bl_E80 (.inr (6, mdf A U Z tc tp fr sz he to ta wo op ba fa)) := by
  have g3 := ai_ss_set (k := 3) h (bqc_1 (a := 116) h3)
  have g6 := ai_ss_set (k := 6) g3 (bqc_1 (a := 117) h6)
  have g21 := ai_ss_set (k := 21) g6 (bqc_1 (a := 122) h21)
  have g22 := ai_ss_set (k := 22) g21 (bqc_1 (a := 123) h22)
  have g23 := ai_ss_set (k := 23) g22 (bqc_1 (a := 124) h23)
  have g24 := ai_ss_set (k := 24) g23 (bqc_1 (a := 125) h24)
  have g25 := ai_ss_set (k := 25) g24 (bqc_1 (a := 126) h25)
  have g26 := ai_ss_set (k := 26) g25 (bqc_3 (a := 127) h26)
  have g27 := ai_ss_set (k := 27) g26 (bqc_1 (a := 128) h27)
  have g28 := ai_ss_set (k := 28) g27 (bqc_1 (a := 129) h28)
  have g29 := ai_ss_set (k := 29) g28 (bqc_1 (a := 130) h29)
  exact ⟨_, rfl, g29⟩
