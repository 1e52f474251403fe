/-! ROWS OF NUMBERS -/
theorem ai_vi {x : Int32} {n : Nat} (h1 : 0 ≤ x.toInt) (h2 : x.toInt < (n : Int)) : mj_vi x n = true := by
  unfold mj_vi
  have e : x.toNatClampNeg = x.toInt.toNat := rfl
  rw [Bool.and_eq_true, Bool.not_eq_true', decide_eq_false_iff_not, Nat.blt_eq, e]
  refine ⟨fun h => ?_, by omega⟩
  rw [Int32.lt_iff_toInt_lt] at h
  have e0 : (0 : Int32).toInt = 0 := rfl
  omega
theorem ai_inb_ok {p : Int × Int} {n : Nat} (h : ai_inb p n = true) : 0 ≤ p.1 ∧ p.2 < (n : Int) := by
  simpa [ai_inb] using h
theorem ai_one_ok {p : Int × Int} (h : ai_one p = true) : p.1 = p.2 := by
  simpa [ai_one] using h
theorem ai_each_ok {q : Int × Int} {z : Int} (h1 : q.1 ≤ z) (h2 : z ≤ q.2) : z ∈ ai_each q := by
  unfold ai_each
  exact List.mem_map.mpr ⟨(z - q.1).toNat, List.mem_range.mpr (by omega), by omega⟩
section AIR
variable {ρ : List Int} {T : ai_T} {M : ai_M} {l : ai_L} {st : List ai_V} {cM : mj_M} {cl : mj_L} {cst : List Value} {ce sl mc ms pc pc' : Nat} {r : mj_R} {succs : List (Nat × ai_S)}
theorem ai_hull_ok (hs : ai_sat ρ T) : ∀ {items : List ai_V} {q : Int × Int} {j : Nat} {a : ai_V} {v : Value}, ai_hull T items = some q → items[j]? = some a → ai_c ρ a = some v → ∃ x : Int32, v = .int x ∧ q.1 ≤ x.toInt ∧ x.toInt ≤ q.2
  | [b], q, 0, a, v, h, hj, hc => by
    cases hj
    obtain ⟨x, h1, -, h2, h3, -⟩ := ai_ii_ok hs h hc
    exact ⟨x, h1, h2, h3⟩
  | [b], q, j + 1, a, v, h, hj, hc => by simp at hj
  | b :: b2 :: items, q, j, a, v, h, hj, hc => by
    unfold ai_hull at h
    split at h
    · rename_i p q2 hp hq
      cases h
      cases j with
      | zero =>
        cases hj
        obtain ⟨x, h1, -, h2, h3, -⟩ := ai_ii_ok hs hp hc
        refine ⟨x, h1, ?_, ?_⟩ <;> (simp only; split <;> omega)
      | succ j =>
        obtain ⟨x, h1, h2, h3⟩ := ai_hull_ok hs hq (j := j) hj hc
        refine ⟨x, h1, ?_, ?_⟩ <;> (simp only; split <;> omega)
    · cases h
  | [], _, _, _, _, h, _, _ => by cases h
theorem ai_new_ok {x : Int32} {q : Int × Int} (hs : ai_sat ρ T) (h1 : q.1 ≤ x.toInt) (h2 : x.toInt ≤ q.2) : ai_sat (ρ ++ [x.toInt]) (T ++ [q]) ∧ ai_c (ρ ++ [x.toInt]) (1, (T.length : Int)) = some (.int x) := by
  refine ⟨ai_sat_push hs h1 h2, ?_⟩
  show ((ρ ++ [x.toInt])[T.length]?).map _ = _
  rw [ai_push_get hs]
  show some (Value.int (Int32.ofInt x.toInt)) = _
  rw [Int32.ofInt_toInt]
theorem ai_rd_ok {tag : Nat} {i : ai_V} {e : ai_E} {c : va_E} {x : Int32} (hs : ai_sat ρ T) (hm : ai_mm ρ M cM) (hl : ai_sl ρ l cl) (hst : ai_ss ρ st cst) (hi : ai_c ρ i = some (.int x)) (he : ai_e ρ e c) (hce : ce ≤ mc) (hsl : sl ≤ ms) (h : ai_rd tag pc ce sl T M l i e st = some succs)
    (h0 : ∀ (n : Nat) (f : Nat → Int32), c = .inl (tag, n, .inl f) → mj_vi x n = true → r = some (0, 0, cM, pc + 1, cl, .int (f x.toNatClampNeg) :: cst)) : ai_ok ρ ce sl mc ms r succs := by
  unfold ai_rd at h
  cases hp : ai_ii T i with
  | none => rw [hp] at h; cases h
  | some p =>
    rw [hp] at h
    simp only at h
    obtain ⟨x', e', -, x2, x3, x4, x5⟩ := ai_ii_ok hs hp hi
    cases e'
    split at h
    · rename_i t items
      have hbh := ai_bt h
      clear h
      obtain ⟨hb, h⟩ := hbh
      simp only [Bool.and_eq_true] at hb
      obtain rfl := ai_bq hb.1
      obtain ⟨b1, b2⟩ := ai_inb_ok hb.2
      obtain ⟨f, hc, hf⟩ := he
      have hr := h0 _ f hc (ai_vi (by omega) (by omega))
      have ex : x.toNatClampNeg = x.toInt.toNat := rfl
      cases ho : ai_one p with
      | true =>
        rw [ho] at h
        simp only [cond_true] at h
        have o1 := ai_one_ok ho
        cases ha : items[p.1.toNat]? with
        | none => rw [ha] at h; cases h
        | some a =>
          rw [ha] at h
          simp only at h
          have hbh := ai_bt h
          clear h
          obtain ⟨hI, h⟩ := hbh
          cases h
          have hv := hf _ _ ha
          rw [show p.1.toNat = x.toNatClampNeg by rw [ex]; omega] at hv
          exact ai_ok1 hce hsl hr List.mem_cons_self ai_le_rf ⟨hs, hm, hl, hv, hst⟩
      | false =>
        rw [ho] at h
        simp only [cond_false] at h
        cases hq : ai_hull T items with
        | none => rw [hq] at h; cases h
        | some q =>
          rw [hq] at h
          cases h
          have hlt : x.toNatClampNeg < items.length := by rw [ex]; omega
          obtain ⟨y, e1, y1, y2⟩ := ai_hull_ok hs hq (List.getElem?_eq_getElem hlt) (hf _ _ (List.getElem?_eq_getElem hlt))
          cases e1
          obtain ⟨g1, g2⟩ := ai_new_ok hs y1 y2
          have hle : ai_le ρ (ρ ++ [(f x.toNatClampNeg).toInt]) := ai_le_app _
          exact ai_ok1 hce hsl hr List.mem_cons_self hle ⟨g1, ai_mm_mono hle hm, ai_sl_mono hle hl, g2, ai_ss_mono hle hst⟩
    · rename_i t n lo hi
      have hbh := ai_bt h
      clear h
      obtain ⟨hb, h⟩ := hbh
      simp only [Bool.and_eq_true] at hb
      obtain rfl := ai_bq hb.1
      obtain ⟨b1, b2⟩ := ai_inb_ok hb.2.1
      cases h
      obtain ⟨f, hc, hf⟩ := he
      have hr := h0 _ f hc (ai_vi (by omega) (by omega))
      have ex : x.toNatClampNeg = x.toInt.toNat := rfl
      obtain ⟨y1, y2⟩ := hf x.toNatClampNeg (by rw [ex]; omega)
      obtain ⟨g1, g2⟩ := ai_new_ok (q := (lo, hi)) hs y1 y2
      have hle : ai_le ρ (ρ ++ [(f x.toNatClampNeg).toInt]) := ai_le_app _
      exact ai_ok1 hce hsl hr List.mem_cons_self hle ⟨g1, ai_mm_mono hle hm, ai_sl_mono hle hl, g2, ai_ss_mono hle hst⟩
    · cases h
theorem ai_rx_ok {i : ai_V} {n : Nat} {f : Nat → Int32} {x : Int32} (hs : ai_sat ρ T) (hm : ai_mm ρ M cM) (hl : ai_sl ρ l cl) (hst : ai_ss ρ st cst) (hi : ai_c ρ i = some (.int x)) (hce : ce ≤ mc) (hsl : sl ≤ ms) (h : ai_rx pc ce sl T M l i n f st = some succs)
    (h0 : mj_vi x n = true → r = some (0, 0, cM, pc + 1, cl, .int (f x.toNatClampNeg) :: cst)) : ai_ok ρ ce sl mc ms r succs := by
  unfold ai_rx at h
  cases hp : ai_ii T i with
  | none => rw [hp] at h; cases h
  | some p =>
    rw [hp] at h
    simp only at h
    obtain ⟨x', e', -, x2, x3, x4, x5⟩ := ai_ii_ok hs hp hi
    cases e'
    have hbh := ai_bt h
    clear h
    obtain ⟨hb, h⟩ := hbh
    obtain ⟨b1, b2⟩ := ai_inb_ok hb
    have hr := h0 (ai_vi (by omega) (by omega))
    have ex : x.toNatClampNeg = x.toInt.toNat := rfl
    cases ho : ai_one p with
    | true =>
      rw [ho] at h
      cases h
      have o1 := ai_one_ok ho
      refine ai_ok1 hce hsl hr List.mem_cons_self ai_le_rf ⟨hs, hm, hl, ?_, hst⟩
      show some (Value.int (Int32.ofInt (f p.1.toNat).toInt)) = _
      rw [Int32.ofInt_toInt, show p.1.toNat = x.toNatClampNeg by rw [ex]; omega]
    | false =>
      rw [ho] at h
      cases h
      obtain ⟨y1, y2⟩ := ai_b32 (f x.toNatClampNeg)
      obtain ⟨g1, g2⟩ := ai_new_ok (q := (ai_lo32, ai_hi32)) hs y1 y2
      have hle : ai_le ρ (ρ ++ [(f x.toNatClampNeg).toInt]) := ai_le_app _
      exact ai_ok1 hce hsl hr List.mem_cons_self hle ⟨g1, ai_mm_mono hle hm, ai_sl_mono hle hl, g2, ai_ss_mono hle hst⟩
theorem ai_wr_ok {tag q : Nat} {i w : ai_V} {e : ai_E} {c : va_E} {x y : Int32} (hs : ai_sat ρ T) (hm : ai_mm ρ M cM) (hl : ai_sl ρ l cl) (hst : ai_ss ρ st cst) (hi : ai_c ρ i = some (.int x)) (hw : ai_c ρ w = some (.int y)) (he : ai_e ρ e c) (hg : M[q]? = some e) (hce : ce ≤ mc) (hsl : sl ≤ ms) (h : ai_wr tag pc ce sl T M l q i w e st = some succs)
    (h0 : ∀ (n : Nat) (f : Nat → Int32), c = .inl (tag, n, .inl f) → mj_vi x n = true → (tag = 0 ∨ (0 ≤ y.toInt ∧ y.toInt ≤ 1)) → r = some (0, 0, cM.set q (.inl (tag, n, .inl (upd f x.toNatClampNeg y))), pc + 1, cl, cst)) : ai_ok ρ ce sl mc ms r succs := by
  unfold ai_wr at h
  split at h
  · rename_i p v hp hv
    obtain ⟨x', e', xz, x2, x3, x4, x5⟩ := ai_ii_ok hs hp hi
    cases e'
    obtain ⟨y', e', yz, y2, y3, y4, y5⟩ := ai_ii_ok hs hv hw
    cases e'
    have ex : x.toNatClampNeg = x.toInt.toNat := rfl
    split at h
    · rename_i t items
      have hbh := ai_bt h
      clear h
      obtain ⟨hb, h⟩ := hbh
      simp only [Bool.and_eq_true] at hb
      obtain rfl := ai_bq hb.1
      obtain ⟨b1, b2⟩ := ai_inb_ok hb.2.1
      cases h
      obtain ⟨f, hc, hf⟩ := he
      have hr := h0 _ f hc (ai_vi (by omega) (by omega)) (by
        have := hb.2.2
        simp only [Bool.or_eq_true, Bool.and_eq_true, decide_eq_true_eq, Nat.beq_eq] at this
        rcases this with z | z
        · exact Or.inl z
        · exact Or.inr (by omega))
      refine ai_ok1 hce hsl hr (List.mem_map.mpr ⟨x.toInt, ai_each_ok x2 x3, rfl⟩) ai_le_rf ⟨ai_set_ok hs xz (Int.le_refl _) (Int.le_refl _), ai_mm_set hm ⟨upd f x.toNatClampNeg y, by rw [List.length_set], fun j a hj => ?_⟩, hl, hst⟩
      by_cases hjx : j = x.toNatClampNeg
      · subst hjx
        rw [show x.toInt.toNat = x.toNatClampNeg from rfl, List.getElem?_set_self (by rw [ex]; omega)] at hj
        cases hj
        rw [show upd f x.toNatClampNeg y x.toNatClampNeg = y from if_pos rfl]
        exact hw
      · rw [show x.toInt.toNat = x.toNatClampNeg from rfl, List.getElem?_set_ne (Ne.symm hjx)] at hj
        rw [show upd f x.toNatClampNeg y j = f j from if_neg hjx]
        exact hf j a hj
    · rename_i t n lo hi
      have hbh := ai_bt h
      clear h
      obtain ⟨hb, h⟩ := hbh
      simp only [Bool.and_eq_true, decide_eq_true_eq] at hb
      obtain rfl := ai_bq hb.1
      obtain ⟨b1, b2⟩ := ai_inb_ok hb.2.1
      cases h
      obtain ⟨f, hc, hf⟩ := he
      have ht : t = 0 := by have := hb.2.2.1; exact ai_bq this
      have hr := h0 _ f hc (ai_vi (by omega) (by omega)) (Or.inl ht)
      refine ai_ok1 hce hsl hr List.mem_cons_self ai_le_rf ⟨hs, ?_, hl, hst⟩
      have hself : M = M.set q (3, t, [(7, n), (7, lo), (7, hi)]) := by
        apply List.ext_getElem?
        intro j
        by_cases hj : j = q
        · subst hj
          rw [hg, List.getElem?_set_self (List.getElem?_eq_some_iff.mp hg).1]
        · rw [List.getElem?_set_ne (Ne.symm hj)]
      rw [hself]
      refine ai_mm_set hm ⟨upd f x.toNatClampNeg y, rfl, fun j hj => ?_⟩
      by_cases hjx : j = x.toNatClampNeg
      · subst hjx
        rw [show upd f x.toNatClampNeg y x.toNatClampNeg = y from if_pos rfl]
        omega
      · rw [show upd f x.toNatClampNeg y j = f j from if_neg hjx]
        exact hf j hj
    · cases h
  · cases h
theorem ai_fit_ok {ty : FieldType} {a : ai_V} {v : Value} (hs : ai_sat ρ T) (h : ai_fit ty T a = true) (hc : ai_c ρ a = some v) : mj_fit ty v = true := by
  unfold ai_fit at h
  split at h
  · cases hp : ai_ii T a with
    | none => rw [hp] at h; cases h
    | some p =>
      obtain ⟨x, rfl, -⟩ := ai_ii_ok hs hp hc
      rfl
  · cases hp : ai_ii T a with
    | none => rw [hp] at h; cases h
    | some p =>
      rw [hp] at h
      obtain ⟨x, rfl, -, x2, x3, -⟩ := ai_ii_ok hs hp hc
      simp only [Bool.and_eq_true, decide_eq_true_eq] at h
      show (x == 0 || x == 1) = true
      have e : x.toInt = 0 ∨ x.toInt = 1 := by omega
      rcases e with e | e
      · have : x = 0 := Int32.toInt_inj.mp e
        subst this
        rfl
      · have : x = 1 := Int32.toInt_inj.mp e
        subst this
        rfl
  · cases hp : ai_ll T a with
    | none => rw [hp] at h; cases h
    | some p =>
      obtain ⟨x, rfl, -⟩ := ai_ll_ok hs hp hc
      rfl
  · obtain rfl := ai_c4' (ai_bq h) hc
    rfl
  · obtain rfl := ai_c4' (ai_bq h) hc
    rfl
  · cases h
end AIR
