/-! WHAT A RESOLVED LINK SAYS -/
theorem mj_lt999 {r1 n : Nat} (h : r1 < n) (hn : n ≤ 999) : Nat.beq r1 999 = false := by
  rw [← Bool.not_eq_true, Nat.beq_eq]
  omega
theorem mj_q3 {a b c d x y z w : Nat} (h : (Nat.beq a x && (Nat.beq b y && (Nat.beq c z && Nat.beq d w))) = true) : a = x ∧ b = y ∧ c = z ∧ d = w := by
  simp only [Bool.and_eq_true, Nat.beq_eq] at h
  exact ⟨h.1, h.2.1, h.2.2.1, h.2.2.2⟩
theorem mj_q2 {a b c x y z : Nat} (h : (Nat.beq a x && (Nat.beq b y && Nat.beq c z)) = true) : a = x ∧ b = y ∧ c = z := by
  simp only [Bool.and_eq_true, Nat.beq_eq] at h
  exact ⟨h.1, h.2.1, h.2.2⟩
theorem mj_flk_use {own i r1 r2 : Nat} (h : mj_flk.any (fun q => Nat.beq q.1 own && (Nat.beq q.2.1 i && (Nat.beq q.2.2.1 r1 && Nat.beq q.2.2.2.1 r2))) = true) :
    ∃ r : vw_C, vwCl[r1]? = some r ∧ r2 < r.2.2 ∧ Cond.fieldLink (mj_cn own) i (r.2.1 r2).1 (r.2.1 r2).2.1 (r.2.1 r2).2.2.1 ∈ mj_ww := by
  obtain ⟨q, hq, h⟩ := List.any_eq_true.mp h
  obtain ⟨rfl, rfl, rfl, rfl⟩ := mj_q3 h
  have h1 := List.all_eq_true.mp mj_flk_ok q hq
  unfold mj_okF at h1
  cases hr : vwCl[q.2.2.1]? with
  | none => rw [hr] at h1; cases h1
  | some r =>
    rw [hr] at h1
    simp only [Bool.and_eq_true, decide_eq_true_eq] at h1
    exact ⟨r, rfl, h1.1, mj_ww_of h1.2 rfl⟩
theorem mj_ck_get {own i r1 r2 : Nat} (h : mj_ck own (.getfield i) r1 r2 = true) (hl : r1 < 7) : ∃ r : vw_C, vwCl[r1]? = some r ∧ r2 < r.2.2 ∧ Cond.fieldLink (mj_cn own) i (r.2.1 r2).1 (r.2.1 r2).2.1 (r.2.1 r2).2.2.1 ∈ mj_ww := by
  unfold mj_ck at h
  rw [mj_lt999 hl (by omega)] at h
  simp only [cond_false, Bool.or_eq_true] at h
  rcases h with h | h
  · exact mj_flk_use h
  · simp only [Bool.and_eq_true, Nat.beq_eq] at h
    omega
theorem mj_ck_put {own i r1 r2 : Nat} (h : mj_ck own (.putfield i) r1 r2 = true) (hl : r1 < 7) : ∃ r : vw_C, vwCl[r1]? = some r ∧ r2 < r.2.2 ∧ Cond.fieldLink (mj_cn own) i (r.2.1 r2).1 (r.2.1 r2).2.1 (r.2.1 r2).2.2.1 ∈ mj_ww := by
  unfold mj_ck at h
  rw [mj_lt999 hl (by omega)] at h
  exact mj_flk_use h
theorem mj_ck_getx {own i r2 : Nat} (h : mj_ck own (.getfield i) 100 r2 = true) : Cond.fieldLink (mj_cn own) i "java/lang/String" (bif Nat.beq r2 0 then "coder" else "value") (bif Nat.beq r2 0 then "B" else "[B") ∈ mj_ww := by
  unfold mj_ck at h
  rw [show Nat.beq 100 999 = false from rfl] at h
  simp only [cond_false, Bool.or_eq_true] at h
  rcases h with h | h
  · obtain ⟨q, hq, h⟩ := List.any_eq_true.mp h
    obtain ⟨-, -, h3, -⟩ := mj_q3 h
    have h1 := List.all_eq_true.mp mj_flk_ok q hq
    unfold mj_okF at h1
    rw [h3] at h1
    cases h1
  · simp only [Bool.and_eq_true] at h
    obtain ⟨q, hq, h⟩ := List.any_eq_true.mp h.2
    obtain ⟨rfl, rfl, rfl⟩ := mj_q2 h
    have h1 := List.all_eq_true.mp mj_xfk_ok q hq
    unfold mj_okX at h1
    simp only [decide_eq_true_eq] at h1
    cases hb : Nat.beq q.2.2.1 0 with
    | true => rw [hb] at h1; exact mj_ww_of h1 rfl
    | false => rw [hb] at h1; exact mj_ww_of h1 rfl
theorem mj_ck_sta {own i r1 r2 : Nat} (h : mj_ck own (.getstatic i) r1 r2 = true) (hl : r1 < 999) : ∃ q ∈ mj_stk, ∃ r, q.1 = own ∧ q.2.1 = i ∧ q.2.2.1 = r1 ∧ q.2.2.2.1 = r2 ∧ mj_xs[r1]? = some r ∧ (r2 = 0 → Cond.fieldLink (mj_cn own) i r.1 r.2.1 r.2.2.1 ∈ mj_ww) := by
  unfold mj_ck at h
  rw [mj_lt999 hl (Nat.le_refl _)] at h
  obtain ⟨q, hq, h⟩ := List.any_eq_true.mp h
  obtain ⟨rfl, rfl, rfl, rfl⟩ := mj_q3 h
  have h1 := List.all_eq_true.mp mj_stk_ok q hq
  unfold mj_okS at h1
  cases hr : mj_xs[q.2.2.1]? with
  | none => rw [hr] at h1; cases h1
  | some r =>
    rw [hr] at h1
    refine ⟨q, hq, r, rfl, rfl, rfl, rfl, rfl, fun e => ?_⟩
    rw [e] at h1
    exact mj_ww_of (of_decide_eq_true h1) rfl
theorem mj_clk_use {own i r1 r2 : Nat} (h : mj_clk.any (fun q => Nat.beq q.1 own && (Nat.beq q.2.1 i && (Nat.beq q.2.2.1 r1 && Nat.beq q.2.2.2.1 r2))) = true) :
    (∃ v, mj_cv r1 = .int v ∧ Cond.constant (mj_cn own) i v ∈ mj_ww) ∨ (∃ v, mj_cv r1 = .long v ∧ Cond.constantLong (mj_cn own) i v ∈ mj_ww) := by
  obtain ⟨q, hq, h⟩ := List.any_eq_true.mp h
  obtain ⟨rfl, rfl, rfl, rfl⟩ := mj_q3 h
  have h1 := List.all_eq_true.mp mj_clk_ok q hq
  unfold mj_okK at h1
  simp only [Bool.and_eq_true, decide_eq_true_eq] at h1
  cases hv : mj_cv q.2.2.1 with
  | int v => rw [hv] at h1; exact Or.inl ⟨v, rfl, mj_ww_of h1.1 rfl⟩
  | long v => rw [hv] at h1; exact Or.inr ⟨v, rfl, mj_ww_of h1.1 rfl⟩
  | _ => rw [hv] at h1; have h2 := h1.2; cases hb : Nat.beq q.2.2.2.1 0 <;> rw [hb] at h2 <;> cases h2
theorem mj_ck_ldw {own i r1 r2 : Nat} (h : mj_ck own (.ldc_w i) r1 r2 = true) (hl : r1 < 999) {v : Int32} (hv : mj_cv r1 = .int v) : Cond.constant (mj_cn own) i v ∈ mj_ww := by
  unfold mj_ck at h
  rw [mj_lt999 hl (Nat.le_refl _)] at h
  rcases mj_clk_use h with ⟨w, e, h⟩ | ⟨w, e, h⟩ <;> (rw [hv] at e; cases e)
  exact h
theorem mj_ck_ld2 {own i r1 r2 : Nat} (h : mj_ck own (.ldc2_w i) r1 r2 = true) (hl : r1 < 999) {v : Int64} (hv : mj_cv r1 = .long v) : Cond.constantLong (mj_cn own) i v ∈ mj_ww := by
  unfold mj_ck at h
  rw [mj_lt999 hl (Nat.le_refl _)] at h
  rcases mj_clk_use h with ⟨w, e, h⟩ | ⟨w, e, h⟩ <;> (rw [hv] at e; cases e)
  exact h
theorem mj_ck_ldi {own i r1 r2 : Nat} (h : mj_ck own (.ldc i) r1 r2 = true) (hl : r1 < 999) {v : Int32} (hv : mj_cv r1 = .int v) : r2 = 2 ∨ Cond.constant (mj_cn own) i v ∈ mj_ww := by
  by_cases h2 : r2 = 2
  · exact Or.inl h2
  · refine Or.inr ?_
    unfold mj_ck at h
    have e2 : Nat.beq r2 2 = false := by rw [← Bool.not_eq_true, Nat.beq_eq]; exact h2
    rw [mj_lt999 hl (Nat.le_refl _)] at h
    simp only [cond_false, e2] at h
    rcases mj_clk_use h with ⟨w, e, h⟩ | ⟨w, e, h⟩ <;> (rw [hv] at e; cases e)
    exact h
theorem mj_ck_lds {own i r1 : Nat} (h : mj_ck own (.ldc i) r1 2 = true) (hl : r1 < 999) : ∃ q ∈ mj_slk, q.1 = own ∧ q.2.1 = i ∧ q.2.2.1 = r1 := by
  unfold mj_ck at h
  rw [mj_lt999 hl (Nat.le_refl _)] at h
  simp only [cond_false, show Nat.beq 2 2 = true from rfl, cond_true] at h
  obtain ⟨q, hq, h⟩ := List.any_eq_true.mp h
  obtain ⟨e1, e2, e3⟩ := mj_q2 h
  exact ⟨q, hq, e1, e2, e3⟩
theorem mj_ck_new {own i r1 r2 : Nat} (h : mj_ck own (.new i) r1 r2 = true) (hl : r1 < 999) : ∃ r : vw_C, vwCl[r1]? = some r ∧ Cond.classLink (mj_cn own) i r.1 ∈ mj_ww ∧ Cond.instantiable r.1 r.2.2 ∈ mj_ww ∧ Cond.initialized r.1 ∈ mj_ww := by
  unfold mj_ck at h
  rw [mj_lt999 hl (Nat.le_refl _)] at h
  obtain ⟨q, hq, h⟩ := List.any_eq_true.mp h
  obtain ⟨rfl, rfl, rfl⟩ := mj_q2 h
  have h1 := List.all_eq_true.mp mj_nwk_ok q hq
  unfold mj_okW at h1
  cases hr : vwCl[q.2.2.1]? with
  | none => rw [hr] at h1; cases h1
  | some r =>
    rw [hr] at h1
    simp only [Bool.and_eq_true, decide_eq_true_eq, List.contains_iff_mem] at h1
    exact ⟨r, rfl, mj_ww_of h1.1.1 rfl, h1.1.2, h1.2⟩
theorem mj_ck_mna {own i r1 r2 d : Nat} (h : mj_ck own (.multianewarray i d) r1 r2 = true) (hl : r1 < 999) : Cond.classLink (mj_cn own) i "[[I" ∈ mj_ww := by
  unfold mj_ck at h
  rw [mj_lt999 hl (Nat.le_refl _)] at h
  obtain ⟨q, hq, h⟩ := List.any_eq_true.mp h
  simp only [Bool.and_eq_true, Nat.beq_eq] at h
  obtain ⟨rfl, rfl⟩ := h
  have h1 := List.all_eq_true.mp mj_mnk_ok q hq
  exact mj_ww_of (of_decide_eq_true h1) rfl
theorem mj_mlk_use {own i r1 r2 : Nat} (h : mj_mlk.any (fun q => Nat.beq q.1 own && (Nat.beq q.2.1 i && (Nat.beq q.2.2.1 r1 && Nat.beq q.2.2.2.1 r2))) = true) :
    ∃ q ∈ mj_mlk, q.1 = own ∧ q.2.1 = i ∧ q.2.2.1 = r1 ∧ q.2.2.2.1 = r2 ∧ lw_tbl[q.2.2.2.2]? = some (mj_lw q) ∧ (r1 < 1000 → r1 < mj_N) := by
  obtain ⟨q, hq, h⟩ := List.any_eq_true.mp h
  obtain ⟨rfl, rfl, rfl, rfl⟩ := mj_q3 h
  have h1 := List.all_eq_true.mp mj_mlk_ok q hq
  unfold mj_okM at h1
  simp only [Bool.and_eq_true, decide_eq_true_eq, Bool.or_eq_true, Nat.blt_eq] at h1
  exact ⟨q, hq, rfl, rfl, rfl, rfl, h1.1, fun h => h1.2.elim (fun z => absurd h (by omega)) id⟩
theorem mj_ck_inv {own i r1 r2 : Nat} {ins : Instr} (hi : ins = .invokevirtual i ∨ ins = .invokespecial i ∨ ins = .invokestatic i) (h : mj_ck own ins r1 r2 = true) (hl : r1 ≠ 999) :
    ∃ q ∈ mj_mlk, q.1 = own ∧ q.2.1 = i ∧ q.2.2.1 = r1 ∧ q.2.2.2.1 = r2 ∧ lw_tbl[q.2.2.2.2]? = some (mj_lw q) ∧ (r1 < 1000 → r1 < mj_N) := by
  have e9 : Nat.beq r1 999 = false := by rw [← Bool.not_eq_true, Nat.beq_eq]; exact hl
  rcases hi with rfl | rfl | rfl <;> (unfold mj_ck at h; rw [e9] at h; exact mj_mlk_use h)
theorem mj_lw_sp {own i r1 r2 k : Nat} {q : Nat × Nat × Nat × Nat × Nat} (e1 : q.1 = own) (e2 : q.2.1 = i) (e3 : q.2.2.1 = r1) (hw : lw_tbl[k]? = some (mj_lw q)) (hr : 1000 ≤ r1) : Cond.methodLink (mj_cn own) i (bif Nat.beq r1 1000 then Lib.objectInit else bif Nat.beq r1 1001 then arraycopyName else bif Nat.beq r1 1002 then Lib.Math.max.name else Lib.Math.min.name) ∈ mj_ww := by
  subst e1 e2 e3
  unfold mj_lw at hw
  rw [mj_nlt (by omega)] at hw
  exact mj_ww_of hw rfl
theorem mj_lw_me {own i r1 k : Nat} {q : Nat × Nat × Nat × Nat × Nat} (e1 : q.1 = own) (e2 : q.2.1 = i) (e3 : q.2.2.1 = r1) (e4 : q.2.2.2.1 = 0) (hw : lw_tbl[k]? = some (mj_lw q)) (hr : r1 < 1000) : Cond.methodLink (mj_cn own) i (mj_y r1) ∈ mj_ww := by
  subst e1 e2 e3
  unfold mj_lw at hw
  rw [show Nat.blt q.2.2.1 1000 = true by rw [Nat.blt_eq]; exact hr, e4] at hw
  exact mj_ww_of hw rfl
