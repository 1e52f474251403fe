theorem ai_k0 (ρ : List Int) (x : Int32) : ai_c ρ (0, x.toInt) = some (.int x) := by
  show some (Value.int (Int32.ofInt x.toInt)) = _
  rw [Int32.ofInt_toInt]
theorem ai_k2 (ρ : List Int) (x : Int64) : ai_c ρ (2, x.toInt) = some (.long x) := by
  show some (Value.long (Int64.ofInt x.toInt)) = _
  rw [Int64.ofInt_toInt]
theorem ai_br2 (c : Jvm.ClassFile.Cond) (x y : Int32) : ai_cr (ai_ck c) x.toInt y.toInt = (match c with
  | .eq => decide (x = y)
  | .ne => decide (¬ x = y)
  | .lt => decide (x < y)
  | .ge => decide (y ≤ x)
  | .gt => decide (y < x)
  | .le => decide (x ≤ y)) := by
  cases c
  · show decide (x.toInt = y.toInt) = decide (x = y)
    exact decide_eq_decide.mpr Int32.toInt_inj
  · show (!decide (x.toInt = y.toInt)) = decide (¬ x = y)
    rw [decide_not]
    exact congrArg not (decide_eq_decide.mpr Int32.toInt_inj)
  · show decide (x.toInt < y.toInt) = decide (x < y)
    exact decide_eq_decide.mpr Int32.lt_iff_toInt_lt.symm
  · show (!decide (x.toInt < y.toInt)) = decide (y ≤ x)
    rw [← decide_not]
    exact decide_eq_decide.mpr (by rw [Int32.le_iff_toInt_le]; omega)
  · show decide (y.toInt < x.toInt) = decide (y < x)
    exact decide_eq_decide.mpr Int32.lt_iff_toInt_lt.symm
  · show (!decide (y.toInt < x.toInt)) = decide (x ≤ y)
    rw [← decide_not]
    exact decide_eq_decide.mpr (by rw [Int32.le_iff_toInt_le]; omega)
theorem ai_sx (x : Int32) : Int64.ofInt x.toInt = x.toInt64 := by
  rw [← Int32.toInt_toInt64, Int64.ofInt_toInt]
theorem ai_nx (x : Int64) : Int32.ofInt x.toInt = x.toInt32 := by
  apply Int32.toInt_inj.mp
  rw [Int32.toInt_ofInt, Int64.toInt_toInt32]
theorem ai_cat1 {ρ : List Int} {a : ai_V} {v : Value} (h : ai_isL a = false) (hc : ai_c ρ a = some v) : v.category = 1 := by
  have := (ai_cat_ok hc).1
  unfold ai_cat at this
  rw [h] at this
  exact this.symm
theorem ai_cat2 {ρ : List Int} {a : ai_V} {v : Value} (h : ai_isL a = true) (hc : ai_c ρ a = some v) : v.category = 2 := (ai_cat_ok hc).2.mp h
theorem ai_mem_get {ρ : List Int} {M : ai_M} {cM : mj_M} {q : Nat} {e : ai_E} (h : ai_mm ρ M cM) (hq : M[q]? = some e) : ∃ c, cM[q]? = some c ∧ ai_e ρ e c := ai_mm_get h hq
theorem ai_dv_ok (ρ : List Int) (ci : Nat) : ai_ss ρ (ai_dv ci) (mj_dv ci) := by
  unfold ai_dv mj_dv
  cases hr : vwCl[ci]? with
  | none => trivial
  | some r =>
    simp only
    generalize List.range r.2.2 = ks
    induction ks with
    | nil => trivial
    | cons k ks ih =>
      refine ⟨?_, ih⟩
      have hty : ∀ ty : FieldType, mj_fty ci k = ty → (ty = .int ∨ ty = .boolean ∨ ty = .long ∨ (∃ c, ty = .object c) ∨ ∃ t, ty = .array t) → ai_c ρ (match ty with
        | .int => (0, 0)
        | .boolean => (0, 0)
        | .long => (2, 0)
        | _ => (6, 0)) = some (defaultValue ty) := by
        rintro ty - (rfl | rfl | rfl | ⟨c, rfl⟩ | ⟨t, rfl⟩) <;> rfl
      refine hty _ rfl ?_
      have tot : ∀ (ci k : Nat), mj_fty ci k = .int ∨ mj_fty ci k = .boolean ∨ mj_fty ci k = .long ∨ (∃ c, mj_fty ci k = .object c) ∨ ∃ t, mj_fty ci k = .array t := by
        intro ci k
        unfold mj_fty
        split
        · unfold tyX0; split <;> simp
        · unfold tyX2; split <;> simp
        · unfold tyX3; split <;> simp
        · unfold tyX5; split <;> simp
        · unfold tyX6; split <;> simp
        · unfold tyX7; split <;> simp
        · unfold tyX8; split <;> simp
      exact tot ci k
theorem ai_rep_ok (ρ : List Int) (t n : Nat) : ai_e ρ (1, t, List.replicate n (0, 0)) (.inl (t, n, .inl (fun _ => 0))) := by
  refine ⟨fun _ => 0, by rw [List.length_replicate], fun j a hj => ?_⟩
  rw [List.getElem?_replicate] at hj
  split at hj
  · cases hj
    rfl
  · cases hj
theorem ai_reps_ok (ρ : List Int) (e : ai_E) (c : va_E) (h : ai_e ρ e c) : ∀ n : Nat, ai_mm ρ (List.replicate n e) (List.replicate n c)
  | 0 => trivial
  | n + 1 => ⟨h, ai_reps_ok ρ e c h n⟩
theorem ai_wr_ii {tag pc ce sl q : Nat} {T : ai_T} {M : ai_M} {l : ai_L} {i x : ai_V} {e : ai_E} {st : List ai_V} {succs : List (Nat × ai_S)} (h : ai_wr tag pc ce sl T M l q i x e st = some succs) : ∃ p v, ai_ii T i = some p ∧ ai_ii T x = some v := by
  unfold ai_wr at h
  split at h
  · rename_i p v hp hv
    exact ⟨p, v, hp, hv⟩
  · cases h
theorem ai_rd_ii {tag pc ce sl : Nat} {T : ai_T} {M : ai_M} {l : ai_L} {i : ai_V} {e : ai_E} {st : List ai_V} {succs : List (Nat × ai_S)} (h : ai_rd tag pc ce sl T M l i e st = some succs) : ∃ p, ai_ii T i = some p := by
  unfold ai_rd at h
  split at h
  · rename_i p hp
    exact ⟨p, hp⟩
  · cases h
theorem ai_rx_ii {pc ce sl n : Nat} {f : Nat → Int32} {T : ai_T} {M : ai_M} {l : ai_L} {i : ai_V} {st : List ai_V} {succs : List (Nat × ai_S)} (h : ai_rx pc ce sl T M l i n f st = some succs) : ∃ p, ai_ii T i = some p := by
  unfold ai_rx at h
  split at h
  · rename_i p hp
    exact ⟨p, hp⟩
  · cases h
theorem ai_n1 (n : Int) (h1 : 0 ≤ n) (h2 : n ≤ 2000) : (Int32.ofInt n).toInt = n ∧ (Int32.ofInt n).toNatClampNeg = n.toNat ∧ ¬ Int32.ofInt n < 0 := by
  have e1 : (Int32.ofInt n).toInt = n := by
    rw [Int32.toInt_ofInt]
    exact ai_bm (by unfold ai_lo32; omega) (by unfold ai_hi32; omega)
  refine ⟨e1, by show (Int32.ofInt n).toInt.toNat = _; rw [e1], fun h => ?_⟩
  rw [Int32.lt_iff_toInt_lt, e1] at h
  have e0 : (0 : Int32).toInt = 0 := rfl
  omega
theorem ai_n32 (n : Int) (h1 : 0 ≤ n) (h2 : n ≤ 2000) : ¬ (Int32.ofInt n < 0) ∧ ¬ (536870912 < (Int32.ofInt n).toNatClampNeg * 4) := by
  obtain ⟨a, b, c⟩ := ai_n1 n h1 h2
  refine ⟨c, ?_⟩
  rw [b]
  omega
theorem ai_xa {L k : Nat} {xs : Nat → Int32} (h1 : 30 ≤ k) (h2 : k < 43) : mj_xa L xs k = some (.byte, (mj_stb.getD (k - 30) []).length, fun j => (mj_stb.getD (k - 30) []).getD j 0) := by
  unfold mj_xa
  have a : Nat.beq k 0 = false := Bool.eq_false_iff.mpr (fun g => absurd (ai_bq g) (by omega))
  have b : Nat.beq k 1 = false := Bool.eq_false_iff.mpr (fun g => absurd (ai_bq g) (by omega))
  have c : Nat.beq k 2 = false := Bool.eq_false_iff.mpr (fun g => absurd (ai_bq g) (by omega))
  have d : (Nat.ble 30 k && Nat.blt k 43) = true := by rw [Bool.and_eq_true, Nat.ble_eq, Nat.blt_eq]; exact ⟨h1, h2⟩
  rw [a, b, c, d]
  rfl
theorem mj_xa0 {L : Nat} {xs : Nat → Int32} : mj_xa L xs 0 = some (.int, L, xs) := rfl
theorem mj_xa1 {L : Nat} {xs : Nat → Int32} : mj_xa L xs 1 = some (.int, 10, mj_w1) := rfl
theorem mj_xa2 {L : Nat} {xs : Nat → Int32} : mj_xa L xs 2 = some (.int, 10, mj_w2) := rfl
theorem mj_mx {L own r1 r2 pc : Nat} {xs : Nat → Int32} {ini : Bool} {i : Nat} {M : mj_M} {l : mj_L} {x y : Int32} {st : List Value} (h : ∀ q1 sp q0 st', st ≠ .ref q1 :: .int sp :: .ref q0 :: st') : mj_me L xs own ini (.invokestatic i) 3 r1 r2 M pc l (.int y :: .int x :: st) =
    if r1 = 1002 ∧ mj_cs st ≤ 8 then mj_go M (pc + 3) l (.int (if x < y then y else x) :: st) else if r1 = 1003 ∧ mj_cs st ≤ 8 then mj_go M (pc + 3) l (.int (if y < x then y else x) :: st) else none := by
  cases st with
  | nil => rfl
  | cons a st => cases a with
    | ref q1 => cases st with
      | nil => rfl
      | cons b st => cases b with
        | int sp => cases st with
          | nil => rfl
          | cons c st => cases c with
            | ref q0 => exact absurd rfl (h q1 sp q0 st)
            | _ => rfl
        | _ => rfl
    | _ => rfl
theorem ai_nc_ok {ρ : List Int} {st : List ai_V} {cst : List Value} (h : ai_nc st = true) (hs : ai_ss ρ st cst) (q1 : Nat) (sp : Int32) (q0 : Nat) (st' : List Value) : cst ≠ .ref q1 :: .int sp :: .ref q0 :: st' := by
  rintro rfl
  have r4 : ∀ {a : ai_V} {q : Nat}, ai_c ρ a = some (.ref q) → a.1 = 4 := by
    intro a q hc
    unfold ai_c at hc
    split at hc <;> first
      | assumption
      | (cases hc; done)
      | (cases hz : ρ[a.2.toNat]? with
        | none => rw [hz] at hc; cases hc
        | some z => rw [hz] at hc; cases hc)
  match st, hs with
  | [], hs => exact hs.elim
  | [a], hs => exact hs.2.elim
  | [a, b], hs => exact hs.2.2.elim
  | (t, a) :: b :: (t2, c) :: st, hs =>
    have e1 : t = 4 := r4 hs.1
    have e2 : t2 = 4 := r4 hs.2.2.1
    subst e1 e2
    cases h
section AIU
variable {ρ : List Int} {T : ai_T} {M : ai_M} {l : ai_L} {st : List ai_V} {cM : mj_M} {cl : mj_L} {cst : List Value} {ce sl mc ms pc : Nat} {succs : List (Nat × ai_S)}
variable {own nL L len r1 r2 : Nat} {xs : Nat → Int32} {ini scr : Bool}
theorem mj_st_pu {ins : Instr} {x : Nat × Nat × mj_M × Nat × mj_L × List Value} (h : mj_pu ins len nL cM pc cl cst = some x) : mj_st L xs own nL ini ins len r1 r2 cM pc cl cst = some x := by
  unfold mj_st
  rw [h]
set_option maxHeartbeats 4000000 in
theorem ai_s_getfield {i : _} (hG : ai_G ρ T M l st cM cl cst) (hce : ce ≤ mc) (hsl : sl ≤ ms) (hscr : scr = true → L ≤ 6 ∧ ρ[0]? = some (L : Int) ∧ ∀ j, j < 6 → ρ[1 + j]? = some (xs j).toInt)
    (h : ai_step own nL ini scr mc ms (.getfield i) len r1 r2 pc ce sl T M l st = some succs) : ai_ok ρ ce sl mc ms (mj_st L xs own nL ini (.getfield i) len r1 r2 cM pc cl cst) succs := by
  obtain ⟨hs, hm, hl, hst⟩ := id hG
  have hb := ai_bt h
  clear h
  obtain ⟨hb, h⟩ := hb
  obtain rfl := ai_bq hb
  clear hb
  split at h
  · rename_i q st
    obtain ⟨w, cst2, rfl, hc, hs2⟩ := ai_ss_cons hst
    obtain rfl := ai_c4 hc
    split at h
    · rename_i ci items hg
      have hb := ai_bt h
      clear h
      obtain ⟨hb, h⟩ := hb
      simp only [Bool.and_eq_true, Nat.blt_eq] at hb
      obtain ⟨hb1, hb2⟩ := hb
      obtain rfl := ai_bq hb1
      obtain ⟨e, he, fs, rfl, hfs⟩ := ai_mem_get hm hg
      split at h
      · rename_i a ha
        obtain ⟨v, hv, hva⟩ := ai_ss_get hfs ha
        exact ai_pu_ok ⟨hs, hm, hl, hs2⟩ hce hsl h hva (by simp [mj_st, mj_pu, mj_me, he, hv, hb2, mj_go])
      · cases h
    · cases h
  · rename_i k st
    obtain ⟨w, cst2, rfl, hc, hs2⟩ := ai_ss_cons hst
    obtain rfl := ai_c5 hc
    have hb := ai_bt h
    clear h
    obtain ⟨hb, h⟩ := hb
    simp only [Bool.and_eq_true, Nat.blt_eq, Nat.ble_eq] at hb
    obtain ⟨hb1, hb2, hb3⟩ := hb
    obtain rfl := ai_bq hb1
    cases hz : Nat.beq r2 0 with
    | true =>
      rw [hz] at h
      exact ai_pu_ok ⟨hs, hm, hl, hs2⟩ hce hsl h (v := .int 0) rfl (by simp [mj_st, mj_pu, mj_me, hb2, hb3, hz, mj_go])
    | false =>
      rw [hz] at h
      refine ai_pu_ok ⟨hs, hm, hl, hs2⟩ hce hsl h (v := .retAddr (k.toNat + 20)) ?_ (by simp [mj_st, mj_pu, mj_me, hb2, hb3, hz, mj_go])
      show some (Value.retAddr (k + 20).toNat) = _
      rw [show (k + 20).toNat = k.toNat + 20 by omega]
  · cases h
set_option maxHeartbeats 4000000 in
theorem ai_s_putfield {i : _} (hG : ai_G ρ T M l st cM cl cst) (hce : ce ≤ mc) (hsl : sl ≤ ms) (hscr : scr = true → L ≤ 6 ∧ ρ[0]? = some (L : Int) ∧ ∀ j, j < 6 → ρ[1 + j]? = some (xs j).toInt)
    (h : ai_step own nL ini scr mc ms (.putfield i) len r1 r2 pc ce sl T M l st = some succs) : ai_ok ρ ce sl mc ms (mj_st L xs own nL ini (.putfield i) len r1 r2 cM pc cl cst) succs := by
  obtain ⟨hs, hm, hl, hst⟩ := id hG
  have hb := ai_bt h
  clear h
  obtain ⟨hb, h⟩ := hb
  obtain rfl := ai_bq hb
  clear hb
  split at h
  · rename_i a q st
    split at h
    · rename_i ci items hg
      have hb := ai_bt h
      clear h
      obtain ⟨hb, h⟩ := hb
      simp only [Bool.and_eq_true, Bool.or_eq_true, Bool.not_eq_true', Nat.blt_eq] at hb
      obtain ⟨⟨hb1, hb2⟩, hb3, hb4, hb5⟩ := hb
      obtain rfl := ai_bq hb1
      cases h
      obtain ⟨w, cst2, rfl, hc, hs2⟩ := ai_ss_cons hst
      obtain ⟨w2, cst3, rfl, hc2, hs3⟩ := ai_ss_cons hs2
      obtain rfl := ai_c4 hc2
      obtain ⟨e, he, fs, rfl, hfs⟩ := ai_mem_get hm hg
      have hlen := ai_ss_len hfs
      have hft := ai_fit_ok hs hb4 hc
      have hfin : mj_fin ci r2 = true → ini = true ∧ mj_cow ci = own := by
        intro z
        rcases hb5 with g | ⟨g1, g2⟩
        · rw [z] at g
          cases g
        · exact ⟨g1, ai_bq g2⟩
      refine ai_ok1 hce hsl (cM' := cM.set q.toNat (.inr (ci, fs.set r2 w))) (pc' := pc + 3) (cl' := cl) (cst' := cst3) ?_ List.mem_cons_self ai_le_rf ⟨hs, ai_mm_set hm ⟨_, rfl, ai_ss_set hfs hc⟩, hl, hs3⟩
      simp only [mj_st, mj_pu, mj_me, he]
      rw [if_pos ⟨⟨trivial, hb2⟩, by omega, hft, hfin⟩]
      rfl
    · cases h
  · cases h
set_option maxHeartbeats 4000000 in
theorem ai_s_getstatic {i : _} (hG : ai_G ρ T M l st cM cl cst) (hce : ce ≤ mc) (hsl : sl ≤ ms) (hscr : scr = true → L ≤ 6 ∧ ρ[0]? = some (L : Int) ∧ ∀ j, j < 6 → ρ[1 + j]? = some (xs j).toInt)
    (h : ai_step own nL ini scr mc ms (.getstatic i) len r1 r2 pc ce sl T M l st = some succs) : ai_ok ρ ce sl mc ms (mj_st L xs own nL ini (.getstatic i) len r1 r2 cM pc cl cst) succs := by
  obtain ⟨hs, hm, hl, hst⟩ := id hG
  have hb := ai_bt h
  clear h
  obtain ⟨hb, h⟩ := hb
  simp only [Bool.and_eq_true, Nat.ble_eq] at hb
  obtain ⟨hb1, hb2⟩ := hb
  obtain rfl := ai_bq hb1
  have h2 : r2 = 0 ∨ r2 = 1 := by omega
  split at h
  · exact ai_pu_ok hG hce hsl h (v := .retAddr 1) rfl (by simp [mj_st, mj_pu, mj_me, h2, mj_go, mj_xs])
  · exact ai_pu_ok hG hce hsl h (v := .retAddr 2) rfl (by simp [mj_st, mj_pu, mj_me, h2, mj_go, mj_xs])
  · exact ai_pu_ok hG hce hsl h (v := .int 1) rfl (by simp [mj_st, mj_pu, mj_me, h2, mj_go, mj_xs])
  · exact ai_pu_ok hG hce hsl h (v := .retAddr 3) rfl (by simp [mj_st, mj_pu, mj_me, h2, mj_go, mj_xs])
  · cases h
set_option maxHeartbeats 4000000 in
theorem ai_s_ldc {i : _} (hG : ai_G ρ T M l st cM cl cst) (hce : ce ≤ mc) (hsl : sl ≤ ms) (hscr : scr = true → L ≤ 6 ∧ ρ[0]? = some (L : Int) ∧ ∀ j, j < 6 → ρ[1 + j]? = some (xs j).toInt)
    (h : ai_step own nL ini scr mc ms (.ldc i) len r1 r2 pc ce sl T M l st = some succs) : ai_ok ρ ce sl mc ms (mj_st L xs own nL ini (.ldc i) len r1 r2 cM pc cl cst) succs := by
  obtain ⟨hs, hm, hl, hst⟩ := id hG
  have hb := ai_bt h
  clear h
  obtain ⟨hb, h⟩ := hb
  simp only [Bool.and_eq_true, Nat.blt_eq] at hb
  obtain ⟨hb1, hb2⟩ := hb
  obtain rfl := ai_bq hb1
  split at h
  · rename_i v hv
    have hb := ai_bn h
    clear h
    obtain ⟨hb, h⟩ := hb
    have hne : ¬ r2 = 2 := fun e => by subst e; cases hb
    exact ai_pu_ok hG hce hsl h (ai_k0 ρ v) (by simp [mj_st, mj_pu, mj_me, hv, hb2, hne, mj_go])
  · rename_i k hv
    have hb := ai_bt h
    clear h
    obtain ⟨hb, h⟩ := hb
    obtain rfl := ai_bq hb
    exact ai_pu_ok hG hce hsl h (v := .retAddr k) rfl (by simp [mj_st, mj_pu, mj_me, hv, hb2, mj_go])
  · cases h
set_option maxHeartbeats 4000000 in
theorem ai_s_ldc_w {i : _} (hG : ai_G ρ T M l st cM cl cst) (hce : ce ≤ mc) (hsl : sl ≤ ms) (hscr : scr = true → L ≤ 6 ∧ ρ[0]? = some (L : Int) ∧ ∀ j, j < 6 → ρ[1 + j]? = some (xs j).toInt)
    (h : ai_step own nL ini scr mc ms (.ldc_w i) len r1 r2 pc ce sl T M l st = some succs) : ai_ok ρ ce sl mc ms (mj_st L xs own nL ini (.ldc_w i) len r1 r2 cM pc cl cst) succs := by
  obtain ⟨hs, hm, hl, hst⟩ := id hG
  have hb := ai_bt h
  clear h
  obtain ⟨hb, h⟩ := hb
  simp only [Bool.and_eq_true, Nat.blt_eq] at hb
  obtain ⟨hb1, hb2⟩ := hb
  obtain rfl := ai_bq hb1
  split at h
  · rename_i v hv
    exact ai_pu_ok hG hce hsl h (ai_k0 ρ v) (by simp [mj_st, mj_pu, mj_me, hv, hb2, mj_go])
  · cases h
set_option maxHeartbeats 4000000 in
theorem ai_s_ldc2_w {i : _} (hG : ai_G ρ T M l st cM cl cst) (hce : ce ≤ mc) (hsl : sl ≤ ms) (hscr : scr = true → L ≤ 6 ∧ ρ[0]? = some (L : Int) ∧ ∀ j, j < 6 → ρ[1 + j]? = some (xs j).toInt)
    (h : ai_step own nL ini scr mc ms (.ldc2_w i) len r1 r2 pc ce sl T M l st = some succs) : ai_ok ρ ce sl mc ms (mj_st L xs own nL ini (.ldc2_w i) len r1 r2 cM pc cl cst) succs := by
  obtain ⟨hs, hm, hl, hst⟩ := id hG
  have hb := ai_bt h
  clear h
  obtain ⟨hb, h⟩ := hb
  simp only [Bool.and_eq_true, Nat.blt_eq] at hb
  obtain ⟨hb1, hb2⟩ := hb
  obtain rfl := ai_bq hb1
  split at h
  · rename_i v hv
    exact ai_pu_ok hG hce hsl h (ai_k2 ρ v) (by simp [mj_st, mj_pu, mj_me, hv, hb2, mj_go])
  · cases h
set_option maxHeartbeats 4000000 in
theorem ai_s_iaload (hG : ai_G ρ T M l st cM cl cst) (hce : ce ≤ mc) (hsl : sl ≤ ms) (hscr : scr = true → L ≤ 6 ∧ ρ[0]? = some (L : Int) ∧ ∀ j, j < 6 → ρ[1 + j]? = some (xs j).toInt)
    (h : ai_step own nL ini scr mc ms (.iaload) len r1 r2 pc ce sl T M l st = some succs) : ai_ok ρ ce sl mc ms (mj_st L xs own nL ini (.iaload) len r1 r2 cM pc cl cst) succs := by
  obtain ⟨hs, hm, hl, hst⟩ := id hG
  have hb := ai_bt h
  clear h
  obtain ⟨hb, h⟩ := hb
  obtain rfl := ai_bq hb
  clear hb
  split at h
  · rename_i i q st
    obtain ⟨w, cst2, rfl, hc, hs2⟩ := ai_ss_cons hst
    obtain ⟨w2, cst3, rfl, hc2, hs3⟩ := ai_ss_cons hs2
    obtain rfl := ai_c4 hc2
    split at h
    · rename_i e hg
      obtain ⟨e2, he, hee⟩ := ai_mem_get hm hg
      obtain ⟨p, hp⟩ := ai_rd_ii h
      obtain ⟨x, rfl, -⟩ := ai_ii_ok hs hp hc
      exact ai_rd_ok hs hm hl hs3 hc hee hce hsl h (fun n f e3 hv => by subst e3; simp [mj_st, mj_pu, mj_me, he, hv, mj_go])
    · cases h
  · rename_i i k st
    obtain ⟨w, cst2, rfl, hc, hs2⟩ := ai_ss_cons hst
    obtain ⟨w2, cst3, rfl, hc2, hs3⟩ := ai_ss_cons hs2
    obtain rfl := ai_c5 hc2
    split at h
    · rename_i hk
      split at h
      · rename_i p n hp hn
        have hb := ai_bt h
        clear h
        obtain ⟨hb, h⟩ := hb
        simp only [Bool.and_eq_true, decide_eq_true_eq] at hb
        obtain ⟨hsc, h1, h2, h3, h4⟩ := hb
        have h1 := ai_one_ok h1
        obtain ⟨g1, g2, g3⟩ := hscr hsc
        obtain ⟨x, rfl, xz, x2, x3, -⟩ := ai_ii_ok hs hp hc
        have e0 : ai_c ρ (1, 0) = some (.int (Int32.ofInt (L : Int))) := by
          show (ρ[(0 : Int).toNat]?).map _ = _
          rw [show ρ[(0 : Int).toNat]? = some (L : Int) from g2]
          rfl
        obtain ⟨y, -, yz, y2, y3, -⟩ := ai_ii_ok hs hn e0
        have yL : y.toInt = (L : Int) := by
          have : ρ[(0 : Int).toNat]? = some y.toInt := yz
          rw [show ρ[(0 : Int).toNat]? = some (L : Int) from g2] at this
          exact (Option.some.inj this).symm
        have hv : mj_vi x L = true := ai_vi (by omega) (by omega)
        have ex : x.toNatClampNeg = x.toInt.toNat := rfl
        refine ai_pu_ok ⟨hs, hm, hl, hs3⟩ hce hsl h (v := .int (xs x.toNatClampNeg)) ?_ (by simp [mj_st, mj_pu, mj_me, hk, mj_xa0, mj_xa1, mj_xa2, hv, mj_go])
        show (ρ[(1 + p.1).toNat]?).map _ = _
        rw [show (1 + p.1).toNat = 1 + x.toNatClampNeg by rw [ex]; omega, g3 _ (by rw [ex]; omega)]
        show some (Value.int (Int32.ofInt (xs x.toNatClampNeg).toInt)) = _
        rw [Int32.ofInt_toInt]
      · cases h
    · rename_i hk
      obtain ⟨p, hp⟩ := ai_rx_ii h
      obtain ⟨x, rfl, -⟩ := ai_ii_ok hs hp hc
      exact ai_rx_ok hs hm hl hs3 hc hce hsl h (fun hv => by simp [mj_st, mj_pu, mj_me, hk, mj_xa0, mj_xa1, mj_xa2, hv, mj_go])
    · rename_i hk
      obtain ⟨p, hp⟩ := ai_rx_ii h
      obtain ⟨x, rfl, -⟩ := ai_ii_ok hs hp hc
      exact ai_rx_ok hs hm hl hs3 hc hce hsl h (fun hv => by simp [mj_st, mj_pu, mj_me, hk, mj_xa0, mj_xa1, mj_xa2, hv, mj_go])
    · cases h
  · cases h
set_option maxHeartbeats 4000000 in
theorem ai_s_baload (hG : ai_G ρ T M l st cM cl cst) (hce : ce ≤ mc) (hsl : sl ≤ ms) (hscr : scr = true → L ≤ 6 ∧ ρ[0]? = some (L : Int) ∧ ∀ j, j < 6 → ρ[1 + j]? = some (xs j).toInt)
    (h : ai_step own nL ini scr mc ms (.baload) len r1 r2 pc ce sl T M l st = some succs) : ai_ok ρ ce sl mc ms (mj_st L xs own nL ini (.baload) len r1 r2 cM pc cl cst) succs := by
  obtain ⟨hs, hm, hl, hst⟩ := id hG
  have hb := ai_bt h
  clear h
  obtain ⟨hb, h⟩ := hb
  obtain rfl := ai_bq hb
  clear hb
  split at h
  · rename_i i q st
    obtain ⟨w, cst2, rfl, hc, hs2⟩ := ai_ss_cons hst
    obtain ⟨w2, cst3, rfl, hc2, hs3⟩ := ai_ss_cons hs2
    obtain rfl := ai_c4 hc2
    split at h
    · rename_i e hg
      obtain ⟨e2, he, hee⟩ := ai_mem_get hm hg
      obtain ⟨p, hp⟩ := ai_rd_ii h
      obtain ⟨x, rfl, -⟩ := ai_ii_ok hs hp hc
      exact ai_rd_ok hs hm hl hs3 hc hee hce hsl h (fun n f e3 hv => by subst e3; simp [mj_st, mj_pu, mj_me, he, hv, mj_go])
    · cases h
  · rename_i i k st
    obtain ⟨w, cst2, rfl, hc, hs2⟩ := ai_ss_cons hst
    obtain ⟨w2, cst3, rfl, hc2, hs3⟩ := ai_ss_cons hs2
    obtain rfl := ai_c5 hc2
    have hb := ai_bt h
    clear h
    obtain ⟨hb, h⟩ := hb
    simp only [Bool.and_eq_true, Nat.blt_eq, Nat.ble_eq] at hb
    obtain ⟨p, hp⟩ := ai_rx_ii h
    obtain ⟨x, rfl, -⟩ := ai_ii_ok hs hp hc
    have hx : mj_xa L xs k.toNat = some (.byte, (mj_stb.getD (k.toNat - 30) []).length, fun j => (mj_stb.getD (k.toNat - 30) []).getD j 0) := ai_xa hb.1 hb.2
    exact ai_rx_ok hs hm hl hs3 hc hce hsl h (fun hv => by simp only [mj_st, mj_pu, mj_me, hx]; rw [if_pos hv]; rfl)
  · cases h
set_option maxHeartbeats 4000000 in
theorem ai_s_aaload (hG : ai_G ρ T M l st cM cl cst) (hce : ce ≤ mc) (hsl : sl ≤ ms) (hscr : scr = true → L ≤ 6 ∧ ρ[0]? = some (L : Int) ∧ ∀ j, j < 6 → ρ[1 + j]? = some (xs j).toInt)
    (h : ai_step own nL ini scr mc ms (.aaload) len r1 r2 pc ce sl T M l st = some succs) : ai_ok ρ ce sl mc ms (mj_st L xs own nL ini (.aaload) len r1 r2 cM pc cl cst) succs := by
  obtain ⟨hs, hm, hl, hst⟩ := id hG
  have hb := ai_bt h
  clear h
  obtain ⟨hb, h⟩ := hb
  obtain rfl := ai_bq hb
  clear hb
  split at h
  · rename_i i q st
    obtain ⟨w, cst2, rfl, hc, hs2⟩ := ai_ss_cons hst
    obtain ⟨w2, cst3, rfl, hc2, hs3⟩ := ai_ss_cons hs2
    obtain rfl := ai_c4 hc2
    split at h
    · rename_i p items hp hg
      have hb := ai_bt h
      clear h
      obtain ⟨hb, h⟩ := hb
      simp only [Bool.and_eq_true] at hb
      cases h
      obtain ⟨x, rfl, xz, x2, x3, -⟩ := ai_ii_ok hs hp hc
      obtain ⟨e, he, g, rfl, hgg⟩ := ai_mem_get hm hg
      obtain ⟨b1, b2⟩ := ai_inb_ok hb.1
      have ex : x.toNatClampNeg = x.toInt.toNat := rfl
      have hlt : x.toInt.toNat < items.length := by omega
      have ha := List.all_eq_true.mp hb.2 _ (List.getElem_mem hlt)
      have hge : items[x.toInt.toNat]? = some (4, (items[x.toInt.toNat]).2) := by
        rw [List.getElem?_eq_getElem hlt]
        exact congrArg some (Prod.ext (ai_bq ha) rfl)
      have hgr := hgg _ _ hge
      have hv : mj_vi x items.length = true := ai_vi (by omega) (by omega)
      refine ai_ok1 hce hsl (cM' := cM) (cl' := cl) (cst' := .ref (items[x.toInt.toNat]).2.toNat :: cst3) (pc' := pc + 1) ?_ (List.mem_map.mpr ⟨x.toInt, ai_each_ok x2 x3, rfl⟩) ai_le_rf ⟨ai_set_ok hs xz (Int.le_refl _) (Int.le_refl _), hm, hl, ?_, hs3⟩
      · simp only [mj_st, mj_pu, mj_me, he]
        rw [if_pos hv, ex, hgr]
        rfl
      · rw [List.getD_eq_getElem?_getD, hge]
        rfl
    · cases h
  · cases h
set_option maxHeartbeats 4000000 in
theorem ai_s_arraylength (hG : ai_G ρ T M l st cM cl cst) (hce : ce ≤ mc) (hsl : sl ≤ ms) (hscr : scr = true → L ≤ 6 ∧ ρ[0]? = some (L : Int) ∧ ∀ j, j < 6 → ρ[1 + j]? = some (xs j).toInt)
    (h : ai_step own nL ini scr mc ms (.arraylength) len r1 r2 pc ce sl T M l st = some succs) : ai_ok ρ ce sl mc ms (mj_st L xs own nL ini (.arraylength) len r1 r2 cM pc cl cst) succs := by
  obtain ⟨hs, hm, hl, hst⟩ := id hG
  have hb := ai_bt h
  clear h
  obtain ⟨hb, h⟩ := hb
  obtain rfl := ai_bq hb
  clear hb
  split at h
  · rename_i q st
    obtain ⟨w, cst2, rfl, hc, hs2⟩ := ai_ss_cons hst
    obtain rfl := ai_c4 hc
    split at h
    · rename_i t items hg
      have hb := ai_bt h
      clear h
      obtain ⟨hb, h⟩ := hb
      obtain ⟨e, he, f, rfl, hf⟩ := ai_mem_get hm hg
      have t2 : t = 0 ∨ t = 1 := by
        rw [Nat.blt_eq] at hb
        omega
      rcases t2 with rfl | rfl <;> exact ai_pu_ok ⟨hs, hm, hl, hs2⟩ hce hsl h (ai_k0 ρ _) (by simp [mj_st, mj_pu, mj_me, he, mj_go])
    · rename_i items hg
      obtain ⟨e, he, f, rfl, hf⟩ := ai_mem_get hm hg
      exact ai_pu_ok ⟨hs, hm, hl, hs2⟩ hce hsl h (ai_k0 ρ _) (by simp [mj_st, mj_pu, mj_me, he, mj_go])
    · rename_i t n y z hg
      have hb := ai_bt h
      clear h
      obtain ⟨hb, h⟩ := hb
      obtain ⟨e, he, hee⟩ := ai_mem_get hm hg
      have hf : ∃ f : Nat → Int32, e = .inl (t, n.toNat, .inl f) := by
        unfold ai_e at hee
        split at hee <;> rename_i hq
        · cases hq
        · cases hq
        · cases hq
        · cases hq
          obtain ⟨f, g1, -⟩ := hee
          exact ⟨f, g1⟩
        · exact hee.elim
      obtain ⟨f, rfl⟩ := hf
      have t2 : t = 0 ∨ t = 1 := by
        rw [Nat.blt_eq] at hb
        omega
      rcases t2 with rfl | rfl <;> exact ai_pu_ok ⟨hs, hm, hl, hs2⟩ hce hsl h (ai_k0 ρ _) (by simp [mj_st, mj_pu, mj_me, he, mj_go])
    · cases h
  · rename_i k st
    obtain ⟨w, cst2, rfl, hc, hs2⟩ := ai_ss_cons hst
    obtain rfl := ai_c5 hc
    split at h
    · rename_i hk
      have hb := ai_bt h
      clear h
      obtain ⟨hb, h⟩ := hb
      obtain ⟨g1, g2, g3⟩ := hscr hb
      refine ai_pu_ok ⟨hs, hm, hl, hs2⟩ hce hsl h (v := .int (Int32.ofNat L)) ?_ (by simp [mj_st, mj_pu, mj_me, hk, mj_xa0, mj_xa1, mj_xa2, mj_go])
      show (ρ[(0 : Int).toNat]?).map _ = _
      rw [show ρ[(0 : Int).toNat]? = some (L : Int) from g2]
      rfl
    · rename_i hk
      exact ai_pu_ok ⟨hs, hm, hl, hs2⟩ hce hsl h (v := .int 10) rfl (by simp [mj_st, mj_pu, mj_me, hk, mj_xa0, mj_xa1, mj_xa2, mj_go])
    · rename_i hk
      exact ai_pu_ok ⟨hs, hm, hl, hs2⟩ hce hsl h (v := .int 10) rfl (by simp [mj_st, mj_pu, mj_me, hk, mj_xa0, mj_xa1, mj_xa2, mj_go])
    · clear hst
      have hb := ai_bt h
      clear h
      obtain ⟨hb, h⟩ := hb
      simp only [Bool.and_eq_true, Nat.blt_eq, Nat.ble_eq] at hb
      have hx : mj_xa L xs k.toNat = some (.byte, (mj_stb.getD (k.toNat - 30) []).length, fun j => (mj_stb.getD (k.toNat - 30) []).getD j 0) := ai_xa hb.1 hb.2
      exact ai_pu_ok ⟨hs, hm, hl, hs2⟩ hce hsl h (ai_k0 ρ _) (by simp only [mj_st, mj_pu, mj_me, hx]; rfl)
  · cases h
set_option maxHeartbeats 4000000 in
theorem ai_s_iastore (hG : ai_G ρ T M l st cM cl cst) (hce : ce ≤ mc) (hsl : sl ≤ ms) (hscr : scr = true → L ≤ 6 ∧ ρ[0]? = some (L : Int) ∧ ∀ j, j < 6 → ρ[1 + j]? = some (xs j).toInt)
    (h : ai_step own nL ini scr mc ms (.iastore) len r1 r2 pc ce sl T M l st = some succs) : ai_ok ρ ce sl mc ms (mj_st L xs own nL ini (.iastore) len r1 r2 cM pc cl cst) succs := by
  obtain ⟨hs, hm, hl, hst⟩ := id hG
  have hb := ai_bt h
  clear h
  obtain ⟨hb, h⟩ := hb
  obtain rfl := ai_bq hb
  clear hb
  split at h
  · rename_i a i q st
    obtain ⟨w, cst2, rfl, hc, hs2⟩ := ai_ss_cons hst
    obtain ⟨w2, cst3, rfl, hc2, hs3⟩ := ai_ss_cons hs2
    obtain ⟨w3, cst4, rfl, hc3, hs4⟩ := ai_ss_cons hs3
    obtain rfl := ai_c4 hc3
    split at h
    · rename_i e hg
      obtain ⟨e2, he, hee⟩ := ai_mem_get hm hg
      obtain ⟨p, v, hp, hv⟩ := ai_wr_ii h
      obtain ⟨x, rfl, -⟩ := ai_ii_ok hs hp hc2
      obtain ⟨y, rfl, -⟩ := ai_ii_ok hs hv hc
      exact ai_wr_ok hs hm hl hs4 hc2 hc hee hg hce hsl h (fun n f e3 hv _ => by subst e3; simp [mj_st, mj_pu, mj_me, he, hv, mj_go])
    · cases h
  · cases h
set_option maxHeartbeats 4000000 in
theorem ai_s_bastore (hG : ai_G ρ T M l st cM cl cst) (hce : ce ≤ mc) (hsl : sl ≤ ms) (hscr : scr = true → L ≤ 6 ∧ ρ[0]? = some (L : Int) ∧ ∀ j, j < 6 → ρ[1 + j]? = some (xs j).toInt)
    (h : ai_step own nL ini scr mc ms (.bastore) len r1 r2 pc ce sl T M l st = some succs) : ai_ok ρ ce sl mc ms (mj_st L xs own nL ini (.bastore) len r1 r2 cM pc cl cst) succs := by
  obtain ⟨hs, hm, hl, hst⟩ := id hG
  have hb := ai_bt h
  clear h
  obtain ⟨hb, h⟩ := hb
  obtain rfl := ai_bq hb
  clear hb
  split at h
  · rename_i a i q st
    obtain ⟨w, cst2, rfl, hc, hs2⟩ := ai_ss_cons hst
    obtain ⟨w2, cst3, rfl, hc2, hs3⟩ := ai_ss_cons hs2
    obtain ⟨w3, cst4, rfl, hc3, hs4⟩ := ai_ss_cons hs3
    obtain rfl := ai_c4 hc3
    split at h
    · rename_i e hg
      obtain ⟨e2, he, hee⟩ := ai_mem_get hm hg
      obtain ⟨p, v, hp, hv⟩ := ai_wr_ii h
      obtain ⟨x, rfl, -⟩ := ai_ii_ok hs hp hc2
      obtain ⟨y, rfl, -⟩ := ai_ii_ok hs hv hc
      exact ai_wr_ok hs hm hl hs4 hc2 hc hee hg hce hsl h (fun n f e3 hv hy => by
        subst e3
        have e4 : vp_nar .boolean y = y := by
          rcases (show y.toInt = 0 ∨ y.toInt = 1 by rcases hy with z | z <;> omega) with z | z
          · obtain rfl : y = 0 := Int32.toInt_inj.mp z
            rfl
          · obtain rfl : y = 1 := Int32.toInt_inj.mp z
            rfl
        simp [mj_st, mj_pu, mj_me, he, hv, mj_go, e4])
    · cases h
  · cases h
set_option maxHeartbeats 4000000 in
theorem ai_s_newarray {t : _} (hG : ai_G ρ T M l st cM cl cst) (hce : ce ≤ mc) (hsl : sl ≤ ms) (hscr : scr = true → L ≤ 6 ∧ ρ[0]? = some (L : Int) ∧ ∀ j, j < 6 → ρ[1 + j]? = some (xs j).toInt)
    (h : ai_step own nL ini scr mc ms (.newarray t) len r1 r2 pc ce sl T M l st = some succs) : ai_ok ρ ce sl mc ms (mj_st L xs own nL ini (.newarray t) len r1 r2 cM pc cl cst) succs := by
  obtain ⟨hs, hm, hl, hst⟩ := id hG
  have hb := ai_bt h
  clear h
  obtain ⟨hb, h⟩ := hb
  obtain rfl := ai_bq hb
  clear hb
  split at h
  · rename_i n st
    have hb := ai_bt h
    clear h
    obtain ⟨hb, h⟩ := hb
    simp only [Bool.and_eq_true, decide_eq_true_eq, Nat.blt_eq, Nat.ble_eq] at hb
    obtain ⟨⟨h1, h2⟩, h3, h4⟩ := hb
    cases h
    obtain ⟨w, cst2, rfl, hc, hs2⟩ := ai_ss_cons hst
    cases hc
    obtain ⟨e1, e2, e3⟩ := ai_n1 n h1 h2
    refine ⟨1, n.toNat, cM ++ [.inl (0, n.toNat, .inl (fun _ => 0))], pc + 2, cl, .ref cM.length :: cst2, _, _, _, _, ρ, ?_, List.mem_cons_self, ai_le_rf, ⟨hs, ai_mm_app hm ⟨ai_rep_ok ρ 0 n.toNat, trivial⟩, hl, ?_, hs2⟩, by omega, by omega⟩
    · simp only [mj_st, mj_pu, mj_me]
      rw [if_neg (fun q => q.elim e3 (ai_n32 n h1 h2).2), e2]
    · show some (Value.ref (M.length : Int).toNat) = _
      rw [Int.toNat_natCast, ai_mm_len hm]
  · rename_i n st
    have hb := ai_bt h
    clear h
    obtain ⟨hb, h⟩ := hb
    simp only [Bool.and_eq_true, decide_eq_true_eq, Nat.blt_eq, Nat.ble_eq] at hb
    obtain ⟨⟨h1, h2⟩, h3, h4⟩ := hb
    cases h
    obtain ⟨w, cst2, rfl, hc, hs2⟩ := ai_ss_cons hst
    cases hc
    obtain ⟨e1, e2, e3⟩ := ai_n1 n h1 h2
    refine ⟨1, n.toNat, cM ++ [.inl (1, n.toNat, .inl (fun _ => 0))], pc + 2, cl, .ref cM.length :: cst2, _, _, _, _, ρ, ?_, List.mem_cons_self, ai_le_rf, ⟨hs, ai_mm_app hm ⟨ai_rep_ok ρ 1 n.toNat, trivial⟩, hl, ?_, hs2⟩, by omega, by omega⟩
    · simp only [mj_st, mj_pu, mj_me]
      rw [if_neg (fun q => q.elim e3 (ai_n32 n h1 h2).2), e2]
    · show some (Value.ref (M.length : Int).toNat) = _
      rw [Int.toNat_natCast, ai_mm_len hm]
  · cases h
set_option maxHeartbeats 4000000 in
theorem ai_s_multianewarray {i : _} {d : _} (hG : ai_G ρ T M l st cM cl cst) (hce : ce ≤ mc) (hsl : sl ≤ ms) (hscr : scr = true → L ≤ 6 ∧ ρ[0]? = some (L : Int) ∧ ∀ j, j < 6 → ρ[1 + j]? = some (xs j).toInt)
    (h : ai_step own nL ini scr mc ms (.multianewarray i d) len r1 r2 pc ce sl T M l st = some succs) : ai_ok ρ ce sl mc ms (mj_st L xs own nL ini (.multianewarray i d) len r1 r2 cM pc cl cst) succs := by
  obtain ⟨hs, hm, hl, hst⟩ := id hG
  by_cases hd : d = 2
  · subst hd
    have hb := ai_bt h
    clear h
    obtain ⟨hb, h⟩ := hb
    simp only [Bool.and_eq_true, Nat.blt_eq] at hb
    obtain ⟨hb1, hb2⟩ := hb
    obtain rfl := ai_bq hb1
    split at h
    · rename_i k n st
      have hb := ai_bt h
      clear h
      obtain ⟨hb, h⟩ := hb
      simp only [Bool.and_eq_true, decide_eq_true_eq, Nat.blt_eq, Nat.ble_eq] at hb
      obtain ⟨⟨⟨h1, h2⟩, h3, h4⟩, h5, h6⟩ := hb
      cases h
      obtain ⟨w, cst2, rfl, hc, hs2⟩ := ai_ss_cons hst
      obtain ⟨w2, cst3, rfl, hc2, hs3⟩ := ai_ss_cons hs2
      cases hc
      cases hc2
      obtain ⟨e1, e2, e3⟩ := ai_n1 n h1 h2
      obtain ⟨k1, k2, k3⟩ := ai_n1 k h3 h4
      have hml := ai_mm_len hm
      refine ⟨1 + n.toNat, n.toNat + n.toNat * k.toNat, cM ++ (.inl (2, n.toNat, .inr (.inr (.inr (.inr (fun i => if i < n.toNat then some (cM.length + 1 + i) else none))))) :: List.replicate n.toNat (.inl (0, k.toNat, .inl (fun _ => 0)))), pc + 4, cl, .ref cM.length :: cst3, _, _, _, _, ρ, ?_, List.mem_cons_self, ai_le_rf, ⟨hs, ai_mm_app hm ⟨?_, ai_reps_ok ρ _ _ (ai_rep_ok ρ 0 k.toNat) _⟩, hl, ?_, hs3⟩, by omega, by omega⟩
      · simp only [mj_st, mj_pu, mj_me]
        rw [if_neg (fun q => by rcases q with q | q | q | q | q; exact e3 q; exact k3 q; exact (ai_n32 n h1 h2).2 q; exact (ai_n32 k h3 h4).2 q; omega), e2, k2]
      · refine ⟨fun i => if i < n.toNat then some (cM.length + 1 + i) else none, ?_, ?_⟩
        · rw [List.length_map, List.length_range]
        · intro j z hj
          rw [List.getElem?_map] at hj
          cases hr : (List.range n.toNat)[j]? with
          | none => rw [hr] at hj; cases hj
          | some y =>
            rw [hr] at hj
            have hjn : j < n.toNat := by
              have := (List.getElem?_eq_some_iff.mp hr).1
              rwa [List.length_range] at this
            have hy : y = j := by
              rw [List.getElem?_range hjn] at hr
              exact (Option.some.inj hr).symm
            subst hy
            cases hj
            show (if y < n.toNat then some (cM.length + 1 + y) else none) = _
            rw [if_pos hjn, Int.toNat_natCast, hml]
      · show some (Value.ref (M.length : Int).toNat) = _
        rw [Int.toNat_natCast, hml]
    · cases h
  · exact absurd h (by simp [ai_step, hd])
set_option maxHeartbeats 4000000 in
theorem ai_s_new {i : _} (hG : ai_G ρ T M l st cM cl cst) (hce : ce ≤ mc) (hsl : sl ≤ ms) (hscr : scr = true → L ≤ 6 ∧ ρ[0]? = some (L : Int) ∧ ∀ j, j < 6 → ρ[1 + j]? = some (xs j).toInt)
    (h : ai_step own nL ini scr mc ms (.new i) len r1 r2 pc ce sl T M l st = some succs) : ai_ok ρ ce sl mc ms (mj_st L xs own nL ini (.new i) len r1 r2 cM pc cl cst) succs := by
  obtain ⟨hs, hm, hl, hst⟩ := id hG
  have hb := ai_bt h
  clear h
  obtain ⟨hb, h⟩ := hb
  simp only [Bool.and_eq_true, Nat.blt_eq] at hb
  obtain ⟨hb1, hb2⟩ := hb
  obtain rfl := ai_bq hb1
  have hb := ai_bt h
  clear h
  obtain ⟨hb, h⟩ := hb
  simp only [Bool.and_eq_true, Nat.blt_eq, Nat.ble_eq] at hb
  obtain ⟨hb3, hb4⟩ := hb
  cases h
  have hdv := ai_dv_ok ρ r1
  have hln := ai_ss_len hdv
  have hml := ai_mm_len hm
  refine ⟨1, (mj_dv r1).length, cM ++ [.inr (r1, mj_dv r1)], pc + 3, cl, .ref cM.length :: cst, T, M ++ [(0, r1, ai_dv r1)], l, (4, (M.length : Int)) :: st, ρ, ?_, ?_, ai_le_rf, ⟨hs, ai_mm_app hm ⟨⟨_, rfl, hdv⟩, trivial⟩, hl, ?_, hst⟩, by omega, by omega⟩
  · simp [mj_st, mj_pu, mj_me, hb2]
  · rw [← hln]
    exact List.mem_cons_self
  · show some (Value.ref (M.length : Int).toNat) = _
    rw [Int.toNat_natCast, hml]
set_option maxHeartbeats 4000000 in
theorem ai_s_invokespecial {i : _} (hG : ai_G ρ T M l st cM cl cst) (hce : ce ≤ mc) (hsl : sl ≤ ms) (hscr : scr = true → L ≤ 6 ∧ ρ[0]? = some (L : Int) ∧ ∀ j, j < 6 → ρ[1 + j]? = some (xs j).toInt)
    (h : ai_step own nL ini scr mc ms (.invokespecial i) len r1 r2 pc ce sl T M l st = some succs) : ai_ok ρ ce sl mc ms (mj_st L xs own nL ini (.invokespecial i) len r1 r2 cM pc cl cst) succs := by
  obtain ⟨hs, hm, hl, hst⟩ := id hG
  have hb := ai_bt h
  clear h
  obtain ⟨hb, h⟩ := hb
  simp only [Bool.and_eq_true] at hb
  obtain ⟨hb1, hb2⟩ := hb
  obtain rfl := ai_bq hb1
  obtain rfl := ai_bq hb2
  split at h
  · rename_i q st
    obtain ⟨w, cst2, rfl, hc, hs2⟩ := ai_ss_cons hst
    obtain rfl := ai_c4 hc
    have hb := ai_bt h
    clear h
    obtain ⟨hb, h⟩ := hb
    cases h
    rw [Nat.ble_eq, ai_cs_ok hs2] at hb
    exact ai_ok1 hce hsl (cM' := cM) (cl' := cl) (cst' := cst2) (pc' := pc + 3) (by simp [mj_st, mj_pu, mj_me, hb, mj_go]) List.mem_cons_self ai_le_rf ⟨hs, hm, hl, hs2⟩
  · cases h
set_option maxHeartbeats 4000000 in
theorem ai_s_invokestatic {i : _} (hG : ai_G ρ T M l st cM cl cst) (hce : ce ≤ mc) (hsl : sl ≤ ms) (hscr : scr = true → L ≤ 6 ∧ ρ[0]? = some (L : Int) ∧ ∀ j, j < 6 → ρ[1 + j]? = some (xs j).toInt)
    (h : ai_step own nL ini scr mc ms (.invokestatic i) len r1 r2 pc ce sl T M l st = some succs) : ai_ok ρ ce sl mc ms (mj_st L xs own nL ini (.invokestatic i) len r1 r2 cM pc cl cst) succs := by
  obtain ⟨hs, hm, hl, hst⟩ := id hG
  have hb := ai_bt h
  clear h
  obtain ⟨hb, h⟩ := hb
  obtain rfl := ai_bq hb
  clear hb
  cases hA : Nat.beq r1 1001 with
  | true =>
    rw [hA] at h
    obtain rfl := ai_bq hA
    simp only [cond_true] at h
    split at h
    · rename_i n dp q1 sp q0 st
      split at h
      · rename_i n9 dp9 sp9 f g hn hdp hsp hq0 hq1
        have hb := ai_bt h
        clear h
        obtain ⟨hb, h⟩ := hb
        simp only [Bool.and_eq_true, decide_eq_true_eq, Nat.ble_eq] at hb
        obtain ⟨⟨⟨o1, o2, o3⟩, p1, p2, p3⟩, hcs, l1, l2⟩ := hb
        have o1 := ai_one_ok o1
        have o2 := ai_one_ok o2
        have o3 := ai_one_ok o3
        cases h
        obtain ⟨w1, cst1, rfl, hc1, hs1⟩ := ai_ss_cons hst
        obtain ⟨w2, cst2, rfl, hc2, hs2⟩ := ai_ss_cons hs1
        obtain ⟨w3, cst3, rfl, hc3, hs3⟩ := ai_ss_cons hs2
        obtain ⟨w4, cst4, rfl, hc4, hs4⟩ := ai_ss_cons hs3
        obtain ⟨w5, cst5, rfl, hc5, hs5⟩ := ai_ss_cons hs4
        obtain rfl := ai_c4 hc3
        obtain rfl := ai_c4 hc5
        obtain ⟨x, rfl, -, x2, x3, -⟩ := ai_ii_ok hs hn hc1
        obtain ⟨y, rfl, -, y2, y3, -⟩ := ai_ii_ok hs hdp hc2
        obtain ⟨z, rfl, -, z2, z3, -⟩ := ai_ii_ok hs hsp hc4
        obtain ⟨e0, he0, f0, rfl, hf0⟩ := ai_mem_get hm hq0
        obtain ⟨e1, he1, g0, rfl, hg0⟩ := ai_mem_get hm hq1
        rw [ai_cs_ok hs5] at hcs
        have ex : x.toNatClampNeg = n9.1.toNat := by show x.toInt.toNat = _; omega
        have ey : y.toNatClampNeg = dp9.1.toNat := by show y.toInt.toNat = _; omega
        have ez : z.toNatClampNeg = sp9.1.toNat := by show z.toInt.toNat = _; omega
        have i0 : (0 : Int32).toInt = 0 := rfl
        have nx : ¬ x < 0 := by rw [Int32.lt_iff_toInt_lt]; omega
        have ny : ¬ y < 0 := by rw [Int32.lt_iff_toInt_lt]; omega
        have nz : ¬ z < 0 := by rw [Int32.lt_iff_toInt_lt]; omega
        generalize n9.1.toNat = N at *
        generalize dp9.1.toNat = D at *
        generalize sp9.1.toNat = P at *
        refine ai_ok1 hce hsl (cM' := cM.set q1.toNat (.inl (0, g.length, .inl (va_cpy f0 g0 P D N)))) (cl' := cl) (cst' := cst5) (pc' := pc + 3) ?_ List.mem_cons_self ai_le_rf ⟨hs, ai_mm_set hm ⟨va_cpy f0 g0 P D N, ?_, ?_⟩, hl, hs5⟩
        · simp only [mj_st, mj_pu, mj_me, he0, he1]
          rw [if_pos ⟨trivial, hcs⟩, ex, ey, ez, if_neg (fun q => by rcases q with q | q | q | q | q; exact nz q; exact ny q; exact nx q; omega; omega)]
          rfl
        · rw [show (g.take D ++ ((f.drop P).take N ++ g.drop (D + N))).length = g.length by simp; omega]
        · intro j a hj
          by_cases hj1 : j < D
          · rw [List.getElem?_append_left (by rw [List.length_take]; omega), List.getElem?_take_of_lt hj1] at hj
            rw [show va_cpy f0 g0 P D N j = g0 j from if_neg (by omega)]
            exact hg0 j a hj
          · rw [List.getElem?_append_right (by rw [List.length_take]; omega), List.length_take, Nat.min_eq_left (by omega)] at hj
            by_cases hj2 : j < D + N
            · rw [List.getElem?_append_left (by rw [List.length_take, List.length_drop]; omega), List.getElem?_take_of_lt (by omega), List.getElem?_drop] at hj
              rw [show va_cpy f0 g0 P D N j = f0 (P + (j - D)) from if_pos ⟨by omega, hj2⟩]
              exact hf0 _ a hj
            · rw [List.getElem?_append_right (by rw [List.length_take, List.length_drop]; omega), List.length_take, List.length_drop, Nat.min_eq_left (by omega), List.getElem?_drop, show D + N + (j - D - N) = j by omega] at hj
              rw [show va_cpy f0 g0 P D N j = g0 j from if_neg (by omega)]
              exact hg0 j a hj
      · cases h
    · cases h
  | false =>
   rw [hA] at h
   simp only [cond_false] at h
   cases hB : Nat.beq r1 1002 with
   | true =>
    rw [hB] at h
    obtain rfl := ai_bq hB
    simp only [cond_true] at h
    split at h
    · rename_i b a st
      split at h
      · rename_i p q hp hq
        have hb := ai_bt h
        clear h
        obtain ⟨hb, h⟩ := hb
        cases h
        obtain ⟨w, cst2, rfl, hc, hs2⟩ := ai_ss_cons hst
        obtain ⟨w2, cst3, rfl, hc2, hs3⟩ := ai_ss_cons hs2
        obtain ⟨x, rfl, xz, x2, x3, -⟩ := ai_ii_ok hs hp hc2
        obtain ⟨y, rfl, yz, y2, y3, -⟩ := ai_ii_ok hs hq hc
        simp only [Bool.and_eq_true, Nat.ble_eq] at hb
        obtain ⟨hb, hnc⟩ := hb
        rw [ai_cs_ok hs3] at hb
        obtain ⟨T2, hm2, hs4⟩ := ai_lt_ok hs xz yz x2 x3 y2 y3
        refine ai_ok1 hce hsl (cM' := cM) (cl' := cl) (cst' := .int (if x < y then y else x) :: cst3) (pc' := pc + 3) (Eq.trans (show _ = mj_me L xs own ini (.invokestatic i) 3 _ r2 cM pc cl (.int y :: .int x :: cst3) from rfl) ((mj_mx (ai_nc_ok hnc hs3)).trans (by simp [hb, mj_go]))) (List.mem_map.mpr ⟨_, hm2, rfl⟩) ai_le_rf ⟨hs4, hm, hl, ?_, hs3⟩
        by_cases hxy : x < y
        · rw [if_pos hxy, decide_eq_true (Int32.lt_iff_toInt_lt.mp hxy)]
          exact hc
        · rw [if_neg hxy, decide_eq_false (fun g => hxy (Int32.lt_iff_toInt_lt.mpr g))]
          exact hc2
      · cases h
    · cases h
   | false =>
    rw [hB] at h
    simp only [cond_false] at h
    have hC := ai_bt h
    clear h
    obtain ⟨hC, h⟩ := hC
    obtain rfl := ai_bq hC
    split at h
    · rename_i b a st
      split at h
      · rename_i p q hp hq
        have hb := ai_bt h
        clear h
        obtain ⟨hb, h⟩ := hb
        cases h
        obtain ⟨w, cst2, rfl, hc, hs2⟩ := ai_ss_cons hst
        obtain ⟨w2, cst3, rfl, hc2, hs3⟩ := ai_ss_cons hs2
        obtain ⟨x, rfl, xz, x2, x3, -⟩ := ai_ii_ok hs hp hc2
        obtain ⟨y, rfl, yz, y2, y3, -⟩ := ai_ii_ok hs hq hc
        simp only [Bool.and_eq_true, Nat.ble_eq] at hb
        obtain ⟨hb, hnc⟩ := hb
        rw [ai_cs_ok hs3] at hb
        obtain ⟨T2, hm2, hs4⟩ := ai_lt_ok hs yz xz y2 y3 x2 x3
        refine ai_ok1 hce hsl (cM' := cM) (cl' := cl) (cst' := .int (if y < x then y else x) :: cst3) (pc' := pc + 3) (Eq.trans (show _ = mj_me L xs own ini (.invokestatic i) 3 _ r2 cM pc cl (.int y :: .int x :: cst3) from rfl) ((mj_mx (ai_nc_ok hnc hs3)).trans (by simp [hb, mj_go]))) (List.mem_map.mpr ⟨_, hm2, rfl⟩) ai_le_rf ⟨hs4, hm, hl, ?_, hs3⟩
        by_cases hxy : y < x
        · rw [if_pos hxy, decide_eq_true (Int32.lt_iff_toInt_lt.mp hxy)]
          exact hc
        · rw [if_neg hxy, decide_eq_false (fun g => hxy (Int32.lt_iff_toInt_lt.mpr g))]
          exact hc2
      · cases h
    · cases h
set_option maxHeartbeats 4000000 in
theorem ai_s_tableswitch {dflt : _} {lo : _} {hi : _} {offs : _} (hG : ai_G ρ T M l st cM cl cst) (hce : ce ≤ mc) (hsl : sl ≤ ms) (hscr : scr = true → L ≤ 6 ∧ ρ[0]? = some (L : Int) ∧ ∀ j, j < 6 → ρ[1 + j]? = some (xs j).toInt)
    (h : ai_step own nL ini scr mc ms (.tableswitch dflt lo hi offs) len r1 r2 pc ce sl T M l st = some succs) : ai_ok ρ ce sl mc ms (mj_st L xs own nL ini (.tableswitch dflt lo hi offs) len r1 r2 cM pc cl cst) succs := by
  obtain ⟨hs, hm, hl, hst⟩ := id hG
  simp only [ai_step] at h
  split at h
  · rename_i a st
    split at h
    · rename_i p td hp htd
      have hb := ai_bt h
      clear h
      obtain ⟨hb, h⟩ := hb
      cases h
      obtain ⟨w, cst2, rfl, hc, hs2⟩ := ai_ss_cons hst
      obtain ⟨x, rfl, xz, x2, x3, -⟩ := ai_ii_ok hs hp hc
      by_cases hx : x.toInt < lo ∨ hi < x.toInt
      · obtain ⟨h0, rfl⟩ := ai_jp_ok htd
        rcases hx with hx | hx
        · refine ai_ok1 hce hsl (cM' := cM) (cl' := cl) (cst' := cst2) (mj_st_pu (by simp only [mj_pu]; rw [if_pos (Or.inl hx)]; exact if_pos h0)) (List.mem_append_left _ (by rw [if_pos (by omega)]; exact List.mem_cons_self)) ai_le_rf ⟨ai_set_ok (q := (p.1, if p.2 < lo then p.2 else lo - 1)) hs xz x2 ?_, hm, hl, hs2⟩
          show x.toInt ≤ if p.2 < lo then p.2 else lo - 1
          split <;> omega
        · refine ai_ok1 hce hsl (cM' := cM) (cl' := cl) (cst' := cst2) (mj_st_pu (by simp only [mj_pu]; rw [if_pos (Or.inr hx)]; exact if_pos h0)) (List.mem_append_right _ (List.mem_append_left _ (by rw [if_pos (by omega)]; exact List.mem_cons_self))) ai_le_rf ⟨ai_set_ok (q := (if p.1 ≤ hi then hi + 1 else p.1, p.2)) hs xz ?_ x3, hm, hl, hs2⟩
          show (if p.1 ≤ hi then hi + 1 else p.1) ≤ x.toInt
          split <;> omega
      · have hz := List.all_eq_true.mp hb x.toInt (ai_each_ok (by omega) (by omega))
        split at hz
        · rename_i off hoff
          cases hj : ai_jp pc off with
          | none => rw [hj] at hz; cases hz
          | some t =>
            obtain ⟨h0, rfl⟩ := ai_jp_ok hj
            refine ai_ok1 hce hsl (cM' := cM) (cl' := cl) (cst' := cst2) (mj_st_pu (by simp only [mj_pu]; rw [if_neg hx, hoff]; exact if_pos h0)) (List.mem_append_right _ (List.mem_append_right _ (List.mem_map.mpr ⟨x.toInt, ai_each_ok ?_ ?_, ?_⟩))) ai_le_rf ⟨ai_set_ok (q := (x.toInt, x.toInt)) hs xz (Int.le_refl _) (Int.le_refl _), hm, hl, hs2⟩
            · simp only; split <;> omega
            · simp only; split <;> omega
            · rw [Array.getD_eq_getD_getElem?, hoff]
              rfl
        · cases hz
    · cases h
  · cases h
set_option maxHeartbeats 4000000 in
theorem ai_s_lookupswitch {dflt : _} {ps : _} (hG : ai_G ρ T M l st cM cl cst) (hce : ce ≤ mc) (hsl : sl ≤ ms) (hscr : scr = true → L ≤ 6 ∧ ρ[0]? = some (L : Int) ∧ ∀ j, j < 6 → ρ[1 + j]? = some (xs j).toInt)
    (h : ai_step own nL ini scr mc ms (.lookupswitch dflt ps) len r1 r2 pc ce sl T M l st = some succs) : ai_ok ρ ce sl mc ms (mj_st L xs own nL ini (.lookupswitch dflt ps) len r1 r2 cM pc cl cst) succs := by
  obtain ⟨hs, hm, hl, hst⟩ := id hG
  have hb := ai_bt h
  clear h
  obtain ⟨hb, h⟩ := hb
  split at h
  · rename_i a st
    split at h
    · rename_i p hp
      have hb2 := ai_bt h
      clear h
      obtain ⟨-, h⟩ := hb2
      have hb2 := ai_bt h
      clear h
      obtain ⟨hb2, h⟩ := hb2
      cases h
      obtain ⟨w, cst2, rfl, hc, hs2⟩ := ai_ss_cons hst
      obtain ⟨x, rfl, xz, x2, x3, -⟩ := ai_ii_ok hs hp hc
      have hz := List.all_eq_true.mp hb2 x.toInt (ai_each_ok x2 x3)
      cases hj : ai_jp pc (Op.lookupswitch.offset ps.toList dflt x.toInt) with
      | none => rw [hj] at hz; cases hz
      | some t =>
        obtain ⟨h0, rfl⟩ := ai_jp_ok hj
        exact ai_ok1 hce hsl (cM' := cM) (cl' := cl) (cst' := cst2) (mj_st_pu (by simp only [mj_pu]; rw [if_pos hb]; exact if_pos h0)) (List.mem_map.mpr ⟨x.toInt, ai_each_ok x2 x3, rfl⟩) ai_le_rf ⟨ai_set_ok hs xz (Int.le_refl _) (Int.le_refl _), hm, hl, hs2⟩
    · cases h
  · cases h
end AIU
