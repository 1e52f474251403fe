/-! FORCE -/
theorem d_75_0 : mj_cd 75 0 = some (.iload_n 1, 1, 0, 0) := rfl
theorem d_75_1 : mj_cd 75 1 = some (.ifCond .lt 14, 3, 0, 0) := rfl
theorem d_75_4 : mj_cd 75 4 = some (.iload_n 1, 1, 0, 0) := rfl
theorem d_75_5 : mj_cd 75 5 = some (.aload_n 0, 1, 0, 0) := rfl
theorem d_75_6 : mj_cd 75 6 = some (.getfield 10, 3, 5, 0) := rfl
theorem d_75_9 : mj_cd 75 9 = some (.getfield 152, 3, 3, 4) := rfl
theorem d_75_12 : mj_cd 75 12 = some (.if_icmp .lt 6, 3, 0, 0) := rfl
theorem d_75_15 : mj_cd 75 15 = some (.bipush (-2), 2, 0, 0) := rfl
theorem d_75_17 : mj_cd 75 17 = some (.ireturn, 1, 0, 0) := rfl
theorem d_75_18 : mj_cd 75 18 = some (.aload_n 0, 1, 0, 0) := rfl
theorem d_75_19 : mj_cd 75 19 = some (.getfield 28, 3, 5, 2) := rfl
theorem d_75_22 : mj_cd 75 22 = some (.getfield 155, 3, 0, 12) := rfl
theorem d_75_25 : mj_cd 75 25 = some (.istore_n 2, 1, 0, 0) := rfl
theorem d_75_26 : mj_cd 75 26 = some (.aload_n 0, 1, 0, 0) := rfl
theorem d_75_27 : mj_cd 75 27 = some (.getfield 28, 3, 5, 2) := rfl
theorem d_75_30 : mj_cd 75 30 = some (.iload_n 1, 1, 0, 0) := rfl
theorem d_75_31 : mj_cd 75 31 = some (.putfield 155, 3, 0, 12) := rfl
theorem d_75_34 : mj_cd 75 34 = some (.iload_n 2, 1, 0, 0) := rfl
theorem d_75_35 : mj_cd 75 35 = some (.ireturn, 1, 0, 0) := rfl
theorem d_130_0 : mj_cd 130 0 = some (.iload_n 1, 1, 0, 0) := rfl
theorem d_130_1 : mj_cd 130 1 = some (.i2l, 1, 0, 0) := rfl
theorem d_130_2 : mj_cd 130 2 = some (.lconst 0, 1, 0, 0) := rfl
theorem d_130_3 : mj_cd 130 3 = some (.aload_n 0, 1, 0, 0) := rfl
theorem d_130_4 : mj_cd 130 4 = some (.getfield 85, 3, 6, 3) := rfl
theorem d_130_7 : mj_cd 130 7 = some (.iconst 1, 1, 0, 0) := rfl
theorem d_130_8 : mj_cd 130 8 = some (.isub, 1, 0, 0) := rfl
theorem d_130_9 : mj_cd 130 9 = some (.i2l, 1, 0, 0) := rfl
theorem d_130_10 : mj_cd 130 10 = some (.invokestatic 91, 3, 133, 0) := rfl
theorem d_130_13 : mj_cd 130 13 = some (.ifCond .ne 6, 3, 0, 0) := rfl
theorem d_130_16 : mj_cd 130 16 = some (.bipush (-2), 2, 0, 0) := rfl
theorem d_130_18 : mj_cd 130 18 = some (.ireturn, 1, 0, 0) := rfl
theorem d_130_19 : mj_cd 130 19 = some (.aload_n 0, 1, 0, 0) := rfl
theorem d_130_20 : mj_cd 130 20 = some (.getfield 139, 3, 6, 4) := rfl
theorem d_130_23 : mj_cd 130 23 = some (.istore_n 2, 1, 0, 0) := rfl
theorem d_130_24 : mj_cd 130 24 = some (.aload_n 0, 1, 0, 0) := rfl
theorem d_130_25 : mj_cd 130 25 = some (.iload_n 1, 1, 0, 0) := rfl
theorem d_130_26 : mj_cd 130 26 = some (.putfield 139, 3, 6, 4) := rfl
theorem d_130_29 : mj_cd 130 29 = some (.iload_n 2, 1, 0, 0) := rfl
theorem d_130_30 : mj_cd 130 30 = some (.ireturn, 1, 0, 0) := rfl
theorem d_193_418 : mj_cd 193 418 = some (.aload_n 1, 1, 0, 0) := rfl
theorem d_193_419 : mj_cd 193 419 = some (.aload_n 0, 1, 0, 0) := rfl
theorem d_193_420 : mj_cd 193 420 = some (.iload_n 3, 1, 0, 0) := rfl
theorem d_193_421 : mj_cd 193 421 = some (.iconst 1, 1, 0, 0) := rfl
theorem d_193_422 : mj_cd 193 422 = some (.iadd, 1, 0, 0) := rfl
theorem d_193_423 : mj_cd 193 423 = some (.iaload, 1, 0, 0) := rfl
theorem d_193_424 : mj_cd 193 424 = some (.invokevirtual 49, 3, 75, 0) := rfl
theorem d_193_427 : mj_cd 193 427 = some (.aload_n 2, 1, 0, 0) := rfl
theorem d_193_428 : mj_cd 193 428 = some (.aload_n 0, 1, 0, 0) := rfl
theorem d_193_429 : mj_cd 193 429 = some (.iload_n 3, 1, 0, 0) := rfl
theorem d_193_430 : mj_cd 193 430 = some (.iconst 1, 1, 0, 0) := rfl
theorem d_193_431 : mj_cd 193 431 = some (.iadd, 1, 0, 0) := rfl
theorem d_193_432 : mj_cd 193 432 = some (.iaload, 1, 0, 0) := rfl
theorem d_193_433 : mj_cd 193 433 = some (.invokevirtual 52, 3, 130, 0) := rfl
theorem d_193_436 : mj_cd 193 436 = some (.if_icmp .eq 605, 3, 0, 0) := rfl
abbrev cl_h (a b c d : Value) (r : Int) : va_E := .inr (0, [.ref 1, .ref 26, .ref 27, .ref 28, .ref 29, .ref 30, .ref 31, .ref 32, a, b, c, d, hv r])
def cl_i25 : List ai_V := [(4, 1), (4, 26), (4, 27), (4, 28), (4, 29), (4, 30), (4, 31), (4, 32), (1, 7), (1, 8), (1, 9), (1, 10), (1, 11)]
theorem cl_0 {ρ : List Int} {cM : mj_M} (h : ai_mm ρ kz_M cM) : ∃ fs, cM[0]? = some (.inr (5, .ref 1 :: .ref 18 :: .ref 25 :: fs)) := by
  obtain ⟨e, he, fs, rfl, hf⟩ := ai_mm_get (k := 0) h rfl
  rw [bqv_ss hf] at he
  exact ⟨_, he⟩
theorem cl_25 {ρ : List Int} {cM : mj_M} {r : Int} (h : ai_mm ρ kz_M cM) (hr : ρ[11]? = some r) : ∃ a b c d : Value, cM[25]? = some (cl_h a b c d r) ∧ ∀ (ρ' : List Int) (v : Int), ai_le ρ ρ' → ρ'[116]? = some v → ai_e ρ' (0, 0, cl_i25.set 12 (1, 116)) (cl_h a b c d v) := by
  obtain ⟨e, he, fs, rfl, hf⟩ := ai_mm_get (k := 25) h rfl
  have hf : ai_ss ρ cl_i25 fs := hf
  have e1 := bqv_ss hf
  have e2 : fs = [.ref 1, .ref 26, .ref 27, .ref 28, .ref 29, .ref 30, .ref 31, .ref 32, bqv ρ (1, 7), bqv ρ (1, 8), bqv ρ (1, 9), bqv ρ (1, 10), hv r] := by
    rw [e1]
    show [bqv ρ (4, 1), bqv ρ (4, 26), bqv ρ (4, 27), bqv ρ (4, 28), bqv ρ (4, 29), bqv ρ (4, 30), bqv ρ (4, 31), bqv ρ (4, 32), bqv ρ (1, 7), bqv ρ (1, 8), bqv ρ (1, 9), bqv ρ (1, 10), bqv ρ (1, 11)] = _
    rw [bqv_1 (a := 11) hr]
    rfl
  refine ⟨bqv ρ (1, 7), bqv ρ (1, 8), bqv ρ (1, 9), bqv ρ (1, 10), by rw [he, e2], fun ρ' v hle hv9 => ?_⟩
  have g := ai_ss_set (k := 12) (ai_ss_mono hle hf) (bqc_1 (a := 116) hv9)
  rw [e2] at g
  exact ⟨_, rfl, g⟩
def cl_Mf : ai_M := (kz_M.set 25 (0, 0, cl_i25.set 12 (1, 116))).set 80 (0, 6, bl_i80.set 4 (1, 116))
theorem hc_force {lch : Launch} {d : Nat} {cM : mj_M} {v r : Int} {cnt : Nat} {a b c e : Value} {fs : List Value} (hd : 1 ≤ d) (h0 : cM[0]? = some (.inr (5, .ref 1 :: .ref 18 :: .ref 25 :: fs))) (h1 : cM[1]? = some (tx1 cnt)) (h25 : cM[25]? = some (cl_h a b c e r)) (hcnt : cnt ≤ 6) (hv9 : hr v) :
    mj_Me lch 75 d 0 0 [.ref 0, hv v] cM (fun rv M' => ((0 ≤ v ∧ v < cnt) ∧ rv = some (hv r) ∧ M' = cM.set 25 (cl_h a b c e v)) ∨ ((v < 0 ∨ (cnt : Int) ≤ v) ∧ rv = some (hv (-2)) ∧ M' = cM)) := by
  refine mj_Me_of (by decide) (by omega) (Nat.le_of_ble_eq_true rfl) ?_
  intro L xs J R1 R2 R3
  show J 0 0 cM 0 [(0, .ref 0), (1, hv v)] []
  refine jr_iload_n R1 d_75_0 rfl ?_
  by_cases g1 : v < 0
  · refine jr_ifc R1 true d_75_1 hv9 (by unfold hcb; exact decide_eq_true (by omega)) (by decide) (pc' := 15) rfl ?_
    refine jr_bipush R1 d_75_15 (by decide) ?_
    refine jr_reti R3 d_75_17 rfl ?_
    exact Or.inr ⟨Or.inl g1, rfl, rfl⟩
  · refine jr_ifc R1 false d_75_1 hv9 (by unfold hcb; exact decide_eq_false (by omega)) (by decide) (pc' := 4) rfl ?_
    refine jr_iload_n R1 d_75_4 rfl ?_
    refine jr_aload_n R1 d_75_5 rfl ?_
    refine jr_getf R1 d_75_6 h0 (by decide) rfl ?_
    refine jr_getf R1 d_75_9 h1 (by decide) rfl ?_
    by_cases g2 : v < cnt
    · refine jr_icmp R1 true d_75_12 hv9 ⟨by omega, by omega⟩ (by unfold hcb; exact decide_eq_true (by omega)) (by decide) (pc' := 18) rfl ?_
      refine jr_aload_n R1 d_75_18 rfl ?_
      refine jr_getf R1 d_75_19 h0 (by decide) rfl ?_
      refine jr_getf R1 d_75_22 h25 (by decide) rfl ?_
      refine jr_istore_n R1 d_75_25 (by decide) (lo' := [(2, hv r), (0, .ref 0), (1, hv v)]) rfl ?_
      refine jr_aload_n R1 d_75_26 rfl ?_
      refine jr_getf R1 d_75_27 h0 (by decide) rfl ?_
      refine jr_iload_n R1 d_75_30 rfl ?_
      refine jr_putf R1 d_75_31 h25 (by decide) (by simp) rfl rfl (M' := cM.set 25 (cl_h a b c e v)) rfl ?_
      refine jr_iload_n R1 d_75_34 rfl ?_
      refine jr_reti R3 d_75_35 rfl ?_
      exact Or.inl ⟨⟨by omega, g2⟩, rfl, rfl⟩
    · refine jr_icmp R1 false d_75_12 hv9 ⟨by omega, by omega⟩ (by unfold hcb; exact decide_eq_false (by omega)) (by decide) (pc' := 15) rfl ?_
      refine jr_bipush R1 d_75_15 (by decide) ?_
      refine jr_reti R3 d_75_17 rfl ?_
      exact Or.inr ⟨Or.inr (by omega), rfl, rfl⟩
def cl_A (A : Nat → Value) (v : Int) : Nat → Value := fun k => if k = 4 then hv v else A k
theorem mh_force {lch : Launch} {d : Nat} {C : mj_M} {A : Nat → Value} {U : Nat → Int} {Z : List Value} {cnt : Nat} {tp fr sz he to ta wo op ba fa v r : Int} (hd : 2 ≤ d) (hC : 84 ≤ C.length) (h4 : A 4 = hv r) (hcnt : cnt ≤ 6) (hv9 : hr v) :
    mj_Me lch 130 d 0 0 [.ref 80, hv v] (md C A U Z (cnt : Int) tp fr sz he to ta wo op ba fa) (fun rv M' => ((0 ≤ v ∧ v < cnt) ∧ rv = some (hv r) ∧ M' = md C (cl_A A v) U Z (cnt : Int) tp fr sz he to ta wo op ba fa) ∨ ((v < 0 ∨ (cnt : Int) ≤ v) ∧ rv = some (hv (-2)) ∧ M' = md C A U Z (cnt : Int) tp fr sz he to ta wo op ba fa)) := by
  refine mj_Me_of (by decide) (by omega) (Nat.le_of_ble_eq_true rfl) ?_
  intro L xs J R1 R2 R3
  show J 0 0 (md C A U Z (cnt : Int) tp fr sz he to ta wo op ba fa) 0 [(0, .ref 80), (1, hv v)] []
  refine jr_iload_n R1 d_130_0 rfl ?_
  refine jl_i2l R1 hv9 d_130_1 ?_
  refine jl_const R1 d_130_2 ?_
  refine jr_aload_n R1 d_130_3 rfl ?_
  refine jr_getf R1 d_130_4 (md_80 hC) (by decide) rfl ?_
  refine jr_iconst R1 d_130_7 ?_
  refine jr_isub R1 d_130_8 ?_
  refine jl_i2l R1 ⟨by omega, by omega⟩ d_130_9 ?_
  refine jr_calls R2 d_130_10 (by decide) (by decide) rfl (as := [hl v, hl 0, hl ((cnt : Int) - 1)]) (rest := []) rfl (hm_in (d := 1) (M := md C A U Z (cnt : Int) tp fr sz he to ta wo op ba fa) (by omega) (hR_hr hv9) ⟨by omega, by omega⟩ ⟨by omega, by omega⟩) (by omega) (Nat.le_of_ble_eq_true rfl) ?_
  rintro rv M9 ⟨rfl, rfl⟩
  show J 0 0 (md C A U Z (cnt : Int) tp fr sz he to ta wo op ba fa) 13 [(0, .ref 80), (1, hv v)] [hv (if 0 ≤ v ∧ v ≤ (cnt : Int) - 1 then 1 else 0)]
  by_cases h : 0 ≤ v ∧ v ≤ (cnt : Int) - 1
  · rw [if_pos h]
    refine jr_ifc R1 true d_130_13 ⟨by omega, by omega⟩ (by unfold hcb; exact decide_eq_true (by omega)) (by decide) (pc' := 19) rfl ?_
    refine jr_aload_n R1 d_130_19 rfl ?_
    refine jr_getf R1 d_130_20 (md_80 hC) (by decide) (v := A 4) rfl ?_
    rw [h4]
    refine jr_istore_n R1 d_130_23 (by decide) (lo' := [(2, hv r), (0, .ref 80), (1, hv v)]) rfl ?_
    refine jr_aload_n R1 d_130_24 rfl ?_
    refine jr_iload_n R1 d_130_25 rfl ?_
    refine jr_putf R1 d_130_26 (md_80 hC) (by decide) (md_pl (by decide)) rfl rfl (M' := md C (cl_A A v) U Z (cnt : Int) tp fr sz he to ta wo op ba fa) (List.set_set _) ?_
    refine jr_iload_n R1 d_130_29 rfl ?_
    refine jr_reti R3 d_130_30 rfl ?_
    exact Or.inl ⟨by omega, rfl, rfl⟩
  · rw [if_neg h]
    refine jr_ifc R1 false d_130_13 ⟨by omega, by omega⟩ (by unfold hcb; exact decide_eq_false (by omega)) (by decide) (pc' := 16) rfl ?_
    refine jr_bipush R1 d_130_16 (by decide) ?_
    refine jr_reti R3 d_130_18 rfl ?_
    exact Or.inr ⟨by omega, rfl, rfl⟩
/-- the law's case force -/
theorem cl_force {lch : Launch} {D L : Nat} {xs : Nat → Int32} {J : mj_JT} {ρ : List Int} {cM : mj_M} {x : Int32} (hL : L ≤ 3072) (hD : 60 ≤ D) (R1 : mj_R1 L xs 193 (ai_ow 193) (ai_nl 193) (Nat.beq (mj_ki 193) 2) 600000 7302250 J) (R2 : mj_R2 lch 193 D 600000 7302250 J) (hh : al_hd ρ cM x) (hx6 : x.toInt + 6 ≤ (L : Int)) {cnt : Nat} {r : Int} {n2 : Int} (n1 : ρ[1]? = some (cnt : Int)) (n49 : ρ[49]? = some (cnt : Int)) (n11 : ρ[11]? = some r) (n50 : ρ[50]? = some r)
    (K : ∀ (cM2 : mj_M) (v : Int), 0 ≤ v ∧ v ≤ 5 → ai_mm (al_rho ρ L xs x ++ [v]) cl_Mf cM2 → cM2[19]? = cM[19]? → cM2[83]? = cM[83]? → J 102 3945 cM2 1041 (al_lc x) []) : J 102 3945 cM 418 (al_lc x) [] := by
  have h51 := nz_get (k := 51) hh.1 rfl
  obtain ⟨A, U, Z, fr, sz, he, to, ta, wo, op, ba, fa, h80, hss, -⟩ := bl_x80 hh n49 h51.1
  generalize nz ρ 51 = tp at h80 hss h51
  have hm := hh.2.2.1
  have hlen := bx_len hm
  have hcnt : cnt ≤ 6 := by
    have := (hh.1.2 1 _ _ n1 rfl).2
    simp only at this
    omega
  have hrb := hh.1.2 11 _ _ n11 rfl
  simp only at hrb
  have hx0 : 0 ≤ x.toInt := by
    have := (hh.1.2 108 _ _ hh.2.2.2 (by
      rw [List.getElem?_append_right (by rw [al_TIn]; exact Nat.le_refl _), al_TIn]
      rfl)).1
    simp only at this
    exact this
  obtain ⟨fs0, h0⟩ := cl_0 hm
  have h1 := bx_1 hm n1
  obtain ⟨a, b, c, e, h25, hE25⟩ := cl_25 hm n11
  have hA4 : A 4 = hv r := by
    obtain ⟨w, w1, w2⟩ := ai_ss_get (k := 4) hss rfl
    cases w1
    have w3 : ai_c ρ (1, 50) = some (hv r) := bqc_1 (a := 50) n50
    exact (Option.some.inj (w3.symm.trans w2)).symm
  have hle := al_hd_rho (ρ := ρ) (cM := cM) (x := x) (L := L) (xs := xs)
  have R1' := bl_R1 R1
  have R2' := bl_R2 R2
  have hkeep : J 102 3945 cM 1041 (al_lc x) [] := by
    refine K cM r hrb ?_ rfl rfl
    have q1 := ai_mm_set (k := 25) (ai_mm_mono (hle [r]) hm) (hE25 _ r (hle [r]) (bl_num hh 0 rfl rfl))
    rw [set_same h25] at q1
    have g := ai_ss_set (k := 4) (ai_ss_mono (hle [r]) hss) (bqc_1 (a := 116) (bl_num (L := L) (xs := xs) (νs := [r]) hh 0 rfl rfl))
    have q2 := ai_mm_set (k := 80) (e := (0, 6, bl_i80.set 4 (1, 116))) q1 ⟨_, rfl, g⟩
    have e4 : (mdf A U Z (cnt : Int) tp fr sz he to ta wo op ba fa).set 4 (hv r) = mdf A U Z (cnt : Int) tp fr sz he to ta wo op ba fa := by
      rw [← hA4]
      rfl
    rw [e4, set_same h80] at q2
    exact q2
  rw [bl_lc_eq] at K hkeep ⊢
  show bl_J J 0 0 cM 418 (bl_lc x.toInt) []
  refine jr_aload_n R1' d_193_418 rfl ?_
  refine jr_aload_x R1' d_193_419 rfl ?_
  refine jr_iload_n R1' d_193_420 rfl ?_
  refine jr_iconst R1' d_193_421 ?_
  refine jr_iadd R1' d_193_422 ?_
  refine jr_scr R1' d_193_423 (by omega) (by omega) hL ?_
  have hv0 : ∀ k, hr (xs k).toInt := fun k => ⟨Int32.le_toInt _, by have := Int32.toInt_lt (xs k); omega⟩
  generalize hy : (xs (x.toInt + 1).toNat).toInt = y
  have hyr : hr y := by rw [← hy]; exact hv0 _
  refine jr_callv R2' d_193_424 (by decide) rfl (as := [.ref 0, hv y]) (rest := []) rfl (by unfold mj_rc; rw [show (_ : List Value).headD _ = .ref 0 from rfl]; simp only [h0]; decide) (hc_force (d := 1) (v := y) (Nat.le_refl _) h0 h1 h25 hcnt hyr) (by omega) (Nat.le_of_ble_eq_true rfl) ?_
  rintro rv M9 (⟨hy1, rfl, rfl⟩ | ⟨hy1, rfl, e9⟩)
  · obtain ⟨M1, hM1⟩ : ∃ B, B = cM.set 25 (cl_h a b c e y) := ⟨_, rfl⟩
    rw [← hM1]
    have lM1 : M1.length = 102 := by rw [hM1, List.length_set]; exact hlen
    have m80 : M1[80]? = some (.inr (6, mdf A U Z (cnt : Int) tp fr sz he to ta wo op ba fa)) := by rw [hM1, List.getElem?_set_ne (by decide)]; exact h80
    have hmf := mh_force (lch := lch) (d := 2) (C := M1) (U := U) (Z := Z) (cnt := cnt) (tp := tp) (fr := fr) (sz := sz) (he := he) (to := to) (ta := ta) (wo := wo) (op := op) (ba := ba) (fa := fa) (v := y) (Nat.le_refl _) (by omega) hA4 hcnt hyr
    have emd : md M1 A U Z (cnt : Int) tp fr sz he to ta wo op ba fa = M1 := md_self m80
    rw [emd] at hmf
    refine jr_aload_n R1' d_193_427 rfl ?_
    refine jr_aload_x R1' d_193_428 rfl ?_
    refine jr_iload_n R1' d_193_429 rfl ?_
    refine jr_iconst R1' d_193_430 ?_
    refine jr_iadd R1' d_193_431 ?_
    refine jr_scr R1' d_193_432 (by omega) (by omega) hL ?_
    rw [hy]
    refine jr_callv R2' d_193_433 (by decide) rfl (as := [.ref 80, hv y]) (rest := [hv r]) rfl (by unfold mj_rc; rw [show (_ : List Value).headD _ = .ref 80 from rfl]; simp only [m80]; decide) hmf (by omega) (Nat.le_of_ble_eq_true rfl) ?_
    rintro rv M9 (⟨hy2, rfl, rfl⟩ | ⟨hy2, rfl, e9⟩)
    · refine jr_icmp R1' true d_193_436 ⟨by omega, by omega⟩ ⟨by omega, by omega⟩ (by unfold hcb; exact decide_eq_true rfl) (by decide) (pc' := 1041) rfl ?_
      refine K _ y (by omega) ?_ ?_ ?_
      · have q1 := ai_mm_set (k := 25) (ai_mm_mono (hle [y]) hm) (hE25 _ y (hle [y]) (bl_num hh 0 rfl rfl))
        have g := ai_ss_set (k := 4) (ai_ss_mono (hle [y]) hss) (bqc_1 (a := 116) (bl_num (L := L) (xs := xs) (νs := [y]) hh 0 rfl rfl))
        have q2 := ai_mm_set (k := 80) (e := (0, 6, bl_i80.set 4 (1, 116))) q1 ⟨_, rfl, g⟩
        rw [hM1]
        exact q2
      · rw [md_o (by decide), hM1, List.getElem?_set_ne (by decide)]
      · rw [md_o (by decide), hM1, List.getElem?_set_ne (by decide)]
    · exfalso; omega
  · rw [e9]
    have hmf := mh_force (lch := lch) (d := 2) (C := cM) (U := U) (Z := Z) (cnt := cnt) (tp := tp) (fr := fr) (sz := sz) (he := he) (to := to) (ta := ta) (wo := wo) (op := op) (ba := ba) (fa := fa) (v := y) (Nat.le_refl _) (by omega) hA4 hcnt hyr
    have emd : md cM A U Z (cnt : Int) tp fr sz he to ta wo op ba fa = cM := md_self h80
    rw [emd] at hmf
    refine jr_aload_n R1' d_193_427 rfl ?_
    refine jr_aload_x R1' d_193_428 rfl ?_
    refine jr_iload_n R1' d_193_429 rfl ?_
    refine jr_iconst R1' d_193_430 ?_
    refine jr_iadd R1' d_193_431 ?_
    refine jr_scr R1' d_193_432 (by omega) (by omega) hL ?_
    rw [hy]
    refine jr_callv R2' d_193_433 (by decide) rfl (as := [.ref 80, hv y]) (rest := [hv (-2)]) rfl (by unfold mj_rc; rw [show (_ : List Value).headD _ = .ref 80 from rfl]; simp only [h80]; decide) hmf (by omega) (Nat.le_of_ble_eq_true rfl) ?_
    rintro rv M9 (⟨hy2, -, -⟩ | ⟨hy2, rfl, e9⟩)
    · exfalso; omega
    · rw [e9]
      refine jr_icmp R1' true d_193_436 ⟨by omega, by omega⟩ ⟨by omega, by omega⟩ (by unfold hcb; exact decide_eq_true rfl) (by decide) (pc' := 1041) rfl ?_
      exact hkeep
/-- from every state at the head; back with an image (A), without one (B) -/
theorem cl_loop {lch : Launch} {cf cA cB : ak_CF} {D L : Nat} {xs : Nat → Int32} {J : mj_JT} (hL : L ≤ 3072) (hD : 60 ≤ D) (hC : ak_hC lch cf bl_W D []) (hCA : ak_hC lch cA bl_W D []) (hCB : ak_hC lch cB bl_W D []) (R1 : mj_R1 L xs 193 (ai_ow 193) (ai_nl 193) (Nat.beq (mj_ki 193) 2) 600000 7302250 J) (R2 : mj_R2 lch 193 D 600000 7302250 J)
    (R3 : ∀ (ce sl : Nat) (M : mj_M) (pc : Nat) (lo : mj_L) (st : List Value) (ins : Instr) (len r1 r2 : Nat), mj_cd 193 pc = some (ins, len, r1, r2) → mj_rtn (some .boolean) ins len st = some (some (.int 1)) → ce ≤ 600000 → sl ≤ 7302250 → J ce sl M pc lo st)
    (R4 : mj_R4 J) {n nt : Nat} (hk : bl_kl cf cl_cm n 18 al_T0 kz_M al_l0 [] al_X0 = true) (hkt : bl_kl cf (cl_ct cl_pt) nt 1041 bl_Tb bl_Ma al_l0 [] al_X0 = true) (hkf : bl_kl cf (cl_ct cl_pf) nt 1041 cl_Tf cl_Mf al_l0 [] al_X0 = true)
    (hkA : bl_kl cA (cl_ct cl_pa) nt 770 cl_TA kz_M al_l0 [] al_X0 = true) (hkB : bl_kl cB (cl_ct cl_pk) nt 770 cl_TB kz_M al_l0 [] al_X0 = true) : ∀ (m : Nat) (ρ : List Int) (cM : mj_M) (x : Int32), al_hd ρ cM x → cl_rel ρ cM → (3072 - x.toInt).toNat < m → J 102 3945 cM 18 (al_lc x) []
  | 0, _, _, _, _, _, h => absurd h (Nat.not_lt_zero _)
  | m + 1, ρ, cM, x, hh, hrl, hm => by
    obtain ⟨h1, h2, h3⟩ := al_hd_G (L := L) (xs := xs) hL hh
    have hle0 : ai_le ρ (al_rho ρ L xs x) := ai_le_app _
    refine bl_kl_ok (cM0 := cM) (ρ0 := al_rho ρ L xs x) hL hC R1 R2 R3 ?_ n 18 _ _ _ _ _ (al_rho ρ L xs x) cM _ _ hk ⟨h1, ai_le_rf⟩ h2 h3 ak_fr_rf
    intro pc T M l st X ρ' cM' cl' cst' h hsc hG hx hfr
    have hle := ai_le_tr hle0 hsc.2
    have hz8 := hsc.1.2.2.1
    have keep : ∀ {σ : List ai_V} {ρc : List Int}, ak_rel ρ' σ ρc → cl_ks σ cl_pk = true → cl_rel ρc cM' := fun hr hf => by
      obtain ⟨cnt, nn, r, hi, mk, k1, k2, n1, n49, n2, n51, n0, n11, n21, n50, n84, n80, hc, htp⟩ := hrl
      exact ⟨cnt, nn, r, hi, mk, k1, k2, cl_ks_ok hr hf (List.mem_of_getElem? (i := 0) rfl) (bl_zi (hle _ _ n1)), cl_ks_ok hr hf (List.mem_of_getElem? (i := 1) rfl) (bl_zi (hle _ _ n49)), cl_ks_ok hr hf (List.mem_of_getElem? (i := 2) rfl) (bl_zi (hle _ _ n2)), cl_ks_ok hr hf (List.mem_of_getElem? (i := 3) rfl) (bl_zi (hle _ _ n51)), cl_ks_ok hr hf (List.mem_of_getElem? (i := 4) rfl) (bl_zi (hle _ _ n0)), cl_ks_ok hr hf (List.mem_of_getElem? (i := 5) rfl) (bl_zi (hle _ _ n11)), cl_ks_ok hr hf (List.mem_of_getElem? (i := 6) rfl) (bl_zi (hle _ _ n21)), cl_ks_ok hr hf (List.mem_of_getElem? (i := 7) rfl) (bl_zi (hle _ _ n50)), cl_ks_ok hr hf (List.mem_of_getElem? (i := 8) rfl) (bl_zi (hle _ _ n84)), cl_ks_ok hr hf (List.mem_of_getElem? (i := 9) rfl) (bl_zi (hle _ _ n80)), hc, bl_tpfr htp hfr⟩
    unfold cl_cm at h
    cases hp : Nat.beq pc 18 with
    | true =>
      rw [hp, cond_true] at h
      obtain rfl := ai_bq hp
      obtain ⟨x', σ, ρc, rfl, hsub, hf, hr, hh'⟩ := al_ar_ok h hG hx
      rw [Bool.and_eq_true, Bool.or_eq_true] at hf
      have hlt := bl_lt (σn := []) hG hx hr hh' hz8 hf.1
      have hz := hh'.1.2 108 _ _ hh'.2.2.2 (show (kz_TI ++ [((0 : Int), (3072 : Int))])[108]? = some (0, 3072) by
        rw [List.getElem?_append_right (by rw [al_TIn]; exact Nat.le_refl _), al_TIn]
        rfl)
      simp only at hz
      have hrl' : cl_rel ρc cM' := by
        rcases hf.2 with hf2 | hf2
        · exact keep hr hf2
        · obtain ⟨cnt, nn, r, hi, mk, k1, k2, n1, n49, n2, n51, n0, n11, n21, n50, n84, n80, hc, htp⟩ := hrl
          have h55 := nz_get (k := 55) hh.1 rfl
          exact ⟨cnt, nn, r, 1, nz ρ 55, r, r, cl_ks_ok hr hf2 (List.mem_of_getElem? (i := 0) rfl) (bl_zi (hle _ _ n1)), cl_ks_ok hr hf2 (List.mem_of_getElem? (i := 1) rfl) (bl_zi (hle _ _ n49)), cl_ks_ok hr hf2 (List.mem_of_getElem? (i := 2) rfl) (bl_zi (hle _ _ n2)), cl_ks_ok hr hf2 (List.mem_of_getElem? (i := 3) rfl) (bl_zi (hle _ _ n51)), cl_ks_ok hr hf2 (List.mem_of_getElem? (i := 4) rfl) rfl, cl_ks_ok hr hf2 (List.mem_of_getElem? (i := 5) rfl) (bl_zi (hle _ _ n11)), cl_ks_ok hr hf2 (List.mem_of_getElem? (i := 6) rfl) (bl_zi (hle _ _ n11)), cl_ks_ok hr hf2 (List.mem_of_getElem? (i := 7) rfl) (bl_zi (hle _ _ n50)), cl_ks_ok hr hf2 (List.mem_of_getElem? (i := 8) rfl) (bl_zi (hle _ _ n50)), cl_ks_ok hr hf2 (List.mem_of_getElem? (i := 9) rfl) (bl_zi (hle _ _ h55.1)), Or.inr ⟨rfl, h55.2.1, rfl⟩, bl_tpfr htp hfr⟩
      exact R4 102 3945 cM' 18 cl' (al_lc x') [] hsub (cl_loop hL hD hC hCA hCB R1 R2 R3 R4 hk hkt hkf hkA hkB m ρc cM' x' hh' hrl' (by omega))
    | false =>
      rw [hp, cond_false] at h
      have hbh := bl_bb h
      clear h
      obtain ⟨h9, h⟩ := hbh
      obtain ⟨x', σ, ρc, rfl, hsub, hf, hr, hh'⟩ := al_ar_ok h hG hx
      unfold bl_g at hf
      rw [Bool.and_eq_true, Bool.and_eq_true] at hf
      obtain ⟨⟨hf1, hf2⟩, hf3⟩ := hf
      have hxx : x'.toInt = x.toInt := by
        simp only [ai_at_eq] at hf1
        split at hf1
        · rename_i w hw
          rw [ak_veq_ok hf1] at hw
          obtain ⟨-, y, b, c⟩ := hr.2 _ _ hw
          have c : ρ'[108]? = some y := c
          cases c.symm.trans hz8
          exact Option.some.inj (hh'.2.2.2.symm.trans b)
        · cases hf1
      have hx6 : x'.toInt + 6 ≤ (L : Int) := by
        rw [hxx]
        refine ak_le_ok hG.1 hx (?_ : ak_v ρ' (1, 108, 0) = some x.toInt) (?_ : ak_v ρ' (1, 109, 0) = some (L : Int)) hf2
        · show (ρ'[108]?).map _ = _
          rw [hz8]
          simp
        · show (ρ'[109]?).map _ = _
          rw [hsc.1.2.2.2.1]
          simp
      have hrl' := keep hr hf3
      clear keep hf3 hr hrl
      have ih : ∀ (ρd : List Int) (cM3 : mj_M) (x3 : Int32), al_hd ρd cM3 x3 → cl_rel ρd cM3 → x'.toInt + 1 ≤ x3.toInt → J 102 3945 cM3 18 (al_lc x3) [] := fun ρd cM3 x3 a b c => cl_loop hL hD hC hCA hCB R1 R2 R3 R4 hk hkt hkf hkA hkB m ρd cM3 x3 a b (by omega)
      obtain ⟨g1, g2, g3⟩ := al_hd_G (L := L) (xs := xs) hL hh'
      have gle0 : ai_le ρc (al_rho ρc L xs x') := ai_le_app _
      have gs := bl_satset (q := (0, 3066)) g2.1 g1.2.2.1 g1.1 (by show x'.toInt ≤ 3066; omega)
      have hbl := cl_rel_bl hrl'
      obtain ⟨cnt, nn, r, hi, mk, k1, k2, n1, n49, n2, n51, n0, n11, n21, n50, n84, n80, hc, htp⟩ := hrl'
      have K : ∀ cM2, bl_aft ρc L xs x' cM2 → J 102 3945 cM2 1041 (al_lc x') [] := fun cM2 haft => by
        obtain ⟨νs, s1, m1, cnt2, nn2, c1, c2, htp2⟩ := haft
        have hle9 : ai_le (al_rho ρc L xs x') (al_rho ρc L xs x' ++ νs) := ai_le_app _
        have gle : ai_le ρc (al_rho ρc L xs x' ++ νs) := ai_le_tr gle0 hle9
        have e116 := bl_num (L := L) (xs := xs) (νs := νs) hh' 0 rfl c1
        have e117 := bl_num (L := L) (xs := xs) (νs := νs) hh' 1 rfl c2
        exact cl_run hL hC R1 R2 R3 R4 hkt hh' hle9 (by rw [bl_Tb_eq]; exact ak_sat_app gs s1) m1 (fun ρd cM3 x3 a b f c => ih ρd cM3 x3 a ⟨cnt2, nn2, r, hi, mk, k1, k2, b 1 _ _ (List.mem_of_getElem? (i := 0) rfl) (bl_zi e116), b 49 _ _ (List.mem_of_getElem? (i := 1) rfl) (bl_zi e116), b 2 _ _ (List.mem_of_getElem? (i := 2) rfl) (bl_zi e117), b 51 _ _ (List.mem_of_getElem? (i := 3) rfl) (bl_zi e117), b 0 _ _ (List.mem_of_getElem? (i := 4) rfl) (bl_zi (gle _ _ n0)), b 11 _ _ (List.mem_of_getElem? (i := 5) rfl) (bl_zi (gle _ _ n11)), b 21 _ _ (List.mem_of_getElem? (i := 6) rfl) (bl_zi (gle _ _ n21)), b 50 _ _ (List.mem_of_getElem? (i := 7) rfl) (bl_zi (gle _ _ n50)), b 84 _ _ (List.mem_of_getElem? (i := 8) rfl) (bl_zi (gle _ _ n84)), b 80 _ _ (List.mem_of_getElem? (i := 9) rfl) (bl_zi (gle _ _ n80)), hc, bl_tpfr htp2 f⟩ c)
      simp only [Bool.or_eq_true] at h9
      rcases h9 with (h9 | h9) | (h9 | h9)
      · obtain rfl := ai_bq h9
        exact R4 102 3945 cM' 382 cl' (al_lc x') [] hsub (bl_feed hL hD R1 R2 hh' hbl hx6 K)
      · obtain rfl := ai_bq h9
        exact R4 102 3945 cM' 405 cl' (al_lc x') [] hsub (bl_text hL hD R1 R2 hh' hbl hx6 K)
      · obtain rfl := ai_bq h9
        refine R4 102 3945 cM' 418 cl' (al_lc x') [] hsub (cl_force hL hD R1 R2 hh' hx6 (n2 := 0) n1 n49 n11 n50 (fun cM2 v hv m1 e19 e83 => ?_))
        have hle9 : ai_le (al_rho ρc L xs x') (al_rho ρc L xs x' ++ [v]) := ai_le_app _
        have gle : ai_le ρc (al_rho ρc L xs x' ++ [v]) := ai_le_tr gle0 hle9
        have e116 : (al_rho ρc L xs x' ++ [v])[116]? = some v := bl_num hh' 0 rfl rfl
        have htp2 : bl_tp cM2 nn := by
          obtain ⟨f19, f83, a, b, c⟩ := htp
          exact ⟨f19, f83, by rw [e19]; exact a, by rw [e83]; exact b, c⟩
        have s1 : ai_sat [v] [((0 : Int), (5 : Int))] := ⟨rfl, fun k z q a b => by
          cases k with
          | zero => cases a; cases b; exact hv
          | succ k => cases a⟩
        exact cl_run hL hC R1 R2 R3 R4 hkf hh' hle9 (by rw [cl_Tf_eq]; exact ak_sat_app gs s1) m1 (fun ρd cM3 x3 a b f c => ih ρd cM3 x3 a ⟨cnt, nn, v, hi, mk, k1, k2, b 1 _ _ (List.mem_of_getElem? (i := 0) rfl) (bl_zi (gle _ _ n1)), b 49 _ _ (List.mem_of_getElem? (i := 1) rfl) (bl_zi (gle _ _ n49)), b 2 _ _ (List.mem_of_getElem? (i := 2) rfl) (bl_zi (gle _ _ n2)), b 51 _ _ (List.mem_of_getElem? (i := 3) rfl) (bl_zi (gle _ _ n51)), b 0 _ _ (List.mem_of_getElem? (i := 4) rfl) (bl_zi (gle _ _ n0)), b 11 _ _ (List.mem_of_getElem? (i := 5) rfl) (bl_zi e116), b 21 _ _ (List.mem_of_getElem? (i := 6) rfl) (bl_zi (gle _ _ n21)), b 50 _ _ (List.mem_of_getElem? (i := 7) rfl) (bl_zi e116), b 84 _ _ (List.mem_of_getElem? (i := 8) rfl) (bl_zi (gle _ _ n84)), b 80 _ _ (List.mem_of_getElem? (i := 9) rfl) (bl_zi (gle _ _ n80)), hc, bl_tpfr htp2 f⟩ c)
      · obtain rfl := ai_bq h9
        refine R4 102 3945 cM' 770 cl' (al_lc x') [] hsub ?_
        have gm : ai_mm (al_rho ρc L xs x') kz_M cM' := g2.2.1
        have hmk := hh'.1.2 80 _ _ n80 rfl
        simp only at hmk
        rcases hc with ⟨c0, c1⟩ | ⟨c0, c1, c2⟩
        · exact cl_run hL hCB R1 R2 R3 R4 hkB hh' ai_le_rf (by rw [cl_TB_eq]; exact bl_satset (bl_satset gs (gle0 _ _ n0) (by show 0 ≤ hi; omega) (by show hi ≤ 0; omega)) (gle0 _ _ n80) (by show -1 ≤ mk; omega) (by show mk ≤ -1; omega)) gm (fun ρd cM3 x3 a b f c => ih ρd cM3 x3 a ⟨cnt, nn, r, hi, mk, k1, k2, b 1 _ _ (List.mem_of_getElem? (i := 0) rfl) (bl_zi (gle0 _ _ n1)), b 49 _ _ (List.mem_of_getElem? (i := 1) rfl) (bl_zi (gle0 _ _ n49)), b 2 _ _ (List.mem_of_getElem? (i := 2) rfl) (bl_zi (gle0 _ _ n2)), b 51 _ _ (List.mem_of_getElem? (i := 3) rfl) (bl_zi (gle0 _ _ n51)), b 0 _ _ (List.mem_of_getElem? (i := 4) rfl) (bl_zi (gle0 _ _ n0)), b 11 _ _ (List.mem_of_getElem? (i := 5) rfl) (bl_zi (gle0 _ _ n11)), b 21 _ _ (List.mem_of_getElem? (i := 6) rfl) (bl_zi (gle0 _ _ n21)), b 50 _ _ (List.mem_of_getElem? (i := 7) rfl) (bl_zi (gle0 _ _ n50)), b 84 _ _ (List.mem_of_getElem? (i := 8) rfl) (bl_zi (gle0 _ _ n84)), b 80 _ _ (List.mem_of_getElem? (i := 9) rfl) (bl_zi (gle0 _ _ n80)), Or.inl ⟨c0, c1⟩, bl_tpfr htp f⟩ c)
        · subst c2
          exact cl_run hL hCA R1 R2 R3 R4 hkA hh' ai_le_rf (by rw [cl_TA_eq]; exact bl_satset (bl_satset gs (gle0 _ _ n0) (by show 1 ≤ hi; omega) (by show hi ≤ 1; omega)) (gle0 _ _ n80) (by show 0 ≤ mk; omega) (by show mk ≤ 5; omega)) gm (fun ρd cM3 x3 a b f c => ih ρd cM3 x3 a ⟨cnt, nn, _, hi, mk, _, _, b 1 _ _ (List.mem_of_getElem? (i := 0) rfl) (bl_zi (gle0 _ _ n1)), b 49 _ _ (List.mem_of_getElem? (i := 1) rfl) (bl_zi (gle0 _ _ n49)), b 2 _ _ (List.mem_of_getElem? (i := 2) rfl) (bl_zi (gle0 _ _ n2)), b 51 _ _ (List.mem_of_getElem? (i := 3) rfl) (bl_zi (gle0 _ _ n51)), b 0 _ _ (List.mem_of_getElem? (i := 4) rfl) (bl_zi (gle0 _ _ n0)), b 11 _ _ (List.mem_of_getElem? (i := 5) rfl) (bl_zi (gle0 _ _ n21)), b 21 _ _ (List.mem_of_getElem? (i := 6) rfl) (bl_zi (gle0 _ _ n21)), b 50 _ _ (List.mem_of_getElem? (i := 7) rfl) (bl_zi (gle0 _ _ n84)), b 84 _ _ (List.mem_of_getElem? (i := 8) rfl) (bl_zi (gle0 _ _ n84)), b 80 _ _ (List.mem_of_getElem? (i := 9) rfl) (bl_zi (gle0 _ _ n80)), Or.inr ⟨c0, c1, rfl⟩, bl_tpfr htp f⟩ c)
/-- the first state -/
theorem cl_init {ρ ρc : List Int} {σ : List ai_V} {cM : mj_M} {x : Int32} (hf : cl_ks σ cl_p0 = true) (hr : ak_rel ρ σ ρc) (hh : al_hd ρc cM x) : cl_rel ρc cM := by
  obtain ⟨f19, a1, a2, a3⟩ := bx_row (c := 19) hh.2.2.1 rfl
  obtain ⟨f83, b1, b2, b3⟩ := bx_row (c := 83) hh.2.2.1 rfl
  exact ⟨1, 0, 0, 0, -1, 0, 0, cl_ks_ok hr hf (List.mem_of_getElem? (i := 0) rfl) rfl, cl_ks_ok hr hf (List.mem_of_getElem? (i := 1) rfl) rfl, cl_ks_ok hr hf (List.mem_of_getElem? (i := 2) rfl) rfl, cl_ks_ok hr hf (List.mem_of_getElem? (i := 3) rfl) rfl, cl_ks_ok hr hf (List.mem_of_getElem? (i := 4) rfl) rfl, cl_ks_ok hr hf (List.mem_of_getElem? (i := 5) rfl) rfl, cl_ks_ok hr hf (List.mem_of_getElem? (i := 6) rfl) rfl, cl_ks_ok hr hf (List.mem_of_getElem? (i := 7) rfl) rfl, cl_ks_ok hr hf (List.mem_of_getElem? (i := 8) rfl) rfl, cl_ks_ok hr hf (List.mem_of_getElem? (i := 9) rfl) rfl, Or.inl ⟨rfl, rfl⟩, f19, f83, a1, b1, a2, b3, fun j hj => absurd hj (Nat.not_lt_zero j)⟩
