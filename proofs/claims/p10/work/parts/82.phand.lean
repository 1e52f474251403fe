/-! THE LAW'S CASES feed AND text -/
theorem d_193_382 : mj_cd 193 382 = some (.aload_n 1, 1, 0, 0) := rfl
theorem d_193_383 : mj_cd 193 383 = some (.aload_n 0, 1, 0, 0) := rfl
theorem d_193_384 : mj_cd 193 384 = some (.iload_n 3, 1, 0, 0) := rfl
theorem d_193_385 : mj_cd 193 385 = some (.iconst 1, 1, 0, 0) := rfl
theorem d_193_386 : mj_cd 193 386 = some (.iadd, 1, 0, 0) := rfl
theorem d_193_387 : mj_cd 193 387 = some (.iaload, 1, 0, 0) := rfl
theorem d_193_388 : mj_cd 193 388 = some (.invokevirtual 40, 3, 72, 0) := rfl
theorem d_193_391 : mj_cd 193 391 = some (.pop, 1, 0, 0) := rfl
theorem d_193_392 : mj_cd 193 392 = some (.aload_n 2, 1, 0, 0) := rfl
theorem d_193_393 : mj_cd 193 393 = some (.aload_n 0, 1, 0, 0) := rfl
theorem d_193_394 : mj_cd 193 394 = some (.iload_n 3, 1, 0, 0) := rfl
theorem d_193_395 : mj_cd 193 395 = some (.iconst 1, 1, 0, 0) := rfl
theorem d_193_396 : mj_cd 193 396 = some (.iadd, 1, 0, 0) := rfl
theorem d_193_397 : mj_cd 193 397 = some (.iaload, 1, 0, 0) := rfl
theorem d_193_398 : mj_cd 193 398 = some (.invokevirtual 43, 3, 126, 0) := rfl
theorem d_193_401 : mj_cd 193 401 = some (.pop, 1, 0, 0) := rfl
theorem d_193_402 : mj_cd 193 402 = some (.goto 639, 3, 0, 0) := rfl
theorem d_193_405 : mj_cd 193 405 = some (.aload_n 1, 1, 0, 0) := rfl
theorem d_193_406 : mj_cd 193 406 = some (.invokevirtual 44, 3, 100, 0) := rfl
theorem d_193_409 : mj_cd 193 409 = some (.pop, 1, 0, 0) := rfl
theorem d_193_410 : mj_cd 193 410 = some (.aload_n 2, 1, 0, 0) := rfl
theorem d_193_411 : mj_cd 193 411 = some (.invokevirtual 48, 3, 173, 0) := rfl
theorem d_193_414 : mj_cd 193 414 = some (.pop, 1, 0, 0) := rfl
theorem d_193_415 : mj_cd 193 415 = some (.goto 626, 3, 0, 0) := rfl
def bl_J (J : mj_JT) : mj_JT := fun ce sl M pc lo st => J (102 + ce) (3945 + sl) M pc lo st
theorem bl_R1 {L i own nL : Nat} {xs : Nat → Int32} {ini : Bool} {J : mj_JT} (R1 : mj_R1 L xs i own nL ini 600000 7302250 J) : mj_R1 L xs i own nL ini 0 0 (bl_J J) := by
  intro ce sl M pc lo st ins len r1 r2 dc ds M' pc' lo' st' hc hst hce hsl hj
  refine R1 (102 + ce) (3945 + sl) M pc lo st ins len r1 r2 dc ds M' pc' lo' st' hc hst (by omega) (by omega) ?_
  have hj : J (102 + (ce + dc)) (3945 + (sl + ds)) M' pc' lo' st' := hj
  rw [← Nat.add_assoc, ← Nat.add_assoc] at hj
  exact hj
theorem bl_R2 {lch : Launch} {i D : Nat} {J : mj_JT} (R2 : mj_R2 lch i D 600000 7302250 J) : mj_R2 lch i D 0 0 (bl_J J) := by
  intro ce sl M pc lo st ins idx r1 r2 as rest d' mc' ms' Qr h1 h2 h3 h4 h5 h6 h7 h8 h9 h10 h11 h12 h13 k
  refine R2 (102 + ce) (3945 + sl) M pc lo st ins idx r1 r2 as rest d' mc' ms' Qr h1 h2 h3 h4 h5 h6 h7 h8 h9 h10 (by omega) (by omega) h13 (fun rv M' q hl => ?_)
  have hj : J (102 + (ce + mc')) (3945 + (sl + ms')) M' (pc + 3) lo (rv.toList ++ rest) := k rv M' q hl
  rw [← Nat.add_assoc, ← Nat.add_assoc] at hj
  exact hj
theorem jr_scr {L own nL i : Nat} {xs : Nat → Int32} {ini : Bool} {J : mj_JT} {M : mj_M} {pc r1 r2 : Nat} {lo : mj_L} {st : List Value} (R1 : mj_R1 L xs i own nL ini 0 0 J) {k : Int} (hc : mj_cd i pc = some (.iaload, 1, r1, r2)) (h0 : 0 ≤ k) (h1 : k < L) (hL : L ≤ 3072) (kk : J 0 0 M (pc + 1) lo (hv (xs k.toNat).toInt :: st)) : J 0 0 M pc lo (hv k :: .retAddr 0 :: st) := by
  obtain ⟨a, b⟩ := hvi h0 h1 (by omega)
  refine jr R1 hc (M' := M) (pc' := pc + 1) (lo' := lo) (st' := .int (xs (Int32.ofInt k).toNatClampNeg) :: st) (by simp [mj_st, mj_pu, mj_me, mj_xa0, a, mj_go]) ?_
  rw [b]
  have e : Value.int (xs k.toNat) = hv (xs k.toNat).toInt := by
    show Value.int (xs k.toNat) = Value.int (Int32.ofInt (xs k.toNat).toInt)
    rw [Int32.ofInt_toInt]
  rw [e]
  exact kk
def bl_lc (X : Int) : mj_L := [(3, hv X), (2, .ref 80), (1, .ref 0), (0, .retAddr 0)]
theorem bl_lc_eq (x : Int32) : al_lc x = bl_lc x.toInt := by
  unfold al_lc bl_lc
  rw [show hv x.toInt = Value.int x from by
    show Value.int (Int32.ofInt x.toInt) = Value.int x
    rw [Int32.ofInt_toInt]]
/-! memory: what stays -/
theorem rd_hi {B : mj_M} {n tk at' fl sc : Int} {S P V ST E : Nat → Int} (hB : 25 ≤ B.length) {k : Nat} (h : 24 < k ∨ k = 19 ∨ k < 18) : (rd B n tk at' fl sc S P V ST E)[k]? = B[k]? := by
  rw [rd_get hB, if_neg (by omega), if_neg (by omega), if_neg (by omega), if_neg (by omega), if_neg (by omega), if_neg (by omega)]
theorem rd_self {B : mj_M} {n tk at' fl sc : Int} {S P V ST E : Nat → Int} (h18 : B[18]? = some (bl_18 n tk at' fl sc)) (h20 : B[20]? = some (hA 0 161 S)) (h21 : B[21]? = some (hA 0 161 P)) (h22 : B[22]? = some (hA 0 161 V)) (h23 : B[23]? = some (hA 0 160 ST)) (h24 : B[24]? = some (hA 0 3 E)) : rd B n tk at' fl sc S P V ST E = B := by
  unfold rd
  rw [set_same h20, set_same h21, set_same h22, set_same h23, set_same h24]
  exact set_same h18
theorem md_self {C : mj_M} {A : Nat → Value} {U : Nat → Int} {Z : List Value} {tc tp fr sz he to ta wo op ba fa : Int} (h : C[80]? = some (.inr (6, mdf A U Z tc tp fr sz he to ta wo op ba fa))) : md C A U Z tc tp fr sz he to ta wo op ba fa = C := set_same h
theorem bm_rd {ρ : List Int} {M : ai_M} {B : mj_M} {n tk at' fl sc : Int} {S P V ST E : Nat → Int} (h : ai_mm ρ M B) (k20 : M[20]? = some (3, 0, [(7, 161), (7, -2147483648), (7, 2147483647)])) (k21 : M[21]? = some (3, 0, [(7, 161), (7, 0), (7, 160)])) (k22 : M[22]? = some (3, 0, [(7, 161), (7, -2147483648), (7, 2147483647)])) (k23 : M[23]? = some (3, 0, [(7, 160), (7, -2147483648), (7, 2147483647)])) (k24 : M[24]? = some (3, 0, [(7, 3), (7, 0), (7, 160)]))
    (hP : ∀ j, j < 161 → 0 ≤ P j ∧ P j ≤ 160) (hE : ∀ j, j < 3 → 0 ≤ E j ∧ E j ≤ 160) (h2 : ρ[117]? = some n) (h3 : ρ[118]? = some tk) (h4 : ρ[119]? = some at') (h5 : ρ[120]? = some fl) (h6 : ρ[121]? = some sc) : ai_mm ρ (M.set 18 bl_E18) (rd B n tk at' fl sc S P V ST E) :=
  ai_mm_set (bx_put (bx_put (bx_put (bx_put (bx_put h k20 rfl bx_any) k21 rfl (bx_bd (by decide) (by decide) hP)) k22 rfl bx_any) k23 rfl bx_any) k24 rfl (bx_bd (by decide) (by decide) hE)) (bl_e18 h2 h3 h4 h5 h6)
def bl_M1 : ai_M := kz_M.set 1 bl_E1
def bl_M2 : ai_M := bl_M1.set 18 bl_E18
theorem bl_Ma_eq : bl_Ma = bl_M2.set 80 bl_E80 := rfl
/-! what stands behind -/
def bl_tp (cM : mj_M) (n : Nat) : Prop := ∃ f19 f83 : Nat → Int, cM[19]? = some (hA 0 160 f19) ∧ cM[83]? = some (hA 0 160 f83) ∧ (∀ j, hr (f19 j)) ∧ (∀ j, j < 160 → 0 ≤ f83 j ∧ f83 j ≤ 255) ∧ ∀ j, j < n → f19 j = f83 j
def bl_rel (ρ : List Int) (cM : mj_M) : Prop := ∃ cnt n : Nat, ρ[1]? = some (cnt : Int) ∧ ρ[49]? = some (cnt : Int) ∧ ρ[2]? = some (n : Int) ∧ ρ[51]? = some (n : Int) ∧ bl_tp cM n
def bl_aft (ρ : List Int) (L : Nat) (xs : Nat → Int32) (x : Int32) (cM : mj_M) : Prop := ∃ νs : List Int, ai_sat νs bl_T15 ∧ ai_mm (al_rho ρ L xs x ++ νs) bl_Ma cM ∧ ∃ cnt n : Nat, νs[0]? = some (cnt : Int) ∧ νs[1]? = some (n : Int) ∧ bl_tp cM n
theorem al_rho_len {ρ : List Int} {cM : mj_M} {x : Int32} {L : Nat} {xs : Nat → Int32} (h : al_hd ρ cM x) : (al_rho ρ L xs x).length = 116 := by
  have e := h.1.1
  rw [List.length_append, al_TIn] at e
  unfold al_rho
  rw [List.length_append, List.length_cons, List.length_map, List.length_range, e]
  rfl
theorem bl_num {ρ νs : List Int} {cM : mj_M} {x : Int32} {L : Nat} {xs : Nat → Int32} (h : al_hd ρ cM x) {k : Nat} (j : Nat) {z : Int} (hk : k = 116 + j) (hz : νs[j]? = some z) : (al_rho ρ L xs x ++ νs)[k]? = some z := by
  rw [List.getElem?_append_right (by rw [al_rho_len h]; omega), al_rho_len h, show k - 116 = j by omega]
  exact hz
theorem bl_sat {c n tk at' fl sc fr sz he to ta wo op ba fa : Int} (h0 : 0 ≤ c ∧ c ≤ 6) (h1 : 0 ≤ n ∧ n ≤ 160) (h2 : 0 ≤ tk ∧ tk ≤ 161) (h3 : 0 ≤ at' ∧ at' ≤ 160) (h4 : -1 ≤ fl ∧ fl ≤ 160) (h5 : 0 ≤ sc ∧ sc ≤ 160) (h6 : 0 ≤ fr ∧ fr ≤ 800) (h7 : 0 ≤ sz ∧ sz ≤ 160) (h8 : 0 ≤ he ∧ he ≤ 160) (h9 : 0 ≤ to ∧ to ≤ 4) (h10 : 0 ≤ ta ∧ ta ≤ 160) (h11 : -100000 ≤ wo ∧ wo ≤ 10000000) (h12 : 0 ≤ op ∧ op ≤ 5) (h13 : 0 ≤ ba ∧ ba ≤ 1) (h14 : 0 ≤ fa ∧ fa ≤ 160) : ai_sat [c, n, tk, at', fl, sc, fr, sz, he, to, ta, wo, op, ba, fa] bl_T15 := by
  refine ⟨rfl, fun k z q a b => ?_⟩
  match k, a, b with
  | 0, a, b => cases a; cases b; exact h0
  | 1, a, b => cases a; cases b; exact h1
  | 2, a, b => cases a; cases b; exact h2
  | 3, a, b => cases a; cases b; exact h3
  | 4, a, b => cases a; cases b; exact h4
  | 5, a, b => cases a; cases b; exact h5
  | 6, a, b => cases a; cases b; exact h6
  | 7, a, b => cases a; cases b; exact h7
  | 8, a, b => cases a; cases b; exact h8
  | 9, a, b => cases a; cases b; exact h9
  | 10, a, b => cases a; cases b; exact h10
  | 11, a, b => cases a; cases b; exact h11
  | 12, a, b => cases a; cases b; exact h12
  | 13, a, b => cases a; cases b; exact h13
  | 14, a, b => cases a; cases b; exact h14
  | k + 15, a, b => cases a
theorem al_hd_rho {ρ : List Int} {cM : mj_M} {x : Int32} {L : Nat} {xs : Nat → Int32} (νs : List Int) : ai_le ρ (al_rho ρ L xs x ++ νs) := ai_le_tr (ai_le_app _) (ai_le_app _)
theorem bl_x80 {ρ : List Int} {cM : mj_M} {x : Int32} {c n : Int} (h : al_hd ρ cM x) (hc : ρ[49]? = some c) (hn : ρ[51]? = some n) : ∃ (A : Nat → Value) (U : Nat → Int) (Z : List Value) (fr sz he to ta wo op ba fa : Int), cM[80]? = some (.inr (6, mdf A U Z c n fr sz he to ta wo op ba fa)) ∧ ai_ss ρ bl_i80 (mdf A U Z c n fr sz he to ta wo op ba fa) ∧ (0 ≤ fr ∧ fr ≤ 800) ∧ (0 ≤ sz ∧ sz ≤ 160) ∧ (0 ≤ he ∧ he ≤ 160) ∧ (0 ≤ to ∧ to ≤ 4) ∧ (0 ≤ ta ∧ ta ≤ 160) ∧ (-100000 ≤ wo ∧ wo ≤ 10000000) ∧ (0 ≤ op ∧ op ≤ 5) ∧ (0 ≤ ba ∧ ba ≤ 1) ∧ (0 ≤ fa ∧ fa ≤ 160) := by
  have hs : ∀ k, k < 108 → ρ[k]? = some (nz ρ k) := fun k hk => by
    have e := h.1.1
    rw [List.length_append, al_TIn] at e
    have hl : k < (kz_TI ++ [((0 : Int), (3072 : Int))]).length := by rw [List.length_append, al_TIn]; exact Nat.lt_of_lt_of_le hk (Nat.le_add_right _ _)
    exact (nz_get h.1 (List.getElem?_eq_getElem hl)).1
  have h2 := bx_80 h.2.2.1 hs
  have ec : nz ρ 49 = c := Option.some.inj ((hs 49 (by omega)).symm.trans hc)
  have en : nz ρ 51 = n := Option.some.inj ((hs 51 (by omega)).symm.trans hn)
  rw [ec, en] at h2
  exact ⟨bl_A ρ, bl_U ρ, bl_Z ρ, nz ρ 62, nz ρ 63, nz ρ 64, nz ρ 65, nz ρ 66, nz ρ 67, nz ρ 68, nz ρ 69, nz ρ 70, h2.1, h2.2, (nz_get (k := 62) h.1 rfl).2, (nz_get (k := 63) h.1 rfl).2, (nz_get (k := 64) h.1 rfl).2, (nz_get (k := 65) h.1 rfl).2, (nz_get (k := 66) h.1 rfl).2, (nz_get (k := 67) h.1 rfl).2, (nz_get (k := 68) h.1 rfl).2, (nz_get (k := 69) h.1 rfl).2, (nz_get (k := 70) h.1 rfl).2⟩
theorem bl_x18 {ρ : List Int} {cM : mj_M} {x : Int32} {n : Int} (h : al_hd ρ cM x) (hn : ρ[2]? = some n) : ∃ (tk at' fl sc : Int) (S P V ST E : Nat → Int), rd cM n tk at' fl sc S P V ST E = cM ∧ (0 ≤ tk ∧ tk ≤ 161) ∧ (0 ≤ at' ∧ at' ≤ 160) ∧ (-1 ≤ fl ∧ fl ≤ 160) ∧ (0 ≤ sc ∧ sc ≤ 160) ∧ (∀ j, hr (S j)) ∧ (∀ j, hr (P j)) ∧ (∀ j, j < 161 → 0 ≤ P j ∧ P j ≤ 160) ∧ (∀ j, j < 3 → 0 ≤ E j ∧ E j ≤ 160) := by
  have h3 := nz_get (k := 3) h.1 rfl
  have h4 := nz_get (k := 4) h.1 rfl
  have h5 := nz_get (k := 5) h.1 rfl
  have h6 := nz_get (k := 6) h.1 rfl
  have hm := h.2.2.1
  obtain ⟨S, s1, s2, s3⟩ := bx_row (c := 20) hm rfl
  obtain ⟨P, p1, p2, p3⟩ := bx_row (c := 21) hm rfl
  obtain ⟨V, v1, v2, v3⟩ := bx_row (c := 22) hm rfl
  obtain ⟨ST, t1, t2, t3⟩ := bx_row (c := 23) hm rfl
  obtain ⟨E, e1, e2, e3⟩ := bx_row (c := 24) hm rfl
  exact ⟨_, _, _, _, S, P, V, ST, E, rd_self (bx_18 hm hn h3.1 h4.1 h5.1 h6.1) s1 p1 v1 t1 e1, h3.2, h4.2, h5.2, h6.2, s2, p2, p3, e3⟩
theorem bl_same {L : Nat} {xs : Nat → Int32} {ρ : List Int} {cM : mj_M} {x : Int32} (hh : al_hd ρ cM x) (hrl : bl_rel ρ cM) : bl_aft ρ L xs x cM := by
  obtain ⟨cnt, nn, n1, n49, n2, n51, f19, f83, t19, t83, g19, g83, hteq⟩ := hrl
  obtain ⟨tk, at', fl, sc, S, P, V, ST, E, erd, btk, bat, bfl, bsc, hS, hP, hP9, hE9⟩ := bl_x18 hh n2
  obtain ⟨A, U, Z, fr, sz, he, to, ta, wo, op, ba, fa, h80, hss, bfr, bsz, bhe, bto, bta, bwo, bop, bba, bfa⟩ := bl_x80 hh n49 n51
  have hm := hh.2.2.1
  have hlen := bx_len hm
  have hcnt : cnt ≤ 6 := by
    have := (hh.1.2 1 _ _ n1 rfl).2
    simp only at this
    omega
  have hnn : nn ≤ 160 := by
    have := (hh.1.2 2 _ _ n2 rfl).2
    simp only at this
    omega
  have hx0 : 0 ≤ x.toInt := by
    have := (hh.1.2 108 _ _ hh.2.2.2 (by
      rw [List.getElem?_append_right (by rw [al_TIn]; exact Nat.le_refl _), al_TIn]
      rfl)).1
    simp only at this
    exact this
  obtain ⟨fs0, h0⟩ := bx_0 hm
  have h1 := bx_1 hm n1
  have hB : 25 ≤ cM.length := by omega
  have hC : 84 ≤ cM.length := by omega
  refine ⟨[(cnt : Int), (nn : Int), tk, at', fl, sc, fr, sz, he, to, ta, wo, op, ba, fa], bl_sat (by omega) (by omega) btk bat bfl bsc bfr bsz bhe bto bta bwo bop bba bfa, ?_, cnt, nn, rfl, rfl, f19, f83, t19, t83, g19, g83, hteq⟩
  have hle := al_hd_rho (ρ := ρ) (cM := cM) (x := x) (L := L) (xs := xs) [(cnt : Int), (nn : Int), tk, at', fl, sc, fr, sz, he, to, ta, wo, op, ba, fa]
  have q0 := ai_mm_set (k := 1) (ai_mm_mono hle hm) (bl_e1 (bl_num hh 0 rfl rfl))
  rw [set_same h1] at q0
  have q1 := bm_rd (S := S) (V := V) (ST := ST) q0 rfl rfl rfl rfl rfl hP9 hE9 (bl_num hh 1 rfl rfl) (bl_num hh 2 rfl rfl) (bl_num hh 3 rfl rfl) (bl_num hh 4 rfl rfl) (bl_num hh 5 rfl rfl)
  rw [erd] at q1
  have q2 := ai_mm_set (k := 80) q1 (bl_e80 (ai_ss_mono hle hss) (bl_num hh 0 rfl rfl) (bl_num hh 1 rfl rfl) (bl_num hh 6 rfl rfl) (bl_num hh 7 rfl rfl) (bl_num hh 8 rfl rfl) (bl_num hh 9 rfl rfl) (bl_num hh 10 rfl rfl) (bl_num hh 11 rfl rfl) (bl_num hh 12 rfl rfl) (bl_num hh 13 rfl rfl) (bl_num hh 14 rfl rfl))
  rw [set_same h80] at q2
  exact q2
theorem bl_feed {lch : Launch} {D L : Nat} {xs : Nat → Int32} {J : mj_JT} {ρ : List Int} {cM : mj_M} {x : Int32} (hL : L ≤ 3072) (hD : 60 ≤ D) (R1 : mj_R1 L xs 193 (ai_ow 193) (ai_nl 193) (Nat.beq (mj_ki 193) 2) 600000 7302250 J) (R2 : mj_R2 lch 193 D 600000 7302250 J) (hh : al_hd ρ cM x) (hrl : bl_rel ρ cM) (hx6 : x.toInt + 6 ≤ (L : Int)) (K : ∀ cM2, bl_aft ρ L xs x cM2 → J 102 3945 cM2 1041 (al_lc x) []) : J 102 3945 cM 382 (al_lc x) [] := by
  have hsame := bl_same (L := L) (xs := xs) hh hrl
  obtain ⟨cnt, nn, n1, n49, n2, n51, f19, f83, t19, t83, g19, g83, hteq⟩ := hrl
  obtain ⟨tk, at', fl, sc, S, P, V, ST, E, erd, btk, bat, bfl, bsc, hS, hP, hP9, hE9⟩ := bl_x18 hh n2
  obtain ⟨A, U, Z, fr, sz, he, to, ta, wo, op, ba, fa, h80, hss, bfr, bsz, bhe, bto, bta, bwo, bop, bba, bfa⟩ := bl_x80 hh n49 n51
  have hm := hh.2.2.1
  have hlen := bx_len hm
  have hcnt : cnt ≤ 6 := by
    have := (hh.1.2 1 _ _ n1 rfl).2
    simp only at this
    omega
  have hnn : nn ≤ 160 := by
    have := (hh.1.2 2 _ _ n2 rfl).2
    simp only at this
    omega
  have hx0 : 0 ≤ x.toInt := by
    have := (hh.1.2 108 _ _ hh.2.2.2 (by
      rw [List.getElem?_append_right (by rw [al_TIn]; exact Nat.le_refl _), al_TIn]
      rfl)).1
    simp only at this
    exact this
  obtain ⟨fs0, h0⟩ := bx_0 hm
  have h1 := bx_1 hm n1
  have hB : 25 ≤ cM.length := by omega
  have hC : 84 ≤ cM.length := by omega
  have R1' := bl_R1 R1
  have R2' := bl_R2 R2
  rw [bl_lc_eq] at K ⊢
  show bl_J J 0 0 cM 382 (bl_lc x.toInt) []
  refine jr_aload_n R1' d_193_382 rfl ?_
  refine jr_aload_x R1' d_193_383 rfl ?_
  refine jr_iload_n R1' d_193_384 rfl ?_
  refine jr_iconst R1' d_193_385 ?_
  refine jr_iadd R1' d_193_386 ?_
  refine jr_scr R1' d_193_387 (by omega) (by omega) hL ?_
  have hv0 : ∀ k, hr (xs k).toInt := fun k => ⟨Int32.le_toInt _, by have := Int32.toInt_lt (xs k); omega⟩
  generalize hy : (xs (x.toInt + 1).toNat).toInt = y
  have hyr : hr y := by rw [← hy]; exact hv0 _
  have hcf := hc_feed (lch := lch) (d := 2) (B := cM) (nn := nn) (tk := tk) (at' := at') (fl := fl) (sc := sc) (x := y) (S := S) (P := P) (V := V) (ST := ST) (E := E) (Nat.le_refl _) hB t19 hnn hyr h0
  rw [erd] at hcf
  refine jr_callv R2' d_193_388 (by decide) rfl (as := [.ref 0, hv y]) (rest := []) rfl (by unfold mj_rc; rw [show (_ : List Value).headD _ = .ref 0 from rfl]; simp only [h0]; decide) hcf (by omega) (Nat.le_of_ble_eq_true rfl) ?_
  have emd : md cM A U Z (cnt : Int) (nn : Int) fr sz he to ta wo op ba fa = cM := md_self h80
  have hmf := mh_feed (lch := lch) (d := 2) (C := cM) (A := A) (U := U) (Z := Z) (tc := (cnt : Int)) (nn := nn) (fr := fr) (sz := sz) (he := he) (to := to) (ta := ta) (wo := wo) (op := op) (ba := ba) (fa := fa) (x := y) (Nat.le_refl _) hC t83 hnn hyr
  rw [emd] at hmf
  have hsame2 : ∀ a : Int, ((y < 0 ∨ 255 < y) ∧ a = -2 ∨ (0 ≤ y ∧ y ≤ 255) ∧ nn = 160 ∧ a = -4) → bl_J J 0 0 cM 391 (bl_lc x.toInt) [hv a] := by
    intro a hrf
    refine jr_pop R1' d_193_391 ?_
    refine jr_aload_n R1' d_193_392 rfl ?_
    refine jr_aload_x R1' d_193_393 rfl ?_
    refine jr_iload_n R1' d_193_394 rfl ?_
    refine jr_iconst R1' d_193_395 ?_
    refine jr_iadd R1' d_193_396 ?_
    refine jr_scr R1' d_193_397 (by omega) (by omega) hL ?_
    rw [hy]
    refine jr_callv R2' d_193_398 (by decide) rfl (as := [.ref 80, hv y]) (rest := []) rfl (by unfold mj_rc; rw [show (_ : List Value).headD _ = .ref 80 from rfl]; simp only [h80]; decide) hmf (by omega) (Nat.le_of_ble_eq_true rfl) ?_
    rintro rv M9 (⟨hy3, rfl, e9⟩ | ⟨hy2, ⟨hn3, rfl, rfl⟩ | ⟨hn2, -, -⟩⟩)
    · rw [e9]
      refine jr_pop R1' d_193_401 ?_
      refine jr_goto R1' d_193_402 (by decide) (pc' := 1041) rfl ?_
      exact K cM hsame
    · rw [emd]
      refine jr_pop R1' d_193_401 ?_
      refine jr_goto R1' d_193_402 (by decide) (pc' := 1041) rfl ?_
      exact K cM hsame
    · exfalso; omega
  rintro rv M9 (⟨hy1, rfl, e9⟩ | ⟨hy1, ⟨hn1, rfl, rfl⟩ | ⟨hn1, rfl, rfl⟩⟩)
  · rw [e9]
    exact hsame2 _ (by omega)
  · rw [erd]
    exact hsame2 _ (by omega)
  · refine jr_pop R1' d_193_391 ?_
    obtain ⟨B1, hB1⟩ : ∃ B, B = cM.set 19 (hA 0 160 (hu f19 nn y)) := ⟨_, rfl⟩
    rw [← hB1]
    have lB1 : B1.length = 102 := by rw [hB1, List.length_set, hlen]
    obtain ⟨M1, hM1⟩ : ∃ B, B = rd B1 ((nn : Int) + 1) tk at' fl sc S P V ST E := ⟨_, rfl⟩
    rw [← hM1]
    have lM1 : M1.length = 102 := by rw [hM1, rd_len, lB1]
    have hC1 : 84 ≤ M1.length := by omega
    have m80 : M1[80]? = some (.inr (6, mdf A U Z (cnt : Int) (nn : Int) fr sz he to ta wo op ba fa)) := by rw [hM1, rd_hi (by omega) (by omega), hB1, List.getElem?_set_ne (by decide)]; exact h80
    have m83 : M1[83]? = some (hA 0 160 f83) := by rw [hM1, rd_hi (by omega) (by omega), hB1, List.getElem?_set_ne (by decide)]; exact t83
    have m19 : M1[19]? = some (hA 0 160 (hu f19 nn y)) := by rw [hM1, rd_hi (by omega) (by omega), hB1, List.getElem?_set_self (by omega)]
    have emd1 : md M1 A U Z (cnt : Int) (nn : Int) fr sz he to ta wo op ba fa = M1 := md_self m80
    have hmf1 := mh_feed (lch := lch) (d := 2) (C := M1) (A := A) (U := U) (Z := Z) (tc := (cnt : Int)) (nn := nn) (fr := fr) (sz := sz) (he := he) (to := to) (ta := ta) (wo := wo) (op := op) (ba := ba) (fa := fa) (x := y) (Nat.le_refl _) hC1 m83 hnn hyr
    rw [emd1] at hmf1
    refine jr_aload_n R1' d_193_392 rfl ?_
    refine jr_aload_x R1' d_193_393 rfl ?_
    refine jr_iload_n R1' d_193_394 rfl ?_
    refine jr_iconst R1' d_193_395 ?_
    refine jr_iadd R1' d_193_396 ?_
    refine jr_scr R1' d_193_397 (by omega) (by omega) hL ?_
    rw [hy]
    refine jr_callv R2' d_193_398 (by decide) rfl (as := [.ref 80, hv y]) (rest := []) rfl (by unfold mj_rc; rw [show (_ : List Value).headD _ = .ref 80 from rfl]; simp only [m80]; decide) hmf1 (by omega) (Nat.le_of_ble_eq_true rfl) ?_
    rintro rv M9 (⟨hy2, -, -⟩ | ⟨hy2, ⟨hn2, -, -⟩ | ⟨hn2, rfl, rfl⟩⟩)
    · exfalso; omega
    · exfalso; omega
    · refine jr_pop R1' d_193_401 ?_
      refine jr_goto R1' d_193_402 (by decide) (pc' := 1041) rfl ?_
      refine K _ ?_
      refine ⟨[(cnt : Int), ((nn + 1 : Nat) : Int), tk, at', fl, sc, fr, sz, he, to, ta, wo, op, ba, fa], bl_sat (by omega) (by omega) btk bat bfl bsc bfr bsz bhe bto bta bwo bop bba bfa, ?_, cnt, nn + 1, rfl, rfl, hu f19 nn y, hu f83 nn y, ?_, ?_, ?_, ?_, ?_⟩
      · have hle := al_hd_rho (ρ := ρ) (cM := cM) (x := x) (L := L) (xs := xs) [(cnt : Int), ((nn + 1 : Nat) : Int), tk, at', fl, sc, fr, sz, he, to, ta, wo, op, ba, fa]
        have q0 := ai_mm_set (k := 1) (ai_mm_mono hle hm) (bl_e1 (bl_num hh 0 rfl rfl))
        rw [set_same h1] at q0
        have q0 := bx_put (c := 19) (m := 160) (g := hu f19 nn y) q0 rfl rfl bx_any
        have q1 := bm_rd (S := S) (V := V) (ST := ST) q0 rfl rfl rfl rfl rfl hP9 hE9 (bl_num hh 1 rfl rfl) (bl_num hh 2 rfl rfl) (bl_num hh 3 rfl rfl) (bl_num hh 4 rfl rfl) (bl_num hh 5 rfl rfl)
        have q2 := bx_put (c := 83) (m := 160) (g := hu f83 nn y) q1 rfl rfl (bx_bd (by decide) (by decide) (fun j hj => by
          unfold hu
          split
          · omega
          · exact g83 j hj))
        have q3 := ai_mm_set (k := 80) q2 (bl_e80 (ai_ss_mono hle hss) (bl_num hh 0 rfl rfl) (bl_num hh 1 rfl rfl) (bl_num hh 6 rfl rfl) (bl_num hh 7 rfl rfl) (bl_num hh 8 rfl rfl) (bl_num hh 9 rfl rfl) (bl_num hh 10 rfl rfl) (bl_num hh 11 rfl rfl) (bl_num hh 12 rfl rfl) (bl_num hh 13 rfl rfl) (bl_num hh 14 rfl rfl))
        rw [hM1, hB1]
        exact q3
      · rw [md_o (by decide), List.getElem?_set_ne (by decide)]
        exact m19
      · rw [md_o (by decide), List.getElem?_set_self (by omega)]
      · intro j
        unfold hu
        split
        · exact hyr
        · exact g19 j
      · intro j hj
        unfold hu
        split
        · omega
        · exact g83 j hj
      · intro j hj
        unfold hu
        by_cases ej : j = nn
        · rw [if_pos ej, if_pos ej]
        · rw [if_neg ej, if_neg ej]
          exact hteq j (by omega)
theorem bl_text {lch : Launch} {D L : Nat} {xs : Nat → Int32} {J : mj_JT} {ρ : List Int} {cM : mj_M} {x : Int32} (hL : L ≤ 3072) (hD : 60 ≤ D) (R1 : mj_R1 L xs 193 (ai_ow 193) (ai_nl 193) (Nat.beq (mj_ki 193) 2) 600000 7302250 J) (R2 : mj_R2 lch 193 D 600000 7302250 J) (hh : al_hd ρ cM x) (hrl : bl_rel ρ cM) (hx6 : x.toInt + 6 ≤ (L : Int)) (K : ∀ cM2, bl_aft ρ L xs x cM2 → J 102 3945 cM2 1041 (al_lc x) []) : J 102 3945 cM 405 (al_lc x) [] := by
  have hsame := bl_same (L := L) (xs := xs) hh hrl
  obtain ⟨cnt, nn, n1, n49, n2, n51, f19, f83, t19, t83, g19, g83, hteq⟩ := hrl
  obtain ⟨tk, at', fl, sc, S, P, V, ST, E, erd, btk, bat, bfl, bsc, hS, hP, hP9, hE9⟩ := bl_x18 hh n2
  obtain ⟨A, U, Z, fr, sz, he, to, ta, wo, op, ba, fa, h80, hss, bfr, bsz, bhe, bto, bta, bwo, bop, bba, bfa⟩ := bl_x80 hh n49 n51
  have hm := hh.2.2.1
  have hlen := bx_len hm
  have hcnt : cnt ≤ 6 := by
    have := (hh.1.2 1 _ _ n1 rfl).2
    simp only at this
    omega
  have hnn : nn ≤ 160 := by
    have := (hh.1.2 2 _ _ n2 rfl).2
    simp only at this
    omega
  have hx0 : 0 ≤ x.toInt := by
    have := (hh.1.2 108 _ _ hh.2.2.2 (by
      rw [List.getElem?_append_right (by rw [al_TIn]; exact Nat.le_refl _), al_TIn]
      rfl)).1
    simp only at this
    exact this
  obtain ⟨fs0, h0⟩ := bx_0 hm
  have h1 := bx_1 hm n1
  have hB : 25 ≤ cM.length := by omega
  have hC : 84 ≤ cM.length := by omega
  have R1' := bl_R1 R1
  have R2' := bl_R2 R2
  rw [bl_lc_eq] at K ⊢
  show bl_J J 0 0 cM 405 (bl_lc x.toInt) []
  obtain ⟨r2, h2, hr2⟩ := bx_2 hm
  obtain ⟨r9, h9, hr9⟩ := bx_9 hm
  obtain ⟨g81, x81, x81r, y81⟩ := bx_row (c := 81) hm rfl
  obtain ⟨g82, x82, x82r, y82⟩ := bx_row (c := 82) hm rfl
  have hb0 : ∀ j, j < nn → 0 ≤ f19 j ∧ f19 j ≤ 255 := fun j hj => by rw [hteq j hj]; exact g83 j (by omega)
  have hF3 : ∃ F3 G3 : Nat → Int, (cnt < 6 → cM[3 + cnt]? = some (hA 0 160 F3)) ∧ (cnt < 6 → cM[10 + cnt]? = some (hA 0 3 G3)) := by
    by_cases h6 : cnt < 6
    · obtain ⟨F3, a1, -, -⟩ := bx_row hm (bk_3 h6)
      obtain ⟨G3, a2, -, -⟩ := bx_row hm (bk_10 h6)
      exact ⟨F3, G3, fun _ => a1, fun _ => a2⟩
    · exact ⟨fun _ => 0, fun _ => 0, fun z => absurd z h6, fun z => absurd z h6⟩
  obtain ⟨F3, G3, k3, k10⟩ := hF3
  have hct := hc_text (lch := lch) (d := 51) (B := cM) (nn := nn) (tk := tk) (at' := at') (fl := fl) (sc := sc) (g := f19) (S := S) (P := P) (V := V) (ST := ST) (E := E) (F := F3) (G := G3) (cnt := cnt) (Nat.le_refl _) hB t19 g19 hnn bat bfl hS hP hP9 hE9 hcnt h0 h1 h2 h9 (hr2 cnt) (hr9 cnt) k3 k10
  rw [erd] at hct
  refine jr_aload_n R1' d_193_405 rfl ?_
  refine jr_callv R2' d_193_406 (by decide) rfl (as := [.ref 0]) (rest := []) rfl (by unfold mj_rc; rw [show (_ : List Value).headD _ = .ref 0 from rfl]; simp only [h0]; decide) hct (by omega) (Nat.le_of_ble_eq_true rfl) ?_
  rintro rv M9 (⟨h6, rfl, e9⟩ | ⟨h6, at2, sc2, S2, P2, V2, ST2, E2, b1, b2, b3, b4, b5, b6, b7, hfin⟩)
  · rw [e9]
    have emd : md cM A U Z (cnt : Int) (nn : Int) fr sz he to ta wo op ba fa = cM := md_self h80
    have hmt := mh_text (lch := lch) (d := 48) (C := cM) (A := A) (U := U) (Z := Z) (cnt := cnt) (nn := nn) (b := f19) (fr := fr) (sz := sz) (he := he) (to := to) (ta := ta) (wo := wo) (op := op) (ba := ba) (fa := fa) (Nat.le_refl _) hC x81 x82 t83 g19 hcnt hteq hnn hb0 bwo bfa
    rw [emd] at hmt
    refine jr_pop R1' d_193_409 ?_
    refine jr_aload_n R1' d_193_410 rfl ?_
    refine jr_callv R2' d_193_411 (by decide) rfl (as := [.ref 80]) (rest := []) rfl (by unfold mj_rc; rw [show (_ : List Value).headD _ = .ref 80 from rfl]; simp only [h80]; decide) hmt (by omega) (Nat.le_of_ble_eq_true rfl) ?_
    rintro rv M9 (⟨-, rfl, e9⟩ | ⟨z6, -⟩)
    · rw [e9]
      refine jr_pop R1' d_193_414 ?_
      refine jr_goto R1' d_193_415 (by decide) (pc' := 1041) rfl ?_
      exact K cM hsame
    · exfalso; omega
  · have hT9 := hp_T_le (b := f19) (n := nn)
    obtain ⟨F, hF⟩ : ∃ F, (hp_text f19 nn).2 = F := ⟨_, rfl⟩
    rw [hF] at b7 hfin
    rcases hfin with ⟨eF, rfl, rfl⟩ | ⟨eF, rfl, rfl⟩
    · show bl_J J 0 0 (rd (hT2 cM cnt ST2 E2 F3 G3) 0 ((hp_T f19 nn : Int) + 1) at2 F sc2 S2 P2 V2 ST2 E2) 409 (bl_lc x.toInt) [hv (cnt : Int)]
      obtain ⟨B1, hB1⟩ : ∃ B, B = hT2 cM cnt ST2 E2 F3 G3 := ⟨_, rfl⟩
      rw [← hB1]
      have lB1 : B1.length = 102 := by rw [hB1, hT2, List.length_set, List.length_set, List.length_set]; exact hlen
      obtain ⟨M1, hM1⟩ : ∃ B, B = rd B1 0 ((hp_T f19 nn : Int) + 1) at2 F sc2 S2 P2 V2 ST2 E2 := ⟨_, rfl⟩
      rw [← hM1]
      have lM1 : M1.length = 102 := by rw [hM1, rd_len, lB1]
      have hC1 : 84 ≤ M1.length := by omega
      have m80 : M1[80]? = some (.inr (6, mdf A U Z (cnt : Int) (nn : Int) fr sz he to ta wo op ba fa)) := by rw [hM1, rd_hi (by omega) (by omega), hB1, hT2, List.getElem?_set_ne (by omega), List.getElem?_set_ne (by omega), List.getElem?_set_ne (by omega)]; exact h80
      have m81 : M1[81]? = some (hA 0 960 g81) := by rw [hM1, rd_hi (by omega) (by omega), hB1, hT2, List.getElem?_set_ne (by omega), List.getElem?_set_ne (by omega), List.getElem?_set_ne (by omega)]; exact x81
      have m82 : M1[82]? = some (hA 0 6 g82) := by rw [hM1, rd_hi (by omega) (by omega), hB1, hT2, List.getElem?_set_ne (by omega), List.getElem?_set_ne (by omega), List.getElem?_set_ne (by omega)]; exact x82
      have m83 : M1[83]? = some (hA 0 160 f83) := by rw [hM1, rd_hi (by omega) (by omega), hB1, hT2, List.getElem?_set_ne (by omega), List.getElem?_set_ne (by omega), List.getElem?_set_ne (by omega)]; exact t83
      have m19 : M1[19]? = some (hA 0 160 f19) := by rw [hM1, rd_hi (by omega) (by omega), hB1, hT2, List.getElem?_set_ne (by omega), List.getElem?_set_ne (by omega), List.getElem?_set_ne (by omega)]; exact t19
      have emd1 : md M1 A U Z (cnt : Int) (nn : Int) fr sz he to ta wo op ba fa = M1 := md_self m80
      have hmt1 := mh_text (lch := lch) (d := 48) (C := M1) (A := A) (U := U) (Z := Z) (cnt := cnt) (nn := nn) (b := f19) (fr := fr) (sz := sz) (he := he) (to := to) (ta := ta) (wo := wo) (op := op) (ba := ba) (fa := fa) (Nat.le_refl _) hC1 m81 m82 m83 g19 hcnt hteq hnn hb0 bwo bfa
      rw [emd1, hF] at hmt1
      refine jr_pop R1' d_193_409 ?_
      refine jr_aload_n R1' d_193_410 rfl ?_
      refine jr_callv R2' d_193_411 (by decide) rfl (as := [.ref 80]) (rest := []) rfl (by unfold mj_rc; rw [show (_ : List Value).headD _ = .ref 80 from rfl]; simp only [m80]; decide) hmt1 (by omega) (Nat.le_of_ble_eq_true rfl) ?_
      rintro rv M9 (⟨z6, -, -⟩ | ⟨z6, he2, to2, ta2, wo2, fa2, ⟨bhe2, bto2, bta2, bwo2, bfa2⟩, ⟨zF, rfl, rfl⟩ | ⟨zF, rfl, rfl⟩⟩)
      · exfalso; omega
      · refine jr_pop R1' d_193_414 ?_
        refine jr_goto R1' d_193_415 (by decide) (pc' := 1041) rfl ?_
        refine K _ ?_
        refine ⟨[((cnt + 1 : Nat) : Int), ((0 : Nat) : Int), ((hp_T f19 nn : Int) + 1), at2, F, sc2, ((160 * cnt : Nat) : Int), (nn : Int), he2, to2, ta2, wo2, 0, 0, fa2], bl_sat (by omega) (by omega) (by omega) b1 b7 b2 (by omega) (by omega) bhe2 bto2 bta2 bwo2 (by omega) (by omega) bfa2, ?_, cnt + 1, 0, rfl, rfl, f19, f83, ?_, ?_, g19, g83, fun j hj => absurd hj (Nat.not_lt_zero j)⟩
        · have hle := al_hd_rho (ρ := ρ) (cM := cM) (x := x) (L := L) (xs := xs) [((cnt + 1 : Nat) : Int), ((0 : Nat) : Int), ((hp_T f19 nn : Int) + 1), at2, F, sc2, ((160 * cnt : Nat) : Int), (nn : Int), he2, to2, ta2, wo2, 0, 0, fa2]
          have q0 := bx_put (c := 3 + cnt) (m := 160) (g := hcp 160 ST2 F3) (ai_mm_mono hle hm) (bk_3 h6) rfl bx_any
          have q0 := bx_put (c := 10 + cnt) (m := 3) (g := hcp 3 E2 G3) q0 (bk_10 h6) rfl (bx_bd (by decide) (by decide) (fun j hj => by
            unfold hcp
            rw [if_pos hj]
            exact b6 j hj))
          have q0 := ai_mm_set (k := 1) q0 (bl_e1 (bl_num hh 0 rfl rfl))
          have q1 := bm_rd (S := S2) (V := V2) (ST := ST2) q0 rfl rfl rfl rfl rfl b3 b6 (bl_num hh 1 rfl rfl) (bl_num hh 2 rfl rfl) (bl_num hh 3 rfl rfl) (bl_num hh 4 rfl rfl) (bl_num hh 5 rfl rfl)
          have q2 := bx_put (c := 81) (m := 960) (g := mcp (160 * cnt) f83 g81 nn) q1 rfl rfl (bx_bd (by decide) (by decide) (fun j hj => by
            unfold mcp
            split
            · rename_i hz; exact g83 _ (by omega)
            · exact y81 j hj))
          have q3 := bx_put (c := 82) (m := 6) (g := hu g82 cnt (nn : Int)) q2 rfl rfl (bx_bd (by decide) (by decide) (fun j hj => by
            unfold hu
            split
            · omega
            · exact y82 j hj))
          have q4 := ai_mm_set (k := 80) q3 (bl_e80 (ai_ss_mono hle hss) (bl_num hh 0 rfl rfl) (bl_num hh 1 rfl rfl) (bl_num hh 6 rfl rfl) (bl_num hh 7 rfl rfl) (bl_num hh 8 rfl rfl) (bl_num hh 9 rfl rfl) (bl_num hh 10 rfl rfl) (bl_num hh 11 rfl rfl) (bl_num hh 12 rfl rfl) (bl_num hh 13 rfl rfl) (bl_num hh 14 rfl rfl))
          rw [hM1, hB1]
          exact q4
        · rw [md_o (by decide), hC2, List.getElem?_set_ne (by decide), List.getElem?_set_ne (by decide)]; exact m19
        · rw [md_o (by decide), hC2, List.getElem?_set_ne (by decide), List.getElem?_set_ne (by decide)]; exact m83
      · exfalso; exact zF eF
    · show bl_J J 0 0 (rd cM 0 ((hp_T f19 nn : Int) + 1) at2 F sc2 S2 P2 V2 ST2 E2) 409 (bl_lc x.toInt) [hv (-100 - F)]
      obtain ⟨B1, hB1⟩ : ∃ B, B = cM := ⟨_, rfl⟩
      skip
      have lB1 : B1.length = 102 := by rw [hB1]; exact hlen
      obtain ⟨M1, hM1⟩ : ∃ B, B = rd B1 0 ((hp_T f19 nn : Int) + 1) at2 F sc2 S2 P2 V2 ST2 E2 := ⟨_, rfl⟩
      rw [show rd cM 0 ((hp_T f19 nn : Int) + 1) at2 F sc2 S2 P2 V2 ST2 E2 = M1 by rw [hM1, hB1]]
      have lM1 : M1.length = 102 := by rw [hM1, rd_len, lB1]
      have hC1 : 84 ≤ M1.length := by omega
      have m80 : M1[80]? = some (.inr (6, mdf A U Z (cnt : Int) (nn : Int) fr sz he to ta wo op ba fa)) := by rw [hM1, rd_hi (by omega) (by omega), hB1]; exact h80
      have m81 : M1[81]? = some (hA 0 960 g81) := by rw [hM1, rd_hi (by omega) (by omega), hB1]; exact x81
      have m82 : M1[82]? = some (hA 0 6 g82) := by rw [hM1, rd_hi (by omega) (by omega), hB1]; exact x82
      have m83 : M1[83]? = some (hA 0 160 f83) := by rw [hM1, rd_hi (by omega) (by omega), hB1]; exact t83
      have m19 : M1[19]? = some (hA 0 160 f19) := by rw [hM1, rd_hi (by omega) (by omega), hB1]; exact t19
      have emd1 : md M1 A U Z (cnt : Int) (nn : Int) fr sz he to ta wo op ba fa = M1 := md_self m80
      have hmt1 := mh_text (lch := lch) (d := 48) (C := M1) (A := A) (U := U) (Z := Z) (cnt := cnt) (nn := nn) (b := f19) (fr := fr) (sz := sz) (he := he) (to := to) (ta := ta) (wo := wo) (op := op) (ba := ba) (fa := fa) (Nat.le_refl _) hC1 m81 m82 m83 g19 hcnt hteq hnn hb0 bwo bfa
      rw [emd1, hF] at hmt1
      refine jr_pop R1' d_193_409 ?_
      refine jr_aload_n R1' d_193_410 rfl ?_
      refine jr_callv R2' d_193_411 (by decide) rfl (as := [.ref 80]) (rest := []) rfl (by unfold mj_rc; rw [show (_ : List Value).headD _ = .ref 80 from rfl]; simp only [m80]; decide) hmt1 (by omega) (Nat.le_of_ble_eq_true rfl) ?_
      rintro rv M9 (⟨z6, -, -⟩ | ⟨z6, he2, to2, ta2, wo2, fa2, ⟨bhe2, bto2, bta2, bwo2, bfa2⟩, ⟨zF, rfl, rfl⟩ | ⟨zF, rfl, rfl⟩⟩)
      · exfalso; omega
      · exfalso; exact eF zF
      · refine jr_pop R1' d_193_414 ?_
        refine jr_goto R1' d_193_415 (by decide) (pc' := 1041) rfl ?_
        refine K _ ?_
        refine ⟨[(cnt : Int), ((0 : Nat) : Int), ((hp_T f19 nn : Int) + 1), at2, F, sc2, ((160 * cnt : Nat) : Int), (nn : Int), he2, to2, ta2, wo2, 0, 1, F], bl_sat (by omega) (by omega) (by omega) b1 b7 b2 (by omega) (by omega) bhe2 bto2 bta2 bwo2 (by omega) (by omega) (by omega), ?_, cnt, 0, rfl, rfl, f19, f83, ?_, ?_, g19, g83, fun j hj => absurd hj (Nat.not_lt_zero j)⟩
        · have hle := al_hd_rho (ρ := ρ) (cM := cM) (x := x) (L := L) (xs := xs) [(cnt : Int), ((0 : Nat) : Int), ((hp_T f19 nn : Int) + 1), at2, F, sc2, ((160 * cnt : Nat) : Int), (nn : Int), he2, to2, ta2, wo2, 0, 1, F]
          have q0 := ai_mm_set (k := 1) (ai_mm_mono hle hm) (bl_e1 (bl_num hh 0 rfl rfl))
          rw [set_same h1] at q0
          have q1 := bm_rd (S := S2) (V := V2) (ST := ST2) q0 rfl rfl rfl rfl rfl b3 b6 (bl_num hh 1 rfl rfl) (bl_num hh 2 rfl rfl) (bl_num hh 3 rfl rfl) (bl_num hh 4 rfl rfl) (bl_num hh 5 rfl rfl)
          have q2 := bx_put (c := 81) (m := 960) (g := mcp (160 * cnt) f83 g81 nn) q1 rfl rfl (bx_bd (by decide) (by decide) (fun j hj => by
            unfold mcp
            split
            · rename_i hz; exact g83 _ (by omega)
            · exact y81 j hj))
          have q3 := bx_put (c := 82) (m := 6) (g := hu g82 cnt (nn : Int)) q2 rfl rfl (bx_bd (by decide) (by decide) (fun j hj => by
            unfold hu
            split
            · omega
            · exact y82 j hj))
          have q4 := ai_mm_set (k := 80) q3 (bl_e80 (ai_ss_mono hle hss) (bl_num hh 0 rfl rfl) (bl_num hh 1 rfl rfl) (bl_num hh 6 rfl rfl) (bl_num hh 7 rfl rfl) (bl_num hh 8 rfl rfl) (bl_num hh 9 rfl rfl) (bl_num hh 10 rfl rfl) (bl_num hh 11 rfl rfl) (bl_num hh 12 rfl rfl) (bl_num hh 13 rfl rfl) (bl_num hh 14 rfl rfl))
          rw [hM1, hB1]
          exact q4
        · rw [md_o (by decide), hC2, List.getElem?_set_ne (by decide), List.getElem?_set_ne (by decide)]; exact m19
        · rw [md_o (by decide), hC2, List.getElem?_set_ne (by decide), List.getElem?_set_ne (by decide)]; exact m83
