/-! THE MODEL'S NEXT TOKEN -/
theorem hp_lt_iff {c : Int} : hp_lt c = true ↔ 97 ≤ c ∧ c ≤ 122 := by
  unfold hp_lt
  simp only [Bool.and_eq_true, decide_eq_true_eq]
theorem hp_dg_iff {c : Int} : hp_dg c = true ↔ 48 ≤ c ∧ c ≤ 57 := by
  unfold hp_dg
  simp only [Bool.and_eq_true, decide_eq_true_eq]
theorem hp_bl_iff {c : Int} : hp_bl c = true ↔ c = 32 ∨ c = 10 := by
  unfold hp_bl
  simp only [Bool.or_eq_true, decide_eq_true_eq]
theorem hp_sg_iff {c : Int} : hp_sg c = true ↔ c = 40 ∨ c = 41 ∨ c = 59 ∨ c = 43 ∨ c = 45 ∨ c = 42 ∨ c = 60 ∨ c = 61 := by
  unfold hp_sg
  simp only [Bool.or_eq_true, decide_eq_true_eq]
theorem hm_letters {lch : Launch} {d L : Nat} {xs : Nat → Int32} {J : mj_JT} {C : mj_M} {A : Nat → Value} {U : Nat → Int} {Z : List Value} {g b : Nat → Int} {fr n : Nat} {tc tp wo op ba fa : Int} {c : Int} {p : Nat} (hC : 84 ≤ C.length) (hTx : C[81]? = some (hA 0 960 g)) (hg : ∀ j, hr (b j)) (hb : ∀ j, j < n → b j = g (fr + j)) (hfr : fr + n ≤ 960) (hn9 : n ≤ 160) (hb0 : ∀ j, j < n → 0 ≤ b j ∧ b j ≤ 255) (hd : 2 ≤ d) (R1 : mj_R1 L xs 154 (mj_ow 154) (mj_ml 154) (Nat.beq (mj_ki 154) 2) 0 0 J) (R2 : mj_R2 lch 154 d 0 0 J) (R3 : mj_R3 154 (mj_rt 154) 0 0 (mn C A U Z tc tp (fr : Int) n b op ba fa p) J) (R4 : mj_R4 J) (hp : p < n) (hlp : hp_lt (b p) = true) (hwo : -100000 ≤ wo ∧ wo ≤ 10000000) : ∀ (e q : Nat), n - q ≤ e → p ≤ q → q ≤ n → hp_rn hp_lt b n q = hp_rn hp_lt b n p → J 0 0 (md C A U Z tc tp ((fr : Int)) ((n : Int)) ((q : Int)) 1 ((p : Int)) wo op ba fa) 100 [(1, hv c), (0, .ref 80)] [] := by
  intro e
  induction e with
  | zero =>
    intro q he h1 h2 hq9
    have hend : hp_rn hp_lt b n q = q := hp_rn_out (by omega)
    refine jr_aload_n R1 d_154_100 rfl ?_
    refine jr_aload_n R1 d_154_101 rfl ?_
    refine jr_getf R1 d_154_102 (md_80 hC) (by decide) rfl ?_
    refine jr_callv R2 d_154_105 (by decide) rfl (as := [.ref 80, hv ((q : Int))]) (rest := []) rfl (by unfold mj_rc; rw [show (_ : List Value).headD _ = .ref 80 from rfl]; simp only [md_80 hC]; decide) (hm_byteAt (d := 1) (x := q) (by omega) hC hTx hg hb hfr hn9 hb0 (by omega)) (by omega) (Nat.le_of_ble_eq_true rfl) ?_
    rintro rv M9 ⟨rfl, rfl⟩
    rw [if_neg (by omega)]
    show J 0 0 (md C A U Z tc tp ((fr : Int)) ((n : Int)) ((q : Int)) 1 ((p : Int)) wo op ba fa) 108 [(1, hv c), (0, .ref 80)] [hv ((-1))]
    refine jl_i2l R1 (by first | assumption | exact hg _ | exact hS _ | exact hV _ | exact hP _ | exact hT _ | exact ⟨by omega, by omega⟩) d_154_108 ?_
    refine jl_ldc (z := 97) R1 d_154_109 (by decide) rfl ?_
    refine jl_ldc (z := 122) R1 d_154_112 (by decide) rfl ?_
    refine jr_calls R2 d_154_115 (by decide) (by decide) rfl (as := [hl ((-1)), hl 97, hl 122]) (rest := []) rfl (hm_in (d := 1) (M := md C A U Z tc tp ((fr : Int)) ((n : Int)) ((q : Int)) 1 ((p : Int)) wo op ba fa) (by omega) (by first | assumption | exact ⟨by omega, by omega⟩ | exact hR_hr (by assumption) | exact hR_hr (hg _)) ⟨by omega, by omega⟩ ⟨by omega, by omega⟩) (by omega) (Nat.le_of_ble_eq_true rfl) ?_
    rintro rv M9 ⟨rfl, rfl⟩
    rw [if_neg (by omega)]
    show J 0 0 (md C A U Z tc tp ((fr : Int)) ((n : Int)) ((q : Int)) 1 ((p : Int)) wo op ba fa) 118 [(1, hv c), (0, .ref 80)] [hv 0]
    refine jr_ifc R1 true d_154_118 (by first | assumption | exact hg _ | exact hS _ | exact hV _ | exact hP _ | exact hT _ | exact ⟨by omega, by omega⟩) (by unfold hcb; first | exact decide_eq_true (by omega) | exact decide_eq_false (by omega)) (by decide) (pc' := 321) rfl ?_
    refine jr_ret R3 d_154_321 rfl ?_
    refine ⟨rfl, (q : Int), 1, wo, Or.inr (Or.inl ⟨hp, hlp, rfl, by rw [← hq9, hend]⟩), ⟨⟨by omega, by omega⟩, ⟨by omega, by omega⟩, hwo⟩, rfl⟩
  | succ e ih =>
    intro q he h1 h2 hq9
    by_cases hlt : q < n
    · by_cases hj : hp_lt (b q) = true
      · skip
        refine jr_aload_n R1 d_154_100 rfl ?_
        refine jr_aload_n R1 d_154_101 rfl ?_
        refine jr_getf R1 d_154_102 (md_80 hC) (by decide) rfl ?_
        refine jr_callv R2 d_154_105 (by decide) rfl (as := [.ref 80, hv ((q : Int))]) (rest := []) rfl (by unfold mj_rc; rw [show (_ : List Value).headD _ = .ref 80 from rfl]; simp only [md_80 hC]; decide) (hm_byteAt (d := 1) (x := q) (by omega) hC hTx hg hb hfr hn9 hb0 (by omega)) (by omega) (Nat.le_of_ble_eq_true rfl) ?_
        rintro rv M9 ⟨rfl, rfl⟩
        rw [if_pos (by omega)]
        show J 0 0 (md C A U Z tc tp ((fr : Int)) ((n : Int)) ((q : Int)) 1 ((p : Int)) wo op ba fa) 108 [(1, hv c), (0, .ref 80)] [hv (b q)]
        refine jl_i2l R1 (by first | assumption | exact hg _ | exact hS _ | exact hV _ | exact hP _ | exact hT _ | exact ⟨by omega, by omega⟩) d_154_108 ?_
        refine jl_ldc (z := 97) R1 d_154_109 (by decide) rfl ?_
        refine jl_ldc (z := 122) R1 d_154_112 (by decide) rfl ?_
        refine jr_calls R2 d_154_115 (by decide) (by decide) rfl (as := [hl (b q), hl 97, hl 122]) (rest := []) rfl (hm_in (d := 1) (M := md C A U Z tc tp ((fr : Int)) ((n : Int)) ((q : Int)) 1 ((p : Int)) wo op ba fa) (by omega) (by first | assumption | exact ⟨by omega, by omega⟩ | exact hR_hr (by assumption) | exact hR_hr (hg _)) ⟨by omega, by omega⟩ ⟨by omega, by omega⟩) (by omega) (Nat.le_of_ble_eq_true rfl) ?_
        rintro rv M9 ⟨rfl, rfl⟩
        rw [if_pos (hp_lt_iff.mp hj)]
        show J 0 0 (md C A U Z tc tp ((fr : Int)) ((n : Int)) ((q : Int)) 1 ((p : Int)) wo op ba fa) 118 [(1, hv c), (0, .ref 80)] [hv 1]
        refine jr_ifc R1 false d_154_118 (by first | assumption | exact hg _ | exact hS _ | exact hV _ | exact hP _ | exact hT _ | exact ⟨by omega, by omega⟩) (by unfold hcb; first | exact decide_eq_true (by omega) | exact decide_eq_false (by omega)) (by decide) (pc' := 121) rfl ?_
        refine jr_aload_n R1 d_154_121 rfl ?_
        refine jr_dup_r R1 d_154_122 ?_
        refine jr_getf R1 d_154_123 (md_80 hC) (by decide) rfl ?_
        refine jr_iconst R1 d_154_126 ?_
        refine jr_iadd R1 d_154_127 ?_
        refine jr_putf R1 d_154_128 (md_80 hC) (by decide) (md_pl (by decide)) rfl rfl (M' := md C A U Z tc tp ((fr : Int)) ((n : Int)) ((q : Int) + 1) 1 ((p : Int)) wo op ba fa) md_p ?_
        refine jr_goto R1 d_154_131 (by decide) (pc' := 100) rfl ?_
        exact ih (q + 1) (by omega) (by omega) (by omega) (by rw [← hq9, ← hp_rn_go (by omega) hj])
      · have hend : hp_rn hp_lt b n q = q := hp_rn_no (by simpa using hj)
        refine jr_aload_n R1 d_154_100 rfl ?_
        refine jr_aload_n R1 d_154_101 rfl ?_
        refine jr_getf R1 d_154_102 (md_80 hC) (by decide) rfl ?_
        refine jr_callv R2 d_154_105 (by decide) rfl (as := [.ref 80, hv ((q : Int))]) (rest := []) rfl (by unfold mj_rc; rw [show (_ : List Value).headD _ = .ref 80 from rfl]; simp only [md_80 hC]; decide) (hm_byteAt (d := 1) (x := q) (by omega) hC hTx hg hb hfr hn9 hb0 (by omega)) (by omega) (Nat.le_of_ble_eq_true rfl) ?_
        rintro rv M9 ⟨rfl, rfl⟩
        rw [if_pos (by omega)]
        show J 0 0 (md C A U Z tc tp ((fr : Int)) ((n : Int)) ((q : Int)) 1 ((p : Int)) wo op ba fa) 108 [(1, hv c), (0, .ref 80)] [hv (b q)]
        refine jl_i2l R1 (by first | assumption | exact hg _ | exact hS _ | exact hV _ | exact hP _ | exact hT _ | exact ⟨by omega, by omega⟩) d_154_108 ?_
        refine jl_ldc (z := 97) R1 d_154_109 (by decide) rfl ?_
        refine jl_ldc (z := 122) R1 d_154_112 (by decide) rfl ?_
        refine jr_calls R2 d_154_115 (by decide) (by decide) rfl (as := [hl (b q), hl 97, hl 122]) (rest := []) rfl (hm_in (d := 1) (M := md C A U Z tc tp ((fr : Int)) ((n : Int)) ((q : Int)) 1 ((p : Int)) wo op ba fa) (by omega) (by first | assumption | exact ⟨by omega, by omega⟩ | exact hR_hr (by assumption) | exact hR_hr (hg _)) ⟨by omega, by omega⟩ ⟨by omega, by omega⟩) (by omega) (Nat.le_of_ble_eq_true rfl) ?_
        rintro rv M9 ⟨rfl, rfl⟩
        rw [if_neg (fun z => hj (hp_lt_iff.mpr z))]
        show J 0 0 (md C A U Z tc tp ((fr : Int)) ((n : Int)) ((q : Int)) 1 ((p : Int)) wo op ba fa) 118 [(1, hv c), (0, .ref 80)] [hv 0]
        refine jr_ifc R1 true d_154_118 (by first | assumption | exact hg _ | exact hS _ | exact hV _ | exact hP _ | exact hT _ | exact ⟨by omega, by omega⟩) (by unfold hcb; first | exact decide_eq_true (by omega) | exact decide_eq_false (by omega)) (by decide) (pc' := 321) rfl ?_
        refine jr_ret R3 d_154_321 rfl ?_
        refine ⟨rfl, (q : Int), 1, wo, Or.inr (Or.inl ⟨hp, hlp, rfl, by rw [← hq9, hend]⟩), ⟨⟨by omega, by omega⟩, ⟨by omega, by omega⟩, hwo⟩, rfl⟩
    · have hend : hp_rn hp_lt b n q = q := hp_rn_out (by omega)
      refine jr_aload_n R1 d_154_100 rfl ?_
      refine jr_aload_n R1 d_154_101 rfl ?_
      refine jr_getf R1 d_154_102 (md_80 hC) (by decide) rfl ?_
      refine jr_callv R2 d_154_105 (by decide) rfl (as := [.ref 80, hv ((q : Int))]) (rest := []) rfl (by unfold mj_rc; rw [show (_ : List Value).headD _ = .ref 80 from rfl]; simp only [md_80 hC]; decide) (hm_byteAt (d := 1) (x := q) (by omega) hC hTx hg hb hfr hn9 hb0 (by omega)) (by omega) (Nat.le_of_ble_eq_true rfl) ?_
      rintro rv M9 ⟨rfl, rfl⟩
      rw [if_neg (by omega)]
      show J 0 0 (md C A U Z tc tp ((fr : Int)) ((n : Int)) ((q : Int)) 1 ((p : Int)) wo op ba fa) 108 [(1, hv c), (0, .ref 80)] [hv ((-1))]
      refine jl_i2l R1 (by first | assumption | exact hg _ | exact hS _ | exact hV _ | exact hP _ | exact hT _ | exact ⟨by omega, by omega⟩) d_154_108 ?_
      refine jl_ldc (z := 97) R1 d_154_109 (by decide) rfl ?_
      refine jl_ldc (z := 122) R1 d_154_112 (by decide) rfl ?_
      refine jr_calls R2 d_154_115 (by decide) (by decide) rfl (as := [hl ((-1)), hl 97, hl 122]) (rest := []) rfl (hm_in (d := 1) (M := md C A U Z tc tp ((fr : Int)) ((n : Int)) ((q : Int)) 1 ((p : Int)) wo op ba fa) (by omega) (by first | assumption | exact ⟨by omega, by omega⟩ | exact hR_hr (by assumption) | exact hR_hr (hg _)) ⟨by omega, by omega⟩ ⟨by omega, by omega⟩) (by omega) (Nat.le_of_ble_eq_true rfl) ?_
      rintro rv M9 ⟨rfl, rfl⟩
      rw [if_neg (by omega)]
      show J 0 0 (md C A U Z tc tp ((fr : Int)) ((n : Int)) ((q : Int)) 1 ((p : Int)) wo op ba fa) 118 [(1, hv c), (0, .ref 80)] [hv 0]
      refine jr_ifc R1 true d_154_118 (by first | assumption | exact hg _ | exact hS _ | exact hV _ | exact hP _ | exact hT _ | exact ⟨by omega, by omega⟩) (by unfold hcb; first | exact decide_eq_true (by omega) | exact decide_eq_false (by omega)) (by decide) (pc' := 321) rfl ?_
      refine jr_ret R3 d_154_321 rfl ?_
      refine ⟨rfl, (q : Int), 1, wo, Or.inr (Or.inl ⟨hp, hlp, rfl, by rw [← hq9, hend]⟩), ⟨⟨by omega, by omega⟩, ⟨by omega, by omega⟩, hwo⟩, rfl⟩
theorem hm_digits {lch : Launch} {d L : Nat} {xs : Nat → Int32} {J : mj_JT} {C : mj_M} {A : Nat → Value} {U : Nat → Int} {Z : List Value} {g b : Nat → Int} {fr n : Nat} {tc tp op ba fa : Int} {c : Int} {p : Nat} (hC : 84 ≤ C.length) (hTx : C[81]? = some (hA 0 960 g)) (hg : ∀ j, hr (b j)) (hb : ∀ j, j < n → b j = g (fr + j)) (hfr : fr + n ≤ 960) (hn9 : n ≤ 160) (hb0 : ∀ j, j < n → 0 ≤ b j ∧ b j ≤ 255) (hd : 2 ≤ d) (R1 : mj_R1 L xs 154 (mj_ow 154) (mj_ml 154) (Nat.beq (mj_ki 154) 2) 0 0 J) (R2 : mj_R2 lch 154 d 0 0 J) (R3 : mj_R3 154 (mj_rt 154) 0 0 (mn C A U Z tc tp (fr : Int) n b op ba fa p) J) (R4 : mj_R4 J) (hp : p < n) (hlp : ¬ hp_lt (b p) = true) (hdp : hp_dg (b p) = true) : ∀ (e q : Nat) (j wo : Int), n - q ≤ e → p ≤ q → q ≤ n → hp_rn hp_dg b n q = hp_rn hp_dg b n p → (j = (q : Int) - (p : Int)) → (0 ≤ wo ∧ wo ≤ 9999) ∧ (j = 0 → wo = 0) ∧ (j = 1 → wo ≤ 9) ∧ (j = 2 → wo ≤ 99) ∧ (j = 3 → wo ≤ 999) → J 0 0 (md C A U Z tc tp ((fr : Int)) ((n : Int)) ((q : Int)) 2 ((p : Int)) wo op ba fa) 160 [(2, hv j), (1, hv c), (0, .ref 80)] [] := by
  intro e
  induction e with
  | zero =>
    intro q j wo he h1 h2 hq9 hj9 hw9
    have hend : hp_rn hp_dg b n q = q := hp_rn_out (by omega)
    refine jr_aload_n R1 d_154_160 rfl ?_
    refine jr_aload_n R1 d_154_161 rfl ?_
    refine jr_getf R1 d_154_162 (md_80 hC) (by decide) rfl ?_
    refine jr_callv R2 d_154_165 (by decide) rfl (as := [.ref 80, hv ((q : Int))]) (rest := []) rfl (by unfold mj_rc; rw [show (_ : List Value).headD _ = .ref 80 from rfl]; simp only [md_80 hC]; decide) (hm_byteAt (d := 1) (x := q) (by omega) hC hTx hg hb hfr hn9 hb0 (by omega)) (by omega) (Nat.le_of_ble_eq_true rfl) ?_
    rintro rv M9 ⟨rfl, rfl⟩
    rw [if_neg (by omega)]
    show J 0 0 (md C A U Z tc tp ((fr : Int)) ((n : Int)) ((q : Int)) 2 ((p : Int)) wo op ba fa) 168 [(2, hv j), (1, hv c), (0, .ref 80)] [hv ((-1))]
    refine jl_i2l R1 (by first | assumption | exact hg _ | exact hS _ | exact hV _ | exact hP _ | exact hT _ | exact ⟨by omega, by omega⟩) d_154_168 ?_
    refine jl_ldc (z := 48) R1 d_154_169 (by decide) rfl ?_
    refine jl_ldc (z := 57) R1 d_154_172 (by decide) rfl ?_
    refine jr_calls R2 d_154_175 (by decide) (by decide) rfl (as := [hl ((-1)), hl 48, hl 57]) (rest := []) rfl (hm_in (d := 1) (M := md C A U Z tc tp ((fr : Int)) ((n : Int)) ((q : Int)) 2 ((p : Int)) wo op ba fa) (by omega) (by first | assumption | exact ⟨by omega, by omega⟩ | exact hR_hr (by assumption) | exact hR_hr (hg _)) ⟨by omega, by omega⟩ ⟨by omega, by omega⟩) (by omega) (Nat.le_of_ble_eq_true rfl) ?_
    rintro rv M9 ⟨rfl, rfl⟩
    rw [if_neg (by omega)]
    show J 0 0 (md C A U Z tc tp ((fr : Int)) ((n : Int)) ((q : Int)) 2 ((p : Int)) wo op ba fa) 178 [(2, hv j), (1, hv c), (0, .ref 80)] [hv 0]
    refine jr_ifc R1 true d_154_178 (by first | assumption | exact hg _ | exact hS _ | exact hV _ | exact hP _ | exact hT _ | exact ⟨by omega, by omega⟩) (by unfold hcb; first | exact decide_eq_true (by omega) | exact decide_eq_false (by omega)) (by decide) (pc' := 235) rfl ?_
    refine jr_aload_n R1 d_154_235 rfl ?_
    refine jr_iload_n R1 d_154_236 rfl ?_
    refine jr_iconst R1 d_154_237 ?_
    by_cases h1 : 4 < j
    · refine jr_icmp R1 false d_154_238 (by first | assumption | exact hg _ | exact hS _ | exact hV _ | exact hP _ | exact hT _ | exact ⟨by omega, by omega⟩) (by first | assumption | exact hg _ | exact hS _ | exact hV _ | exact hP _ | exact hT _ | exact ⟨by omega, by omega⟩) (by unfold hcb; first | exact decide_eq_true (by omega) | exact decide_eq_false (by omega)) (by decide) (pc' := 241) rfl ?_
      refine jr_iconst R1 d_154_241 ?_
      refine jr_goto R1 d_154_242 (by decide) (pc' := 246) rfl ?_
      refine jr_putf R1 d_154_246 (md_80 hC) (by decide) (md_pl (by decide)) rfl rfl (M' := md C A U Z tc tp ((fr : Int)) ((n : Int)) ((q : Int)) 4 ((p : Int)) wo op ba fa) md_p ?_
      refine jr_goto R1 d_154_249 (by decide) (pc' := 321) rfl ?_
      refine jr_ret R3 d_154_321 rfl ?_
      refine ⟨rfl, (q : Int), 4, wo, Or.inr (Or.inr (Or.inl ⟨hp, hlp, hdp, by rw [← hq9, hend], by rw [← hq9, hend]; first | rw [if_pos (by omega)] | rw [if_neg (by omega)]⟩)), ⟨⟨by omega, by omega⟩, ⟨by omega, by omega⟩, ⟨by omega, by omega⟩⟩, rfl⟩
    · refine jr_icmp R1 true d_154_238 (by first | assumption | exact hg _ | exact hS _ | exact hV _ | exact hP _ | exact hT _ | exact ⟨by omega, by omega⟩) (by first | assumption | exact hg _ | exact hS _ | exact hV _ | exact hP _ | exact hT _ | exact ⟨by omega, by omega⟩) (by unfold hcb; first | exact decide_eq_true (by omega) | exact decide_eq_false (by omega)) (by decide) (pc' := 245) rfl ?_
      refine jr_iconst R1 d_154_245 ?_
      refine jr_putf R1 d_154_246 (md_80 hC) (by decide) (md_pl (by decide)) rfl rfl (M' := md C A U Z tc tp ((fr : Int)) ((n : Int)) ((q : Int)) 2 ((p : Int)) wo op ba fa) md_p ?_
      refine jr_goto R1 d_154_249 (by decide) (pc' := 321) rfl ?_
      refine jr_ret R3 d_154_321 rfl ?_
      refine ⟨rfl, (q : Int), 2, wo, Or.inr (Or.inr (Or.inl ⟨hp, hlp, hdp, by rw [← hq9, hend], by rw [← hq9, hend]; first | rw [if_pos (by omega)] | rw [if_neg (by omega)]⟩)), ⟨⟨by omega, by omega⟩, ⟨by omega, by omega⟩, ⟨by omega, by omega⟩⟩, rfl⟩
  | succ e ih =>
    intro q j wo he h1 h2 hq9 hj9 hw9
    by_cases hlt : q < n
    · by_cases hj : hp_dg (b q) = true
      · have hj2 := hp_dg_iff.mp hj
        refine jr_aload_n R1 d_154_160 rfl ?_
        refine jr_aload_n R1 d_154_161 rfl ?_
        refine jr_getf R1 d_154_162 (md_80 hC) (by decide) rfl ?_
        refine jr_callv R2 d_154_165 (by decide) rfl (as := [.ref 80, hv ((q : Int))]) (rest := []) rfl (by unfold mj_rc; rw [show (_ : List Value).headD _ = .ref 80 from rfl]; simp only [md_80 hC]; decide) (hm_byteAt (d := 1) (x := q) (by omega) hC hTx hg hb hfr hn9 hb0 (by omega)) (by omega) (Nat.le_of_ble_eq_true rfl) ?_
        rintro rv M9 ⟨rfl, rfl⟩
        rw [if_pos (by omega)]
        show J 0 0 (md C A U Z tc tp ((fr : Int)) ((n : Int)) ((q : Int)) 2 ((p : Int)) wo op ba fa) 168 [(2, hv j), (1, hv c), (0, .ref 80)] [hv (b q)]
        refine jl_i2l R1 (by first | assumption | exact hg _ | exact hS _ | exact hV _ | exact hP _ | exact hT _ | exact ⟨by omega, by omega⟩) d_154_168 ?_
        refine jl_ldc (z := 48) R1 d_154_169 (by decide) rfl ?_
        refine jl_ldc (z := 57) R1 d_154_172 (by decide) rfl ?_
        refine jr_calls R2 d_154_175 (by decide) (by decide) rfl (as := [hl (b q), hl 48, hl 57]) (rest := []) rfl (hm_in (d := 1) (M := md C A U Z tc tp ((fr : Int)) ((n : Int)) ((q : Int)) 2 ((p : Int)) wo op ba fa) (by omega) (by first | assumption | exact ⟨by omega, by omega⟩ | exact hR_hr (by assumption) | exact hR_hr (hg _)) ⟨by omega, by omega⟩ ⟨by omega, by omega⟩) (by omega) (Nat.le_of_ble_eq_true rfl) ?_
        rintro rv M9 ⟨rfl, rfl⟩
        rw [if_pos (hp_dg_iff.mp hj)]
        show J 0 0 (md C A U Z tc tp ((fr : Int)) ((n : Int)) ((q : Int)) 2 ((p : Int)) wo op ba fa) 178 [(2, hv j), (1, hv c), (0, .ref 80)] [hv 1]
        refine jr_ifc R1 false d_154_178 (by first | assumption | exact hg _ | exact hS _ | exact hV _ | exact hP _ | exact hT _ | exact ⟨by omega, by omega⟩) (by unfold hcb; first | exact decide_eq_true (by omega) | exact decide_eq_false (by omega)) (by decide) (pc' := 181) rfl ?_
        refine jr_aload_n R1 d_154_181 rfl ?_
        refine jr_iload_n R1 d_154_182 rfl ?_
        refine jr_iconst R1 d_154_183 ?_
        by_cases h1 : j < 4
        · refine jr_icmp R1 false d_154_184 (by first | assumption | exact hg _ | exact hS _ | exact hV _ | exact hP _ | exact hT _ | exact ⟨by omega, by omega⟩) (by first | assumption | exact hg _ | exact hS _ | exact hV _ | exact hP _ | exact hT _ | exact ⟨by omega, by omega⟩) (by unfold hcb; first | exact decide_eq_true (by omega) | exact decide_eq_false (by omega)) (by decide) (pc' := 187) rfl ?_
          refine jl_ldc (z := 10) R1 d_154_187 (by decide) rfl ?_
          refine jr_aload_n R1 d_154_190 rfl ?_
          refine jr_getf R1 d_154_191 (md_80 hC) (by decide) rfl ?_
          refine jl_mul R1 d_154_194 ?_
          refine jr_aload_n R1 d_154_195 rfl ?_
          refine jr_aload_n R1 d_154_196 rfl ?_
          refine jr_getf R1 d_154_197 (md_80 hC) (by decide) rfl ?_
          refine jr_callv R2 d_154_200 (by decide) rfl (as := [.ref 80, hv ((q : Int))]) (rest := [hl (10 * wo), .ref 80]) rfl (by unfold mj_rc; rw [show (_ : List Value).headD _ = .ref 80 from rfl]; simp only [md_80 hC]; decide) (hm_byteAt (d := 1) (x := q) (by omega) hC hTx hg hb hfr hn9 hb0 (by omega)) (by omega) (Nat.le_of_ble_eq_true rfl) ?_
          rintro rv M9 ⟨rfl, rfl⟩
          rw [if_pos (by omega)]
          show J 0 0 (md C A U Z tc tp ((fr : Int)) ((n : Int)) ((q : Int)) 2 ((p : Int)) wo op ba fa) 203 [(2, hv j), (1, hv c), (0, .ref 80)] [hv (b q), hl (10 * wo), .ref 80]
          refine jl_i2l R1 (by first | assumption | exact hg _ | exact hS _ | exact hV _ | exact hP _ | exact hT _ | exact ⟨by omega, by omega⟩) d_154_203 ?_
          refine jl_add R1 d_154_204 ?_
          refine jl_ldc (z := 48) R1 d_154_205 (by decide) rfl ?_
          refine jl_sub R1 d_154_208 ?_
          refine jr_goto R1 d_154_209 (by decide) (pc' := 216) rfl ?_
          refine jr_putf R1 d_154_216 (md_80 hC) (by decide) (md_pl (by decide)) rfl rfl (M' := md C A U Z tc tp ((fr : Int)) ((n : Int)) ((q : Int)) 2 ((p : Int)) ((10 * wo + (b q)) - 48) op ba fa) md_p ?_
          refine jr_iinc R1 d_154_219 (by decide) rfl (lo' := [(2, hv (j + 1)), (1, hv c), (0, .ref 80)]) rfl ?_
          refine jr_aload_n R1 d_154_222 rfl ?_
          refine jr_dup_r R1 d_154_223 ?_
          refine jr_getf R1 d_154_224 (md_80 hC) (by decide) rfl ?_
          refine jr_iconst R1 d_154_227 ?_
          refine jr_iadd R1 d_154_228 ?_
          refine jr_putf R1 d_154_229 (md_80 hC) (by decide) (md_pl (by decide)) rfl rfl (M' := md C A U Z tc tp ((fr : Int)) ((n : Int)) ((q : Int) + 1) 2 ((p : Int)) ((10 * wo + (b q)) - 48) op ba fa) md_p ?_
          refine jr_goto R1 d_154_232 (by decide) (pc' := 160) rfl ?_
          refine R4 0 0 _ 160 _ [(2, hv (j + 1)), (1, hv c), (0, .ref 80)] _ (fun z hz => by simp only [List.mem_cons, List.not_mem_nil, or_false] at hz ⊢; rcases hz with rfl | rfl | rfl <;> simp) ?_
          exact ih (q + 1) (j + 1) _ (by omega) (by omega) (by omega) (by rw [← hq9, ← hp_rn_go (by omega) hj]) (by omega) ⟨⟨by omega, by omega⟩, fun z => by omega, fun z => by omega, fun z => by omega, fun z => by omega⟩
        · refine jr_icmp R1 true d_154_184 (by first | assumption | exact hg _ | exact hS _ | exact hV _ | exact hP _ | exact hT _ | exact ⟨by omega, by omega⟩) (by first | assumption | exact hg _ | exact hS _ | exact hV _ | exact hP _ | exact hT _ | exact ⟨by omega, by omega⟩) (by unfold hcb; first | exact decide_eq_true (by omega) | exact decide_eq_false (by omega)) (by decide) (pc' := 212) rfl ?_
          refine jr_aload_n R1 d_154_212 rfl ?_
          refine jr_getf R1 d_154_213 (md_80 hC) (by decide) rfl ?_
          refine jr_putf R1 d_154_216 (md_80 hC) (by decide) (md_pl (by decide)) rfl rfl (M' := md C A U Z tc tp ((fr : Int)) ((n : Int)) ((q : Int)) 2 ((p : Int)) wo op ba fa) md_p ?_
          refine jr_iinc R1 d_154_219 (by decide) rfl (lo' := [(2, hv (j + 1)), (1, hv c), (0, .ref 80)]) rfl ?_
          refine jr_aload_n R1 d_154_222 rfl ?_
          refine jr_dup_r R1 d_154_223 ?_
          refine jr_getf R1 d_154_224 (md_80 hC) (by decide) rfl ?_
          refine jr_iconst R1 d_154_227 ?_
          refine jr_iadd R1 d_154_228 ?_
          refine jr_putf R1 d_154_229 (md_80 hC) (by decide) (md_pl (by decide)) rfl rfl (M' := md C A U Z tc tp ((fr : Int)) ((n : Int)) ((q : Int) + 1) 2 ((p : Int)) wo op ba fa) md_p ?_
          refine jr_goto R1 d_154_232 (by decide) (pc' := 160) rfl ?_
          refine R4 0 0 _ 160 _ [(2, hv (j + 1)), (1, hv c), (0, .ref 80)] _ (fun z hz => by simp only [List.mem_cons, List.not_mem_nil, or_false] at hz ⊢; rcases hz with rfl | rfl | rfl <;> simp) ?_
          exact ih (q + 1) (j + 1) _ (by omega) (by omega) (by omega) (by rw [← hq9, ← hp_rn_go (by omega) hj]) (by omega) ⟨⟨by omega, by omega⟩, fun z => by omega, fun z => by omega, fun z => by omega, fun z => by omega⟩
      · have hend : hp_rn hp_dg b n q = q := hp_rn_no (by simpa using hj)
        refine jr_aload_n R1 d_154_160 rfl ?_
        refine jr_aload_n R1 d_154_161 rfl ?_
        refine jr_getf R1 d_154_162 (md_80 hC) (by decide) rfl ?_
        refine jr_callv R2 d_154_165 (by decide) rfl (as := [.ref 80, hv ((q : Int))]) (rest := []) rfl (by unfold mj_rc; rw [show (_ : List Value).headD _ = .ref 80 from rfl]; simp only [md_80 hC]; decide) (hm_byteAt (d := 1) (x := q) (by omega) hC hTx hg hb hfr hn9 hb0 (by omega)) (by omega) (Nat.le_of_ble_eq_true rfl) ?_
        rintro rv M9 ⟨rfl, rfl⟩
        rw [if_pos (by omega)]
        show J 0 0 (md C A U Z tc tp ((fr : Int)) ((n : Int)) ((q : Int)) 2 ((p : Int)) wo op ba fa) 168 [(2, hv j), (1, hv c), (0, .ref 80)] [hv (b q)]
        refine jl_i2l R1 (by first | assumption | exact hg _ | exact hS _ | exact hV _ | exact hP _ | exact hT _ | exact ⟨by omega, by omega⟩) d_154_168 ?_
        refine jl_ldc (z := 48) R1 d_154_169 (by decide) rfl ?_
        refine jl_ldc (z := 57) R1 d_154_172 (by decide) rfl ?_
        refine jr_calls R2 d_154_175 (by decide) (by decide) rfl (as := [hl (b q), hl 48, hl 57]) (rest := []) rfl (hm_in (d := 1) (M := md C A U Z tc tp ((fr : Int)) ((n : Int)) ((q : Int)) 2 ((p : Int)) wo op ba fa) (by omega) (by first | assumption | exact ⟨by omega, by omega⟩ | exact hR_hr (by assumption) | exact hR_hr (hg _)) ⟨by omega, by omega⟩ ⟨by omega, by omega⟩) (by omega) (Nat.le_of_ble_eq_true rfl) ?_
        rintro rv M9 ⟨rfl, rfl⟩
        rw [if_neg (fun z => hj (hp_dg_iff.mpr z))]
        show J 0 0 (md C A U Z tc tp ((fr : Int)) ((n : Int)) ((q : Int)) 2 ((p : Int)) wo op ba fa) 178 [(2, hv j), (1, hv c), (0, .ref 80)] [hv 0]
        refine jr_ifc R1 true d_154_178 (by first | assumption | exact hg _ | exact hS _ | exact hV _ | exact hP _ | exact hT _ | exact ⟨by omega, by omega⟩) (by unfold hcb; first | exact decide_eq_true (by omega) | exact decide_eq_false (by omega)) (by decide) (pc' := 235) rfl ?_
        refine jr_aload_n R1 d_154_235 rfl ?_
        refine jr_iload_n R1 d_154_236 rfl ?_
        refine jr_iconst R1 d_154_237 ?_
        by_cases h1 : 4 < j
        · refine jr_icmp R1 false d_154_238 (by first | assumption | exact hg _ | exact hS _ | exact hV _ | exact hP _ | exact hT _ | exact ⟨by omega, by omega⟩) (by first | assumption | exact hg _ | exact hS _ | exact hV _ | exact hP _ | exact hT _ | exact ⟨by omega, by omega⟩) (by unfold hcb; first | exact decide_eq_true (by omega) | exact decide_eq_false (by omega)) (by decide) (pc' := 241) rfl ?_
          refine jr_iconst R1 d_154_241 ?_
          refine jr_goto R1 d_154_242 (by decide) (pc' := 246) rfl ?_
          refine jr_putf R1 d_154_246 (md_80 hC) (by decide) (md_pl (by decide)) rfl rfl (M' := md C A U Z tc tp ((fr : Int)) ((n : Int)) ((q : Int)) 4 ((p : Int)) wo op ba fa) md_p ?_
          refine jr_goto R1 d_154_249 (by decide) (pc' := 321) rfl ?_
          refine jr_ret R3 d_154_321 rfl ?_
          refine ⟨rfl, (q : Int), 4, wo, Or.inr (Or.inr (Or.inl ⟨hp, hlp, hdp, by rw [← hq9, hend], by rw [← hq9, hend]; first | rw [if_pos (by omega)] | rw [if_neg (by omega)]⟩)), ⟨⟨by omega, by omega⟩, ⟨by omega, by omega⟩, ⟨by omega, by omega⟩⟩, rfl⟩
        · refine jr_icmp R1 true d_154_238 (by first | assumption | exact hg _ | exact hS _ | exact hV _ | exact hP _ | exact hT _ | exact ⟨by omega, by omega⟩) (by first | assumption | exact hg _ | exact hS _ | exact hV _ | exact hP _ | exact hT _ | exact ⟨by omega, by omega⟩) (by unfold hcb; first | exact decide_eq_true (by omega) | exact decide_eq_false (by omega)) (by decide) (pc' := 245) rfl ?_
          refine jr_iconst R1 d_154_245 ?_
          refine jr_putf R1 d_154_246 (md_80 hC) (by decide) (md_pl (by decide)) rfl rfl (M' := md C A U Z tc tp ((fr : Int)) ((n : Int)) ((q : Int)) 2 ((p : Int)) wo op ba fa) md_p ?_
          refine jr_goto R1 d_154_249 (by decide) (pc' := 321) rfl ?_
          refine jr_ret R3 d_154_321 rfl ?_
          refine ⟨rfl, (q : Int), 2, wo, Or.inr (Or.inr (Or.inl ⟨hp, hlp, hdp, by rw [← hq9, hend], by rw [← hq9, hend]; first | rw [if_pos (by omega)] | rw [if_neg (by omega)]⟩)), ⟨⟨by omega, by omega⟩, ⟨by omega, by omega⟩, ⟨by omega, by omega⟩⟩, rfl⟩
    · have hend : hp_rn hp_dg b n q = q := hp_rn_out (by omega)
      refine jr_aload_n R1 d_154_160 rfl ?_
      refine jr_aload_n R1 d_154_161 rfl ?_
      refine jr_getf R1 d_154_162 (md_80 hC) (by decide) rfl ?_
      refine jr_callv R2 d_154_165 (by decide) rfl (as := [.ref 80, hv ((q : Int))]) (rest := []) rfl (by unfold mj_rc; rw [show (_ : List Value).headD _ = .ref 80 from rfl]; simp only [md_80 hC]; decide) (hm_byteAt (d := 1) (x := q) (by omega) hC hTx hg hb hfr hn9 hb0 (by omega)) (by omega) (Nat.le_of_ble_eq_true rfl) ?_
      rintro rv M9 ⟨rfl, rfl⟩
      rw [if_neg (by omega)]
      show J 0 0 (md C A U Z tc tp ((fr : Int)) ((n : Int)) ((q : Int)) 2 ((p : Int)) wo op ba fa) 168 [(2, hv j), (1, hv c), (0, .ref 80)] [hv ((-1))]
      refine jl_i2l R1 (by first | assumption | exact hg _ | exact hS _ | exact hV _ | exact hP _ | exact hT _ | exact ⟨by omega, by omega⟩) d_154_168 ?_
      refine jl_ldc (z := 48) R1 d_154_169 (by decide) rfl ?_
      refine jl_ldc (z := 57) R1 d_154_172 (by decide) rfl ?_
      refine jr_calls R2 d_154_175 (by decide) (by decide) rfl (as := [hl ((-1)), hl 48, hl 57]) (rest := []) rfl (hm_in (d := 1) (M := md C A U Z tc tp ((fr : Int)) ((n : Int)) ((q : Int)) 2 ((p : Int)) wo op ba fa) (by omega) (by first | assumption | exact ⟨by omega, by omega⟩ | exact hR_hr (by assumption) | exact hR_hr (hg _)) ⟨by omega, by omega⟩ ⟨by omega, by omega⟩) (by omega) (Nat.le_of_ble_eq_true rfl) ?_
      rintro rv M9 ⟨rfl, rfl⟩
      rw [if_neg (by omega)]
      show J 0 0 (md C A U Z tc tp ((fr : Int)) ((n : Int)) ((q : Int)) 2 ((p : Int)) wo op ba fa) 178 [(2, hv j), (1, hv c), (0, .ref 80)] [hv 0]
      refine jr_ifc R1 true d_154_178 (by first | assumption | exact hg _ | exact hS _ | exact hV _ | exact hP _ | exact hT _ | exact ⟨by omega, by omega⟩) (by unfold hcb; first | exact decide_eq_true (by omega) | exact decide_eq_false (by omega)) (by decide) (pc' := 235) rfl ?_
      refine jr_aload_n R1 d_154_235 rfl ?_
      refine jr_iload_n R1 d_154_236 rfl ?_
      refine jr_iconst R1 d_154_237 ?_
      by_cases h1 : 4 < j
      · refine jr_icmp R1 false d_154_238 (by first | assumption | exact hg _ | exact hS _ | exact hV _ | exact hP _ | exact hT _ | exact ⟨by omega, by omega⟩) (by first | assumption | exact hg _ | exact hS _ | exact hV _ | exact hP _ | exact hT _ | exact ⟨by omega, by omega⟩) (by unfold hcb; first | exact decide_eq_true (by omega) | exact decide_eq_false (by omega)) (by decide) (pc' := 241) rfl ?_
        refine jr_iconst R1 d_154_241 ?_
        refine jr_goto R1 d_154_242 (by decide) (pc' := 246) rfl ?_
        refine jr_putf R1 d_154_246 (md_80 hC) (by decide) (md_pl (by decide)) rfl rfl (M' := md C A U Z tc tp ((fr : Int)) ((n : Int)) ((q : Int)) 4 ((p : Int)) wo op ba fa) md_p ?_
        refine jr_goto R1 d_154_249 (by decide) (pc' := 321) rfl ?_
        refine jr_ret R3 d_154_321 rfl ?_
        refine ⟨rfl, (q : Int), 4, wo, Or.inr (Or.inr (Or.inl ⟨hp, hlp, hdp, by rw [← hq9, hend], by rw [← hq9, hend]; first | rw [if_pos (by omega)] | rw [if_neg (by omega)]⟩)), ⟨⟨by omega, by omega⟩, ⟨by omega, by omega⟩, ⟨by omega, by omega⟩⟩, rfl⟩
      · refine jr_icmp R1 true d_154_238 (by first | assumption | exact hg _ | exact hS _ | exact hV _ | exact hP _ | exact hT _ | exact ⟨by omega, by omega⟩) (by first | assumption | exact hg _ | exact hS _ | exact hV _ | exact hP _ | exact hT _ | exact ⟨by omega, by omega⟩) (by unfold hcb; first | exact decide_eq_true (by omega) | exact decide_eq_false (by omega)) (by decide) (pc' := 245) rfl ?_
        refine jr_iconst R1 d_154_245 ?_
        refine jr_putf R1 d_154_246 (md_80 hC) (by decide) (md_pl (by decide)) rfl rfl (M' := md C A U Z tc tp ((fr : Int)) ((n : Int)) ((q : Int)) 2 ((p : Int)) wo op ba fa) md_p ?_
        refine jr_goto R1 d_154_249 (by decide) (pc' := 321) rfl ?_
        refine jr_ret R3 d_154_321 rfl ?_
        refine ⟨rfl, (q : Int), 2, wo, Or.inr (Or.inr (Or.inl ⟨hp, hlp, hdp, by rw [← hq9, hend], by rw [← hq9, hend]; first | rw [if_pos (by omega)] | rw [if_neg (by omega)]⟩)), ⟨⟨by omega, by omega⟩, ⟨by omega, by omega⟩, ⟨by omega, by omega⟩⟩, rfl⟩
theorem hm_token {lch : Launch} {d L : Nat} {xs : Nat → Int32} {J : mj_JT} {C : mj_M} {A : Nat → Value} {U : Nat → Int} {Z : List Value} {g b : Nat → Int} {fr n : Nat} {tc tp to ta wo op ba fa : Int} {p : Nat} (hC : 84 ≤ C.length) (hTx : C[81]? = some (hA 0 960 g)) (hg : ∀ j, hr (b j)) (hb : ∀ j, j < n → b j = g (fr + j)) (hfr : fr + n ≤ 960) (hn9 : n ≤ 160) (hb0 : ∀ j, j < n → 0 ≤ b j ∧ b j ≤ 255) (hd : 2 ≤ d) (R1 : mj_R1 L xs 154 (mj_ow 154) (mj_ml 154) (Nat.beq (mj_ki 154) 2) 0 0 J) (R2 : mj_R2 lch 154 d 0 0 J) (R3 : mj_R3 154 (mj_rt 154) 0 0 (mn C A U Z tc tp (fr : Int) n b op ba fa p) J) (R4 : mj_R4 J) (hp9 : p ≤ n) (hwo : -100000 ≤ wo ∧ wo ≤ 10000000) (hbn : p < n → ¬ hp_bl (b p) = true) : J 0 0 (md C A U Z tc tp ((fr : Int)) ((n : Int)) ((p : Int)) to ta wo op ba fa) 39 [(0, .ref 80)] [] := by
  by_cases hp : p < n
  · have hb9 := hb0 p hp
    by_cases hlp : hp_lt (b p) = true
    · have hlp2 := hp_lt_iff.mp hlp
      refine jr_aload_n R1 d_154_39 rfl ?_
      refine jr_aload_n R1 d_154_40 rfl ?_
      refine jr_getf R1 d_154_41 (md_80 hC) (by decide) rfl ?_
      refine jr_putf R1 d_154_44 (md_80 hC) (by decide) (md_pl (by decide)) rfl rfl (M' := md C A U Z tc tp ((fr : Int)) ((n : Int)) ((p : Int)) to ((p : Int)) wo op ba fa) md_p ?_
      refine jr_aload_n R1 d_154_47 rfl ?_
      refine jr_aload_n R1 d_154_48 rfl ?_
      refine jr_getf R1 d_154_49 (md_80 hC) (by decide) rfl ?_
      refine jr_callv R2 d_154_52 (by decide) rfl (as := [.ref 80, hv ((p : Int))]) (rest := []) rfl (by unfold mj_rc; rw [show (_ : List Value).headD _ = .ref 80 from rfl]; simp only [md_80 hC]; decide) (hm_byteAt (d := 1) (x := p) (by omega) hC hTx hg hb hfr hn9 hb0 (by omega)) (by omega) (Nat.le_of_ble_eq_true rfl) ?_
      rintro rv M9 ⟨rfl, rfl⟩
      rw [if_pos (by omega)]
      show J 0 0 (md C A U Z tc tp ((fr : Int)) ((n : Int)) ((p : Int)) to ((p : Int)) wo op ba fa) 55 [(0, .ref 80)] [hv (b p)]
      refine jr_istore_n R1 d_154_55 (by decide) (lo' := [(1, hv (b p)), (0, .ref 80)]) rfl ?_
      refine jr_aload_n R1 d_154_56 rfl ?_
      refine jr_iconst R1 d_154_57 ?_
      refine jr_putf R1 d_154_58 (md_80 hC) (by decide) (md_pl (by decide)) rfl rfl (M' := md C A U Z tc tp ((fr : Int)) ((n : Int)) ((p : Int)) 4 ((p : Int)) wo op ba fa) md_p ?_
      refine jr_iload_n R1 d_154_61 rfl ?_
      refine jr_ifc R1 true d_154_62 (by first | assumption | exact hg _ | exact hS _ | exact hV _ | exact hP _ | exact hT _ | exact ⟨by omega, by omega⟩) (by unfold hcb; first | exact decide_eq_true (by omega) | exact decide_eq_false (by omega)) (by decide) (pc' := 81) rfl ?_
      refine jr_iload_n R1 d_154_81 rfl ?_
      refine jl_i2l R1 (by first | assumption | exact hg _ | exact hS _ | exact hV _ | exact hP _ | exact hT _ | exact ⟨by omega, by omega⟩) d_154_82 ?_
      refine jl_ldc (z := 97) R1 d_154_83 (by decide) rfl ?_
      refine jl_ldc (z := 122) R1 d_154_86 (by decide) rfl ?_
      refine jr_calls R2 d_154_89 (by decide) (by decide) rfl (as := [hl (b p), hl 97, hl 122]) (rest := []) rfl (hm_in (d := 1) (M := md C A U Z tc tp ((fr : Int)) ((n : Int)) ((p : Int)) 4 ((p : Int)) wo op ba fa) (by omega) (by first | assumption | exact ⟨by omega, by omega⟩ | exact hR_hr (by assumption) | exact hR_hr (hg _)) ⟨by omega, by omega⟩ ⟨by omega, by omega⟩) (by omega) (Nat.le_of_ble_eq_true rfl) ?_
      rintro rv M9 ⟨rfl, rfl⟩
      rw [if_pos (hp_lt_iff.mp hlp)]
      show J 0 0 (md C A U Z tc tp ((fr : Int)) ((n : Int)) ((p : Int)) 4 ((p : Int)) wo op ba fa) 92 [(1, hv (b p)), (0, .ref 80)] [hv 1]
      refine jr_ifc R1 false d_154_92 (by first | assumption | exact hg _ | exact hS _ | exact hV _ | exact hP _ | exact hT _ | exact ⟨by omega, by omega⟩) (by unfold hcb; first | exact decide_eq_true (by omega) | exact decide_eq_false (by omega)) (by decide) (pc' := 95) rfl ?_
      refine jr_aload_n R1 d_154_95 rfl ?_
      refine jr_iconst R1 d_154_96 ?_
      refine jr_putf R1 d_154_97 (md_80 hC) (by decide) (md_pl (by decide)) rfl rfl (M' := md C A U Z tc tp ((fr : Int)) ((n : Int)) ((p : Int)) 1 ((p : Int)) wo op ba fa) md_p ?_
      exact hm_letters hC hTx hg hb hfr hn9 hb0 hd R1 R2 R3 R4 hp hlp hwo n p (by omega) (Nat.le_refl _) (by omega) rfl
    · by_cases hdp : hp_dg (b p) = true
      · have hdp2 := hp_dg_iff.mp hdp
        refine jr_aload_n R1 d_154_39 rfl ?_
        refine jr_aload_n R1 d_154_40 rfl ?_
        refine jr_getf R1 d_154_41 (md_80 hC) (by decide) rfl ?_
        refine jr_putf R1 d_154_44 (md_80 hC) (by decide) (md_pl (by decide)) rfl rfl (M' := md C A U Z tc tp ((fr : Int)) ((n : Int)) ((p : Int)) to ((p : Int)) wo op ba fa) md_p ?_
        refine jr_aload_n R1 d_154_47 rfl ?_
        refine jr_aload_n R1 d_154_48 rfl ?_
        refine jr_getf R1 d_154_49 (md_80 hC) (by decide) rfl ?_
        refine jr_callv R2 d_154_52 (by decide) rfl (as := [.ref 80, hv ((p : Int))]) (rest := []) rfl (by unfold mj_rc; rw [show (_ : List Value).headD _ = .ref 80 from rfl]; simp only [md_80 hC]; decide) (hm_byteAt (d := 1) (x := p) (by omega) hC hTx hg hb hfr hn9 hb0 (by omega)) (by omega) (Nat.le_of_ble_eq_true rfl) ?_
        rintro rv M9 ⟨rfl, rfl⟩
        rw [if_pos (by omega)]
        show J 0 0 (md C A U Z tc tp ((fr : Int)) ((n : Int)) ((p : Int)) to ((p : Int)) wo op ba fa) 55 [(0, .ref 80)] [hv (b p)]
        refine jr_istore_n R1 d_154_55 (by decide) (lo' := [(1, hv (b p)), (0, .ref 80)]) rfl ?_
        refine jr_aload_n R1 d_154_56 rfl ?_
        refine jr_iconst R1 d_154_57 ?_
        refine jr_putf R1 d_154_58 (md_80 hC) (by decide) (md_pl (by decide)) rfl rfl (M' := md C A U Z tc tp ((fr : Int)) ((n : Int)) ((p : Int)) 4 ((p : Int)) wo op ba fa) md_p ?_
        refine jr_iload_n R1 d_154_61 rfl ?_
        refine jr_ifc R1 true d_154_62 (by first | assumption | exact hg _ | exact hS _ | exact hV _ | exact hP _ | exact hT _ | exact ⟨by omega, by omega⟩) (by unfold hcb; first | exact decide_eq_true (by omega) | exact decide_eq_false (by omega)) (by decide) (pc' := 81) rfl ?_
        refine jr_iload_n R1 d_154_81 rfl ?_
        refine jl_i2l R1 (by first | assumption | exact hg _ | exact hS _ | exact hV _ | exact hP _ | exact hT _ | exact ⟨by omega, by omega⟩) d_154_82 ?_
        refine jl_ldc (z := 97) R1 d_154_83 (by decide) rfl ?_
        refine jl_ldc (z := 122) R1 d_154_86 (by decide) rfl ?_
        refine jr_calls R2 d_154_89 (by decide) (by decide) rfl (as := [hl (b p), hl 97, hl 122]) (rest := []) rfl (hm_in (d := 1) (M := md C A U Z tc tp ((fr : Int)) ((n : Int)) ((p : Int)) 4 ((p : Int)) wo op ba fa) (by omega) (by first | assumption | exact ⟨by omega, by omega⟩ | exact hR_hr (by assumption) | exact hR_hr (hg _)) ⟨by omega, by omega⟩ ⟨by omega, by omega⟩) (by omega) (Nat.le_of_ble_eq_true rfl) ?_
        rintro rv M9 ⟨rfl, rfl⟩
        rw [if_neg (fun z => hlp (hp_lt_iff.mpr z))]
        show J 0 0 (md C A U Z tc tp ((fr : Int)) ((n : Int)) ((p : Int)) 4 ((p : Int)) wo op ba fa) 92 [(1, hv (b p)), (0, .ref 80)] [hv 0]
        refine jr_ifc R1 true d_154_92 (by first | assumption | exact hg _ | exact hS _ | exact hV _ | exact hP _ | exact hT _ | exact ⟨by omega, by omega⟩) (by unfold hcb; first | exact decide_eq_true (by omega) | exact decide_eq_false (by omega)) (by decide) (pc' := 134) rfl ?_
        refine jr_iload_n R1 d_154_134 rfl ?_
        refine jl_i2l R1 (by first | assumption | exact hg _ | exact hS _ | exact hV _ | exact hP _ | exact hT _ | exact ⟨by omega, by omega⟩) d_154_135 ?_
        refine jl_ldc (z := 48) R1 d_154_136 (by decide) rfl ?_
        refine jl_ldc (z := 57) R1 d_154_139 (by decide) rfl ?_
        refine jr_calls R2 d_154_142 (by decide) (by decide) rfl (as := [hl (b p), hl 48, hl 57]) (rest := []) rfl (hm_in (d := 1) (M := md C A U Z tc tp ((fr : Int)) ((n : Int)) ((p : Int)) 4 ((p : Int)) wo op ba fa) (by omega) (by first | assumption | exact ⟨by omega, by omega⟩ | exact hR_hr (by assumption) | exact hR_hr (hg _)) ⟨by omega, by omega⟩ ⟨by omega, by omega⟩) (by omega) (Nat.le_of_ble_eq_true rfl) ?_
        rintro rv M9 ⟨rfl, rfl⟩
        rw [if_pos (hp_dg_iff.mp hdp)]
        show J 0 0 (md C A U Z tc tp ((fr : Int)) ((n : Int)) ((p : Int)) 4 ((p : Int)) wo op ba fa) 145 [(1, hv (b p)), (0, .ref 80)] [hv 1]
        refine jr_ifc R1 false d_154_145 (by first | assumption | exact hg _ | exact hS _ | exact hV _ | exact hP _ | exact hT _ | exact ⟨by omega, by omega⟩) (by unfold hcb; first | exact decide_eq_true (by omega) | exact decide_eq_false (by omega)) (by decide) (pc' := 148) rfl ?_
        refine jr_aload_n R1 d_154_148 rfl ?_
        refine jr_iconst R1 d_154_149 ?_
        refine jr_putf R1 d_154_150 (md_80 hC) (by decide) (md_pl (by decide)) rfl rfl (M' := md C A U Z tc tp ((fr : Int)) ((n : Int)) ((p : Int)) 2 ((p : Int)) wo op ba fa) md_p ?_
        refine jr_aload_n R1 d_154_153 rfl ?_
        refine jl_const R1 d_154_154 ?_
        refine jr_putf R1 d_154_155 (md_80 hC) (by decide) (md_pl (by decide)) rfl rfl (M' := md C A U Z tc tp ((fr : Int)) ((n : Int)) ((p : Int)) 2 ((p : Int)) 0 op ba fa) md_p ?_
        refine jr_iconst R1 d_154_158 ?_
        refine jr_istore_n R1 d_154_159 (by decide) (lo' := [(2, hv 0), (1, hv (b p)), (0, .ref 80)]) rfl ?_
        exact hm_digits hC hTx hg hb hfr hn9 hb0 hd R1 R2 R3 R4 hp hlp hdp n p 0 0 (by omega) (Nat.le_refl _) (by omega) rfl (by omega) ⟨⟨by omega, by omega⟩, fun z => by omega, fun z => by omega, fun z => by omega, fun z => by omega⟩
      · skip
        refine jr_aload_n R1 d_154_39 rfl ?_
        refine jr_aload_n R1 d_154_40 rfl ?_
        refine jr_getf R1 d_154_41 (md_80 hC) (by decide) rfl ?_
        refine jr_putf R1 d_154_44 (md_80 hC) (by decide) (md_pl (by decide)) rfl rfl (M' := md C A U Z tc tp ((fr : Int)) ((n : Int)) ((p : Int)) to ((p : Int)) wo op ba fa) md_p ?_
        refine jr_aload_n R1 d_154_47 rfl ?_
        refine jr_aload_n R1 d_154_48 rfl ?_
        refine jr_getf R1 d_154_49 (md_80 hC) (by decide) rfl ?_
        refine jr_callv R2 d_154_52 (by decide) rfl (as := [.ref 80, hv ((p : Int))]) (rest := []) rfl (by unfold mj_rc; rw [show (_ : List Value).headD _ = .ref 80 from rfl]; simp only [md_80 hC]; decide) (hm_byteAt (d := 1) (x := p) (by omega) hC hTx hg hb hfr hn9 hb0 (by omega)) (by omega) (Nat.le_of_ble_eq_true rfl) ?_
        rintro rv M9 ⟨rfl, rfl⟩
        rw [if_pos (by omega)]
        show J 0 0 (md C A U Z tc tp ((fr : Int)) ((n : Int)) ((p : Int)) to ((p : Int)) wo op ba fa) 55 [(0, .ref 80)] [hv (b p)]
        refine jr_istore_n R1 d_154_55 (by decide) (lo' := [(1, hv (b p)), (0, .ref 80)]) rfl ?_
        refine jr_aload_n R1 d_154_56 rfl ?_
        refine jr_iconst R1 d_154_57 ?_
        refine jr_putf R1 d_154_58 (md_80 hC) (by decide) (md_pl (by decide)) rfl rfl (M' := md C A U Z tc tp ((fr : Int)) ((n : Int)) ((p : Int)) 4 ((p : Int)) wo op ba fa) md_p ?_
        refine jr_iload_n R1 d_154_61 rfl ?_
        refine jr_ifc R1 true d_154_62 (by first | assumption | exact hg _ | exact hS _ | exact hV _ | exact hP _ | exact hT _ | exact ⟨by omega, by omega⟩) (by unfold hcb; first | exact decide_eq_true (by omega) | exact decide_eq_false (by omega)) (by decide) (pc' := 81) rfl ?_
        refine jr_iload_n R1 d_154_81 rfl ?_
        refine jl_i2l R1 (by first | assumption | exact hg _ | exact hS _ | exact hV _ | exact hP _ | exact hT _ | exact ⟨by omega, by omega⟩) d_154_82 ?_
        refine jl_ldc (z := 97) R1 d_154_83 (by decide) rfl ?_
        refine jl_ldc (z := 122) R1 d_154_86 (by decide) rfl ?_
        refine jr_calls R2 d_154_89 (by decide) (by decide) rfl (as := [hl (b p), hl 97, hl 122]) (rest := []) rfl (hm_in (d := 1) (M := md C A U Z tc tp ((fr : Int)) ((n : Int)) ((p : Int)) 4 ((p : Int)) wo op ba fa) (by omega) (by first | assumption | exact ⟨by omega, by omega⟩ | exact hR_hr (by assumption) | exact hR_hr (hg _)) ⟨by omega, by omega⟩ ⟨by omega, by omega⟩) (by omega) (Nat.le_of_ble_eq_true rfl) ?_
        rintro rv M9 ⟨rfl, rfl⟩
        rw [if_neg (fun z => hlp (hp_lt_iff.mpr z))]
        show J 0 0 (md C A U Z tc tp ((fr : Int)) ((n : Int)) ((p : Int)) 4 ((p : Int)) wo op ba fa) 92 [(1, hv (b p)), (0, .ref 80)] [hv 0]
        refine jr_ifc R1 true d_154_92 (by first | assumption | exact hg _ | exact hS _ | exact hV _ | exact hP _ | exact hT _ | exact ⟨by omega, by omega⟩) (by unfold hcb; first | exact decide_eq_true (by omega) | exact decide_eq_false (by omega)) (by decide) (pc' := 134) rfl ?_
        refine jr_iload_n R1 d_154_134 rfl ?_
        refine jl_i2l R1 (by first | assumption | exact hg _ | exact hS _ | exact hV _ | exact hP _ | exact hT _ | exact ⟨by omega, by omega⟩) d_154_135 ?_
        refine jl_ldc (z := 48) R1 d_154_136 (by decide) rfl ?_
        refine jl_ldc (z := 57) R1 d_154_139 (by decide) rfl ?_
        refine jr_calls R2 d_154_142 (by decide) (by decide) rfl (as := [hl (b p), hl 48, hl 57]) (rest := []) rfl (hm_in (d := 1) (M := md C A U Z tc tp ((fr : Int)) ((n : Int)) ((p : Int)) 4 ((p : Int)) wo op ba fa) (by omega) (by first | assumption | exact ⟨by omega, by omega⟩ | exact hR_hr (by assumption) | exact hR_hr (hg _)) ⟨by omega, by omega⟩ ⟨by omega, by omega⟩) (by omega) (Nat.le_of_ble_eq_true rfl) ?_
        rintro rv M9 ⟨rfl, rfl⟩
        rw [if_neg (fun z => hdp (hp_dg_iff.mpr z))]
        show J 0 0 (md C A U Z tc tp ((fr : Int)) ((n : Int)) ((p : Int)) 4 ((p : Int)) wo op ba fa) 145 [(1, hv (b p)), (0, .ref 80)] [hv 0]
        refine jr_ifc R1 true d_154_145 (by first | assumption | exact hg _ | exact hS _ | exact hV _ | exact hP _ | exact hT _ | exact ⟨by omega, by omega⟩) (by unfold hcb; first | exact decide_eq_true (by omega) | exact decide_eq_false (by omega)) (by decide) (pc' := 252) rfl ?_
        refine jr_iload_n R1 d_154_252 rfl ?_
        refine jr_bipush R1 d_154_253 (by decide) ?_
        by_cases h1 : b p = 40
        · refine jr_icmp R1 true d_154_255 (by first | assumption | exact hg _ | exact hS _ | exact hV _ | exact hP _ | exact hT _ | exact ⟨by omega, by omega⟩) (by first | assumption | exact hg _ | exact hS _ | exact hV _ | exact hP _ | exact hT _ | exact ⟨by omega, by omega⟩) (by unfold hcb; first | exact decide_eq_true (by omega) | exact decide_eq_false (by omega)) (by decide) (pc' := 300) rfl ?_
          refine jr_aload_n R1 d_154_300 rfl ?_
          refine jr_iconst R1 d_154_301 ?_
          refine jr_putf R1 d_154_302 (md_80 hC) (by decide) (md_pl (by decide)) rfl rfl (M' := md C A U Z tc tp ((fr : Int)) ((n : Int)) ((p : Int)) 3 ((p : Int)) wo op ba fa) md_p ?_
          refine jr_aload_n R1 d_154_305 rfl ?_
          refine jr_iload_n R1 d_154_306 rfl ?_
          refine jl_i2l R1 (by first | assumption | exact hg _ | exact hS _ | exact hV _ | exact hP _ | exact hT _ | exact ⟨by omega, by omega⟩) d_154_307 ?_
          refine jr_putf R1 d_154_308 (md_80 hC) (by decide) (md_pl (by decide)) rfl rfl (M' := md C A U Z tc tp ((fr : Int)) ((n : Int)) ((p : Int)) 3 ((p : Int)) (b p) op ba fa) md_p ?_
          refine jr_aload_n R1 d_154_311 rfl ?_
          refine jr_dup_r R1 d_154_312 ?_
          refine jr_getf R1 d_154_313 (md_80 hC) (by decide) rfl ?_
          refine jr_iconst R1 d_154_316 ?_
          refine jr_iadd R1 d_154_317 ?_
          refine jr_putf R1 d_154_318 (md_80 hC) (by decide) (md_pl (by decide)) rfl rfl (M' := md C A U Z tc tp ((fr : Int)) ((n : Int)) ((p : Int) + 1) 3 ((p : Int)) (b p) op ba fa) md_p ?_
          refine jr_ret R3 d_154_321 rfl ?_
          refine ⟨rfl, (p : Int) + 1, 3, b p, Or.inr (Or.inr (Or.inr (Or.inl ⟨hp, hlp, hdp, hp_sg_iff.mpr (by omega), rfl, rfl, rfl⟩))), ⟨⟨by omega, by omega⟩, ⟨by omega, by omega⟩, ⟨by omega, by omega⟩⟩, rfl⟩
        · refine jr_icmp R1 false d_154_255 (by first | assumption | exact hg _ | exact hS _ | exact hV _ | exact hP _ | exact hT _ | exact ⟨by omega, by omega⟩) (by first | assumption | exact hg _ | exact hS _ | exact hV _ | exact hP _ | exact hT _ | exact ⟨by omega, by omega⟩) (by unfold hcb; first | exact decide_eq_true (by omega) | exact decide_eq_false (by omega)) (by decide) (pc' := 258) rfl ?_
          refine jr_iload_n R1 d_154_258 rfl ?_
          refine jr_bipush R1 d_154_259 (by decide) ?_
          by_cases h2 : b p = 41
          · refine jr_icmp R1 true d_154_261 (by first | assumption | exact hg _ | exact hS _ | exact hV _ | exact hP _ | exact hT _ | exact ⟨by omega, by omega⟩) (by first | assumption | exact hg _ | exact hS _ | exact hV _ | exact hP _ | exact hT _ | exact ⟨by omega, by omega⟩) (by unfold hcb; first | exact decide_eq_true (by omega) | exact decide_eq_false (by omega)) (by decide) (pc' := 300) rfl ?_
            refine jr_aload_n R1 d_154_300 rfl ?_
            refine jr_iconst R1 d_154_301 ?_
            refine jr_putf R1 d_154_302 (md_80 hC) (by decide) (md_pl (by decide)) rfl rfl (M' := md C A U Z tc tp ((fr : Int)) ((n : Int)) ((p : Int)) 3 ((p : Int)) wo op ba fa) md_p ?_
            refine jr_aload_n R1 d_154_305 rfl ?_
            refine jr_iload_n R1 d_154_306 rfl ?_
            refine jl_i2l R1 (by first | assumption | exact hg _ | exact hS _ | exact hV _ | exact hP _ | exact hT _ | exact ⟨by omega, by omega⟩) d_154_307 ?_
            refine jr_putf R1 d_154_308 (md_80 hC) (by decide) (md_pl (by decide)) rfl rfl (M' := md C A U Z tc tp ((fr : Int)) ((n : Int)) ((p : Int)) 3 ((p : Int)) (b p) op ba fa) md_p ?_
            refine jr_aload_n R1 d_154_311 rfl ?_
            refine jr_dup_r R1 d_154_312 ?_
            refine jr_getf R1 d_154_313 (md_80 hC) (by decide) rfl ?_
            refine jr_iconst R1 d_154_316 ?_
            refine jr_iadd R1 d_154_317 ?_
            refine jr_putf R1 d_154_318 (md_80 hC) (by decide) (md_pl (by decide)) rfl rfl (M' := md C A U Z tc tp ((fr : Int)) ((n : Int)) ((p : Int) + 1) 3 ((p : Int)) (b p) op ba fa) md_p ?_
            refine jr_ret R3 d_154_321 rfl ?_
            refine ⟨rfl, (p : Int) + 1, 3, b p, Or.inr (Or.inr (Or.inr (Or.inl ⟨hp, hlp, hdp, hp_sg_iff.mpr (by omega), rfl, rfl, rfl⟩))), ⟨⟨by omega, by omega⟩, ⟨by omega, by omega⟩, ⟨by omega, by omega⟩⟩, rfl⟩
          · refine jr_icmp R1 false d_154_261 (by first | assumption | exact hg _ | exact hS _ | exact hV _ | exact hP _ | exact hT _ | exact ⟨by omega, by omega⟩) (by first | assumption | exact hg _ | exact hS _ | exact hV _ | exact hP _ | exact hT _ | exact ⟨by omega, by omega⟩) (by unfold hcb; first | exact decide_eq_true (by omega) | exact decide_eq_false (by omega)) (by decide) (pc' := 264) rfl ?_
            refine jr_iload_n R1 d_154_264 rfl ?_
            refine jr_bipush R1 d_154_265 (by decide) ?_
            by_cases h3 : b p = 59
            · refine jr_icmp R1 true d_154_267 (by first | assumption | exact hg _ | exact hS _ | exact hV _ | exact hP _ | exact hT _ | exact ⟨by omega, by omega⟩) (by first | assumption | exact hg _ | exact hS _ | exact hV _ | exact hP _ | exact hT _ | exact ⟨by omega, by omega⟩) (by unfold hcb; first | exact decide_eq_true (by omega) | exact decide_eq_false (by omega)) (by decide) (pc' := 300) rfl ?_
              refine jr_aload_n R1 d_154_300 rfl ?_
              refine jr_iconst R1 d_154_301 ?_
              refine jr_putf R1 d_154_302 (md_80 hC) (by decide) (md_pl (by decide)) rfl rfl (M' := md C A U Z tc tp ((fr : Int)) ((n : Int)) ((p : Int)) 3 ((p : Int)) wo op ba fa) md_p ?_
              refine jr_aload_n R1 d_154_305 rfl ?_
              refine jr_iload_n R1 d_154_306 rfl ?_
              refine jl_i2l R1 (by first | assumption | exact hg _ | exact hS _ | exact hV _ | exact hP _ | exact hT _ | exact ⟨by omega, by omega⟩) d_154_307 ?_
              refine jr_putf R1 d_154_308 (md_80 hC) (by decide) (md_pl (by decide)) rfl rfl (M' := md C A U Z tc tp ((fr : Int)) ((n : Int)) ((p : Int)) 3 ((p : Int)) (b p) op ba fa) md_p ?_
              refine jr_aload_n R1 d_154_311 rfl ?_
              refine jr_dup_r R1 d_154_312 ?_
              refine jr_getf R1 d_154_313 (md_80 hC) (by decide) rfl ?_
              refine jr_iconst R1 d_154_316 ?_
              refine jr_iadd R1 d_154_317 ?_
              refine jr_putf R1 d_154_318 (md_80 hC) (by decide) (md_pl (by decide)) rfl rfl (M' := md C A U Z tc tp ((fr : Int)) ((n : Int)) ((p : Int) + 1) 3 ((p : Int)) (b p) op ba fa) md_p ?_
              refine jr_ret R3 d_154_321 rfl ?_
              refine ⟨rfl, (p : Int) + 1, 3, b p, Or.inr (Or.inr (Or.inr (Or.inl ⟨hp, hlp, hdp, hp_sg_iff.mpr (by omega), rfl, rfl, rfl⟩))), ⟨⟨by omega, by omega⟩, ⟨by omega, by omega⟩, ⟨by omega, by omega⟩⟩, rfl⟩
            · refine jr_icmp R1 false d_154_267 (by first | assumption | exact hg _ | exact hS _ | exact hV _ | exact hP _ | exact hT _ | exact ⟨by omega, by omega⟩) (by first | assumption | exact hg _ | exact hS _ | exact hV _ | exact hP _ | exact hT _ | exact ⟨by omega, by omega⟩) (by unfold hcb; first | exact decide_eq_true (by omega) | exact decide_eq_false (by omega)) (by decide) (pc' := 270) rfl ?_
              refine jr_iload_n R1 d_154_270 rfl ?_
              refine jr_bipush R1 d_154_271 (by decide) ?_
              by_cases h4 : b p = 43
              · refine jr_icmp R1 true d_154_273 (by first | assumption | exact hg _ | exact hS _ | exact hV _ | exact hP _ | exact hT _ | exact ⟨by omega, by omega⟩) (by first | assumption | exact hg _ | exact hS _ | exact hV _ | exact hP _ | exact hT _ | exact ⟨by omega, by omega⟩) (by unfold hcb; first | exact decide_eq_true (by omega) | exact decide_eq_false (by omega)) (by decide) (pc' := 300) rfl ?_
                refine jr_aload_n R1 d_154_300 rfl ?_
                refine jr_iconst R1 d_154_301 ?_
                refine jr_putf R1 d_154_302 (md_80 hC) (by decide) (md_pl (by decide)) rfl rfl (M' := md C A U Z tc tp ((fr : Int)) ((n : Int)) ((p : Int)) 3 ((p : Int)) wo op ba fa) md_p ?_
                refine jr_aload_n R1 d_154_305 rfl ?_
                refine jr_iload_n R1 d_154_306 rfl ?_
                refine jl_i2l R1 (by first | assumption | exact hg _ | exact hS _ | exact hV _ | exact hP _ | exact hT _ | exact ⟨by omega, by omega⟩) d_154_307 ?_
                refine jr_putf R1 d_154_308 (md_80 hC) (by decide) (md_pl (by decide)) rfl rfl (M' := md C A U Z tc tp ((fr : Int)) ((n : Int)) ((p : Int)) 3 ((p : Int)) (b p) op ba fa) md_p ?_
                refine jr_aload_n R1 d_154_311 rfl ?_
                refine jr_dup_r R1 d_154_312 ?_
                refine jr_getf R1 d_154_313 (md_80 hC) (by decide) rfl ?_
                refine jr_iconst R1 d_154_316 ?_
                refine jr_iadd R1 d_154_317 ?_
                refine jr_putf R1 d_154_318 (md_80 hC) (by decide) (md_pl (by decide)) rfl rfl (M' := md C A U Z tc tp ((fr : Int)) ((n : Int)) ((p : Int) + 1) 3 ((p : Int)) (b p) op ba fa) md_p ?_
                refine jr_ret R3 d_154_321 rfl ?_
                refine ⟨rfl, (p : Int) + 1, 3, b p, Or.inr (Or.inr (Or.inr (Or.inl ⟨hp, hlp, hdp, hp_sg_iff.mpr (by omega), rfl, rfl, rfl⟩))), ⟨⟨by omega, by omega⟩, ⟨by omega, by omega⟩, ⟨by omega, by omega⟩⟩, rfl⟩
              · refine jr_icmp R1 false d_154_273 (by first | assumption | exact hg _ | exact hS _ | exact hV _ | exact hP _ | exact hT _ | exact ⟨by omega, by omega⟩) (by first | assumption | exact hg _ | exact hS _ | exact hV _ | exact hP _ | exact hT _ | exact ⟨by omega, by omega⟩) (by unfold hcb; first | exact decide_eq_true (by omega) | exact decide_eq_false (by omega)) (by decide) (pc' := 276) rfl ?_
                refine jr_iload_n R1 d_154_276 rfl ?_
                refine jr_bipush R1 d_154_277 (by decide) ?_
                by_cases h5 : b p = 45
                · refine jr_icmp R1 true d_154_279 (by first | assumption | exact hg _ | exact hS _ | exact hV _ | exact hP _ | exact hT _ | exact ⟨by omega, by omega⟩) (by first | assumption | exact hg _ | exact hS _ | exact hV _ | exact hP _ | exact hT _ | exact ⟨by omega, by omega⟩) (by unfold hcb; first | exact decide_eq_true (by omega) | exact decide_eq_false (by omega)) (by decide) (pc' := 300) rfl ?_
                  refine jr_aload_n R1 d_154_300 rfl ?_
                  refine jr_iconst R1 d_154_301 ?_
                  refine jr_putf R1 d_154_302 (md_80 hC) (by decide) (md_pl (by decide)) rfl rfl (M' := md C A U Z tc tp ((fr : Int)) ((n : Int)) ((p : Int)) 3 ((p : Int)) wo op ba fa) md_p ?_
                  refine jr_aload_n R1 d_154_305 rfl ?_
                  refine jr_iload_n R1 d_154_306 rfl ?_
                  refine jl_i2l R1 (by first | assumption | exact hg _ | exact hS _ | exact hV _ | exact hP _ | exact hT _ | exact ⟨by omega, by omega⟩) d_154_307 ?_
                  refine jr_putf R1 d_154_308 (md_80 hC) (by decide) (md_pl (by decide)) rfl rfl (M' := md C A U Z tc tp ((fr : Int)) ((n : Int)) ((p : Int)) 3 ((p : Int)) (b p) op ba fa) md_p ?_
                  refine jr_aload_n R1 d_154_311 rfl ?_
                  refine jr_dup_r R1 d_154_312 ?_
                  refine jr_getf R1 d_154_313 (md_80 hC) (by decide) rfl ?_
                  refine jr_iconst R1 d_154_316 ?_
                  refine jr_iadd R1 d_154_317 ?_
                  refine jr_putf R1 d_154_318 (md_80 hC) (by decide) (md_pl (by decide)) rfl rfl (M' := md C A U Z tc tp ((fr : Int)) ((n : Int)) ((p : Int) + 1) 3 ((p : Int)) (b p) op ba fa) md_p ?_
                  refine jr_ret R3 d_154_321 rfl ?_
                  refine ⟨rfl, (p : Int) + 1, 3, b p, Or.inr (Or.inr (Or.inr (Or.inl ⟨hp, hlp, hdp, hp_sg_iff.mpr (by omega), rfl, rfl, rfl⟩))), ⟨⟨by omega, by omega⟩, ⟨by omega, by omega⟩, ⟨by omega, by omega⟩⟩, rfl⟩
                · refine jr_icmp R1 false d_154_279 (by first | assumption | exact hg _ | exact hS _ | exact hV _ | exact hP _ | exact hT _ | exact ⟨by omega, by omega⟩) (by first | assumption | exact hg _ | exact hS _ | exact hV _ | exact hP _ | exact hT _ | exact ⟨by omega, by omega⟩) (by unfold hcb; first | exact decide_eq_true (by omega) | exact decide_eq_false (by omega)) (by decide) (pc' := 282) rfl ?_
                  refine jr_iload_n R1 d_154_282 rfl ?_
                  refine jr_bipush R1 d_154_283 (by decide) ?_
                  by_cases h6 : b p = 42
                  · refine jr_icmp R1 true d_154_285 (by first | assumption | exact hg _ | exact hS _ | exact hV _ | exact hP _ | exact hT _ | exact ⟨by omega, by omega⟩) (by first | assumption | exact hg _ | exact hS _ | exact hV _ | exact hP _ | exact hT _ | exact ⟨by omega, by omega⟩) (by unfold hcb; first | exact decide_eq_true (by omega) | exact decide_eq_false (by omega)) (by decide) (pc' := 300) rfl ?_
                    refine jr_aload_n R1 d_154_300 rfl ?_
                    refine jr_iconst R1 d_154_301 ?_
                    refine jr_putf R1 d_154_302 (md_80 hC) (by decide) (md_pl (by decide)) rfl rfl (M' := md C A U Z tc tp ((fr : Int)) ((n : Int)) ((p : Int)) 3 ((p : Int)) wo op ba fa) md_p ?_
                    refine jr_aload_n R1 d_154_305 rfl ?_
                    refine jr_iload_n R1 d_154_306 rfl ?_
                    refine jl_i2l R1 (by first | assumption | exact hg _ | exact hS _ | exact hV _ | exact hP _ | exact hT _ | exact ⟨by omega, by omega⟩) d_154_307 ?_
                    refine jr_putf R1 d_154_308 (md_80 hC) (by decide) (md_pl (by decide)) rfl rfl (M' := md C A U Z tc tp ((fr : Int)) ((n : Int)) ((p : Int)) 3 ((p : Int)) (b p) op ba fa) md_p ?_
                    refine jr_aload_n R1 d_154_311 rfl ?_
                    refine jr_dup_r R1 d_154_312 ?_
                    refine jr_getf R1 d_154_313 (md_80 hC) (by decide) rfl ?_
                    refine jr_iconst R1 d_154_316 ?_
                    refine jr_iadd R1 d_154_317 ?_
                    refine jr_putf R1 d_154_318 (md_80 hC) (by decide) (md_pl (by decide)) rfl rfl (M' := md C A U Z tc tp ((fr : Int)) ((n : Int)) ((p : Int) + 1) 3 ((p : Int)) (b p) op ba fa) md_p ?_
                    refine jr_ret R3 d_154_321 rfl ?_
                    refine ⟨rfl, (p : Int) + 1, 3, b p, Or.inr (Or.inr (Or.inr (Or.inl ⟨hp, hlp, hdp, hp_sg_iff.mpr (by omega), rfl, rfl, rfl⟩))), ⟨⟨by omega, by omega⟩, ⟨by omega, by omega⟩, ⟨by omega, by omega⟩⟩, rfl⟩
                  · refine jr_icmp R1 false d_154_285 (by first | assumption | exact hg _ | exact hS _ | exact hV _ | exact hP _ | exact hT _ | exact ⟨by omega, by omega⟩) (by first | assumption | exact hg _ | exact hS _ | exact hV _ | exact hP _ | exact hT _ | exact ⟨by omega, by omega⟩) (by unfold hcb; first | exact decide_eq_true (by omega) | exact decide_eq_false (by omega)) (by decide) (pc' := 288) rfl ?_
                    refine jr_iload_n R1 d_154_288 rfl ?_
                    refine jr_bipush R1 d_154_289 (by decide) ?_
                    by_cases h7 : b p = 60
                    · refine jr_icmp R1 true d_154_291 (by first | assumption | exact hg _ | exact hS _ | exact hV _ | exact hP _ | exact hT _ | exact ⟨by omega, by omega⟩) (by first | assumption | exact hg _ | exact hS _ | exact hV _ | exact hP _ | exact hT _ | exact ⟨by omega, by omega⟩) (by unfold hcb; first | exact decide_eq_true (by omega) | exact decide_eq_false (by omega)) (by decide) (pc' := 300) rfl ?_
                      refine jr_aload_n R1 d_154_300 rfl ?_
                      refine jr_iconst R1 d_154_301 ?_
                      refine jr_putf R1 d_154_302 (md_80 hC) (by decide) (md_pl (by decide)) rfl rfl (M' := md C A U Z tc tp ((fr : Int)) ((n : Int)) ((p : Int)) 3 ((p : Int)) wo op ba fa) md_p ?_
                      refine jr_aload_n R1 d_154_305 rfl ?_
                      refine jr_iload_n R1 d_154_306 rfl ?_
                      refine jl_i2l R1 (by first | assumption | exact hg _ | exact hS _ | exact hV _ | exact hP _ | exact hT _ | exact ⟨by omega, by omega⟩) d_154_307 ?_
                      refine jr_putf R1 d_154_308 (md_80 hC) (by decide) (md_pl (by decide)) rfl rfl (M' := md C A U Z tc tp ((fr : Int)) ((n : Int)) ((p : Int)) 3 ((p : Int)) (b p) op ba fa) md_p ?_
                      refine jr_aload_n R1 d_154_311 rfl ?_
                      refine jr_dup_r R1 d_154_312 ?_
                      refine jr_getf R1 d_154_313 (md_80 hC) (by decide) rfl ?_
                      refine jr_iconst R1 d_154_316 ?_
                      refine jr_iadd R1 d_154_317 ?_
                      refine jr_putf R1 d_154_318 (md_80 hC) (by decide) (md_pl (by decide)) rfl rfl (M' := md C A U Z tc tp ((fr : Int)) ((n : Int)) ((p : Int) + 1) 3 ((p : Int)) (b p) op ba fa) md_p ?_
                      refine jr_ret R3 d_154_321 rfl ?_
                      refine ⟨rfl, (p : Int) + 1, 3, b p, Or.inr (Or.inr (Or.inr (Or.inl ⟨hp, hlp, hdp, hp_sg_iff.mpr (by omega), rfl, rfl, rfl⟩))), ⟨⟨by omega, by omega⟩, ⟨by omega, by omega⟩, ⟨by omega, by omega⟩⟩, rfl⟩
                    · refine jr_icmp R1 false d_154_291 (by first | assumption | exact hg _ | exact hS _ | exact hV _ | exact hP _ | exact hT _ | exact ⟨by omega, by omega⟩) (by first | assumption | exact hg _ | exact hS _ | exact hV _ | exact hP _ | exact hT _ | exact ⟨by omega, by omega⟩) (by unfold hcb; first | exact decide_eq_true (by omega) | exact decide_eq_false (by omega)) (by decide) (pc' := 294) rfl ?_
                      refine jr_iload_n R1 d_154_294 rfl ?_
                      refine jr_bipush R1 d_154_295 (by decide) ?_
                      by_cases h8 : b p = 61
                      · refine jr_icmp R1 false d_154_297 (by first | assumption | exact hg _ | exact hS _ | exact hV _ | exact hP _ | exact hT _ | exact ⟨by omega, by omega⟩) (by first | assumption | exact hg _ | exact hS _ | exact hV _ | exact hP _ | exact hT _ | exact ⟨by omega, by omega⟩) (by unfold hcb; first | exact decide_eq_true (by omega) | exact decide_eq_false (by omega)) (by decide) (pc' := 300) rfl ?_
                        refine jr_aload_n R1 d_154_300 rfl ?_
                        refine jr_iconst R1 d_154_301 ?_
                        refine jr_putf R1 d_154_302 (md_80 hC) (by decide) (md_pl (by decide)) rfl rfl (M' := md C A U Z tc tp ((fr : Int)) ((n : Int)) ((p : Int)) 3 ((p : Int)) wo op ba fa) md_p ?_
                        refine jr_aload_n R1 d_154_305 rfl ?_
                        refine jr_iload_n R1 d_154_306 rfl ?_
                        refine jl_i2l R1 (by first | assumption | exact hg _ | exact hS _ | exact hV _ | exact hP _ | exact hT _ | exact ⟨by omega, by omega⟩) d_154_307 ?_
                        refine jr_putf R1 d_154_308 (md_80 hC) (by decide) (md_pl (by decide)) rfl rfl (M' := md C A U Z tc tp ((fr : Int)) ((n : Int)) ((p : Int)) 3 ((p : Int)) (b p) op ba fa) md_p ?_
                        refine jr_aload_n R1 d_154_311 rfl ?_
                        refine jr_dup_r R1 d_154_312 ?_
                        refine jr_getf R1 d_154_313 (md_80 hC) (by decide) rfl ?_
                        refine jr_iconst R1 d_154_316 ?_
                        refine jr_iadd R1 d_154_317 ?_
                        refine jr_putf R1 d_154_318 (md_80 hC) (by decide) (md_pl (by decide)) rfl rfl (M' := md C A U Z tc tp ((fr : Int)) ((n : Int)) ((p : Int) + 1) 3 ((p : Int)) (b p) op ba fa) md_p ?_
                        refine jr_ret R3 d_154_321 rfl ?_
                        refine ⟨rfl, (p : Int) + 1, 3, b p, Or.inr (Or.inr (Or.inr (Or.inl ⟨hp, hlp, hdp, hp_sg_iff.mpr (by omega), rfl, rfl, rfl⟩))), ⟨⟨by omega, by omega⟩, ⟨by omega, by omega⟩, ⟨by omega, by omega⟩⟩, rfl⟩
                      · refine jr_icmp R1 true d_154_297 (by first | assumption | exact hg _ | exact hS _ | exact hV _ | exact hP _ | exact hT _ | exact ⟨by omega, by omega⟩) (by first | assumption | exact hg _ | exact hS _ | exact hV _ | exact hP _ | exact hT _ | exact ⟨by omega, by omega⟩) (by unfold hcb; first | exact decide_eq_true (by omega) | exact decide_eq_false (by omega)) (by decide) (pc' := 321) rfl ?_
                        refine jr_ret R3 d_154_321 rfl ?_
                        refine ⟨rfl, (p : Int), 4, wo, Or.inr (Or.inr (Or.inr (Or.inr ⟨hp, hlp, hdp, fun z => by have := hp_sg_iff.mp z; omega, rfl, rfl⟩))), ⟨⟨by omega, by omega⟩, ⟨by omega, by omega⟩, hwo⟩, rfl⟩
  · skip
    refine jr_aload_n R1 d_154_39 rfl ?_
    refine jr_aload_n R1 d_154_40 rfl ?_
    refine jr_getf R1 d_154_41 (md_80 hC) (by decide) rfl ?_
    refine jr_putf R1 d_154_44 (md_80 hC) (by decide) (md_pl (by decide)) rfl rfl (M' := md C A U Z tc tp ((fr : Int)) ((n : Int)) ((p : Int)) to ((p : Int)) wo op ba fa) md_p ?_
    refine jr_aload_n R1 d_154_47 rfl ?_
    refine jr_aload_n R1 d_154_48 rfl ?_
    refine jr_getf R1 d_154_49 (md_80 hC) (by decide) rfl ?_
    refine jr_callv R2 d_154_52 (by decide) rfl (as := [.ref 80, hv ((p : Int))]) (rest := []) rfl (by unfold mj_rc; rw [show (_ : List Value).headD _ = .ref 80 from rfl]; simp only [md_80 hC]; decide) (hm_byteAt (d := 1) (x := p) (by omega) hC hTx hg hb hfr hn9 hb0 (by omega)) (by omega) (Nat.le_of_ble_eq_true rfl) ?_
    rintro rv M9 ⟨rfl, rfl⟩
    rw [if_neg (by omega)]
    show J 0 0 (md C A U Z tc tp ((fr : Int)) ((n : Int)) ((p : Int)) to ((p : Int)) wo op ba fa) 55 [(0, .ref 80)] [hv ((-1))]
    refine jr_istore_n R1 d_154_55 (by decide) (lo' := [(1, hv ((-1))), (0, .ref 80)]) rfl ?_
    refine jr_aload_n R1 d_154_56 rfl ?_
    refine jr_iconst R1 d_154_57 ?_
    refine jr_putf R1 d_154_58 (md_80 hC) (by decide) (md_pl (by decide)) rfl rfl (M' := md C A U Z tc tp ((fr : Int)) ((n : Int)) ((p : Int)) 4 ((p : Int)) wo op ba fa) md_p ?_
    refine jr_iload_n R1 d_154_61 rfl ?_
    refine jr_ifc R1 false d_154_62 (by first | assumption | exact hg _ | exact hS _ | exact hV _ | exact hP _ | exact hT _ | exact ⟨by omega, by omega⟩) (by unfold hcb; first | exact decide_eq_true (by omega) | exact decide_eq_false (by omega)) (by decide) (pc' := 65) rfl ?_
    refine jr_aload_n R1 d_154_65 rfl ?_
    refine jr_iconst R1 d_154_66 ?_
    refine jr_putf R1 d_154_67 (md_80 hC) (by decide) (md_pl (by decide)) rfl rfl (M' := md C A U Z tc tp ((fr : Int)) ((n : Int)) ((p : Int)) 0 ((p : Int)) wo op ba fa) md_p ?_
    refine jr_aload_n R1 d_154_70 rfl ?_
    refine jr_aload_n R1 d_154_71 rfl ?_
    refine jr_getf R1 d_154_72 (md_80 hC) (by decide) rfl ?_
    refine jr_putf R1 d_154_75 (md_80 hC) (by decide) (md_pl (by decide)) rfl rfl (M' := md C A U Z tc tp ((fr : Int)) ((n : Int)) ((p : Int)) 0 ((n : Int)) wo op ba fa) md_p ?_
    refine jr_goto R1 d_154_78 (by decide) (pc' := 321) rfl ?_
    refine jr_ret R3 d_154_321 rfl ?_
    refine ⟨rfl, (p : Int), 0, wo, Or.inl ⟨by omega, rfl, rfl⟩, ⟨⟨by omega, by omega⟩, ⟨by omega, by omega⟩, hwo⟩, by rw [show (n : Int) = (p : Int) by omega]⟩
theorem hm_next {lch : Launch} {d : Nat} {C : mj_M} {A : Nat → Value} {U : Nat → Int} {Z : List Value} {g b : Nat → Int} {fr n : Nat} {tc tp to ta wo op ba fa : Int} {x p : Nat} (hd : 2 ≤ d) (hC : 84 ≤ C.length) (hTx : C[81]? = some (hA 0 960 g)) (hg : ∀ j, hr (b j)) (hb : ∀ j, j < n → b j = g (fr + j)) (hfr : fr + n ≤ 960) (hn9 : n ≤ 160) (hb0 : ∀ j, j < n → 0 ≤ b j ∧ b j ≤ 255) (hx9 : x ≤ n) (hxp : hp_rn hp_bl b n x = p) (hwo : -100000 ≤ wo ∧ wo ≤ 10000000) : mj_Me lch 154 d 0 0 [.ref 80] (md C A U Z tc tp ((fr : Int)) ((n : Int)) ((x : Int)) to ta wo op ba fa) (mn C A U Z tc tp (fr : Int) n b op ba fa p) := by
  refine mj_Me_of4 (by decide) (by omega) (Nat.le_of_ble_eq_true rfl) ?_
  intro L xs J R1 R2 R3 R4
  rw [← hxp] at R3
  have hl : ∀ (e y : Nat), n - y ≤ e → y ≤ n → hp_rn hp_bl b n y = hp_rn hp_bl b n x → J 0 0 (md C A U Z tc tp ((fr : Int)) ((n : Int)) ((y : Int)) to ta wo op ba fa) 0 [(0, .ref 80)] [] := by
    intro e
    induction e with
    | zero =>
      intro y he hy hy9
      have hend : hp_rn hp_bl b n y = y := hp_rn_out (by omega)
      have hbn : y < n → ¬ hp_bl (b y) = true := fun z => absurd z (by omega)
      refine jr_aload_n R1 d_154_0 rfl ?_
      refine jr_aload_n R1 d_154_1 rfl ?_
      refine jr_getf R1 d_154_2 (md_80 hC) (by decide) rfl ?_
      refine jr_callv R2 d_154_5 (by decide) rfl (as := [.ref 80, hv ((y : Int))]) (rest := []) rfl (by unfold mj_rc; rw [show (_ : List Value).headD _ = .ref 80 from rfl]; simp only [md_80 hC]; decide) (hm_byteAt (d := 1) (x := y) (by omega) hC hTx hg hb hfr hn9 hb0 (by omega)) (by omega) (Nat.le_of_ble_eq_true rfl) ?_
      rintro rv M9 ⟨rfl, rfl⟩
      rw [if_neg (by omega)]
      show J 0 0 (md C A U Z tc tp ((fr : Int)) ((n : Int)) ((y : Int)) to ta wo op ba fa) 8 [(0, .ref 80)] [hv ((-1))]
      refine jr_bipush R1 d_154_8 (by decide) ?_
      refine jr_icmp R1 false d_154_10 (by first | assumption | exact hg _ | exact hS _ | exact hV _ | exact hP _ | exact hT _ | exact ⟨by omega, by omega⟩) (by first | assumption | exact hg _ | exact hS _ | exact hV _ | exact hP _ | exact hT _ | exact ⟨by omega, by omega⟩) (by unfold hcb; first | exact decide_eq_true (by omega) | exact decide_eq_false (by omega)) (by decide) (pc' := 13) rfl ?_
      refine jr_aload_n R1 d_154_13 rfl ?_
      refine jr_aload_n R1 d_154_14 rfl ?_
      refine jr_getf R1 d_154_15 (md_80 hC) (by decide) rfl ?_
      refine jr_callv R2 d_154_18 (by decide) rfl (as := [.ref 80, hv ((y : Int))]) (rest := []) rfl (by unfold mj_rc; rw [show (_ : List Value).headD _ = .ref 80 from rfl]; simp only [md_80 hC]; decide) (hm_byteAt (d := 1) (x := y) (by omega) hC hTx hg hb hfr hn9 hb0 (by omega)) (by omega) (Nat.le_of_ble_eq_true rfl) ?_
      rintro rv M9 ⟨rfl, rfl⟩
      rw [if_neg (by omega)]
      show J 0 0 (md C A U Z tc tp ((fr : Int)) ((n : Int)) ((y : Int)) to ta wo op ba fa) 21 [(0, .ref 80)] [hv ((-1))]
      refine jr_bipush R1 d_154_21 (by decide) ?_
      refine jr_icmp R1 true d_154_23 (by first | assumption | exact hg _ | exact hS _ | exact hV _ | exact hP _ | exact hT _ | exact ⟨by omega, by omega⟩) (by first | assumption | exact hg _ | exact hS _ | exact hV _ | exact hP _ | exact hT _ | exact ⟨by omega, by omega⟩) (by unfold hcb; first | exact decide_eq_true (by omega) | exact decide_eq_false (by omega)) (by decide) (pc' := 39) rfl ?_
      rw [← hy9, hend] at R3
      exact hm_token hC hTx hg hb hfr hn9 hb0 hd R1 R2 R3 R4 hy hwo hbn
    | succ e ih =>
      intro y he hy hy9
      by_cases hlt : y < n
      · by_cases hj : hp_bl (b y) = true
        · by_cases hb2 : b y = 32
          · skip
            refine jr_aload_n R1 d_154_0 rfl ?_
            refine jr_aload_n R1 d_154_1 rfl ?_
            refine jr_getf R1 d_154_2 (md_80 hC) (by decide) rfl ?_
            refine jr_callv R2 d_154_5 (by decide) rfl (as := [.ref 80, hv ((y : Int))]) (rest := []) rfl (by unfold mj_rc; rw [show (_ : List Value).headD _ = .ref 80 from rfl]; simp only [md_80 hC]; decide) (hm_byteAt (d := 1) (x := y) (by omega) hC hTx hg hb hfr hn9 hb0 (by omega)) (by omega) (Nat.le_of_ble_eq_true rfl) ?_
            rintro rv M9 ⟨rfl, rfl⟩
            rw [if_pos (by omega)]
            show J 0 0 (md C A U Z tc tp ((fr : Int)) ((n : Int)) ((y : Int)) to ta wo op ba fa) 8 [(0, .ref 80)] [hv (b y)]
            refine jr_bipush R1 d_154_8 (by decide) ?_
            refine jr_icmp R1 true d_154_10 (by first | assumption | exact hg _ | exact hS _ | exact hV _ | exact hP _ | exact hT _ | exact ⟨by omega, by omega⟩) (by first | assumption | exact hg _ | exact hS _ | exact hV _ | exact hP _ | exact hT _ | exact ⟨by omega, by omega⟩) (by unfold hcb; first | exact decide_eq_true (by omega) | exact decide_eq_false (by omega)) (by decide) (pc' := 26) rfl ?_
            refine jr_aload_n R1 d_154_26 rfl ?_
            refine jr_dup_r R1 d_154_27 ?_
            refine jr_getf R1 d_154_28 (md_80 hC) (by decide) rfl ?_
            refine jr_iconst R1 d_154_31 ?_
            refine jr_iadd R1 d_154_32 ?_
            refine jr_putf R1 d_154_33 (md_80 hC) (by decide) (md_pl (by decide)) rfl rfl (M' := md C A U Z tc tp ((fr : Int)) ((n : Int)) ((y : Int) + 1) to ta wo op ba fa) md_p ?_
            refine jr_goto R1 d_154_36 (by decide) (pc' := 0) rfl ?_
            exact ih (y + 1) (by omega) (by omega) (by rw [← hy9, ← hp_rn_go (by omega) hj])
          · have hb3 : b y = 10 := by
              have := hp_bl_iff.mp hj
              omega
            refine jr_aload_n R1 d_154_0 rfl ?_
            refine jr_aload_n R1 d_154_1 rfl ?_
            refine jr_getf R1 d_154_2 (md_80 hC) (by decide) rfl ?_
            refine jr_callv R2 d_154_5 (by decide) rfl (as := [.ref 80, hv ((y : Int))]) (rest := []) rfl (by unfold mj_rc; rw [show (_ : List Value).headD _ = .ref 80 from rfl]; simp only [md_80 hC]; decide) (hm_byteAt (d := 1) (x := y) (by omega) hC hTx hg hb hfr hn9 hb0 (by omega)) (by omega) (Nat.le_of_ble_eq_true rfl) ?_
            rintro rv M9 ⟨rfl, rfl⟩
            rw [if_pos (by omega)]
            show J 0 0 (md C A U Z tc tp ((fr : Int)) ((n : Int)) ((y : Int)) to ta wo op ba fa) 8 [(0, .ref 80)] [hv (b y)]
            refine jr_bipush R1 d_154_8 (by decide) ?_
            refine jr_icmp R1 false d_154_10 (by first | assumption | exact hg _ | exact hS _ | exact hV _ | exact hP _ | exact hT _ | exact ⟨by omega, by omega⟩) (by first | assumption | exact hg _ | exact hS _ | exact hV _ | exact hP _ | exact hT _ | exact ⟨by omega, by omega⟩) (by unfold hcb; first | exact decide_eq_true (by omega) | exact decide_eq_false (by omega)) (by decide) (pc' := 13) rfl ?_
            refine jr_aload_n R1 d_154_13 rfl ?_
            refine jr_aload_n R1 d_154_14 rfl ?_
            refine jr_getf R1 d_154_15 (md_80 hC) (by decide) rfl ?_
            refine jr_callv R2 d_154_18 (by decide) rfl (as := [.ref 80, hv ((y : Int))]) (rest := []) rfl (by unfold mj_rc; rw [show (_ : List Value).headD _ = .ref 80 from rfl]; simp only [md_80 hC]; decide) (hm_byteAt (d := 1) (x := y) (by omega) hC hTx hg hb hfr hn9 hb0 (by omega)) (by omega) (Nat.le_of_ble_eq_true rfl) ?_
            rintro rv M9 ⟨rfl, rfl⟩
            rw [if_pos (by omega)]
            show J 0 0 (md C A U Z tc tp ((fr : Int)) ((n : Int)) ((y : Int)) to ta wo op ba fa) 21 [(0, .ref 80)] [hv (b y)]
            refine jr_bipush R1 d_154_21 (by decide) ?_
            refine jr_icmp R1 false d_154_23 (by first | assumption | exact hg _ | exact hS _ | exact hV _ | exact hP _ | exact hT _ | exact ⟨by omega, by omega⟩) (by first | assumption | exact hg _ | exact hS _ | exact hV _ | exact hP _ | exact hT _ | exact ⟨by omega, by omega⟩) (by unfold hcb; first | exact decide_eq_true (by omega) | exact decide_eq_false (by omega)) (by decide) (pc' := 26) rfl ?_
            refine jr_aload_n R1 d_154_26 rfl ?_
            refine jr_dup_r R1 d_154_27 ?_
            refine jr_getf R1 d_154_28 (md_80 hC) (by decide) rfl ?_
            refine jr_iconst R1 d_154_31 ?_
            refine jr_iadd R1 d_154_32 ?_
            refine jr_putf R1 d_154_33 (md_80 hC) (by decide) (md_pl (by decide)) rfl rfl (M' := md C A U Z tc tp ((fr : Int)) ((n : Int)) ((y : Int) + 1) to ta wo op ba fa) md_p ?_
            refine jr_goto R1 d_154_36 (by decide) (pc' := 0) rfl ?_
            exact ih (y + 1) (by omega) (by omega) (by rw [← hy9, ← hp_rn_go (by omega) hj])
        · have hb2 : ¬ b y = 32 := fun z => hj (hp_bl_iff.mpr (Or.inl z))
          have hb3 : ¬ b y = 10 := fun z => hj (hp_bl_iff.mpr (Or.inr z))
          have hend : hp_rn hp_bl b n y = y := hp_rn_no (by simpa using hj)
          have hbn : y < n → ¬ hp_bl (b y) = true := fun _ => hj
          refine jr_aload_n R1 d_154_0 rfl ?_
          refine jr_aload_n R1 d_154_1 rfl ?_
          refine jr_getf R1 d_154_2 (md_80 hC) (by decide) rfl ?_
          refine jr_callv R2 d_154_5 (by decide) rfl (as := [.ref 80, hv ((y : Int))]) (rest := []) rfl (by unfold mj_rc; rw [show (_ : List Value).headD _ = .ref 80 from rfl]; simp only [md_80 hC]; decide) (hm_byteAt (d := 1) (x := y) (by omega) hC hTx hg hb hfr hn9 hb0 (by omega)) (by omega) (Nat.le_of_ble_eq_true rfl) ?_
          rintro rv M9 ⟨rfl, rfl⟩
          rw [if_pos (by omega)]
          show J 0 0 (md C A U Z tc tp ((fr : Int)) ((n : Int)) ((y : Int)) to ta wo op ba fa) 8 [(0, .ref 80)] [hv (b y)]
          refine jr_bipush R1 d_154_8 (by decide) ?_
          refine jr_icmp R1 false d_154_10 (by first | assumption | exact hg _ | exact hS _ | exact hV _ | exact hP _ | exact hT _ | exact ⟨by omega, by omega⟩) (by first | assumption | exact hg _ | exact hS _ | exact hV _ | exact hP _ | exact hT _ | exact ⟨by omega, by omega⟩) (by unfold hcb; first | exact decide_eq_true (by omega) | exact decide_eq_false (by omega)) (by decide) (pc' := 13) rfl ?_
          refine jr_aload_n R1 d_154_13 rfl ?_
          refine jr_aload_n R1 d_154_14 rfl ?_
          refine jr_getf R1 d_154_15 (md_80 hC) (by decide) rfl ?_
          refine jr_callv R2 d_154_18 (by decide) rfl (as := [.ref 80, hv ((y : Int))]) (rest := []) rfl (by unfold mj_rc; rw [show (_ : List Value).headD _ = .ref 80 from rfl]; simp only [md_80 hC]; decide) (hm_byteAt (d := 1) (x := y) (by omega) hC hTx hg hb hfr hn9 hb0 (by omega)) (by omega) (Nat.le_of_ble_eq_true rfl) ?_
          rintro rv M9 ⟨rfl, rfl⟩
          rw [if_pos (by omega)]
          show J 0 0 (md C A U Z tc tp ((fr : Int)) ((n : Int)) ((y : Int)) to ta wo op ba fa) 21 [(0, .ref 80)] [hv (b y)]
          refine jr_bipush R1 d_154_21 (by decide) ?_
          refine jr_icmp R1 true d_154_23 (by first | assumption | exact hg _ | exact hS _ | exact hV _ | exact hP _ | exact hT _ | exact ⟨by omega, by omega⟩) (by first | assumption | exact hg _ | exact hS _ | exact hV _ | exact hP _ | exact hT _ | exact ⟨by omega, by omega⟩) (by unfold hcb; first | exact decide_eq_true (by omega) | exact decide_eq_false (by omega)) (by decide) (pc' := 39) rfl ?_
          rw [← hy9, hend] at R3
          exact hm_token hC hTx hg hb hfr hn9 hb0 hd R1 R2 R3 R4 hy hwo hbn
      · have hend : hp_rn hp_bl b n y = y := hp_rn_out (by omega)
        have hbn : y < n → ¬ hp_bl (b y) = true := fun z => absurd z (by omega)
        refine jr_aload_n R1 d_154_0 rfl ?_
        refine jr_aload_n R1 d_154_1 rfl ?_
        refine jr_getf R1 d_154_2 (md_80 hC) (by decide) rfl ?_
        refine jr_callv R2 d_154_5 (by decide) rfl (as := [.ref 80, hv ((y : Int))]) (rest := []) rfl (by unfold mj_rc; rw [show (_ : List Value).headD _ = .ref 80 from rfl]; simp only [md_80 hC]; decide) (hm_byteAt (d := 1) (x := y) (by omega) hC hTx hg hb hfr hn9 hb0 (by omega)) (by omega) (Nat.le_of_ble_eq_true rfl) ?_
        rintro rv M9 ⟨rfl, rfl⟩
        rw [if_neg (by omega)]
        show J 0 0 (md C A U Z tc tp ((fr : Int)) ((n : Int)) ((y : Int)) to ta wo op ba fa) 8 [(0, .ref 80)] [hv ((-1))]
        refine jr_bipush R1 d_154_8 (by decide) ?_
        refine jr_icmp R1 false d_154_10 (by first | assumption | exact hg _ | exact hS _ | exact hV _ | exact hP _ | exact hT _ | exact ⟨by omega, by omega⟩) (by first | assumption | exact hg _ | exact hS _ | exact hV _ | exact hP _ | exact hT _ | exact ⟨by omega, by omega⟩) (by unfold hcb; first | exact decide_eq_true (by omega) | exact decide_eq_false (by omega)) (by decide) (pc' := 13) rfl ?_
        refine jr_aload_n R1 d_154_13 rfl ?_
        refine jr_aload_n R1 d_154_14 rfl ?_
        refine jr_getf R1 d_154_15 (md_80 hC) (by decide) rfl ?_
        refine jr_callv R2 d_154_18 (by decide) rfl (as := [.ref 80, hv ((y : Int))]) (rest := []) rfl (by unfold mj_rc; rw [show (_ : List Value).headD _ = .ref 80 from rfl]; simp only [md_80 hC]; decide) (hm_byteAt (d := 1) (x := y) (by omega) hC hTx hg hb hfr hn9 hb0 (by omega)) (by omega) (Nat.le_of_ble_eq_true rfl) ?_
        rintro rv M9 ⟨rfl, rfl⟩
        rw [if_neg (by omega)]
        show J 0 0 (md C A U Z tc tp ((fr : Int)) ((n : Int)) ((y : Int)) to ta wo op ba fa) 21 [(0, .ref 80)] [hv ((-1))]
        refine jr_bipush R1 d_154_21 (by decide) ?_
        refine jr_icmp R1 true d_154_23 (by first | assumption | exact hg _ | exact hS _ | exact hV _ | exact hP _ | exact hT _ | exact ⟨by omega, by omega⟩) (by first | assumption | exact hg _ | exact hS _ | exact hV _ | exact hP _ | exact hT _ | exact ⟨by omega, by omega⟩) (by unfold hcb; first | exact decide_eq_true (by omega) | exact decide_eq_false (by omega)) (by decide) (pc' := 39) rfl ?_
        rw [← hy9, hend] at R3
        exact hm_token hC hTx hg hb hfr hn9 hb0 hd R1 R2 R3 R4 hy hwo hbn
  exact hl n x (by omega) hx9 rfl
