/-! THE READER: its small methods -/
theorem hc_pass {lch : Launch} {d : Nat} {B : mj_M} {n tk at' fl sc : Int} {S P V ST E : Nat → Int} (hd : 1 ≤ d) (hB : 25 ≤ B.length) (hat : 0 ≤ at' ∧ at' ≤ 160) (htk : 0 ≤ tk ∧ tk ≤ 161) (hfl : -1 ≤ fl ∧ fl ≤ 160) : mj_Me lch 38 d 0 0 [.ref 18] (rd B n tk at' fl sc S P V ST E) (fun rv M' => rv = none ∧ M' = rd B n tk ((if fl = -1 ∧ at' + 1 < tk then at' + 1 else at')) fl sc S P V ST E) := by
  refine mj_Me_of (by decide) (by omega) (Nat.le_of_ble_eq_true rfl) ?_
  intro L xs J R1 R2 R3
  show J 0 0 (rd B n tk at' fl sc S P V ST E) 0 [(0, .ref 18)] []
  refine jr_aload_n R1 d_38_0 rfl ?_
  refine jr_getf R1 d_38_1 (rd_18 hB) (by decide) rfl ?_
  refine jr_iconst R1 d_38_4 ?_
  by_cases h1 : fl = (-1)
  · refine jr_icmp R1 false d_38_5 (by first | assumption | exact hg _ | exact hS _ | exact hV _ | exact hP _ | exact hT _ | exact ⟨by omega, by omega⟩) (by first | assumption | exact hg _ | exact hS _ | exact hV _ | exact hP _ | exact hT _ | exact ⟨by omega, by omega⟩) (by unfold hcb; first | exact decide_eq_true (by omega) | exact decide_eq_false (by omega)) (by decide) (pc' := 8) rfl ?_
    refine jr_aload_n R1 d_38_8 rfl ?_
    refine jr_getf R1 d_38_9 (rd_18 hB) (by decide) rfl ?_
    refine jr_iconst R1 d_38_12 ?_
    refine jr_iadd R1 d_38_13 ?_
    refine jr_aload_n R1 d_38_14 rfl ?_
    refine jr_getf R1 d_38_15 (rd_18 hB) (by decide) rfl ?_
    by_cases h2 : at' + 1 < tk
    · refine jr_icmp R1 false d_38_18 (by first | assumption | exact hg _ | exact hS _ | exact hV _ | exact hP _ | exact hT _ | exact ⟨by omega, by omega⟩) (by first | assumption | exact hg _ | exact hS _ | exact hV _ | exact hP _ | exact hT _ | exact ⟨by omega, by omega⟩) (by unfold hcb; first | exact decide_eq_true (by omega) | exact decide_eq_false (by omega)) (by decide) (pc' := 21) rfl ?_
      refine jr_aload_n R1 d_38_21 rfl ?_
      refine jr_dup_r R1 d_38_22 ?_
      refine jr_getf R1 d_38_23 (rd_18 hB) (by decide) rfl ?_
      refine jr_iconst R1 d_38_26 ?_
      refine jr_iadd R1 d_38_27 ?_
      refine jr_putf R1 d_38_28 (rd_18 hB) (by decide) (by simp) rfl rfl (M' := rd B n tk (at' + 1) fl sc S P V ST E) (rd_p18 hB) ?_
      refine jr_ret R3 d_38_31 rfl ?_
      exact ⟨rfl, by first | rw [if_pos (by omega)] | rw [if_neg (by omega)]⟩
    · refine jr_icmp R1 true d_38_18 (by first | assumption | exact hg _ | exact hS _ | exact hV _ | exact hP _ | exact hT _ | exact ⟨by omega, by omega⟩) (by first | assumption | exact hg _ | exact hS _ | exact hV _ | exact hP _ | exact hT _ | exact ⟨by omega, by omega⟩) (by unfold hcb; first | exact decide_eq_true (by omega) | exact decide_eq_false (by omega)) (by decide) (pc' := 31) rfl ?_
      refine jr_ret R3 d_38_31 rfl ?_
      exact ⟨rfl, by first | rw [if_pos (by omega)] | rw [if_neg (by omega)]⟩
  · refine jr_icmp R1 true d_38_5 (by first | assumption | exact hg _ | exact hS _ | exact hV _ | exact hP _ | exact hT _ | exact ⟨by omega, by omega⟩) (by first | assumption | exact hg _ | exact hS _ | exact hV _ | exact hP _ | exact hT _ | exact ⟨by omega, by omega⟩) (by unfold hcb; first | exact decide_eq_true (by omega) | exact decide_eq_false (by omega)) (by decide) (pc' := 31) rfl ?_
    refine jr_ret R3 d_38_31 rfl ?_
    exact ⟨rfl, by first | rw [if_pos (by omega)] | rw [if_neg (by omega)]⟩
theorem hc_fail {lch : Launch} {d : Nat} {B : mj_M} {n tk at' fl sc : Int} {S P V ST E : Nat → Int} (hd : 1 ≤ d) (hB : 25 ≤ B.length) (hat : 0 ≤ at' ∧ at' ≤ 160) (htk : 0 ≤ tk ∧ tk ≤ 161) (hfl : -1 ≤ fl ∧ fl ≤ 160) (hP : ∀ k, hr (P k)) : mj_Me lch 30 d 0 0 [.ref 18] (rd B n tk at' fl sc S P V ST E) (fun rv M' => rv = none ∧ M' = rd B n tk at' ((if fl = -1 then P (at').toNat else fl)) sc S P V ST E) := by
  refine mj_Me_of (by decide) (by omega) (Nat.le_of_ble_eq_true rfl) ?_
  intro L xs J R1 R2 R3
  show J 0 0 (rd B n tk at' fl sc S P V ST E) 0 [(0, .ref 18)] []
  refine jr_aload_n R1 d_30_0 rfl ?_
  refine jr_getf R1 d_30_1 (rd_18 hB) (by decide) rfl ?_
  refine jr_iconst R1 d_30_4 ?_
  by_cases h1 : fl = (-1)
  · refine jr_icmp R1 false d_30_5 (by first | assumption | exact hg _ | exact hS _ | exact hV _ | exact hP _ | exact hT _ | exact ⟨by omega, by omega⟩) (by first | assumption | exact hg _ | exact hS _ | exact hV _ | exact hP _ | exact hT _ | exact ⟨by omega, by omega⟩) (by unfold hcb; first | exact decide_eq_true (by omega) | exact decide_eq_false (by omega)) (by decide) (pc' := 8) rfl ?_
    refine jr_aload_n R1 d_30_8 rfl ?_
    refine jr_aload_n R1 d_30_9 rfl ?_
    refine jr_getf R1 d_30_10 (rd_18 hB) (by decide) rfl ?_
    refine jr_aload_n R1 d_30_13 rfl ?_
    refine jr_getf R1 d_30_14 (rd_18 hB) (by decide) rfl ?_
    refine jr_iald R1 d_30_17 (rd_21 hB) (by omega) (by omega) (by decide) ?_
    refine jr_putf R1 d_30_18 (rd_18 hB) (by decide) (by simp) rfl rfl (M' := rd B n tk at' (P (at').toNat) sc S P V ST E) (rd_p18 hB) ?_
    refine jr_ret R3 d_30_21 rfl ?_
    exact ⟨rfl, by first | rw [if_pos (by omega)] | rw [if_neg (by omega)]⟩
  · refine jr_icmp R1 true d_30_5 (by first | assumption | exact hg _ | exact hS _ | exact hV _ | exact hP _ | exact hT _ | exact ⟨by omega, by omega⟩) (by first | assumption | exact hg _ | exact hS _ | exact hV _ | exact hP _ | exact hT _ | exact ⟨by omega, by omega⟩) (by unfold hcb; first | exact decide_eq_true (by omega) | exact decide_eq_false (by omega)) (by decide) (pc' := 21) rfl ?_
    refine jr_ret R3 d_30_21 rfl ?_
    exact ⟨rfl, by first | rw [if_pos (by omega)] | rw [if_neg (by omega)]⟩
theorem hc_step {lch : Launch} {d : Nat} {B : mj_M} {n tk at' fl sc : Int} {S P V ST E : Nat → Int} {x : Int} (hd : 1 ≤ d) (hB : 25 ≤ B.length) (hat : 0 ≤ at' ∧ at' ≤ 160) (htk : 0 ≤ tk ∧ tk ≤ 161) (hfl : -1 ≤ fl ∧ fl ≤ 160) (hsc : 0 ≤ sc ∧ sc ≤ 160) : mj_Me lch 41 d 0 0 [.ref 18, hv x] (rd B n tk at' fl sc S P V ST E) (fun rv M' => rv = none ∧ ∃ sc' ST', (0 ≤ sc' ∧ sc' ≤ 160) ∧ M' = rd B n tk at' fl sc' S P V ST' E) := by
  refine mj_Me_of (by decide) (by omega) (Nat.le_of_ble_eq_true rfl) ?_
  intro L xs J R1 R2 R3
  show J 0 0 (rd B n tk at' fl sc S P V ST E) 0 [(0, .ref 18), (1, hv x)] []
  refine jr_aload_n R1 d_41_0 rfl ?_
  refine jr_getf R1 d_41_1 (rd_18 hB) (by decide) rfl ?_
  refine jr_iconst R1 d_41_4 ?_
  by_cases h1 : fl = (-1)
  · refine jr_icmp R1 false d_41_5 (by first | assumption | exact hg _ | exact hS _ | exact hV _ | exact hP _ | exact hT _ | exact ⟨by omega, by omega⟩) (by first | assumption | exact hg _ | exact hS _ | exact hV _ | exact hP _ | exact hT _ | exact ⟨by omega, by omega⟩) (by unfold hcb; first | exact decide_eq_true (by omega) | exact decide_eq_false (by omega)) (by decide) (pc' := 8) rfl ?_
    refine jr_aload_n R1 d_41_8 rfl ?_
    refine jr_getf R1 d_41_9 (rd_18 hB) (by decide) rfl ?_
    refine jr_sipush R1 d_41_12 (by decide) ?_
    by_cases h2 : sc < 160
    · refine jr_icmp R1 false d_41_15 (by first | assumption | exact hg _ | exact hS _ | exact hV _ | exact hP _ | exact hT _ | exact ⟨by omega, by omega⟩) (by first | assumption | exact hg _ | exact hS _ | exact hV _ | exact hP _ | exact hT _ | exact ⟨by omega, by omega⟩) (by unfold hcb; first | exact decide_eq_true (by omega) | exact decide_eq_false (by omega)) (by decide) (pc' := 18) rfl ?_
      refine jr_aload_n R1 d_41_18 rfl ?_
      refine jr_getf R1 d_41_19 (rd_18 hB) (by decide) rfl ?_
      refine jr_aload_n R1 d_41_22 rfl ?_
      refine jr_getf R1 d_41_23 (rd_18 hB) (by decide) rfl ?_
      refine jr_iload_n R1 d_41_26 rfl ?_
      refine jr_iast R1 d_41_27 (rd_23 hB) (by omega) (by omega) (by decide) (M' := rd B n tk at' fl sc S P V ((hu ST (sc).toNat x)) E) (rd_p23 hB) ?_
      refine jr_aload_n R1 d_41_28 rfl ?_
      refine jr_dup_r R1 d_41_29 ?_
      refine jr_getf R1 d_41_30 (rd_18 hB) (by decide) rfl ?_
      refine jr_iconst R1 d_41_33 ?_
      refine jr_iadd R1 d_41_34 ?_
      refine jr_putf R1 d_41_35 (rd_18 hB) (by decide) (by simp) rfl rfl (M' := rd B n tk at' fl (sc + 1) S P V ((hu ST (sc).toNat x)) E) (rd_p18 hB) ?_
      refine jr_ret R3 d_41_38 rfl ?_
      exact ⟨rfl, _, _, ⟨by omega, by omega⟩, rfl⟩
    · refine jr_icmp R1 true d_41_15 (by first | assumption | exact hg _ | exact hS _ | exact hV _ | exact hP _ | exact hT _ | exact ⟨by omega, by omega⟩) (by first | assumption | exact hg _ | exact hS _ | exact hV _ | exact hP _ | exact hT _ | exact ⟨by omega, by omega⟩) (by unfold hcb; first | exact decide_eq_true (by omega) | exact decide_eq_false (by omega)) (by decide) (pc' := 38) rfl ?_
      refine jr_ret R3 d_41_38 rfl ?_
      exact ⟨rfl, _, _, ⟨by omega, by omega⟩, rfl⟩
  · refine jr_icmp R1 true d_41_5 (by first | assumption | exact hg _ | exact hS _ | exact hV _ | exact hP _ | exact hT _ | exact ⟨by omega, by omega⟩) (by first | assumption | exact hg _ | exact hS _ | exact hV _ | exact hP _ | exact hT _ | exact ⟨by omega, by omega⟩) (by unfold hcb; first | exact decide_eq_true (by omega) | exact decide_eq_false (by omega)) (by decide) (pc' := 38) rfl ?_
    refine jr_ret R3 d_41_38 rfl ?_
    exact ⟨rfl, _, _, ⟨by omega, by omega⟩, rfl⟩
theorem hc_need {lch : Launch} {d : Nat} {B : mj_M} {n tk at' fl sc : Int} {S P V ST E : Nat → Int} {x : Int} (hd : 2 ≤ d) (hB : 25 ≤ B.length) (hat : 0 ≤ at' ∧ at' ≤ 160) (htk : 0 ≤ tk ∧ tk ≤ 161) (hfl : -1 ≤ fl ∧ fl ≤ 160) (hS : ∀ k, hr (S k)) (hP : ∀ k, hr (P k)) (hx : hr x) : mj_Me lch 35 d 0 0 [.ref 18, hv x] (rd B n tk at' fl sc S P V ST E) (fun rv M' => rv = none ∧ M' = rd B n tk (if S (at').toNat = x then (if fl = -1 ∧ at' + 1 < tk then at' + 1 else at') else at') (if S (at').toNat = x then fl else (if fl = -1 then P (at').toNat else fl)) sc S P V ST E) := by
  refine mj_Me_of (by decide) (by omega) (Nat.le_of_ble_eq_true rfl) ?_
  intro L xs J R1 R2 R3
  show J 0 0 (rd B n tk at' fl sc S P V ST E) 0 [(0, .ref 18), (1, hv x)] []
  refine jr_aload_n R1 d_35_0 rfl ?_
  refine jr_getf R1 d_35_1 (rd_18 hB) (by decide) rfl ?_
  refine jr_aload_n R1 d_35_4 rfl ?_
  refine jr_getf R1 d_35_5 (rd_18 hB) (by decide) rfl ?_
  refine jr_iald R1 d_35_8 (rd_20 hB) (by omega) (by omega) (by decide) ?_
  refine jr_iload_n R1 d_35_9 rfl ?_
  by_cases h1 : S (at').toNat = x
  · refine jr_icmp R1 false d_35_10 (by first | assumption | exact hg _ | exact hS _ | exact hV _ | exact hP _ | exact hT _ | exact ⟨by omega, by omega⟩) (by first | assumption | exact hg _ | exact hS _ | exact hV _ | exact hP _ | exact hT _ | exact ⟨by omega, by omega⟩) (by unfold hcb; first | exact decide_eq_true (by omega) | exact decide_eq_false (by omega)) (by decide) (pc' := 13) rfl ?_
    refine jr_aload_n R1 d_35_13 rfl ?_
    refine jr_callv R2 d_35_14 (by decide) rfl (as := [.ref 18]) (rest := []) rfl (by unfold mj_rc; rw [show (_ : List Value).headD _ = .ref 18 from rfl]; simp only [rd_18 hB]; decide) (hc_pass (d := 1) (by omega) hB (by omega) (by omega) (by omega)) (by omega) (Nat.le_of_ble_eq_true rfl) ?_
    rintro rv M9 ⟨rfl, rfl⟩
    show J 0 0 (rd B n tk (if fl = -1 ∧ at' + 1 < tk then at' + 1 else at') fl sc S P V ST E) 17 [(0, .ref 18), (1, hv x)] []
    refine jr_goto R1 d_35_17 (by decide) (pc' := 24) rfl ?_
    refine jr_ret R3 d_35_24 rfl ?_
    exact ⟨rfl, by first | rw [if_pos h1, if_pos h1] | rw [if_neg h1, if_neg h1]⟩
  · refine jr_icmp R1 true d_35_10 (by first | assumption | exact hg _ | exact hS _ | exact hV _ | exact hP _ | exact hT _ | exact ⟨by omega, by omega⟩) (by first | assumption | exact hg _ | exact hS _ | exact hV _ | exact hP _ | exact hT _ | exact ⟨by omega, by omega⟩) (by unfold hcb; first | exact decide_eq_true (by omega) | exact decide_eq_false (by omega)) (by decide) (pc' := 20) rfl ?_
    refine jr_aload_n R1 d_35_20 rfl ?_
    refine jr_callv R2 d_35_21 (by decide) rfl (as := [.ref 18]) (rest := []) rfl (by unfold mj_rc; rw [show (_ : List Value).headD _ = .ref 18 from rfl]; simp only [rd_18 hB]; decide) (hc_fail (d := 1) (by omega) hB (by omega) (by omega) (by omega) hP) (by omega) (Nat.le_of_ble_eq_true rfl) ?_
    rintro rv M9 ⟨rfl, rfl⟩
    show J 0 0 (rd B n tk at' (if fl = -1 then P (at').toNat else fl) sc S P V ST E) 24 [(0, .ref 18), (1, hv x)] []
    refine jr_ret R3 d_35_24 rfl ?_
    exact ⟨rfl, by first | rw [if_pos h1, if_pos h1] | rw [if_neg h1, if_neg h1]⟩
theorem hc_opens {lch : Launch} {d : Nat} {B : mj_M} {n tk at' fl sc : Int} {S P V ST E : Nat → Int} {x : Int} (hd : 2 ≤ d) (hB : 25 ≤ B.length) (hat : 0 ≤ at' ∧ at' ≤ 160) (htk : 0 ≤ tk ∧ tk ≤ 161) (hfl : -1 ≤ fl ∧ fl ≤ 160) (hS : ∀ k, hr (S k)) (hP : ∀ k, hr (P k)) (hx : hr x) : mj_Me lch 37 d 0 0 [.ref 18, hv x] (rd B n tk at' fl sc S P V ST E) (fun rv M' => rv = some (hv (if x < 5 then 1 else 0)) ∧ M' = rd B n tk (if x < 5 then (if fl = -1 ∧ at' + 1 < tk then at' + 1 else at') else at') (if x < 5 then fl else (if fl = -1 then P (at').toNat else fl)) sc S P V ST E) := by
  refine mj_Me_of (by decide) (by omega) (Nat.le_of_ble_eq_true rfl) ?_
  intro L xs J R1 R2 R3
  show J 0 0 (rd B n tk at' fl sc S P V ST E) 0 [(0, .ref 18), (1, hv x)] []
  refine jr_iload_n R1 d_37_0 rfl ?_
  refine jr_iconst R1 d_37_1 ?_
  by_cases h1 : x < 5
  · refine jr_icmp R1 true d_37_2 (by first | assumption | exact hg _ | exact hS _ | exact hV _ | exact hP _ | exact hT _ | exact ⟨by omega, by omega⟩) (by first | assumption | exact hg _ | exact hS _ | exact hV _ | exact hP _ | exact hT _ | exact ⟨by omega, by omega⟩) (by unfold hcb; first | exact decide_eq_true (by omega) | exact decide_eq_false (by omega)) (by decide) (pc' := 11) rfl ?_
    refine jr_aload_n R1 d_37_11 rfl ?_
    refine jr_callv R2 d_37_12 (by decide) rfl (as := [.ref 18]) (rest := []) rfl (by unfold mj_rc; rw [show (_ : List Value).headD _ = .ref 18 from rfl]; simp only [rd_18 hB]; decide) (hc_pass (d := 1) (by omega) hB (by omega) (by omega) (by omega)) (by omega) (Nat.le_of_ble_eq_true rfl) ?_
    rintro rv M9 ⟨rfl, rfl⟩
    show J 0 0 (rd B n tk (if fl = -1 ∧ at' + 1 < tk then at' + 1 else at') fl sc S P V ST E) 15 [(0, .ref 18), (1, hv x)] []
    refine jr_iconst R1 d_37_15 ?_
    refine jr_retb R3 d_37_16 rfl (by first | exact Or.inl rfl | exact Or.inr rfl | omega) ?_
    first | (rw [if_pos h1, if_pos h1, if_pos h1]; exact ⟨rfl, rfl⟩) | (rw [if_neg h1, if_neg h1, if_neg h1]; exact ⟨rfl, rfl⟩)
  · refine jr_icmp R1 false d_37_2 (by first | assumption | exact hg _ | exact hS _ | exact hV _ | exact hP _ | exact hT _ | exact ⟨by omega, by omega⟩) (by first | assumption | exact hg _ | exact hS _ | exact hV _ | exact hP _ | exact hT _ | exact ⟨by omega, by omega⟩) (by unfold hcb; first | exact decide_eq_true (by omega) | exact decide_eq_false (by omega)) (by decide) (pc' := 5) rfl ?_
    refine jr_aload_n R1 d_37_5 rfl ?_
    refine jr_callv R2 d_37_6 (by decide) rfl (as := [.ref 18]) (rest := []) rfl (by unfold mj_rc; rw [show (_ : List Value).headD _ = .ref 18 from rfl]; simp only [rd_18 hB]; decide) (hc_fail (d := 1) (by omega) hB (by omega) (by omega) (by omega) hP) (by omega) (Nat.le_of_ble_eq_true rfl) ?_
    rintro rv M9 ⟨rfl, rfl⟩
    show J 0 0 (rd B n tk at' (if fl = -1 then P (at').toNat else fl) sc S P V ST E) 9 [(0, .ref 18), (1, hv x)] []
    refine jr_iconst R1 d_37_9 ?_
    refine jr_retb R3 d_37_10 rfl (by first | exact Or.inl rfl | exact Or.inr rfl | omega) ?_
    first | (rw [if_pos h1, if_pos h1, if_pos h1]; exact ⟨rfl, rfl⟩) | (rw [if_neg h1, if_neg h1, if_neg h1]; exact ⟨rfl, rfl⟩)
theorem hc_isDigit {lch : Launch} {d : Nat} {M : mj_M} {x : Int} (hd : 1 ≤ d) (hx : hr x) : mj_Me lch 32 d 0 0 [hv x] (M) (fun rv M' => rv = some (hv (if hp_dg x = true then 1 else 0)) ∧ M' = M) := by
  refine mj_Me_of (by decide) (by omega) (Nat.le_of_ble_eq_true rfl) ?_
  intro L xs J R1 R2 R3
  show J 0 0 (M) 0 [(0, hv x)] []
  refine jr_iload_n R1 d_32_0 rfl ?_
  refine jr_bipush R1 d_32_1 (by decide) ?_
  by_cases h1 : x < 48
  · refine jr_icmp R1 true d_32_3 (by first | assumption | exact hg _ | exact hS _ | exact hV _ | exact hP _ | exact hT _ | exact ⟨by omega, by omega⟩) (by first | assumption | exact hg _ | exact hS _ | exact hV _ | exact hP _ | exact hT _ | exact ⟨by omega, by omega⟩) (by unfold hcb; first | exact decide_eq_true (by omega) | exact decide_eq_false (by omega)) (by decide) (pc' := 16) rfl ?_
    refine jr_iconst R1 d_32_16 ?_
    refine jr_retb R3 d_32_17 rfl (by first | exact Or.inl rfl | exact Or.inr rfl | omega) ?_
    exact ⟨by unfold hp_dg; first | rw [if_pos (by simp; omega)] | rw [if_neg (by simp; omega)], rfl⟩
  · refine jr_icmp R1 false d_32_3 (by first | assumption | exact hg _ | exact hS _ | exact hV _ | exact hP _ | exact hT _ | exact ⟨by omega, by omega⟩) (by first | assumption | exact hg _ | exact hS _ | exact hV _ | exact hP _ | exact hT _ | exact ⟨by omega, by omega⟩) (by unfold hcb; first | exact decide_eq_true (by omega) | exact decide_eq_false (by omega)) (by decide) (pc' := 6) rfl ?_
    refine jr_iload_n R1 d_32_6 rfl ?_
    refine jr_bipush R1 d_32_7 (by decide) ?_
    by_cases h2 : 57 < x
    · refine jr_icmp R1 true d_32_9 (by first | assumption | exact hg _ | exact hS _ | exact hV _ | exact hP _ | exact hT _ | exact ⟨by omega, by omega⟩) (by first | assumption | exact hg _ | exact hS _ | exact hV _ | exact hP _ | exact hT _ | exact ⟨by omega, by omega⟩) (by unfold hcb; first | exact decide_eq_true (by omega) | exact decide_eq_false (by omega)) (by decide) (pc' := 16) rfl ?_
      refine jr_iconst R1 d_32_16 ?_
      refine jr_retb R3 d_32_17 rfl (by first | exact Or.inl rfl | exact Or.inr rfl | omega) ?_
      exact ⟨by unfold hp_dg; first | rw [if_pos (by simp; omega)] | rw [if_neg (by simp; omega)], rfl⟩
    · refine jr_icmp R1 false d_32_9 (by first | assumption | exact hg _ | exact hS _ | exact hV _ | exact hP _ | exact hT _ | exact ⟨by omega, by omega⟩) (by first | assumption | exact hg _ | exact hS _ | exact hV _ | exact hP _ | exact hT _ | exact ⟨by omega, by omega⟩) (by unfold hcb; first | exact decide_eq_true (by omega) | exact decide_eq_false (by omega)) (by decide) (pc' := 12) rfl ?_
      refine jr_iconst R1 d_32_12 ?_
      refine jr_goto R1 d_32_13 (by decide) (pc' := 17) rfl ?_
      refine jr_retb R3 d_32_17 rfl (by first | exact Or.inl rfl | exact Or.inr rfl | omega) ?_
      exact ⟨by unfold hp_dg; first | rw [if_pos (by simp; omega)] | rw [if_neg (by simp; omega)], rfl⟩
theorem hc_isLetter {lch : Launch} {d : Nat} {M : mj_M} {x : Int} (hd : 1 ≤ d) (hx : hr x) : mj_Me lch 33 d 0 0 [hv x] (M) (fun rv M' => rv = some (hv (if hp_lt x = true then 1 else 0)) ∧ M' = M) := by
  refine mj_Me_of (by decide) (by omega) (Nat.le_of_ble_eq_true rfl) ?_
  intro L xs J R1 R2 R3
  show J 0 0 (M) 0 [(0, hv x)] []
  refine jr_iload_n R1 d_33_0 rfl ?_
  refine jr_bipush R1 d_33_1 (by decide) ?_
  by_cases h1 : x < 97
  · refine jr_icmp R1 true d_33_3 (by first | assumption | exact hg _ | exact hS _ | exact hV _ | exact hP _ | exact hT _ | exact ⟨by omega, by omega⟩) (by first | assumption | exact hg _ | exact hS _ | exact hV _ | exact hP _ | exact hT _ | exact ⟨by omega, by omega⟩) (by unfold hcb; first | exact decide_eq_true (by omega) | exact decide_eq_false (by omega)) (by decide) (pc' := 16) rfl ?_
    refine jr_iconst R1 d_33_16 ?_
    refine jr_retb R3 d_33_17 rfl (by first | exact Or.inl rfl | exact Or.inr rfl | omega) ?_
    exact ⟨by unfold hp_lt; first | rw [if_pos (by simp; omega)] | rw [if_neg (by simp; omega)], rfl⟩
  · refine jr_icmp R1 false d_33_3 (by first | assumption | exact hg _ | exact hS _ | exact hV _ | exact hP _ | exact hT _ | exact ⟨by omega, by omega⟩) (by first | assumption | exact hg _ | exact hS _ | exact hV _ | exact hP _ | exact hT _ | exact ⟨by omega, by omega⟩) (by unfold hcb; first | exact decide_eq_true (by omega) | exact decide_eq_false (by omega)) (by decide) (pc' := 6) rfl ?_
    refine jr_iload_n R1 d_33_6 rfl ?_
    refine jr_bipush R1 d_33_7 (by decide) ?_
    by_cases h2 : 122 < x
    · refine jr_icmp R1 true d_33_9 (by first | assumption | exact hg _ | exact hS _ | exact hV _ | exact hP _ | exact hT _ | exact ⟨by omega, by omega⟩) (by first | assumption | exact hg _ | exact hS _ | exact hV _ | exact hP _ | exact hT _ | exact ⟨by omega, by omega⟩) (by unfold hcb; first | exact decide_eq_true (by omega) | exact decide_eq_false (by omega)) (by decide) (pc' := 16) rfl ?_
      refine jr_iconst R1 d_33_16 ?_
      refine jr_retb R3 d_33_17 rfl (by first | exact Or.inl rfl | exact Or.inr rfl | omega) ?_
      exact ⟨by unfold hp_lt; first | rw [if_pos (by simp; omega)] | rw [if_neg (by simp; omega)], rfl⟩
    · refine jr_icmp R1 false d_33_9 (by first | assumption | exact hg _ | exact hS _ | exact hV _ | exact hP _ | exact hT _ | exact ⟨by omega, by omega⟩) (by first | assumption | exact hg _ | exact hS _ | exact hV _ | exact hP _ | exact hT _ | exact ⟨by omega, by omega⟩) (by unfold hcb; first | exact decide_eq_true (by omega) | exact decide_eq_false (by omega)) (by decide) (pc' := 12) rfl ?_
      refine jr_iconst R1 d_33_12 ?_
      refine jr_goto R1 d_33_13 (by decide) (pc' := 17) rfl ?_
      refine jr_retb R3 d_33_17 rfl (by first | exact Or.inl rfl | exact Or.inr rfl | omega) ?_
      exact ⟨by unfold hp_lt; first | rw [if_pos (by simp; omega)] | rw [if_neg (by simp; omega)], rfl⟩
theorem hc_isSign {lch : Launch} {d : Nat} {M : mj_M} {x : Int} (hd : 1 ≤ d) (hx : hr x) : mj_Me lch 48 d 0 0 [hv x] (M) (fun rv M' => rv = some (hv (if hp_sg x = true then 1 else 0)) ∧ M' = M) := by
  refine mj_Me_of (by decide) (by omega) (Nat.le_of_ble_eq_true rfl) ?_
  intro L xs J R1 R2 R3
  show J 0 0 (M) 0 [(0, hv x)] []
  refine jr_iload_n R1 d_48_0 rfl ?_
  refine jr_bipush R1 d_48_1 (by decide) ?_
  by_cases h1 : x = 40
  · refine jr_icmp R1 true d_48_3 (by first | assumption | exact hg _ | exact hS _ | exact hV _ | exact hP _ | exact hT _ | exact ⟨by omega, by omega⟩) (by first | assumption | exact hg _ | exact hS _ | exact hV _ | exact hP _ | exact hT _ | exact ⟨by omega, by omega⟩) (by unfold hcb; first | exact decide_eq_true (by omega) | exact decide_eq_false (by omega)) (by decide) (pc' := 48) rfl ?_
    refine jr_iconst R1 d_48_48 ?_
    refine jr_goto R1 d_48_49 (by decide) (pc' := 53) rfl ?_
    refine jr_retb R3 d_48_53 rfl (by first | exact Or.inl rfl | exact Or.inr rfl | omega) ?_
    exact ⟨by unfold hp_sg; first | rw [if_pos (by simp; omega)] | rw [if_neg (by simp; omega)], rfl⟩
  · refine jr_icmp R1 false d_48_3 (by first | assumption | exact hg _ | exact hS _ | exact hV _ | exact hP _ | exact hT _ | exact ⟨by omega, by omega⟩) (by first | assumption | exact hg _ | exact hS _ | exact hV _ | exact hP _ | exact hT _ | exact ⟨by omega, by omega⟩) (by unfold hcb; first | exact decide_eq_true (by omega) | exact decide_eq_false (by omega)) (by decide) (pc' := 6) rfl ?_
    refine jr_iload_n R1 d_48_6 rfl ?_
    refine jr_bipush R1 d_48_7 (by decide) ?_
    by_cases h2 : x = 41
    · refine jr_icmp R1 true d_48_9 (by first | assumption | exact hg _ | exact hS _ | exact hV _ | exact hP _ | exact hT _ | exact ⟨by omega, by omega⟩) (by first | assumption | exact hg _ | exact hS _ | exact hV _ | exact hP _ | exact hT _ | exact ⟨by omega, by omega⟩) (by unfold hcb; first | exact decide_eq_true (by omega) | exact decide_eq_false (by omega)) (by decide) (pc' := 48) rfl ?_
      refine jr_iconst R1 d_48_48 ?_
      refine jr_goto R1 d_48_49 (by decide) (pc' := 53) rfl ?_
      refine jr_retb R3 d_48_53 rfl (by first | exact Or.inl rfl | exact Or.inr rfl | omega) ?_
      exact ⟨by unfold hp_sg; first | rw [if_pos (by simp; omega)] | rw [if_neg (by simp; omega)], rfl⟩
    · refine jr_icmp R1 false d_48_9 (by first | assumption | exact hg _ | exact hS _ | exact hV _ | exact hP _ | exact hT _ | exact ⟨by omega, by omega⟩) (by first | assumption | exact hg _ | exact hS _ | exact hV _ | exact hP _ | exact hT _ | exact ⟨by omega, by omega⟩) (by unfold hcb; first | exact decide_eq_true (by omega) | exact decide_eq_false (by omega)) (by decide) (pc' := 12) rfl ?_
      refine jr_iload_n R1 d_48_12 rfl ?_
      refine jr_bipush R1 d_48_13 (by decide) ?_
      by_cases h3 : x = 59
      · refine jr_icmp R1 true d_48_15 (by first | assumption | exact hg _ | exact hS _ | exact hV _ | exact hP _ | exact hT _ | exact ⟨by omega, by omega⟩) (by first | assumption | exact hg _ | exact hS _ | exact hV _ | exact hP _ | exact hT _ | exact ⟨by omega, by omega⟩) (by unfold hcb; first | exact decide_eq_true (by omega) | exact decide_eq_false (by omega)) (by decide) (pc' := 48) rfl ?_
        refine jr_iconst R1 d_48_48 ?_
        refine jr_goto R1 d_48_49 (by decide) (pc' := 53) rfl ?_
        refine jr_retb R3 d_48_53 rfl (by first | exact Or.inl rfl | exact Or.inr rfl | omega) ?_
        exact ⟨by unfold hp_sg; first | rw [if_pos (by simp; omega)] | rw [if_neg (by simp; omega)], rfl⟩
      · refine jr_icmp R1 false d_48_15 (by first | assumption | exact hg _ | exact hS _ | exact hV _ | exact hP _ | exact hT _ | exact ⟨by omega, by omega⟩) (by first | assumption | exact hg _ | exact hS _ | exact hV _ | exact hP _ | exact hT _ | exact ⟨by omega, by omega⟩) (by unfold hcb; first | exact decide_eq_true (by omega) | exact decide_eq_false (by omega)) (by decide) (pc' := 18) rfl ?_
        refine jr_iload_n R1 d_48_18 rfl ?_
        refine jr_bipush R1 d_48_19 (by decide) ?_
        by_cases h4 : x = 43
        · refine jr_icmp R1 true d_48_21 (by first | assumption | exact hg _ | exact hS _ | exact hV _ | exact hP _ | exact hT _ | exact ⟨by omega, by omega⟩) (by first | assumption | exact hg _ | exact hS _ | exact hV _ | exact hP _ | exact hT _ | exact ⟨by omega, by omega⟩) (by unfold hcb; first | exact decide_eq_true (by omega) | exact decide_eq_false (by omega)) (by decide) (pc' := 48) rfl ?_
          refine jr_iconst R1 d_48_48 ?_
          refine jr_goto R1 d_48_49 (by decide) (pc' := 53) rfl ?_
          refine jr_retb R3 d_48_53 rfl (by first | exact Or.inl rfl | exact Or.inr rfl | omega) ?_
          exact ⟨by unfold hp_sg; first | rw [if_pos (by simp; omega)] | rw [if_neg (by simp; omega)], rfl⟩
        · refine jr_icmp R1 false d_48_21 (by first | assumption | exact hg _ | exact hS _ | exact hV _ | exact hP _ | exact hT _ | exact ⟨by omega, by omega⟩) (by first | assumption | exact hg _ | exact hS _ | exact hV _ | exact hP _ | exact hT _ | exact ⟨by omega, by omega⟩) (by unfold hcb; first | exact decide_eq_true (by omega) | exact decide_eq_false (by omega)) (by decide) (pc' := 24) rfl ?_
          refine jr_iload_n R1 d_48_24 rfl ?_
          refine jr_bipush R1 d_48_25 (by decide) ?_
          by_cases h5 : x = 45
          · refine jr_icmp R1 true d_48_27 (by first | assumption | exact hg _ | exact hS _ | exact hV _ | exact hP _ | exact hT _ | exact ⟨by omega, by omega⟩) (by first | assumption | exact hg _ | exact hS _ | exact hV _ | exact hP _ | exact hT _ | exact ⟨by omega, by omega⟩) (by unfold hcb; first | exact decide_eq_true (by omega) | exact decide_eq_false (by omega)) (by decide) (pc' := 48) rfl ?_
            refine jr_iconst R1 d_48_48 ?_
            refine jr_goto R1 d_48_49 (by decide) (pc' := 53) rfl ?_
            refine jr_retb R3 d_48_53 rfl (by first | exact Or.inl rfl | exact Or.inr rfl | omega) ?_
            exact ⟨by unfold hp_sg; first | rw [if_pos (by simp; omega)] | rw [if_neg (by simp; omega)], rfl⟩
          · refine jr_icmp R1 false d_48_27 (by first | assumption | exact hg _ | exact hS _ | exact hV _ | exact hP _ | exact hT _ | exact ⟨by omega, by omega⟩) (by first | assumption | exact hg _ | exact hS _ | exact hV _ | exact hP _ | exact hT _ | exact ⟨by omega, by omega⟩) (by unfold hcb; first | exact decide_eq_true (by omega) | exact decide_eq_false (by omega)) (by decide) (pc' := 30) rfl ?_
            refine jr_iload_n R1 d_48_30 rfl ?_
            refine jr_bipush R1 d_48_31 (by decide) ?_
            by_cases h6 : x = 42
            · refine jr_icmp R1 true d_48_33 (by first | assumption | exact hg _ | exact hS _ | exact hV _ | exact hP _ | exact hT _ | exact ⟨by omega, by omega⟩) (by first | assumption | exact hg _ | exact hS _ | exact hV _ | exact hP _ | exact hT _ | exact ⟨by omega, by omega⟩) (by unfold hcb; first | exact decide_eq_true (by omega) | exact decide_eq_false (by omega)) (by decide) (pc' := 48) rfl ?_
              refine jr_iconst R1 d_48_48 ?_
              refine jr_goto R1 d_48_49 (by decide) (pc' := 53) rfl ?_
              refine jr_retb R3 d_48_53 rfl (by first | exact Or.inl rfl | exact Or.inr rfl | omega) ?_
              exact ⟨by unfold hp_sg; first | rw [if_pos (by simp; omega)] | rw [if_neg (by simp; omega)], rfl⟩
            · refine jr_icmp R1 false d_48_33 (by first | assumption | exact hg _ | exact hS _ | exact hV _ | exact hP _ | exact hT _ | exact ⟨by omega, by omega⟩) (by first | assumption | exact hg _ | exact hS _ | exact hV _ | exact hP _ | exact hT _ | exact ⟨by omega, by omega⟩) (by unfold hcb; first | exact decide_eq_true (by omega) | exact decide_eq_false (by omega)) (by decide) (pc' := 36) rfl ?_
              refine jr_iload_n R1 d_48_36 rfl ?_
              refine jr_bipush R1 d_48_37 (by decide) ?_
              by_cases h7 : x = 60
              · refine jr_icmp R1 true d_48_39 (by first | assumption | exact hg _ | exact hS _ | exact hV _ | exact hP _ | exact hT _ | exact ⟨by omega, by omega⟩) (by first | assumption | exact hg _ | exact hS _ | exact hV _ | exact hP _ | exact hT _ | exact ⟨by omega, by omega⟩) (by unfold hcb; first | exact decide_eq_true (by omega) | exact decide_eq_false (by omega)) (by decide) (pc' := 48) rfl ?_
                refine jr_iconst R1 d_48_48 ?_
                refine jr_goto R1 d_48_49 (by decide) (pc' := 53) rfl ?_
                refine jr_retb R3 d_48_53 rfl (by first | exact Or.inl rfl | exact Or.inr rfl | omega) ?_
                exact ⟨by unfold hp_sg; first | rw [if_pos (by simp; omega)] | rw [if_neg (by simp; omega)], rfl⟩
              · refine jr_icmp R1 false d_48_39 (by first | assumption | exact hg _ | exact hS _ | exact hV _ | exact hP _ | exact hT _ | exact ⟨by omega, by omega⟩) (by first | assumption | exact hg _ | exact hS _ | exact hV _ | exact hP _ | exact hT _ | exact ⟨by omega, by omega⟩) (by unfold hcb; first | exact decide_eq_true (by omega) | exact decide_eq_false (by omega)) (by decide) (pc' := 42) rfl ?_
                refine jr_iload_n R1 d_48_42 rfl ?_
                refine jr_bipush R1 d_48_43 (by decide) ?_
                by_cases h8 : x = 61
                · refine jr_icmp R1 false d_48_45 (by first | assumption | exact hg _ | exact hS _ | exact hV _ | exact hP _ | exact hT _ | exact ⟨by omega, by omega⟩) (by first | assumption | exact hg _ | exact hS _ | exact hV _ | exact hP _ | exact hT _ | exact ⟨by omega, by omega⟩) (by unfold hcb; first | exact decide_eq_true (by omega) | exact decide_eq_false (by omega)) (by decide) (pc' := 48) rfl ?_
                  refine jr_iconst R1 d_48_48 ?_
                  refine jr_goto R1 d_48_49 (by decide) (pc' := 53) rfl ?_
                  refine jr_retb R3 d_48_53 rfl (by first | exact Or.inl rfl | exact Or.inr rfl | omega) ?_
                  exact ⟨by unfold hp_sg; first | rw [if_pos (by simp; omega)] | rw [if_neg (by simp; omega)], rfl⟩
                · refine jr_icmp R1 true d_48_45 (by first | assumption | exact hg _ | exact hS _ | exact hV _ | exact hP _ | exact hT _ | exact ⟨by omega, by omega⟩) (by first | assumption | exact hg _ | exact hS _ | exact hV _ | exact hP _ | exact hT _ | exact ⟨by omega, by omega⟩) (by unfold hcb; first | exact decide_eq_true (by omega) | exact decide_eq_false (by omega)) (by decide) (pc' := 52) rfl ?_
                  refine jr_iconst R1 d_48_52 ?_
                  refine jr_retb R3 d_48_53 rfl (by first | exact Or.inl rfl | exact Or.inr rfl | omega) ?_
                  exact ⟨by unfold hp_sg; first | rw [if_pos (by simp; omega)] | rw [if_neg (by simp; omega)], rfl⟩
theorem hc_joins0 {lch : Launch} {d : Nat} {M : mj_M} {x : Int} (hd : 1 ≤ d) (hx : hr x) : mj_Me lch 34 d 0 0 [hv x, hv 0] (M) (fun rv M' => rv = some (hv (if hp_jb x 0 = true then 1 else 0)) ∧ M' = M) := by
  refine mj_Me_of (by decide) (by omega) (Nat.le_of_ble_eq_true rfl) ?_
  intro L xs J R1 R2 R3
  show J 0 0 (M) 0 [(0, hv x), (1, hv 0)] []
  refine jr_iload_n R1 d_34_0 rfl ?_
  refine jr R1 d_34_1 (pc' := 32) rfl ?_
  refine jr_iload_n R1 d_34_32 rfl ?_
  refine jr_sipush R1 d_34_33 (by decide) ?_
  by_cases h1 : x = 265
  · refine jr_icmp R1 false d_34_36 (by first | assumption | exact hg _ | exact hS _ | exact hV _ | exact hP _ | exact hT _ | exact ⟨by omega, by omega⟩) (by first | assumption | exact hg _ | exact hS _ | exact hV _ | exact hP _ | exact hT _ | exact ⟨by omega, by omega⟩) (by unfold hcb; first | exact decide_eq_true (by omega) | exact decide_eq_false (by omega)) (by decide) (pc' := 39) rfl ?_
    refine jr_iconst R1 d_34_39 ?_
    refine jr_goto R1 d_34_40 (by decide) (pc' := 44) rfl ?_
    refine jr_retb R3 d_34_44 rfl (by first | exact Or.inl rfl | exact Or.inr rfl | omega) ?_
    exact ⟨by unfold hp_jb; first | rw [if_pos (by simp; omega)] | rw [if_neg (by simp; omega)], rfl⟩
  · refine jr_icmp R1 true d_34_36 (by first | assumption | exact hg _ | exact hS _ | exact hV _ | exact hP _ | exact hT _ | exact ⟨by omega, by omega⟩) (by first | assumption | exact hg _ | exact hS _ | exact hV _ | exact hP _ | exact hT _ | exact ⟨by omega, by omega⟩) (by unfold hcb; first | exact decide_eq_true (by omega) | exact decide_eq_false (by omega)) (by decide) (pc' := 43) rfl ?_
    refine jr_iconst R1 d_34_43 ?_
    refine jr_retb R3 d_34_44 rfl (by first | exact Or.inl rfl | exact Or.inr rfl | omega) ?_
    exact ⟨by unfold hp_jb; first | rw [if_pos (by simp; omega)] | rw [if_neg (by simp; omega)], rfl⟩
theorem hc_joins1 {lch : Launch} {d : Nat} {M : mj_M} {x : Int} (hd : 1 ≤ d) (hx : hr x) : mj_Me lch 34 d 0 0 [hv x, hv 1] (M) (fun rv M' => rv = some (hv (if hp_jb x 1 = true then 1 else 0)) ∧ M' = M) := by
  refine mj_Me_of (by decide) (by omega) (Nat.le_of_ble_eq_true rfl) ?_
  intro L xs J R1 R2 R3
  show J 0 0 (M) 0 [(0, hv x), (1, hv 1)] []
  refine jr_iload_n R1 d_34_0 rfl ?_
  refine jr R1 d_34_1 (pc' := 45) rfl ?_
  refine jr_iload_n R1 d_34_45 rfl ?_
  refine jr_sipush R1 d_34_46 (by decide) ?_
  by_cases h1 : x = 266
  · refine jr_icmp R1 false d_34_49 (by first | assumption | exact hg _ | exact hS _ | exact hV _ | exact hP _ | exact hT _ | exact ⟨by omega, by omega⟩) (by first | assumption | exact hg _ | exact hS _ | exact hV _ | exact hP _ | exact hT _ | exact ⟨by omega, by omega⟩) (by unfold hcb; first | exact decide_eq_true (by omega) | exact decide_eq_false (by omega)) (by decide) (pc' := 52) rfl ?_
    refine jr_iconst R1 d_34_52 ?_
    refine jr_goto R1 d_34_53 (by decide) (pc' := 57) rfl ?_
    refine jr_retb R3 d_34_57 rfl (by first | exact Or.inl rfl | exact Or.inr rfl | omega) ?_
    exact ⟨by unfold hp_jb; first | rw [if_pos (by simp; omega)] | rw [if_neg (by simp; omega)], rfl⟩
  · refine jr_icmp R1 true d_34_49 (by first | assumption | exact hg _ | exact hS _ | exact hV _ | exact hP _ | exact hT _ | exact ⟨by omega, by omega⟩) (by first | assumption | exact hg _ | exact hS _ | exact hV _ | exact hP _ | exact hT _ | exact ⟨by omega, by omega⟩) (by unfold hcb; first | exact decide_eq_true (by omega) | exact decide_eq_false (by omega)) (by decide) (pc' := 56) rfl ?_
    refine jr_iconst R1 d_34_56 ?_
    refine jr_retb R3 d_34_57 rfl (by first | exact Or.inl rfl | exact Or.inr rfl | omega) ?_
    exact ⟨by unfold hp_jb; first | rw [if_pos (by simp; omega)] | rw [if_neg (by simp; omega)], rfl⟩
theorem hc_joins2 {lch : Launch} {d : Nat} {M : mj_M} {x : Int} (hd : 1 ≤ d) (hx : hr x) : mj_Me lch 34 d 0 0 [hv x, hv 2] (M) (fun rv M' => rv = some (hv (if hp_jb x 2 = true then 1 else 0)) ∧ M' = M) := by
  refine mj_Me_of (by decide) (by omega) (Nat.le_of_ble_eq_true rfl) ?_
  intro L xs J R1 R2 R3
  show J 0 0 (M) 0 [(0, hv x), (1, hv 2)] []
  refine jr_iload_n R1 d_34_0 rfl ?_
  refine jr R1 d_34_1 (pc' := 58) rfl ?_
  refine jr_iload_n R1 d_34_58 rfl ?_
  refine jr_bipush R1 d_34_59 (by decide) ?_
  by_cases h1 : x = 60
  · refine jr_icmp R1 true d_34_61 (by first | assumption | exact hg _ | exact hS _ | exact hV _ | exact hP _ | exact hT _ | exact ⟨by omega, by omega⟩) (by first | assumption | exact hg _ | exact hS _ | exact hV _ | exact hP _ | exact hT _ | exact ⟨by omega, by omega⟩) (by unfold hcb; first | exact decide_eq_true (by omega) | exact decide_eq_false (by omega)) (by decide) (pc' := 70) rfl ?_
    refine jr_iconst R1 d_34_70 ?_
    refine jr_goto R1 d_34_71 (by decide) (pc' := 75) rfl ?_
    refine jr_retb R3 d_34_75 rfl (by first | exact Or.inl rfl | exact Or.inr rfl | omega) ?_
    exact ⟨by unfold hp_jb; first | rw [if_pos (by simp; omega)] | rw [if_neg (by simp; omega)], rfl⟩
  · refine jr_icmp R1 false d_34_61 (by first | assumption | exact hg _ | exact hS _ | exact hV _ | exact hP _ | exact hT _ | exact ⟨by omega, by omega⟩) (by first | assumption | exact hg _ | exact hS _ | exact hV _ | exact hP _ | exact hT _ | exact ⟨by omega, by omega⟩) (by unfold hcb; first | exact decide_eq_true (by omega) | exact decide_eq_false (by omega)) (by decide) (pc' := 64) rfl ?_
    refine jr_iload_n R1 d_34_64 rfl ?_
    refine jr_bipush R1 d_34_65 (by decide) ?_
    by_cases h2 : x = 61
    · refine jr_icmp R1 false d_34_67 (by first | assumption | exact hg _ | exact hS _ | exact hV _ | exact hP _ | exact hT _ | exact ⟨by omega, by omega⟩) (by first | assumption | exact hg _ | exact hS _ | exact hV _ | exact hP _ | exact hT _ | exact ⟨by omega, by omega⟩) (by unfold hcb; first | exact decide_eq_true (by omega) | exact decide_eq_false (by omega)) (by decide) (pc' := 70) rfl ?_
      refine jr_iconst R1 d_34_70 ?_
      refine jr_goto R1 d_34_71 (by decide) (pc' := 75) rfl ?_
      refine jr_retb R3 d_34_75 rfl (by first | exact Or.inl rfl | exact Or.inr rfl | omega) ?_
      exact ⟨by unfold hp_jb; first | rw [if_pos (by simp; omega)] | rw [if_neg (by simp; omega)], rfl⟩
    · refine jr_icmp R1 true d_34_67 (by first | assumption | exact hg _ | exact hS _ | exact hV _ | exact hP _ | exact hT _ | exact ⟨by omega, by omega⟩) (by first | assumption | exact hg _ | exact hS _ | exact hV _ | exact hP _ | exact hT _ | exact ⟨by omega, by omega⟩) (by unfold hcb; first | exact decide_eq_true (by omega) | exact decide_eq_false (by omega)) (by decide) (pc' := 74) rfl ?_
      refine jr_iconst R1 d_34_74 ?_
      refine jr_retb R3 d_34_75 rfl (by first | exact Or.inl rfl | exact Or.inr rfl | omega) ?_
      exact ⟨by unfold hp_jb; first | rw [if_pos (by simp; omega)] | rw [if_neg (by simp; omega)], rfl⟩
theorem hc_joins3 {lch : Launch} {d : Nat} {M : mj_M} {x : Int} (hd : 1 ≤ d) (hx : hr x) : mj_Me lch 34 d 0 0 [hv x, hv 3] (M) (fun rv M' => rv = some (hv (if hp_jb x 3 = true then 1 else 0)) ∧ M' = M) := by
  refine mj_Me_of (by decide) (by omega) (Nat.le_of_ble_eq_true rfl) ?_
  intro L xs J R1 R2 R3
  show J 0 0 (M) 0 [(0, hv x), (1, hv 3)] []
  refine jr_iload_n R1 d_34_0 rfl ?_
  refine jr R1 d_34_1 (pc' := 76) rfl ?_
  refine jr_iload_n R1 d_34_76 rfl ?_
  refine jr_bipush R1 d_34_77 (by decide) ?_
  by_cases h1 : x = 43
  · refine jr_icmp R1 true d_34_79 (by first | assumption | exact hg _ | exact hS _ | exact hV _ | exact hP _ | exact hT _ | exact ⟨by omega, by omega⟩) (by first | assumption | exact hg _ | exact hS _ | exact hV _ | exact hP _ | exact hT _ | exact ⟨by omega, by omega⟩) (by unfold hcb; first | exact decide_eq_true (by omega) | exact decide_eq_false (by omega)) (by decide) (pc' := 88) rfl ?_
    refine jr_iconst R1 d_34_88 ?_
    refine jr_goto R1 d_34_89 (by decide) (pc' := 93) rfl ?_
    refine jr_retb R3 d_34_93 rfl (by first | exact Or.inl rfl | exact Or.inr rfl | omega) ?_
    exact ⟨by unfold hp_jb; first | rw [if_pos (by simp; omega)] | rw [if_neg (by simp; omega)], rfl⟩
  · refine jr_icmp R1 false d_34_79 (by first | assumption | exact hg _ | exact hS _ | exact hV _ | exact hP _ | exact hT _ | exact ⟨by omega, by omega⟩) (by first | assumption | exact hg _ | exact hS _ | exact hV _ | exact hP _ | exact hT _ | exact ⟨by omega, by omega⟩) (by unfold hcb; first | exact decide_eq_true (by omega) | exact decide_eq_false (by omega)) (by decide) (pc' := 82) rfl ?_
    refine jr_iload_n R1 d_34_82 rfl ?_
    refine jr_bipush R1 d_34_83 (by decide) ?_
    by_cases h2 : x = 45
    · refine jr_icmp R1 false d_34_85 (by first | assumption | exact hg _ | exact hS _ | exact hV _ | exact hP _ | exact hT _ | exact ⟨by omega, by omega⟩) (by first | assumption | exact hg _ | exact hS _ | exact hV _ | exact hP _ | exact hT _ | exact ⟨by omega, by omega⟩) (by unfold hcb; first | exact decide_eq_true (by omega) | exact decide_eq_false (by omega)) (by decide) (pc' := 88) rfl ?_
      refine jr_iconst R1 d_34_88 ?_
      refine jr_goto R1 d_34_89 (by decide) (pc' := 93) rfl ?_
      refine jr_retb R3 d_34_93 rfl (by first | exact Or.inl rfl | exact Or.inr rfl | omega) ?_
      exact ⟨by unfold hp_jb; first | rw [if_pos (by simp; omega)] | rw [if_neg (by simp; omega)], rfl⟩
    · refine jr_icmp R1 true d_34_85 (by first | assumption | exact hg _ | exact hS _ | exact hV _ | exact hP _ | exact hT _ | exact ⟨by omega, by omega⟩) (by first | assumption | exact hg _ | exact hS _ | exact hV _ | exact hP _ | exact hT _ | exact ⟨by omega, by omega⟩) (by unfold hcb; first | exact decide_eq_true (by omega) | exact decide_eq_false (by omega)) (by decide) (pc' := 92) rfl ?_
      refine jr_iconst R1 d_34_92 ?_
      refine jr_retb R3 d_34_93 rfl (by first | exact Or.inl rfl | exact Or.inr rfl | omega) ?_
      exact ⟨by unfold hp_jb; first | rw [if_pos (by simp; omega)] | rw [if_neg (by simp; omega)], rfl⟩
theorem hc_joins4 {lch : Launch} {d : Nat} {M : mj_M} {x : Int} (hd : 1 ≤ d) (hx : hr x) : mj_Me lch 34 d 0 0 [hv x, hv 4] (M) (fun rv M' => rv = some (hv (if hp_jb x 4 = true then 1 else 0)) ∧ M' = M) := by
  refine mj_Me_of (by decide) (by omega) (Nat.le_of_ble_eq_true rfl) ?_
  intro L xs J R1 R2 R3
  show J 0 0 (M) 0 [(0, hv x), (1, hv 4)] []
  refine jr_iload_n R1 d_34_0 rfl ?_
  refine jr R1 d_34_1 (pc' := 94) rfl ?_
  refine jr_iload_n R1 d_34_94 rfl ?_
  refine jr_bipush R1 d_34_95 (by decide) ?_
  by_cases h1 : x = 42
  · refine jr_icmp R1 false d_34_97 (by first | assumption | exact hg _ | exact hS _ | exact hV _ | exact hP _ | exact hT _ | exact ⟨by omega, by omega⟩) (by first | assumption | exact hg _ | exact hS _ | exact hV _ | exact hP _ | exact hT _ | exact ⟨by omega, by omega⟩) (by unfold hcb; first | exact decide_eq_true (by omega) | exact decide_eq_false (by omega)) (by decide) (pc' := 100) rfl ?_
    refine jr_iconst R1 d_34_100 ?_
    refine jr_goto R1 d_34_101 (by decide) (pc' := 105) rfl ?_
    refine jr_retb R3 d_34_105 rfl (by first | exact Or.inl rfl | exact Or.inr rfl | omega) ?_
    exact ⟨by unfold hp_jb; first | rw [if_pos (by simp; omega)] | rw [if_neg (by simp; omega)], rfl⟩
  · refine jr_icmp R1 true d_34_97 (by first | assumption | exact hg _ | exact hS _ | exact hV _ | exact hP _ | exact hT _ | exact ⟨by omega, by omega⟩) (by first | assumption | exact hg _ | exact hS _ | exact hV _ | exact hP _ | exact hT _ | exact ⟨by omega, by omega⟩) (by unfold hcb; first | exact decide_eq_true (by omega) | exact decide_eq_false (by omega)) (by decide) (pc' := 104) rfl ?_
    refine jr_iconst R1 d_34_104 ?_
    refine jr_retb R3 d_34_105 rfl (by first | exact Or.inl rfl | exact Or.inr rfl | omega) ?_
    exact ⟨by unfold hp_jb; first | rw [if_pos (by simp; omega)] | rw [if_neg (by simp; omega)], rfl⟩
theorem hc_token {lch : Launch} {d : Nat} {B : mj_M} {n tk at' fl sc : Int} {S P V ST E : Nat → Int} {x y z : Int} (hd : 1 ≤ d) (hB : 25 ≤ B.length) (hat : 0 ≤ at' ∧ at' ≤ 160) (htk : 0 ≤ tk ∧ tk ≤ 161) (hfl : -1 ≤ fl ∧ fl ≤ 160) (ht : tk < 161) : mj_Me lch 42 d 0 0 [.ref 18, hv x, hv y, hv z] (rd B n tk at' fl sc S P V ST E) (fun rv M' => rv = none ∧ M' = rd B n (tk + 1) at' fl sc (hu S tk.toNat x) (hu P tk.toNat y) (hu V tk.toNat z) ST E) := by
  refine mj_Me_of (by decide) (by omega) (Nat.le_of_ble_eq_true rfl) ?_
  intro L xs J R1 R2 R3
  show J 0 0 (rd B n tk at' fl sc S P V ST E) 0 [(0, .ref 18), (1, hv x), (2, hv y), (3, hv z)] []
  refine jr_aload_n R1 d_42_0 rfl ?_
  refine jr_getf R1 d_42_1 (rd_18 hB) (by decide) rfl ?_
  refine jr_aload_n R1 d_42_4 rfl ?_
  refine jr_getf R1 d_42_5 (rd_18 hB) (by decide) rfl ?_
  refine jr_alen R1 d_42_8 (rd_20 hB) ?_
  by_cases h1 : tk < 161
  · refine jr_icmp R1 false d_42_9 (by first | assumption | exact hg _ | exact hS _ | exact hV _ | exact hP _ | exact hT _ | exact ⟨by omega, by omega⟩) (by first | assumption | exact hg _ | exact hS _ | exact hV _ | exact hP _ | exact hT _ | exact ⟨by omega, by omega⟩) (by unfold hcb; first | exact decide_eq_true (by omega) | exact decide_eq_false (by omega)) (by decide) (pc' := 12) rfl ?_
    refine jr_aload_n R1 d_42_12 rfl ?_
    refine jr_getf R1 d_42_13 (rd_18 hB) (by decide) rfl ?_
    refine jr_aload_n R1 d_42_16 rfl ?_
    refine jr_getf R1 d_42_17 (rd_18 hB) (by decide) rfl ?_
    refine jr_iload_n R1 d_42_20 rfl ?_
    refine jr_iast R1 d_42_21 (rd_20 hB) (by omega) (by omega) (by decide) (M' := rd B n tk at' fl sc ((hu S (tk).toNat x)) P V ST E) (rd_p20 hB) ?_
    refine jr_aload_n R1 d_42_22 rfl ?_
    refine jr_getf R1 d_42_23 (rd_18 hB) (by decide) rfl ?_
    refine jr_aload_n R1 d_42_26 rfl ?_
    refine jr_getf R1 d_42_27 (rd_18 hB) (by decide) rfl ?_
    refine jr_iload_n R1 d_42_30 rfl ?_
    refine jr_iast R1 d_42_31 (rd_21 hB) (by omega) (by omega) (by decide) (M' := rd B n tk at' fl sc ((hu S (tk).toNat x)) ((hu P (tk).toNat y)) V ST E) (rd_p21 hB) ?_
    refine jr_aload_n R1 d_42_32 rfl ?_
    refine jr_getf R1 d_42_33 (rd_18 hB) (by decide) rfl ?_
    refine jr_aload_n R1 d_42_36 rfl ?_
    refine jr_getf R1 d_42_37 (rd_18 hB) (by decide) rfl ?_
    refine jr_iload_n R1 d_42_40 rfl ?_
    refine jr_iast R1 d_42_41 (rd_22 hB) (by omega) (by omega) (by decide) (M' := rd B n tk at' fl sc ((hu S (tk).toNat x)) ((hu P (tk).toNat y)) ((hu V (tk).toNat z)) ST E) (rd_p22 hB) ?_
    refine jr_aload_n R1 d_42_42 rfl ?_
    refine jr_dup_r R1 d_42_43 ?_
    refine jr_getf R1 d_42_44 (rd_18 hB) (by decide) rfl ?_
    refine jr_iconst R1 d_42_47 ?_
    refine jr_iadd R1 d_42_48 ?_
    refine jr_putf R1 d_42_49 (rd_18 hB) (by decide) (by simp) rfl rfl (M' := rd B n (tk + 1) at' fl sc ((hu S (tk).toNat x)) ((hu P (tk).toNat y)) ((hu V (tk).toNat z)) ST E) (rd_p18 hB) ?_
    refine jr_ret R3 d_42_52 rfl ?_
    first | exact ⟨rfl, rfl⟩ | (exfalso; omega)
  · refine jr_icmp R1 true d_42_9 (by first | assumption | exact hg _ | exact hS _ | exact hV _ | exact hP _ | exact hT _ | exact ⟨by omega, by omega⟩) (by first | assumption | exact hg _ | exact hS _ | exact hV _ | exact hP _ | exact hT _ | exact ⟨by omega, by omega⟩) (by unfold hcb; first | exact decide_eq_true (by omega) | exact decide_eq_false (by omega)) (by decide) (pc' := 52) rfl ?_
    refine jr_ret R3 d_42_52 rfl ?_
    first | exact ⟨rfl, rfl⟩ | (exfalso; omega)
