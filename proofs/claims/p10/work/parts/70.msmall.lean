/-! THE MODEL'S SMALL METHODS -/
theorem hm_in {lch : Launch} {d : Nat} {M : mj_M} {a x y : Int} (hd : 1 ≤ d) (ha : hR a) (hx : hR x) (hy : hR y) : mj_Me lch 133 d 0 0 [hl a, hl x, hl y] (M) (fun rv M' => rv = some (hv (if x ≤ a ∧ a ≤ y then 1 else 0)) ∧ M' = M) := by
  refine mj_Me_of (by decide) (by omega) (Nat.le_of_ble_eq_true rfl) ?_
  intro L xs J R1 R2 R3
  show J 0 0 (M) 0 [(0, hl a), (2, hl x), (4, hl y)] []
  refine jl_load_n R1 d_133_0 rfl ?_
  refine jl_load_n R1 d_133_1 rfl ?_
  by_cases h1 : a < x
  · refine jl_if R1 true (by first | assumption | exact ⟨by omega, by omega⟩ | exact hR_hr (by assumption) | exact hR_hr (hg _)) (by first | assumption | exact ⟨by omega, by omega⟩ | exact hR_hr (by assumption) | exact hR_hr (hg _)) d_133_2 d_133_3 (by unfold hcb; first | exact decide_eq_true (by omega) | exact decide_eq_false (by omega)) (by decide) (pc' := 17) rfl ?_
    refine jr_iconst R1 d_133_17 ?_
    refine jr_retb R3 d_133_18 rfl (by first | exact Or.inl rfl | exact Or.inr rfl | omega) ?_
    exact ⟨by first | rw [if_pos (by omega)] | rw [if_neg (by omega)], rfl⟩
  · refine jl_if R1 false (by first | assumption | exact ⟨by omega, by omega⟩ | exact hR_hr (by assumption) | exact hR_hr (hg _)) (by first | assumption | exact ⟨by omega, by omega⟩ | exact hR_hr (by assumption) | exact hR_hr (hg _)) d_133_2 d_133_3 (by unfold hcb; first | exact decide_eq_true (by omega) | exact decide_eq_false (by omega)) (by decide) (pc' := 6) rfl ?_
    refine jl_load_n R1 d_133_6 rfl ?_
    refine jl_load R1 d_133_7 rfl ?_
    by_cases h2 : y < a
    · refine jl_if R1 true (by first | assumption | exact ⟨by omega, by omega⟩ | exact hR_hr (by assumption) | exact hR_hr (hg _)) (by first | assumption | exact ⟨by omega, by omega⟩ | exact hR_hr (by assumption) | exact hR_hr (hg _)) d_133_9 d_133_10 (by unfold hcb; first | exact decide_eq_true (by omega) | exact decide_eq_false (by omega)) (by decide) (pc' := 17) rfl ?_
      refine jr_iconst R1 d_133_17 ?_
      refine jr_retb R3 d_133_18 rfl (by first | exact Or.inl rfl | exact Or.inr rfl | omega) ?_
      exact ⟨by first | rw [if_pos (by omega)] | rw [if_neg (by omega)], rfl⟩
    · refine jl_if R1 false (by first | assumption | exact ⟨by omega, by omega⟩ | exact hR_hr (by assumption) | exact hR_hr (hg _)) (by first | assumption | exact ⟨by omega, by omega⟩ | exact hR_hr (by assumption) | exact hR_hr (hg _)) d_133_9 d_133_10 (by unfold hcb; first | exact decide_eq_true (by omega) | exact decide_eq_false (by omega)) (by decide) (pc' := 13) rfl ?_
      refine jr_iconst R1 d_133_13 ?_
      refine jr_goto R1 d_133_14 (by decide) (pc' := 18) rfl ?_
      refine jr_retb R3 d_133_18 rfl (by first | exact Or.inl rfl | exact Or.inr rfl | omega) ?_
      exact ⟨by first | rw [if_pos (by omega)] | rw [if_neg (by omega)], rfl⟩
theorem hm_byteAt {lch : Launch} {d : Nat} {C : mj_M} {A : Nat → Value} {U : Nat → Int} {Z : List Value} {g b : Nat → Int} {fr n : Nat} {tc tp he to ta wo op ba fa : Int} {x : Nat} (hd : 1 ≤ d) (hC : 84 ≤ C.length) (hTx : C[81]? = some (hA 0 960 g)) (hg : ∀ j, hr (b j)) (hb : ∀ j, j < n → b j = g (fr + j)) (hfr : fr + n ≤ 960) (hn9 : n ≤ 160) (hb0 : ∀ j, j < n → 0 ≤ b j ∧ b j ≤ 255) (hx9 : x ≤ 400) : mj_Me lch 113 d 0 0 [.ref 80, hv ((x : Int))] (md C A U Z tc tp ((fr : Int)) ((n : Int)) he to ta wo op ba fa) (fun rv M' => rv = some (hv (if x < n then b x else -1)) ∧ M' = md C A U Z tc tp ((fr : Int)) ((n : Int)) he to ta wo op ba fa) := by
  refine mj_Me_of (by decide) (by omega) (Nat.le_of_ble_eq_true rfl) ?_
  intro L xs J R1 R2 R3
  show J 0 0 (md C A U Z tc tp ((fr : Int)) ((n : Int)) he to ta wo op ba fa) 0 [(0, .ref 80), (1, hv ((x : Int)))] []
  refine jr_iload_n R1 d_113_0 rfl ?_
  refine jr_aload_n R1 d_113_1 rfl ?_
  refine jr_getf R1 d_113_2 (md_80 hC) (by decide) rfl ?_
  by_cases h1 : (x : Int) < (n : Int)
  · refine jr_icmp R1 false d_113_5 (by first | assumption | exact hg _ | exact hS _ | exact hV _ | exact hP _ | exact hT _ | exact ⟨by omega, by omega⟩) (by first | assumption | exact hg _ | exact hS _ | exact hV _ | exact hP _ | exact hT _ | exact ⟨by omega, by omega⟩) (by unfold hcb; first | exact decide_eq_true (by omega) | exact decide_eq_false (by omega)) (by decide) (pc' := 8) rfl ?_
    refine jr_aload_n R1 d_113_8 rfl ?_
    refine jr_getf R1 d_113_9 (md_80 hC) (by decide) rfl ?_
    refine jr_aload_n R1 d_113_12 rfl ?_
    refine jr_getf R1 d_113_13 (md_80 hC) (by decide) rfl ?_
    refine jr_iload_n R1 d_113_16 rfl ?_
    refine jr_iadd R1 d_113_17 ?_
    refine jr_iald R1 d_113_18 ((md_o (by decide)).trans hTx) (by omega) (by omega) (by decide) ?_
    refine jr_goto R1 d_113_19 (by decide) (pc' := 23) rfl ?_
    refine jr_reti R3 d_113_23 rfl ?_
    first | exact ⟨by rw [if_pos (by omega), hb x (by omega), show ((fr : Int) + (x : Int)).toNat = fr + x by omega], rfl⟩ | exact ⟨by rw [if_neg (by omega)], rfl⟩
  · refine jr_icmp R1 true d_113_5 (by first | assumption | exact hg _ | exact hS _ | exact hV _ | exact hP _ | exact hT _ | exact ⟨by omega, by omega⟩) (by first | assumption | exact hg _ | exact hS _ | exact hV _ | exact hP _ | exact hT _ | exact ⟨by omega, by omega⟩) (by unfold hcb; first | exact decide_eq_true (by omega) | exact decide_eq_false (by omega)) (by decide) (pc' := 22) rfl ?_
    refine jr_iconst R1 d_113_22 ?_
    refine jr_reti R3 d_113_23 rfl ?_
    first | exact ⟨by rw [if_pos (by omega), hb x (by omega), show ((fr : Int) + (x : Int)).toNat = fr + x by omega], rfl⟩ | exact ⟨by rw [if_neg (by omega)], rfl⟩
theorem hm_fail {lch : Launch} {d : Nat} {C : mj_M} {A : Nat → Value} {U : Nat → Int} {Z : List Value} {fr n : Nat} {tc tp he to ta wo op ba fa : Int} (hd : 1 ≤ d) (hC : 84 ≤ C.length) (hba : ba = 0 ∨ ba = 1) : mj_Me lch 125 d 0 0 [.ref 80] (md C A U Z tc tp ((fr : Int)) ((n : Int)) he to ta wo op ba fa) (fun rv M' => rv = none ∧ M' = md C A U Z tc tp ((fr : Int)) ((n : Int)) he to ta wo op 1 (if ba = 0 then ta else fa)) := by
  refine mj_Me_of (by decide) (by omega) (Nat.le_of_ble_eq_true rfl) ?_
  intro L xs J R1 R2 R3
  show J 0 0 (md C A U Z tc tp ((fr : Int)) ((n : Int)) he to ta wo op ba fa) 0 [(0, .ref 80)] []
  refine jr_aload_n R1 d_125_0 rfl ?_
  refine jr_getf R1 d_125_1 (md_80 hC) (by decide) rfl ?_
  by_cases h1 : ba = 0
  · refine jr_ifc R1 false d_125_4 (by first | assumption | exact hg _ | exact hS _ | exact hV _ | exact hP _ | exact hT _ | exact ⟨by omega, by omega⟩) (by unfold hcb; first | exact decide_eq_true (by omega) | exact decide_eq_false (by omega)) (by decide) (pc' := 7) rfl ?_
    refine jr_aload_n R1 d_125_7 rfl ?_
    refine jr_iconst R1 d_125_8 ?_
    refine jr_putf R1 d_125_9 (md_80 hC) (by decide) (md_pl (by decide)) rfl rfl (M' := md C A U Z tc tp ((fr : Int)) ((n : Int)) he to ta wo op 1 fa) md_p ?_
    refine jr_aload_n R1 d_125_12 rfl ?_
    refine jr_aload_n R1 d_125_13 rfl ?_
    refine jr_getf R1 d_125_14 (md_80 hC) (by decide) rfl ?_
    refine jr_putf R1 d_125_17 (md_80 hC) (by decide) (md_pl (by decide)) rfl rfl (M' := md C A U Z tc tp ((fr : Int)) ((n : Int)) he to ta wo op 1 ta) md_p ?_
    refine jr_ret R3 d_125_20 rfl ?_
    first | exact ⟨rfl, by rw [if_pos (by omega)]⟩ | exact ⟨rfl, by rw [if_neg (by omega), show ba = 1 by omega]⟩
  · refine jr_ifc R1 true d_125_4 (by first | assumption | exact hg _ | exact hS _ | exact hV _ | exact hP _ | exact hT _ | exact ⟨by omega, by omega⟩) (by unfold hcb; first | exact decide_eq_true (by omega) | exact decide_eq_false (by omega)) (by decide) (pc' := 20) rfl ?_
    refine jr_ret R3 d_125_20 rfl ?_
    first | exact ⟨rfl, by rw [if_pos (by omega)]⟩ | exact ⟨rfl, by rw [if_neg (by omega), show ba = 1 by omega]⟩
theorem hm_isSign {lch : Launch} {d : Nat} {C : mj_M} {A : Nat → Value} {U : Nat → Int} {Z : List Value} {fr n : Nat} {tc tp he to ta wo op ba fa : Int} {c : Int} (hd : 1 ≤ d) (hC : 84 ≤ C.length) (hba : ba = 0 ∨ ba = 1) (hto : 0 ≤ to ∧ to ≤ 4) (hwo : -100000 ≤ wo ∧ wo ≤ 10000000) (hc : hr c) : mj_Me lch 140 d 0 0 [.ref 80, hv c] (md C A U Z tc tp ((fr : Int)) ((n : Int)) he to ta wo op ba fa) (fun rv M' => rv = some (hv (if ba = 0 ∧ (to = 3 ∧ wo = c) then 1 else 0)) ∧ M' = md C A U Z tc tp ((fr : Int)) ((n : Int)) he to ta wo op ba fa) := by
  refine mj_Me_of (by decide) (by omega) (Nat.le_of_ble_eq_true rfl) ?_
  intro L xs J R1 R2 R3
  show J 0 0 (md C A U Z tc tp ((fr : Int)) ((n : Int)) he to ta wo op ba fa) 0 [(0, .ref 80), (1, hv c)] []
  refine jr_aload_n R1 d_140_0 rfl ?_
  refine jr_getf R1 d_140_1 (md_80 hC) (by decide) rfl ?_
  by_cases h1 : ba = 0
  · refine jr_ifc R1 false d_140_4 (by first | assumption | exact hg _ | exact hS _ | exact hV _ | exact hP _ | exact hT _ | exact ⟨by omega, by omega⟩) (by unfold hcb; first | exact decide_eq_true (by omega) | exact decide_eq_false (by omega)) (by decide) (pc' := 7) rfl ?_
    refine jr_aload_n R1 d_140_7 rfl ?_
    refine jr_getf R1 d_140_8 (md_80 hC) (by decide) rfl ?_
    refine jr_iconst R1 d_140_11 ?_
    by_cases h2 : to = 3
    · refine jr_icmp R1 false d_140_12 (by first | assumption | exact hg _ | exact hS _ | exact hV _ | exact hP _ | exact hT _ | exact ⟨by omega, by omega⟩) (by first | assumption | exact hg _ | exact hS _ | exact hV _ | exact hP _ | exact hT _ | exact ⟨by omega, by omega⟩) (by unfold hcb; first | exact decide_eq_true (by omega) | exact decide_eq_false (by omega)) (by decide) (pc' := 15) rfl ?_
      refine jr_aload_n R1 d_140_15 rfl ?_
      refine jr_getf R1 d_140_16 (md_80 hC) (by decide) rfl ?_
      refine jr_iload_n R1 d_140_19 rfl ?_
      refine jl_i2l R1 (by first | assumption | exact hg _ | exact hS _ | exact hV _ | exact hP _ | exact hT _ | exact ⟨by omega, by omega⟩) d_140_20 ?_
      by_cases h3 : wo = c
      · refine jl_if R1 false (by first | assumption | exact ⟨by omega, by omega⟩ | exact hR_hr (by assumption) | exact hR_hr (hg _)) (by first | assumption | exact ⟨by omega, by omega⟩ | exact hR_hr (by assumption) | exact hR_hr (hg _)) d_140_21 d_140_22 (by unfold hcb; first | exact decide_eq_true (by omega) | exact decide_eq_false (by omega)) (by decide) (pc' := 25) rfl ?_
        refine jr_iconst R1 d_140_25 ?_
        refine jr_goto R1 d_140_26 (by decide) (pc' := 30) rfl ?_
        refine jr_retb R3 d_140_30 rfl (by first | exact Or.inl rfl | exact Or.inr rfl | omega) ?_
        exact ⟨by first | rw [if_pos (by omega)] | rw [if_neg (by omega)], rfl⟩
      · refine jl_if R1 true (by first | assumption | exact ⟨by omega, by omega⟩ | exact hR_hr (by assumption) | exact hR_hr (hg _)) (by first | assumption | exact ⟨by omega, by omega⟩ | exact hR_hr (by assumption) | exact hR_hr (hg _)) d_140_21 d_140_22 (by unfold hcb; first | exact decide_eq_true (by omega) | exact decide_eq_false (by omega)) (by decide) (pc' := 29) rfl ?_
        refine jr_iconst R1 d_140_29 ?_
        refine jr_retb R3 d_140_30 rfl (by first | exact Or.inl rfl | exact Or.inr rfl | omega) ?_
        exact ⟨by first | rw [if_pos (by omega)] | rw [if_neg (by omega)], rfl⟩
    · refine jr_icmp R1 true d_140_12 (by first | assumption | exact hg _ | exact hS _ | exact hV _ | exact hP _ | exact hT _ | exact ⟨by omega, by omega⟩) (by first | assumption | exact hg _ | exact hS _ | exact hV _ | exact hP _ | exact hT _ | exact ⟨by omega, by omega⟩) (by unfold hcb; first | exact decide_eq_true (by omega) | exact decide_eq_false (by omega)) (by decide) (pc' := 29) rfl ?_
      refine jr_iconst R1 d_140_29 ?_
      refine jr_retb R3 d_140_30 rfl (by first | exact Or.inl rfl | exact Or.inr rfl | omega) ?_
      exact ⟨by first | rw [if_pos (by omega)] | rw [if_neg (by omega)], rfl⟩
  · refine jr_ifc R1 true d_140_4 (by first | assumption | exact hg _ | exact hS _ | exact hV _ | exact hP _ | exact hT _ | exact ⟨by omega, by omega⟩) (by unfold hcb; first | exact decide_eq_true (by omega) | exact decide_eq_false (by omega)) (by decide) (pc' := 29) rfl ?_
    refine jr_iconst R1 d_140_29 ?_
    refine jr_retb R3 d_140_30 rfl (by first | exact Or.inl rfl | exact Or.inr rfl | omega) ?_
    exact ⟨by first | rw [if_pos (by omega)] | rw [if_neg (by omega)], rfl⟩
def mil (b : Nat → Int) (p q i : Nat) (w : Int) : Bool := if p + i < q then decide (b (p + i) = w) else decide (w = 0)
theorem hm_isLetter {lch : Launch} {d : Nat} {C : mj_M} {A : Nat → Value} {U : Nat → Int} {Z : List Value} {g b : Nat → Int} {fr n : Nat} {tc tp to wo op ba fa : Int} {p q i : Nat} {w : Int} (hd : 2 ≤ d) (hC : 84 ≤ C.length) (hTx : C[81]? = some (hA 0 960 g)) (hg : ∀ j, hr (b j)) (hb : ∀ j, j < n → b j = g (fr + j)) (hfr : fr + n ≤ 960) (hn9 : n ≤ 160) (hb0 : ∀ j, j < n → 0 ≤ b j ∧ b j ≤ 255) (hi : i ≤ 8) (hpq : p ≤ q) (hq : q ≤ n) (hw : hr w) : mj_Me lch 136 d 0 0 [.ref 80, hv ((i : Int)), hv w] (md C A U Z tc tp ((fr : Int)) ((n : Int)) ((q : Int)) to ((p : Int)) wo op ba fa) (fun rv M' => rv = some (hv (if mil b p q i w = true then 1 else 0)) ∧ M' = md C A U Z tc tp ((fr : Int)) ((n : Int)) ((q : Int)) to ((p : Int)) wo op ba fa) := by
  refine mj_Me_of (by decide) (by omega) (Nat.le_of_ble_eq_true rfl) ?_
  intro L xs J R1 R2 R3
  show J 0 0 (md C A U Z tc tp ((fr : Int)) ((n : Int)) ((q : Int)) to ((p : Int)) wo op ba fa) 0 [(0, .ref 80), (1, hv ((i : Int))), (2, hv w)] []
  refine jr_aload_n R1 d_136_0 rfl ?_
  refine jr_getf R1 d_136_1 (md_80 hC) (by decide) rfl ?_
  refine jr_iload_n R1 d_136_4 rfl ?_
  refine jr_iadd R1 d_136_5 ?_
  refine jr_aload_n R1 d_136_6 rfl ?_
  refine jr_getf R1 d_136_7 (md_80 hC) (by decide) rfl ?_
  by_cases h1 : (p : Int) + ((i : Int)) < (q : Int)
  · refine jr_icmp R1 false d_136_10 (by first | assumption | exact hg _ | exact hS _ | exact hV _ | exact hP _ | exact hT _ | exact ⟨by omega, by omega⟩) (by first | assumption | exact hg _ | exact hS _ | exact hV _ | exact hP _ | exact hT _ | exact ⟨by omega, by omega⟩) (by unfold hcb; first | exact decide_eq_true (by omega) | exact decide_eq_false (by omega)) (by decide) (pc' := 13) rfl ?_
    refine jr_aload_n R1 d_136_13 rfl ?_
    refine jr_aload_n R1 d_136_14 rfl ?_
    refine jr_getf R1 d_136_15 (md_80 hC) (by decide) rfl ?_
    refine jr_iload_n R1 d_136_18 rfl ?_
    refine jr_iadd R1 d_136_19 ?_
    rw [show (p : Int) + (i : Int) = ((p + i : Nat) : Int) by omega]
    refine jr_callv R2 d_136_20 (by decide) rfl (as := [.ref 80, hv (((p + i : Nat) : Int))]) (rest := []) rfl (by unfold mj_rc; rw [show (_ : List Value).headD _ = .ref 80 from rfl]; simp only [md_80 hC]; decide) (hm_byteAt (d := 1) (x := p + i) (by omega) hC hTx hg hb hfr hn9 hb0 (by omega)) (by omega) (Nat.le_of_ble_eq_true rfl) ?_
    rintro rv M9 ⟨rfl, rfl⟩
    rw [if_pos (by omega)]
    show J 0 0 (md C A U Z tc tp ((fr : Int)) ((n : Int)) ((q : Int)) to ((p : Int)) wo op ba fa) 23 [(0, .ref 80), (1, hv ((i : Int))), (2, hv w)] [hv (b (p + i))]
    refine jr_iload_n R1 d_136_23 rfl ?_
    by_cases h2 : b (p + i) = w
    · refine jr_icmp R1 false d_136_24 (by first | assumption | exact hg _ | exact hS _ | exact hV _ | exact hP _ | exact hT _ | exact ⟨by omega, by omega⟩) (by first | assumption | exact hg _ | exact hS _ | exact hV _ | exact hP _ | exact hT _ | exact ⟨by omega, by omega⟩) (by unfold hcb; first | exact decide_eq_true (by omega) | exact decide_eq_false (by omega)) (by decide) (pc' := 27) rfl ?_
      refine jr_iconst R1 d_136_27 ?_
      refine jr_goto R1 d_136_28 (by decide) (pc' := 44) rfl ?_
      refine jr_retb R3 d_136_44 rfl (by first | exact Or.inl rfl | exact Or.inr rfl | omega) ?_
      first | exact ⟨by rw [if_pos (by unfold mil; (first | rw [if_pos (by omega)] | rw [if_neg (by omega)]); exact decide_eq_true (by omega))], rfl⟩ | exact ⟨by rw [if_neg (by unfold mil; (first | rw [if_pos (by omega)] | rw [if_neg (by omega)]); simp only [decide_eq_true_eq]; omega)], rfl⟩
    · refine jr_icmp R1 true d_136_24 (by first | assumption | exact hg _ | exact hS _ | exact hV _ | exact hP _ | exact hT _ | exact ⟨by omega, by omega⟩) (by first | assumption | exact hg _ | exact hS _ | exact hV _ | exact hP _ | exact hT _ | exact ⟨by omega, by omega⟩) (by unfold hcb; first | exact decide_eq_true (by omega) | exact decide_eq_false (by omega)) (by decide) (pc' := 31) rfl ?_
      refine jr_iconst R1 d_136_31 ?_
      refine jr_goto R1 d_136_32 (by decide) (pc' := 44) rfl ?_
      refine jr_retb R3 d_136_44 rfl (by first | exact Or.inl rfl | exact Or.inr rfl | omega) ?_
      first | exact ⟨by rw [if_pos (by unfold mil; (first | rw [if_pos (by omega)] | rw [if_neg (by omega)]); exact decide_eq_true (by omega))], rfl⟩ | exact ⟨by rw [if_neg (by unfold mil; (first | rw [if_pos (by omega)] | rw [if_neg (by omega)]); simp only [decide_eq_true_eq]; omega)], rfl⟩
  · refine jr_icmp R1 true d_136_10 (by first | assumption | exact hg _ | exact hS _ | exact hV _ | exact hP _ | exact hT _ | exact ⟨by omega, by omega⟩) (by first | assumption | exact hg _ | exact hS _ | exact hV _ | exact hP _ | exact hT _ | exact ⟨by omega, by omega⟩) (by unfold hcb; first | exact decide_eq_true (by omega) | exact decide_eq_false (by omega)) (by decide) (pc' := 35) rfl ?_
    refine jr_iload_n R1 d_136_35 rfl ?_
    by_cases h3 : w = 0
    · refine jr_ifc R1 false d_136_36 (by first | assumption | exact hg _ | exact hS _ | exact hV _ | exact hP _ | exact hT _ | exact ⟨by omega, by omega⟩) (by unfold hcb; first | exact decide_eq_true (by omega) | exact decide_eq_false (by omega)) (by decide) (pc' := 39) rfl ?_
      refine jr_iconst R1 d_136_39 ?_
      refine jr_goto R1 d_136_40 (by decide) (pc' := 44) rfl ?_
      refine jr_retb R3 d_136_44 rfl (by first | exact Or.inl rfl | exact Or.inr rfl | omega) ?_
      first | exact ⟨by rw [if_pos (by unfold mil; (first | rw [if_pos (by omega)] | rw [if_neg (by omega)]); exact decide_eq_true (by omega))], rfl⟩ | exact ⟨by rw [if_neg (by unfold mil; (first | rw [if_pos (by omega)] | rw [if_neg (by omega)]); simp only [decide_eq_true_eq]; omega)], rfl⟩
    · refine jr_ifc R1 true d_136_36 (by first | assumption | exact hg _ | exact hS _ | exact hV _ | exact hP _ | exact hT _ | exact ⟨by omega, by omega⟩) (by unfold hcb; first | exact decide_eq_true (by omega) | exact decide_eq_false (by omega)) (by decide) (pc' := 43) rfl ?_
      refine jr_iconst R1 d_136_43 ?_
      refine jr_retb R3 d_136_44 rfl (by first | exact Or.inl rfl | exact Or.inr rfl | omega) ?_
      first | exact ⟨by rw [if_pos (by unfold mil; (first | rw [if_pos (by omega)] | rw [if_neg (by omega)]); exact decide_eq_true (by omega))], rfl⟩ | exact ⟨by rw [if_neg (by unfold mil; (first | rw [if_pos (by omega)] | rw [if_neg (by omega)]); simp only [decide_eq_true_eq]; omega)], rfl⟩
theorem hm_isWord {lch : Launch} {d : Nat} {C : mj_M} {A : Nat → Value} {U : Nat → Int} {Z : List Value} {g b : Nat → Int} {fr n : Nat} {tc tp to wo op ba fa : Int} {p q : Nat} {w0 w1 w2 w3 w4 w5 w6 w7 : Int} (hd : 3 ≤ d) (hC : 84 ≤ C.length) (hTx : C[81]? = some (hA 0 960 g)) (hg : ∀ j, hr (b j)) (hb : ∀ j, j < n → b j = g (fr + j)) (hfr : fr + n ≤ 960) (hn9 : n ≤ 160) (hb0 : ∀ j, j < n → 0 ≤ b j ∧ b j ≤ 255) (hpq : p ≤ q) (hq : q ≤ n) (hba : ba = 0 ∨ ba = 1) (hto : 0 ≤ to ∧ to ≤ 4) (hw0 : hr w0) (hw1 : hr w1) (hw2 : hr w2) (hw3 : hr w3) (hw4 : hr w4) (hw5 : hr w5) (hw6 : hr w6) (hw7 : hr w7) : mj_Me lch 142 d 0 0 [.ref 80, hv w0, hv w1, hv w2, hv w3, hv w4, hv w5, hv w6, hv w7] (md C A U Z tc tp ((fr : Int)) ((n : Int)) ((q : Int)) to ((p : Int)) wo op ba fa) (fun rv M' => rv = some (hv (if ba = 0 ∧ to = 1 ∧ q ≤ p + 8 ∧ mil b p q 0 w0 = true ∧ mil b p q 1 w1 = true ∧ mil b p q 2 w2 = true ∧ mil b p q 3 w3 = true ∧ mil b p q 4 w4 = true ∧ mil b p q 5 w5 = true ∧ mil b p q 6 w6 = true ∧ mil b p q 7 w7 = true then 1 else 0)) ∧ M' = md C A U Z tc tp ((fr : Int)) ((n : Int)) ((q : Int)) to ((p : Int)) wo op ba fa) := by
  refine mj_Me_of (by decide) (by omega) (Nat.le_of_ble_eq_true rfl) ?_
  intro L xs J R1 R2 R3
  show J 0 0 (md C A U Z tc tp ((fr : Int)) ((n : Int)) ((q : Int)) to ((p : Int)) wo op ba fa) 0 [(0, .ref 80), (1, hv w0), (2, hv w1), (3, hv w2), (4, hv w3), (5, hv w4), (6, hv w5), (7, hv w6), (8, hv w7)] []
  refine jr_aload_n R1 d_142_0 rfl ?_
  refine jr_getf R1 d_142_1 (md_80 hC) (by decide) rfl ?_
  by_cases h1 : ba = 0
  · refine jr_ifc R1 false d_142_4 (by first | assumption | exact hg _ | exact hS _ | exact hV _ | exact hP _ | exact hT _ | exact ⟨by omega, by omega⟩) (by unfold hcb; first | exact decide_eq_true (by omega) | exact decide_eq_false (by omega)) (by decide) (pc' := 7) rfl ?_
    refine jr_aload_n R1 d_142_7 rfl ?_
    refine jr_getf R1 d_142_8 (md_80 hC) (by decide) rfl ?_
    refine jr_iconst R1 d_142_11 ?_
    by_cases h2 : to = 1
    · refine jr_icmp R1 false d_142_12 (by first | assumption | exact hg _ | exact hS _ | exact hV _ | exact hP _ | exact hT _ | exact ⟨by omega, by omega⟩) (by first | assumption | exact hg _ | exact hS _ | exact hV _ | exact hP _ | exact hT _ | exact ⟨by omega, by omega⟩) (by unfold hcb; first | exact decide_eq_true (by omega) | exact decide_eq_false (by omega)) (by decide) (pc' := 15) rfl ?_
      refine jr_aload_n R1 d_142_15 rfl ?_
      refine jr_getf R1 d_142_16 (md_80 hC) (by decide) rfl ?_
      refine jr_aload_n R1 d_142_19 rfl ?_
      refine jr_getf R1 d_142_20 (md_80 hC) (by decide) rfl ?_
      refine jr_bipush R1 d_142_23 (by decide) ?_
      refine jr_iadd R1 d_142_25 ?_
      by_cases h3 : (p : Int) + 8 < (q : Int)
      · refine jr_icmp R1 true d_142_26 (by first | assumption | exact hg _ | exact hS _ | exact hV _ | exact hP _ | exact hT _ | exact ⟨by omega, by omega⟩) (by first | assumption | exact hg _ | exact hS _ | exact hV _ | exact hP _ | exact hT _ | exact ⟨by omega, by omega⟩) (by unfold hcb; first | exact decide_eq_true (by omega) | exact decide_eq_false (by omega)) (by decide) (pc' := 112) rfl ?_
        refine jr_iconst R1 d_142_112 ?_
        refine jr_retb R3 d_142_113 rfl (by first | exact Or.inl rfl | exact Or.inr rfl | omega) ?_
        refine ⟨?_, rfl⟩; rw [if_neg]; rintro ⟨z1, z2, z3, z4, z5, z6, z7, z8, z9, z10, z11⟩; first | contradiction | omega
      · refine jr_icmp R1 false d_142_26 (by first | assumption | exact hg _ | exact hS _ | exact hV _ | exact hP _ | exact hT _ | exact ⟨by omega, by omega⟩) (by first | assumption | exact hg _ | exact hS _ | exact hV _ | exact hP _ | exact hT _ | exact ⟨by omega, by omega⟩) (by unfold hcb; first | exact decide_eq_true (by omega) | exact decide_eq_false (by omega)) (by decide) (pc' := 29) rfl ?_
        refine jr_aload_n R1 d_142_29 rfl ?_
        refine jr_iconst R1 d_142_30 ?_
        refine jr_iload_n R1 d_142_31 rfl ?_
        by_cases hl0 : mil b p q 0 w0 = true
        · skip
          refine jr_callv R2 d_142_32 (by decide) rfl (as := [.ref 80, hv 0, hv w0]) (rest := []) rfl (by unfold mj_rc; rw [show (_ : List Value).headD _ = .ref 80 from rfl]; simp only [md_80 hC]; decide) (hm_isLetter (d := 2) (i := 0) (by omega) hC hTx hg hb hfr hn9 hb0 (by omega) hpq hq hw0) (by omega) (Nat.le_of_ble_eq_true rfl) ?_
          rintro rv M9 ⟨rfl, rfl⟩
          rw [if_pos hl0]
          show J 0 0 (md C A U Z tc tp ((fr : Int)) ((n : Int)) ((q : Int)) to ((p : Int)) wo op ba fa) 35 [(0, .ref 80), (1, hv w0), (2, hv w1), (3, hv w2), (4, hv w3), (5, hv w4), (6, hv w5), (7, hv w6), (8, hv w7)] [hv 1]
          refine jr_ifc R1 false d_142_35 (by first | assumption | exact hg _ | exact hS _ | exact hV _ | exact hP _ | exact hT _ | exact ⟨by omega, by omega⟩) (by unfold hcb; first | exact decide_eq_true (by omega) | exact decide_eq_false (by omega)) (by decide) (pc' := 38) rfl ?_
          refine jr_aload_n R1 d_142_38 rfl ?_
          refine jr_iconst R1 d_142_39 ?_
          refine jr_iload_n R1 d_142_40 rfl ?_
          by_cases hl1 : mil b p q 1 w1 = true
          · skip
            refine jr_callv R2 d_142_41 (by decide) rfl (as := [.ref 80, hv 1, hv w1]) (rest := []) rfl (by unfold mj_rc; rw [show (_ : List Value).headD _ = .ref 80 from rfl]; simp only [md_80 hC]; decide) (hm_isLetter (d := 2) (i := 1) (by omega) hC hTx hg hb hfr hn9 hb0 (by omega) hpq hq hw1) (by omega) (Nat.le_of_ble_eq_true rfl) ?_
            rintro rv M9 ⟨rfl, rfl⟩
            rw [if_pos hl1]
            show J 0 0 (md C A U Z tc tp ((fr : Int)) ((n : Int)) ((q : Int)) to ((p : Int)) wo op ba fa) 44 [(0, .ref 80), (1, hv w0), (2, hv w1), (3, hv w2), (4, hv w3), (5, hv w4), (6, hv w5), (7, hv w6), (8, hv w7)] [hv 1]
            refine jr_ifc R1 false d_142_44 (by first | assumption | exact hg _ | exact hS _ | exact hV _ | exact hP _ | exact hT _ | exact ⟨by omega, by omega⟩) (by unfold hcb; first | exact decide_eq_true (by omega) | exact decide_eq_false (by omega)) (by decide) (pc' := 47) rfl ?_
            refine jr_aload_n R1 d_142_47 rfl ?_
            refine jr_iconst R1 d_142_48 ?_
            refine jr_iload_n R1 d_142_49 rfl ?_
            by_cases hl2 : mil b p q 2 w2 = true
            · skip
              refine jr_callv R2 d_142_50 (by decide) rfl (as := [.ref 80, hv 2, hv w2]) (rest := []) rfl (by unfold mj_rc; rw [show (_ : List Value).headD _ = .ref 80 from rfl]; simp only [md_80 hC]; decide) (hm_isLetter (d := 2) (i := 2) (by omega) hC hTx hg hb hfr hn9 hb0 (by omega) hpq hq hw2) (by omega) (Nat.le_of_ble_eq_true rfl) ?_
              rintro rv M9 ⟨rfl, rfl⟩
              rw [if_pos hl2]
              show J 0 0 (md C A U Z tc tp ((fr : Int)) ((n : Int)) ((q : Int)) to ((p : Int)) wo op ba fa) 53 [(0, .ref 80), (1, hv w0), (2, hv w1), (3, hv w2), (4, hv w3), (5, hv w4), (6, hv w5), (7, hv w6), (8, hv w7)] [hv 1]
              refine jr_ifc R1 false d_142_53 (by first | assumption | exact hg _ | exact hS _ | exact hV _ | exact hP _ | exact hT _ | exact ⟨by omega, by omega⟩) (by unfold hcb; first | exact decide_eq_true (by omega) | exact decide_eq_false (by omega)) (by decide) (pc' := 56) rfl ?_
              refine jr_aload_n R1 d_142_56 rfl ?_
              refine jr_iconst R1 d_142_57 ?_
              refine jr_iload R1 d_142_58 rfl ?_
              by_cases hl3 : mil b p q 3 w3 = true
              · skip
                refine jr_callv R2 d_142_60 (by decide) rfl (as := [.ref 80, hv 3, hv w3]) (rest := []) rfl (by unfold mj_rc; rw [show (_ : List Value).headD _ = .ref 80 from rfl]; simp only [md_80 hC]; decide) (hm_isLetter (d := 2) (i := 3) (by omega) hC hTx hg hb hfr hn9 hb0 (by omega) hpq hq hw3) (by omega) (Nat.le_of_ble_eq_true rfl) ?_
                rintro rv M9 ⟨rfl, rfl⟩
                rw [if_pos hl3]
                show J 0 0 (md C A U Z tc tp ((fr : Int)) ((n : Int)) ((q : Int)) to ((p : Int)) wo op ba fa) 63 [(0, .ref 80), (1, hv w0), (2, hv w1), (3, hv w2), (4, hv w3), (5, hv w4), (6, hv w5), (7, hv w6), (8, hv w7)] [hv 1]
                refine jr_ifc R1 false d_142_63 (by first | assumption | exact hg _ | exact hS _ | exact hV _ | exact hP _ | exact hT _ | exact ⟨by omega, by omega⟩) (by unfold hcb; first | exact decide_eq_true (by omega) | exact decide_eq_false (by omega)) (by decide) (pc' := 66) rfl ?_
                refine jr_aload_n R1 d_142_66 rfl ?_
                refine jr_iconst R1 d_142_67 ?_
                refine jr_iload R1 d_142_68 rfl ?_
                by_cases hl4 : mil b p q 4 w4 = true
                · skip
                  refine jr_callv R2 d_142_70 (by decide) rfl (as := [.ref 80, hv 4, hv w4]) (rest := []) rfl (by unfold mj_rc; rw [show (_ : List Value).headD _ = .ref 80 from rfl]; simp only [md_80 hC]; decide) (hm_isLetter (d := 2) (i := 4) (by omega) hC hTx hg hb hfr hn9 hb0 (by omega) hpq hq hw4) (by omega) (Nat.le_of_ble_eq_true rfl) ?_
                  rintro rv M9 ⟨rfl, rfl⟩
                  rw [if_pos hl4]
                  show J 0 0 (md C A U Z tc tp ((fr : Int)) ((n : Int)) ((q : Int)) to ((p : Int)) wo op ba fa) 73 [(0, .ref 80), (1, hv w0), (2, hv w1), (3, hv w2), (4, hv w3), (5, hv w4), (6, hv w5), (7, hv w6), (8, hv w7)] [hv 1]
                  refine jr_ifc R1 false d_142_73 (by first | assumption | exact hg _ | exact hS _ | exact hV _ | exact hP _ | exact hT _ | exact ⟨by omega, by omega⟩) (by unfold hcb; first | exact decide_eq_true (by omega) | exact decide_eq_false (by omega)) (by decide) (pc' := 76) rfl ?_
                  refine jr_aload_n R1 d_142_76 rfl ?_
                  refine jr_iconst R1 d_142_77 ?_
                  refine jr_iload R1 d_142_78 rfl ?_
                  by_cases hl5 : mil b p q 5 w5 = true
                  · skip
                    refine jr_callv R2 d_142_80 (by decide) rfl (as := [.ref 80, hv 5, hv w5]) (rest := []) rfl (by unfold mj_rc; rw [show (_ : List Value).headD _ = .ref 80 from rfl]; simp only [md_80 hC]; decide) (hm_isLetter (d := 2) (i := 5) (by omega) hC hTx hg hb hfr hn9 hb0 (by omega) hpq hq hw5) (by omega) (Nat.le_of_ble_eq_true rfl) ?_
                    rintro rv M9 ⟨rfl, rfl⟩
                    rw [if_pos hl5]
                    show J 0 0 (md C A U Z tc tp ((fr : Int)) ((n : Int)) ((q : Int)) to ((p : Int)) wo op ba fa) 83 [(0, .ref 80), (1, hv w0), (2, hv w1), (3, hv w2), (4, hv w3), (5, hv w4), (6, hv w5), (7, hv w6), (8, hv w7)] [hv 1]
                    refine jr_ifc R1 false d_142_83 (by first | assumption | exact hg _ | exact hS _ | exact hV _ | exact hP _ | exact hT _ | exact ⟨by omega, by omega⟩) (by unfold hcb; first | exact decide_eq_true (by omega) | exact decide_eq_false (by omega)) (by decide) (pc' := 86) rfl ?_
                    refine jr_aload_n R1 d_142_86 rfl ?_
                    refine jr_bipush R1 d_142_87 (by decide) ?_
                    refine jr_iload R1 d_142_89 rfl ?_
                    by_cases hl6 : mil b p q 6 w6 = true
                    · skip
                      refine jr_callv R2 d_142_91 (by decide) rfl (as := [.ref 80, hv 6, hv w6]) (rest := []) rfl (by unfold mj_rc; rw [show (_ : List Value).headD _ = .ref 80 from rfl]; simp only [md_80 hC]; decide) (hm_isLetter (d := 2) (i := 6) (by omega) hC hTx hg hb hfr hn9 hb0 (by omega) hpq hq hw6) (by omega) (Nat.le_of_ble_eq_true rfl) ?_
                      rintro rv M9 ⟨rfl, rfl⟩
                      rw [if_pos hl6]
                      show J 0 0 (md C A U Z tc tp ((fr : Int)) ((n : Int)) ((q : Int)) to ((p : Int)) wo op ba fa) 94 [(0, .ref 80), (1, hv w0), (2, hv w1), (3, hv w2), (4, hv w3), (5, hv w4), (6, hv w5), (7, hv w6), (8, hv w7)] [hv 1]
                      refine jr_ifc R1 false d_142_94 (by first | assumption | exact hg _ | exact hS _ | exact hV _ | exact hP _ | exact hT _ | exact ⟨by omega, by omega⟩) (by unfold hcb; first | exact decide_eq_true (by omega) | exact decide_eq_false (by omega)) (by decide) (pc' := 97) rfl ?_
                      refine jr_aload_n R1 d_142_97 rfl ?_
                      refine jr_bipush R1 d_142_98 (by decide) ?_
                      refine jr_iload R1 d_142_100 rfl ?_
                      by_cases hl7 : mil b p q 7 w7 = true
                      · skip
                        refine jr_callv R2 d_142_102 (by decide) rfl (as := [.ref 80, hv 7, hv w7]) (rest := []) rfl (by unfold mj_rc; rw [show (_ : List Value).headD _ = .ref 80 from rfl]; simp only [md_80 hC]; decide) (hm_isLetter (d := 2) (i := 7) (by omega) hC hTx hg hb hfr hn9 hb0 (by omega) hpq hq hw7) (by omega) (Nat.le_of_ble_eq_true rfl) ?_
                        rintro rv M9 ⟨rfl, rfl⟩
                        rw [if_pos hl7]
                        show J 0 0 (md C A U Z tc tp ((fr : Int)) ((n : Int)) ((q : Int)) to ((p : Int)) wo op ba fa) 105 [(0, .ref 80), (1, hv w0), (2, hv w1), (3, hv w2), (4, hv w3), (5, hv w4), (6, hv w5), (7, hv w6), (8, hv w7)] [hv 1]
                        refine jr_ifc R1 false d_142_105 (by first | assumption | exact hg _ | exact hS _ | exact hV _ | exact hP _ | exact hT _ | exact ⟨by omega, by omega⟩) (by unfold hcb; first | exact decide_eq_true (by omega) | exact decide_eq_false (by omega)) (by decide) (pc' := 108) rfl ?_
                        refine jr_iconst R1 d_142_108 ?_
                        refine jr_goto R1 d_142_109 (by decide) (pc' := 113) rfl ?_
                        refine jr_retb R3 d_142_113 rfl (by first | exact Or.inl rfl | exact Or.inr rfl | omega) ?_
                        exact ⟨by rw [if_pos ⟨by omega, by omega, by omega, hl0, hl1, hl2, hl3, hl4, hl5, hl6, hl7⟩], rfl⟩
                      · skip
                        refine jr_callv R2 d_142_102 (by decide) rfl (as := [.ref 80, hv 7, hv w7]) (rest := []) rfl (by unfold mj_rc; rw [show (_ : List Value).headD _ = .ref 80 from rfl]; simp only [md_80 hC]; decide) (hm_isLetter (d := 2) (i := 7) (by omega) hC hTx hg hb hfr hn9 hb0 (by omega) hpq hq hw7) (by omega) (Nat.le_of_ble_eq_true rfl) ?_
                        rintro rv M9 ⟨rfl, rfl⟩
                        rw [if_neg hl7]
                        show J 0 0 (md C A U Z tc tp ((fr : Int)) ((n : Int)) ((q : Int)) to ((p : Int)) wo op ba fa) 105 [(0, .ref 80), (1, hv w0), (2, hv w1), (3, hv w2), (4, hv w3), (5, hv w4), (6, hv w5), (7, hv w6), (8, hv w7)] [hv 0]
                        refine jr_ifc R1 true d_142_105 (by first | assumption | exact hg _ | exact hS _ | exact hV _ | exact hP _ | exact hT _ | exact ⟨by omega, by omega⟩) (by unfold hcb; first | exact decide_eq_true (by omega) | exact decide_eq_false (by omega)) (by decide) (pc' := 112) rfl ?_
                        refine jr_iconst R1 d_142_112 ?_
                        refine jr_retb R3 d_142_113 rfl (by first | exact Or.inl rfl | exact Or.inr rfl | omega) ?_
                        refine ⟨?_, rfl⟩; rw [if_neg]; rintro ⟨z1, z2, z3, z4, z5, z6, z7, z8, z9, z10, z11⟩; first | contradiction | omega
                    · skip
                      refine jr_callv R2 d_142_91 (by decide) rfl (as := [.ref 80, hv 6, hv w6]) (rest := []) rfl (by unfold mj_rc; rw [show (_ : List Value).headD _ = .ref 80 from rfl]; simp only [md_80 hC]; decide) (hm_isLetter (d := 2) (i := 6) (by omega) hC hTx hg hb hfr hn9 hb0 (by omega) hpq hq hw6) (by omega) (Nat.le_of_ble_eq_true rfl) ?_
                      rintro rv M9 ⟨rfl, rfl⟩
                      rw [if_neg hl6]
                      show J 0 0 (md C A U Z tc tp ((fr : Int)) ((n : Int)) ((q : Int)) to ((p : Int)) wo op ba fa) 94 [(0, .ref 80), (1, hv w0), (2, hv w1), (3, hv w2), (4, hv w3), (5, hv w4), (6, hv w5), (7, hv w6), (8, hv w7)] [hv 0]
                      refine jr_ifc R1 true d_142_94 (by first | assumption | exact hg _ | exact hS _ | exact hV _ | exact hP _ | exact hT _ | exact ⟨by omega, by omega⟩) (by unfold hcb; first | exact decide_eq_true (by omega) | exact decide_eq_false (by omega)) (by decide) (pc' := 112) rfl ?_
                      refine jr_iconst R1 d_142_112 ?_
                      refine jr_retb R3 d_142_113 rfl (by first | exact Or.inl rfl | exact Or.inr rfl | omega) ?_
                      refine ⟨?_, rfl⟩; rw [if_neg]; rintro ⟨z1, z2, z3, z4, z5, z6, z7, z8, z9, z10, z11⟩; first | contradiction | omega
                  · skip
                    refine jr_callv R2 d_142_80 (by decide) rfl (as := [.ref 80, hv 5, hv w5]) (rest := []) rfl (by unfold mj_rc; rw [show (_ : List Value).headD _ = .ref 80 from rfl]; simp only [md_80 hC]; decide) (hm_isLetter (d := 2) (i := 5) (by omega) hC hTx hg hb hfr hn9 hb0 (by omega) hpq hq hw5) (by omega) (Nat.le_of_ble_eq_true rfl) ?_
                    rintro rv M9 ⟨rfl, rfl⟩
                    rw [if_neg hl5]
                    show J 0 0 (md C A U Z tc tp ((fr : Int)) ((n : Int)) ((q : Int)) to ((p : Int)) wo op ba fa) 83 [(0, .ref 80), (1, hv w0), (2, hv w1), (3, hv w2), (4, hv w3), (5, hv w4), (6, hv w5), (7, hv w6), (8, hv w7)] [hv 0]
                    refine jr_ifc R1 true d_142_83 (by first | assumption | exact hg _ | exact hS _ | exact hV _ | exact hP _ | exact hT _ | exact ⟨by omega, by omega⟩) (by unfold hcb; first | exact decide_eq_true (by omega) | exact decide_eq_false (by omega)) (by decide) (pc' := 112) rfl ?_
                    refine jr_iconst R1 d_142_112 ?_
                    refine jr_retb R3 d_142_113 rfl (by first | exact Or.inl rfl | exact Or.inr rfl | omega) ?_
                    refine ⟨?_, rfl⟩; rw [if_neg]; rintro ⟨z1, z2, z3, z4, z5, z6, z7, z8, z9, z10, z11⟩; first | contradiction | omega
                · skip
                  refine jr_callv R2 d_142_70 (by decide) rfl (as := [.ref 80, hv 4, hv w4]) (rest := []) rfl (by unfold mj_rc; rw [show (_ : List Value).headD _ = .ref 80 from rfl]; simp only [md_80 hC]; decide) (hm_isLetter (d := 2) (i := 4) (by omega) hC hTx hg hb hfr hn9 hb0 (by omega) hpq hq hw4) (by omega) (Nat.le_of_ble_eq_true rfl) ?_
                  rintro rv M9 ⟨rfl, rfl⟩
                  rw [if_neg hl4]
                  show J 0 0 (md C A U Z tc tp ((fr : Int)) ((n : Int)) ((q : Int)) to ((p : Int)) wo op ba fa) 73 [(0, .ref 80), (1, hv w0), (2, hv w1), (3, hv w2), (4, hv w3), (5, hv w4), (6, hv w5), (7, hv w6), (8, hv w7)] [hv 0]
                  refine jr_ifc R1 true d_142_73 (by first | assumption | exact hg _ | exact hS _ | exact hV _ | exact hP _ | exact hT _ | exact ⟨by omega, by omega⟩) (by unfold hcb; first | exact decide_eq_true (by omega) | exact decide_eq_false (by omega)) (by decide) (pc' := 112) rfl ?_
                  refine jr_iconst R1 d_142_112 ?_
                  refine jr_retb R3 d_142_113 rfl (by first | exact Or.inl rfl | exact Or.inr rfl | omega) ?_
                  refine ⟨?_, rfl⟩; rw [if_neg]; rintro ⟨z1, z2, z3, z4, z5, z6, z7, z8, z9, z10, z11⟩; first | contradiction | omega
              · skip
                refine jr_callv R2 d_142_60 (by decide) rfl (as := [.ref 80, hv 3, hv w3]) (rest := []) rfl (by unfold mj_rc; rw [show (_ : List Value).headD _ = .ref 80 from rfl]; simp only [md_80 hC]; decide) (hm_isLetter (d := 2) (i := 3) (by omega) hC hTx hg hb hfr hn9 hb0 (by omega) hpq hq hw3) (by omega) (Nat.le_of_ble_eq_true rfl) ?_
                rintro rv M9 ⟨rfl, rfl⟩
                rw [if_neg hl3]
                show J 0 0 (md C A U Z tc tp ((fr : Int)) ((n : Int)) ((q : Int)) to ((p : Int)) wo op ba fa) 63 [(0, .ref 80), (1, hv w0), (2, hv w1), (3, hv w2), (4, hv w3), (5, hv w4), (6, hv w5), (7, hv w6), (8, hv w7)] [hv 0]
                refine jr_ifc R1 true d_142_63 (by first | assumption | exact hg _ | exact hS _ | exact hV _ | exact hP _ | exact hT _ | exact ⟨by omega, by omega⟩) (by unfold hcb; first | exact decide_eq_true (by omega) | exact decide_eq_false (by omega)) (by decide) (pc' := 112) rfl ?_
                refine jr_iconst R1 d_142_112 ?_
                refine jr_retb R3 d_142_113 rfl (by first | exact Or.inl rfl | exact Or.inr rfl | omega) ?_
                refine ⟨?_, rfl⟩; rw [if_neg]; rintro ⟨z1, z2, z3, z4, z5, z6, z7, z8, z9, z10, z11⟩; first | contradiction | omega
            · skip
              refine jr_callv R2 d_142_50 (by decide) rfl (as := [.ref 80, hv 2, hv w2]) (rest := []) rfl (by unfold mj_rc; rw [show (_ : List Value).headD _ = .ref 80 from rfl]; simp only [md_80 hC]; decide) (hm_isLetter (d := 2) (i := 2) (by omega) hC hTx hg hb hfr hn9 hb0 (by omega) hpq hq hw2) (by omega) (Nat.le_of_ble_eq_true rfl) ?_
              rintro rv M9 ⟨rfl, rfl⟩
              rw [if_neg hl2]
              show J 0 0 (md C A U Z tc tp ((fr : Int)) ((n : Int)) ((q : Int)) to ((p : Int)) wo op ba fa) 53 [(0, .ref 80), (1, hv w0), (2, hv w1), (3, hv w2), (4, hv w3), (5, hv w4), (6, hv w5), (7, hv w6), (8, hv w7)] [hv 0]
              refine jr_ifc R1 true d_142_53 (by first | assumption | exact hg _ | exact hS _ | exact hV _ | exact hP _ | exact hT _ | exact ⟨by omega, by omega⟩) (by unfold hcb; first | exact decide_eq_true (by omega) | exact decide_eq_false (by omega)) (by decide) (pc' := 112) rfl ?_
              refine jr_iconst R1 d_142_112 ?_
              refine jr_retb R3 d_142_113 rfl (by first | exact Or.inl rfl | exact Or.inr rfl | omega) ?_
              refine ⟨?_, rfl⟩; rw [if_neg]; rintro ⟨z1, z2, z3, z4, z5, z6, z7, z8, z9, z10, z11⟩; first | contradiction | omega
          · skip
            refine jr_callv R2 d_142_41 (by decide) rfl (as := [.ref 80, hv 1, hv w1]) (rest := []) rfl (by unfold mj_rc; rw [show (_ : List Value).headD _ = .ref 80 from rfl]; simp only [md_80 hC]; decide) (hm_isLetter (d := 2) (i := 1) (by omega) hC hTx hg hb hfr hn9 hb0 (by omega) hpq hq hw1) (by omega) (Nat.le_of_ble_eq_true rfl) ?_
            rintro rv M9 ⟨rfl, rfl⟩
            rw [if_neg hl1]
            show J 0 0 (md C A U Z tc tp ((fr : Int)) ((n : Int)) ((q : Int)) to ((p : Int)) wo op ba fa) 44 [(0, .ref 80), (1, hv w0), (2, hv w1), (3, hv w2), (4, hv w3), (5, hv w4), (6, hv w5), (7, hv w6), (8, hv w7)] [hv 0]
            refine jr_ifc R1 true d_142_44 (by first | assumption | exact hg _ | exact hS _ | exact hV _ | exact hP _ | exact hT _ | exact ⟨by omega, by omega⟩) (by unfold hcb; first | exact decide_eq_true (by omega) | exact decide_eq_false (by omega)) (by decide) (pc' := 112) rfl ?_
            refine jr_iconst R1 d_142_112 ?_
            refine jr_retb R3 d_142_113 rfl (by first | exact Or.inl rfl | exact Or.inr rfl | omega) ?_
            refine ⟨?_, rfl⟩; rw [if_neg]; rintro ⟨z1, z2, z3, z4, z5, z6, z7, z8, z9, z10, z11⟩; first | contradiction | omega
        · skip
          refine jr_callv R2 d_142_32 (by decide) rfl (as := [.ref 80, hv 0, hv w0]) (rest := []) rfl (by unfold mj_rc; rw [show (_ : List Value).headD _ = .ref 80 from rfl]; simp only [md_80 hC]; decide) (hm_isLetter (d := 2) (i := 0) (by omega) hC hTx hg hb hfr hn9 hb0 (by omega) hpq hq hw0) (by omega) (Nat.le_of_ble_eq_true rfl) ?_
          rintro rv M9 ⟨rfl, rfl⟩
          rw [if_neg hl0]
          show J 0 0 (md C A U Z tc tp ((fr : Int)) ((n : Int)) ((q : Int)) to ((p : Int)) wo op ba fa) 35 [(0, .ref 80), (1, hv w0), (2, hv w1), (3, hv w2), (4, hv w3), (5, hv w4), (6, hv w5), (7, hv w6), (8, hv w7)] [hv 0]
          refine jr_ifc R1 true d_142_35 (by first | assumption | exact hg _ | exact hS _ | exact hV _ | exact hP _ | exact hT _ | exact ⟨by omega, by omega⟩) (by unfold hcb; first | exact decide_eq_true (by omega) | exact decide_eq_false (by omega)) (by decide) (pc' := 112) rfl ?_
          refine jr_iconst R1 d_142_112 ?_
          refine jr_retb R3 d_142_113 rfl (by first | exact Or.inl rfl | exact Or.inr rfl | omega) ?_
          refine ⟨?_, rfl⟩; rw [if_neg]; rintro ⟨z1, z2, z3, z4, z5, z6, z7, z8, z9, z10, z11⟩; first | contradiction | omega
    · refine jr_icmp R1 true d_142_12 (by first | assumption | exact hg _ | exact hS _ | exact hV _ | exact hP _ | exact hT _ | exact ⟨by omega, by omega⟩) (by first | assumption | exact hg _ | exact hS _ | exact hV _ | exact hP _ | exact hT _ | exact ⟨by omega, by omega⟩) (by unfold hcb; first | exact decide_eq_true (by omega) | exact decide_eq_false (by omega)) (by decide) (pc' := 112) rfl ?_
      refine jr_iconst R1 d_142_112 ?_
      refine jr_retb R3 d_142_113 rfl (by first | exact Or.inl rfl | exact Or.inr rfl | omega) ?_
      refine ⟨?_, rfl⟩; rw [if_neg]; rintro ⟨z1, z2, z3, z4, z5, z6, z7, z8, z9, z10, z11⟩; first | contradiction | omega
  · refine jr_ifc R1 true d_142_4 (by first | assumption | exact hg _ | exact hS _ | exact hV _ | exact hP _ | exact hT _ | exact ⟨by omega, by omega⟩) (by unfold hcb; first | exact decide_eq_true (by omega) | exact decide_eq_false (by omega)) (by decide) (pc' := 112) rfl ?_
    refine jr_iconst R1 d_142_112 ?_
    refine jr_retb R3 d_142_113 rfl (by first | exact Or.inl rfl | exact Or.inr rfl | omega) ?_
    refine ⟨?_, rfl⟩; rw [if_neg]; rintro ⟨z1, z2, z3, z4, z5, z6, z7, z8, z9, z10, z11⟩; first | contradiction | omega
