/-! THE READER, OVER TOKENS -/
theorem ha_tn (k : Nat) : ((k : Nat) : Int).toNat = k := rfl
theorem ha_pass {lch : Launch} {d : Nat} {B : mj_M} {n : Int} {T : Nat} {S P V ST E : Nat → Int} {tkf pcf : Nat → Int} {sc : Int} {k : Nat} (hd : 1 ≤ d) (hB : 25 ≤ B.length) (hT9 : T ≤ 160) (hS : ∀ j, hr (S j)) (hP : ∀ j, hr (P j)) (hSk : ∀ j : Nat, j ≤ T → S j = tkf j) (hPk : ∀ j : Nat, j ≤ T → P j = pcf j) (hTk : ∀ j, T ≤ j → tkf j = 302) (hpc : ∀ j, 0 ≤ pcf j ∧ pcf j ≤ 160) (hk : k < T) : mj_Me lch 38 d 0 0 [.ref 18] (rd B n ((T : Int) + 1) ((k : Int)) ((-1)) sc S P V ST E) (fun rv M' => rv = none ∧ M' = rd B n ((T : Int) + 1) ((k : Int) + 1) ((-1)) sc S P V ST E) := by
  refine mj_Me_of (by decide) (by omega) (Nat.le_of_ble_eq_true rfl) ?_
  intro L xs J R1 R2 R3
  show J 0 0 (rd B n ((T : Int) + 1) ((k : Int)) ((-1)) sc S P V ST E) 0 [(0, .ref 18)] []
  refine jr_aload_n R1 d_38_0 rfl ?_
  refine jr_getf R1 d_38_1 (rd_18 hB) (by decide) rfl ?_
  refine jr_iconst R1 d_38_4 ?_
  refine jr_icmp R1 false d_38_5 (by first | assumption | exact hg _ | exact hS _ | exact hV _ | exact hP _ | exact hT _ | exact ⟨by omega, by omega⟩) (by first | assumption | exact hg _ | exact hS _ | exact hV _ | exact hP _ | exact hT _ | exact ⟨by omega, by omega⟩) (by unfold hcb; first | exact decide_eq_true (by omega) | exact decide_eq_false (by omega)) (by decide) (pc' := 8) rfl ?_
  refine jr_aload_n R1 d_38_8 rfl ?_
  refine jr_getf R1 d_38_9 (rd_18 hB) (by decide) rfl ?_
  refine jr_iconst R1 d_38_12 ?_
  refine jr_iadd R1 d_38_13 ?_
  refine jr_aload_n R1 d_38_14 rfl ?_
  refine jr_getf R1 d_38_15 (rd_18 hB) (by decide) rfl ?_
  by_cases h1 : (k : Int) + 1 < (T : Int) + 1
  · refine jr_icmp R1 false d_38_18 (by first | assumption | exact hg _ | exact hS _ | exact hV _ | exact hP _ | exact hT _ | exact ⟨by omega, by omega⟩) (by first | assumption | exact hg _ | exact hS _ | exact hV _ | exact hP _ | exact hT _ | exact ⟨by omega, by omega⟩) (by unfold hcb; first | exact decide_eq_true (by omega) | exact decide_eq_false (by omega)) (by decide) (pc' := 21) rfl ?_
    refine jr_aload_n R1 d_38_21 rfl ?_
    refine jr_dup_r R1 d_38_22 ?_
    refine jr_getf R1 d_38_23 (rd_18 hB) (by decide) rfl ?_
    refine jr_iconst R1 d_38_26 ?_
    refine jr_iadd R1 d_38_27 ?_
    refine jr_putf R1 d_38_28 (rd_18 hB) (by decide) (by simp) rfl rfl (M' := rd B n ((T : Int) + 1) ((k : Int) + 1) ((-1)) sc S P V ST E) (rd_p18 hB) ?_
    refine jr_ret R3 d_38_31 rfl ?_
    first | (exfalso; omega) | exact ⟨rfl, rfl⟩
  · refine jr_icmp R1 true d_38_18 (by first | assumption | exact hg _ | exact hS _ | exact hV _ | exact hP _ | exact hT _ | exact ⟨by omega, by omega⟩) (by first | assumption | exact hg _ | exact hS _ | exact hV _ | exact hP _ | exact hT _ | exact ⟨by omega, by omega⟩) (by unfold hcb; first | exact decide_eq_true (by omega) | exact decide_eq_false (by omega)) (by decide) (pc' := 31) rfl ?_
    refine jr_ret R3 d_38_31 rfl ?_
    first | (exfalso; omega) | exact ⟨rfl, rfl⟩
theorem ha_fail {lch : Launch} {d : Nat} {B : mj_M} {n : Int} {T : Nat} {S P V ST E : Nat → Int} {tkf pcf : Nat → Int} {sc : Int} {k : Nat} (hd : 1 ≤ d) (hB : 25 ≤ B.length) (hT9 : T ≤ 160) (hS : ∀ j, hr (S j)) (hP : ∀ j, hr (P j)) (hSk : ∀ j : Nat, j ≤ T → S j = tkf j) (hPk : ∀ j : Nat, j ≤ T → P j = pcf j) (hTk : ∀ j, T ≤ j → tkf j = 302) (hpc : ∀ j, 0 ≤ pcf j ∧ pcf j ≤ 160) (hk : k ≤ T) : mj_Me lch 30 d 0 0 [.ref 18] (rd B n ((T : Int) + 1) ((k : Int)) ((-1)) sc S P V ST E) (fun rv M' => rv = none ∧ M' = rd B n ((T : Int) + 1) ((k : Int)) (pcf k) sc S P V ST E) := by
  refine mj_Me_of (by decide) (by omega) (Nat.le_of_ble_eq_true rfl) ?_
  intro L xs J R1 R2 R3
  show J 0 0 (rd B n ((T : Int) + 1) ((k : Int)) ((-1)) sc S P V ST E) 0 [(0, .ref 18)] []
  refine jr_aload_n R1 d_30_0 rfl ?_
  refine jr_getf R1 d_30_1 (rd_18 hB) (by decide) rfl ?_
  refine jr_iconst R1 d_30_4 ?_
  refine jr_icmp R1 false d_30_5 (by first | assumption | exact hg _ | exact hS _ | exact hV _ | exact hP _ | exact hT _ | exact ⟨by omega, by omega⟩) (by first | assumption | exact hg _ | exact hS _ | exact hV _ | exact hP _ | exact hT _ | exact ⟨by omega, by omega⟩) (by unfold hcb; first | exact decide_eq_true (by omega) | exact decide_eq_false (by omega)) (by decide) (pc' := 8) rfl ?_
  refine jr_aload_n R1 d_30_8 rfl ?_
  refine jr_aload_n R1 d_30_9 rfl ?_
  refine jr_getf R1 d_30_10 (rd_18 hB) (by decide) rfl ?_
  refine jr_aload_n R1 d_30_13 rfl ?_
  refine jr_getf R1 d_30_14 (rd_18 hB) (by decide) rfl ?_
  refine jr_iald R1 d_30_17 (rd_21 hB) (by omega) (by omega) (by decide) ?_
  refine jr_putf R1 d_30_18 (rd_18 hB) (by decide) (by simp) rfl rfl (M' := rd B n ((T : Int) + 1) ((k : Int)) (P ((k : Int)).toNat) sc S P V ST E) (rd_p18 hB) ?_
  refine jr_ret R3 d_30_21 rfl ?_
  first | (exfalso; omega) | exact ⟨rfl, by rw [ha_tn, hPk k hk]⟩
theorem ha_opens_t {lch : Launch} {d : Nat} {B : mj_M} {n : Int} {T : Nat} {S P V ST E : Nat → Int} {tkf pcf : Nat → Int} {sc : Int} {k q : Nat} (hd : 2 ≤ d) (hB : 25 ≤ B.length) (hT9 : T ≤ 160) (hS : ∀ j, hr (S j)) (hP : ∀ j, hr (P j)) (hSk : ∀ j : Nat, j ≤ T → S j = tkf j) (hPk : ∀ j : Nat, j ≤ T → P j = pcf j) (hTk : ∀ j, T ≤ j → tkf j = 302) (hpc : ∀ j, 0 ≤ pcf j ∧ pcf j ≤ 160) (hk : k < T) (hq : q < 5) : mj_Me lch 37 d 0 0 [.ref 18, hv ((q : Int))] (rd B n ((T : Int) + 1) ((k : Int)) ((-1)) sc S P V ST E) (fun rv M' => rv = some (hv 1) ∧ M' = rd B n ((T : Int) + 1) ((k : Int) + 1) ((-1)) sc S P V ST E) := by
  refine mj_Me_of (by decide) (by omega) (Nat.le_of_ble_eq_true rfl) ?_
  intro L xs J R1 R2 R3
  show J 0 0 (rd B n ((T : Int) + 1) ((k : Int)) ((-1)) sc S P V ST E) 0 [(0, .ref 18), (1, hv ((q : Int)))] []
  refine jr_iload_n R1 d_37_0 rfl ?_
  refine jr_iconst R1 d_37_1 ?_
  by_cases h1 : (q : Int) < 5
  · refine jr_icmp R1 true d_37_2 (by first | assumption | exact hg _ | exact hS _ | exact hV _ | exact hP _ | exact hT _ | exact ⟨by omega, by omega⟩) (by first | assumption | exact hg _ | exact hS _ | exact hV _ | exact hP _ | exact hT _ | exact ⟨by omega, by omega⟩) (by unfold hcb; first | exact decide_eq_true (by omega) | exact decide_eq_false (by omega)) (by decide) (pc' := 11) rfl ?_
    refine jr_aload_n R1 d_37_11 rfl ?_
    refine jr_callv R2 d_37_12 (by decide) rfl (as := [.ref 18]) (rest := []) rfl (by unfold mj_rc; rw [show (_ : List Value).headD _ = .ref 18 from rfl]; simp only [rd_18 hB]; decide) (ha_pass (d := 1) (by omega) hB hT9 hS hP hSk hPk hTk hpc (by omega)) (by omega) (Nat.le_of_ble_eq_true rfl) ?_
    rintro rv M9 ⟨rfl, rfl⟩
    show J 0 0 (rd B n ((T : Int) + 1) ((k : Int) + 1) ((-1)) sc S P V ST E) 15 [(0, .ref 18), (1, hv ((q : Int)))] []
    refine jr_iconst R1 d_37_15 ?_
    refine jr_retb R3 d_37_16 rfl (by first | exact Or.inl rfl | exact Or.inr rfl | omega) ?_
    first | (exfalso; omega) | exact ⟨rfl, rfl⟩
  · refine jr_icmp R1 false d_37_2 (by first | assumption | exact hg _ | exact hS _ | exact hV _ | exact hP _ | exact hT _ | exact ⟨by omega, by omega⟩) (by first | assumption | exact hg _ | exact hS _ | exact hV _ | exact hP _ | exact hT _ | exact ⟨by omega, by omega⟩) (by unfold hcb; first | exact decide_eq_true (by omega) | exact decide_eq_false (by omega)) (by decide) (pc' := 5) rfl ?_
    refine jr_aload_n R1 d_37_5 rfl ?_
    refine jr_callv R2 d_37_6 (by decide) rfl (as := [.ref 18]) (rest := []) rfl (by unfold mj_rc; rw [show (_ : List Value).headD _ = .ref 18 from rfl]; simp only [rd_18 hB]; decide) (ha_fail (d := 1) (by omega) hB hT9 hS hP hSk hPk hTk hpc (by omega)) (by omega) (Nat.le_of_ble_eq_true rfl) ?_
    rintro rv M9 ⟨rfl, rfl⟩
    show J 0 0 (rd B n ((T : Int) + 1) ((k : Int)) (pcf k) sc S P V ST E) 9 [(0, .ref 18), (1, hv ((q : Int)))] []
    refine jr_iconst R1 d_37_9 ?_
    refine jr_retb R3 d_37_10 rfl (by first | exact Or.inl rfl | exact Or.inr rfl | omega) ?_
    first | (exfalso; omega) | exact ⟨rfl, rfl⟩
theorem ha_opens_f {lch : Launch} {d : Nat} {B : mj_M} {n : Int} {T : Nat} {S P V ST E : Nat → Int} {tkf pcf : Nat → Int} {sc : Int} {k q : Nat} (hd : 2 ≤ d) (hB : 25 ≤ B.length) (hT9 : T ≤ 160) (hS : ∀ j, hr (S j)) (hP : ∀ j, hr (P j)) (hSk : ∀ j : Nat, j ≤ T → S j = tkf j) (hPk : ∀ j : Nat, j ≤ T → P j = pcf j) (hTk : ∀ j, T ≤ j → tkf j = 302) (hpc : ∀ j, 0 ≤ pcf j ∧ pcf j ≤ 160) (hk : k ≤ T) (hq : 5 ≤ q) (hq2 : q ≤ 100) : mj_Me lch 37 d 0 0 [.ref 18, hv ((q : Int))] (rd B n ((T : Int) + 1) ((k : Int)) ((-1)) sc S P V ST E) (fun rv M' => rv = some (hv 0) ∧ M' = rd B n ((T : Int) + 1) ((k : Int)) (pcf k) sc S P V ST E) := by
  refine mj_Me_of (by decide) (by omega) (Nat.le_of_ble_eq_true rfl) ?_
  intro L xs J R1 R2 R3
  show J 0 0 (rd B n ((T : Int) + 1) ((k : Int)) ((-1)) sc S P V ST E) 0 [(0, .ref 18), (1, hv ((q : Int)))] []
  refine jr_iload_n R1 d_37_0 rfl ?_
  refine jr_iconst R1 d_37_1 ?_
  by_cases h1 : (q : Int) < 5
  · refine jr_icmp R1 true d_37_2 (by first | assumption | exact hg _ | exact hS _ | exact hV _ | exact hP _ | exact hT _ | exact ⟨by omega, by omega⟩) (by first | assumption | exact hg _ | exact hS _ | exact hV _ | exact hP _ | exact hT _ | exact ⟨by omega, by omega⟩) (by unfold hcb; first | exact decide_eq_true (by omega) | exact decide_eq_false (by omega)) (by decide) (pc' := 11) rfl ?_
    refine jr_aload_n R1 d_37_11 rfl ?_
    refine jr_callv R2 d_37_12 (by decide) rfl (as := [.ref 18]) (rest := []) rfl (by unfold mj_rc; rw [show (_ : List Value).headD _ = .ref 18 from rfl]; simp only [rd_18 hB]; decide) (ha_pass (d := 1) (by omega) hB hT9 hS hP hSk hPk hTk hpc (by omega)) (by omega) (Nat.le_of_ble_eq_true rfl) ?_
    rintro rv M9 ⟨rfl, rfl⟩
    show J 0 0 (rd B n ((T : Int) + 1) ((k : Int) + 1) ((-1)) sc S P V ST E) 15 [(0, .ref 18), (1, hv ((q : Int)))] []
    refine jr_iconst R1 d_37_15 ?_
    refine jr_retb R3 d_37_16 rfl (by first | exact Or.inl rfl | exact Or.inr rfl | omega) ?_
    first | (exfalso; omega) | exact ⟨rfl, rfl⟩
  · refine jr_icmp R1 false d_37_2 (by first | assumption | exact hg _ | exact hS _ | exact hV _ | exact hP _ | exact hT _ | exact ⟨by omega, by omega⟩) (by first | assumption | exact hg _ | exact hS _ | exact hV _ | exact hP _ | exact hT _ | exact ⟨by omega, by omega⟩) (by unfold hcb; first | exact decide_eq_true (by omega) | exact decide_eq_false (by omega)) (by decide) (pc' := 5) rfl ?_
    refine jr_aload_n R1 d_37_5 rfl ?_
    refine jr_callv R2 d_37_6 (by decide) rfl (as := [.ref 18]) (rest := []) rfl (by unfold mj_rc; rw [show (_ : List Value).headD _ = .ref 18 from rfl]; simp only [rd_18 hB]; decide) (ha_fail (d := 1) (by omega) hB hT9 hS hP hSk hPk hTk hpc (by omega)) (by omega) (Nat.le_of_ble_eq_true rfl) ?_
    rintro rv M9 ⟨rfl, rfl⟩
    show J 0 0 (rd B n ((T : Int) + 1) ((k : Int)) (pcf k) sc S P V ST E) 9 [(0, .ref 18), (1, hv ((q : Int)))] []
    refine jr_iconst R1 d_37_9 ?_
    refine jr_retb R3 d_37_10 rfl (by first | exact Or.inl rfl | exact Or.inr rfl | omega) ?_
    first | (exfalso; omega) | exact ⟨rfl, rfl⟩
