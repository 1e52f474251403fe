/-! TEXTS OF BEFORE, WORDS -/
theorem hs_coder {lch : Launch} {d : Nat} {M : mj_M} {k : Nat} (hd : 1 ≤ d) (h1 : 10 ≤ k) (h2 : k < 23) : mj_Me lch 184 d 0 0 [.retAddr k] M (fun rv M' => rv = some (hv 0) ∧ M' = M) := by
  refine mj_Me_of (by decide) (by omega) (Nat.le_of_ble_eq_true rfl) ?_
  intro L xs J R1 R2 R3
  show J 0 0 M 0 [(0, .retAddr k)] []
  refine js_compact R1 d_184_0 ?_
  refine jr_ifc R1 false d_184_3 ⟨by omega, by omega⟩ (by decide) (by decide) (pc' := 6) rfl ?_
  refine jr_aload_x R1 d_184_6 rfl ?_
  refine js_coder R1 h1 h2 d_184_7 ?_
  refine jr_goto R1 d_184_10 (by decide) (pc' := 14) rfl ?_
  refine js_retbyte R3 d_184_14 rfl ?_
  exact ⟨rfl, rfl⟩
theorem hs_latin {lch : Launch} {d : Nat} {M : mj_M} {k : Nat} (hd : 1 ≤ d) (h1 : 10 ≤ k) (h2 : k < 23) : mj_Me lch 185 d 0 0 [.retAddr k] M (fun rv M' => rv = some (hv 1) ∧ M' = M) := by
  refine mj_Me_of (by decide) (by omega) (Nat.le_of_ble_eq_true rfl) ?_
  intro L xs J R1 R2 R3
  show J 0 0 M 0 [(0, .retAddr k)] []
  refine js_compact R1 d_185_0 ?_
  refine jr_ifc R1 false d_185_3 ⟨by omega, by omega⟩ (by decide) (by decide) (pc' := 6) rfl ?_
  refine jr_aload_x R1 d_185_6 rfl ?_
  refine js_coder R1 h1 h2 d_185_7 ?_
  refine jr_ifc R1 false d_185_10 ⟨by omega, by omega⟩ (by decide) (by decide) (pc' := 13) rfl ?_
  refine jr_iconst R1 d_185_13 ?_
  refine jr_goto R1 d_185_14 (by decide) (pc' := 18) rfl ?_
  refine jr_retb R3 d_185_18 rfl (Or.inr rfl) ?_
  exact ⟨rfl, rfl⟩
theorem hs_length {lch : Launch} {d : Nat} {M : mj_M} {k : Nat} (hd : 2 ≤ d) (h1 : 10 ≤ k) (h2 : k < 23) : mj_Me lch 186 d 0 0 [.retAddr k] M (fun rv M' => rv = some (hv ((hw_l k).length : Int)) ∧ M' = M) := by
  refine mj_Me_of (by decide) (by omega) (Nat.le_of_ble_eq_true rfl) ?_
  intro L xs J R1 R2 R3
  show J 0 0 M 0 [(0, .retAddr k)] []
  refine jr_aload_x R1 d_186_0 rfl ?_
  refine js_value R1 h1 h2 d_186_1 ?_
  refine js_len R1 h1 h2 d_186_4 ?_
  refine jr_aload_x R1 d_186_5 rfl ?_
  refine jr_callv R2 d_186_6 (by decide) rfl (as := [.retAddr k]) (rest := [hv ((hw_l k).length : Int)]) rfl (by unfold mj_rc; rw [show (_ : List Value).headD _ = .retAddr k from rfl]; simp [show mj_oc 184 = 99 from rfl, show mj_oc 185 = 99 from rfl, show mj_oc 186 = 99 from rfl, show mj_oc 182 = 99 from rfl, h1, h2]) (hs_coder (d := 1) (by omega) h1 h2) (by omega) (Nat.le_of_ble_eq_true rfl) ?_
  rintro rv M9 ⟨rfl, rfl⟩
  refine js_shr R1 d_186_9 ?_
  refine jr_reti R3 d_186_10 rfl ?_
  exact ⟨rfl, rfl⟩
theorem hs_pre {lch : Launch} {d : Nat} {M : mj_M} {x y : Int} (hd : 1 ≤ d) (hx : 0 ≤ x ∧ x < y) (hy : y ≤ 1000) : mj_Me lch 192 d 0 0 [hv x, hv y, .retAddr 3] M (fun rv M' => rv = some (hv x) ∧ M' = M) := by
  refine mj_Me_of (by decide) (by omega) (Nat.le_of_ble_eq_true rfl) ?_
  intro L xs J R1 R2 R3
  show J 0 0 M 0 [(0, hv x), (1, hv y), (2, .retAddr 3)] []
  refine jr_iload_n R1 d_192_0 rfl ?_
  refine jr_ifc R1 false d_192_1 ⟨by omega, by omega⟩ (by unfold hcb; exact decide_eq_false (by omega)) (by decide) (pc' := 4) rfl ?_
  refine jr_iload_n R1 d_192_4 rfl ?_
  refine jr_iload_n R1 d_192_5 rfl ?_
  refine jr_icmp R1 true d_192_6 ⟨by omega, by omega⟩ ⟨by omega, by omega⟩ (by unfold hcb; exact decide_eq_true (by omega)) (by decide) (pc' := 16) rfl ?_
  refine jr_iload_n R1 d_192_16 rfl ?_
  refine jr_reti R3 d_192_17 rfl ?_
  exact ⟨rfl, rfl⟩
theorem hs_check {lch : Launch} {d : Nat} {M : mj_M} {x y : Int} (hd : 2 ≤ d) (hx : 0 ≤ x ∧ x < y) (hy : y ≤ 1000) : mj_Me lch 183 d 0 0 [hv x, hv y] M (fun rv M' => rv = none ∧ M' = M) := by
  refine mj_Me_of (by decide) (by omega) (Nat.le_of_ble_eq_true rfl) ?_
  intro L xs J R1 R2 R3
  show J 0 0 M 0 [(0, hv x), (1, hv y)] []
  refine jr_iload_n R1 d_183_0 rfl ?_
  refine jr_iload_n R1 d_183_1 rfl ?_
  refine js_format R1 d_183_2 ?_
  refine jr_calls R2 d_183_5 (by decide) (by decide) rfl (as := [hv x, hv y, .retAddr 3]) (rest := []) rfl (hs_pre (d := 1) (by omega) hx hy) (by omega) (Nat.le_of_ble_eq_true rfl) ?_
  rintro rv M9 ⟨rfl, rfl⟩
  refine jr_pop R1 d_183_8 ?_
  refine jr_ret R3 d_183_9 rfl ?_
  exact ⟨rfl, rfl⟩
theorem hs_lcharAt {lch : Launch} {d : Nat} {M : mj_M} {k j : Nat} (hd : 3 ≤ d) (h1 : 10 ≤ k) (h2 : k < 23) (hj : j < (hw_l k).length) : mj_Me lch 187 d 0 0 [.retAddr (k + 20), hv ((j : Int))] M (fun rv M' => rv = some (hv (hw_c k j).toInt) ∧ M' = M) := by
  refine mj_Me_of (by decide) (by omega) (Nat.le_of_ble_eq_true rfl) ?_
  intro L xs J R1 R2 R3
  show J 0 0 M 0 [(0, .retAddr (k + 20)), (1, hv ((j : Int)))] []
  have hl := hw_len h1 h2
  refine jr_iload_n R1 d_187_0 rfl ?_
  refine jr_aload_x R1 d_187_1 rfl ?_
  refine js_len R1 h1 h2 d_187_2 ?_
  refine jr_calls R2 d_187_3 (by decide) (by decide) rfl (as := [hv (j : Int), hv ((hw_l k).length : Int)]) (rest := []) rfl (hs_check (d := 2) (by omega) (by omega) (by omega)) (by omega) (Nat.le_of_ble_eq_true rfl) ?_
  rintro rv M9 ⟨rfl, rfl⟩
  refine jr_aload_x R1 d_187_6 rfl ?_
  refine jr_iload_n R1 d_187_7 rfl ?_
  refine js_load R1 h1 h2 hj (by omega) d_187_8 ?_
  refine jr_sipush R1 d_187_9 (by decide) ?_
  refine js_and R1 h1 h2 hj d_187_12 ?_
  refine js_i2c R1 h1 h2 hj d_187_13 ?_
  refine js_retchar R3 (hw_ok h1 h2 hj).2.2 d_187_14 rfl ?_
  exact ⟨rfl, rfl⟩
theorem hs_charAt {lch : Launch} {d : Nat} {M : mj_M} {k j : Nat} (hd : 4 ≤ d) (h1 : 10 ≤ k) (h2 : k < 23) (hj : j < (hw_l k).length) : mj_Me lch 182 d 0 0 [.retAddr k, hv ((j : Int))] M (fun rv M' => rv = some (hv (hw_c k j).toInt) ∧ M' = M) := by
  refine mj_Me_of (by decide) (by omega) (Nat.le_of_ble_eq_true rfl) ?_
  intro L xs J R1 R2 R3
  show J 0 0 M 0 [(0, .retAddr k), (1, hv ((j : Int)))] []
  refine jr_aload_x R1 d_182_0 rfl ?_
  refine jr_callv R2 d_182_1 (by decide) rfl (as := [.retAddr k]) (rest := []) rfl (by unfold mj_rc; rw [show (_ : List Value).headD _ = .retAddr k from rfl]; simp [show mj_oc 184 = 99 from rfl, show mj_oc 185 = 99 from rfl, show mj_oc 186 = 99 from rfl, show mj_oc 182 = 99 from rfl, h1, h2]) (hs_latin (d := 1) (by omega) h1 h2) (by omega) (Nat.le_of_ble_eq_true rfl) ?_
  rintro rv M9 ⟨rfl, rfl⟩
  refine jr_ifc R1 false d_182_4 ⟨by omega, by omega⟩ (by decide) (by decide) (pc' := 7) rfl ?_
  refine jr_aload_x R1 d_182_7 rfl ?_
  refine js_value R1 h1 h2 d_182_8 ?_
  refine jr_iload_n R1 d_182_11 rfl ?_
  refine jr_calls R2 d_182_12 (by decide) (by decide) rfl (as := [.retAddr (k + 20), hv (j : Int)]) (rest := []) rfl (hs_lcharAt (d := 3) (by omega) h1 h2 hj) (by omega) (Nat.le_of_ble_eq_true rfl) ?_
  rintro rv M9 ⟨rfl, rfl⟩
  refine js_retchar R3 (hw_ok h1 h2 hj).2.2 d_182_15 rfl ?_
  exact ⟨rfl, rfl⟩
theorem hs_word0 {lch : Launch} {d : Nat} {M : mj_M}  (hd : 1 ≤ d)  : mj_Me lch 49 d 0 0 [hv 0] M (fun rv M' => rv = some (.retAddr 11) ∧ M' = M) := by
  refine mj_Me_of (by decide) (by omega) (Nat.le_of_ble_eq_true rfl) ?_
  intro L xs J R1 R2 R3
  show J 0 0 M 0 [(0, hv 0)] []
  refine jr_iload_n R1 d_49_0 rfl ?_
  refine jr R1 d_49_1 (pc' := 60) rfl ?_
  refine js_ldc R1 (by decide) rfl d_49_60 ?_
  refine js_reta R3 d_49_62 rfl ?_
  exact ⟨rfl, rfl⟩
theorem hs_word1 {lch : Launch} {d : Nat} {M : mj_M}  (hd : 1 ≤ d)  : mj_Me lch 49 d 0 0 [hv 1] M (fun rv M' => rv = some (.retAddr 12) ∧ M' = M) := by
  refine mj_Me_of (by decide) (by omega) (Nat.le_of_ble_eq_true rfl) ?_
  intro L xs J R1 R2 R3
  show J 0 0 M 0 [(0, hv 1)] []
  refine jr_iload_n R1 d_49_0 rfl ?_
  refine jr R1 d_49_1 (pc' := 63) rfl ?_
  refine js_ldc R1 (by decide) rfl d_49_63 ?_
  refine js_reta R3 d_49_65 rfl ?_
  exact ⟨rfl, rfl⟩
theorem hs_word2 {lch : Launch} {d : Nat} {M : mj_M}  (hd : 1 ≤ d)  : mj_Me lch 49 d 0 0 [hv 2] M (fun rv M' => rv = some (.retAddr 13) ∧ M' = M) := by
  refine mj_Me_of (by decide) (by omega) (Nat.le_of_ble_eq_true rfl) ?_
  intro L xs J R1 R2 R3
  show J 0 0 M 0 [(0, hv 2)] []
  refine jr_iload_n R1 d_49_0 rfl ?_
  refine jr R1 d_49_1 (pc' := 66) rfl ?_
  refine js_ldc R1 (by decide) rfl d_49_66 ?_
  refine js_reta R3 d_49_68 rfl ?_
  exact ⟨rfl, rfl⟩
theorem hs_word3 {lch : Launch} {d : Nat} {M : mj_M}  (hd : 1 ≤ d)  : mj_Me lch 49 d 0 0 [hv 3] M (fun rv M' => rv = some (.retAddr 14) ∧ M' = M) := by
  refine mj_Me_of (by decide) (by omega) (Nat.le_of_ble_eq_true rfl) ?_
  intro L xs J R1 R2 R3
  show J 0 0 M 0 [(0, hv 3)] []
  refine jr_iload_n R1 d_49_0 rfl ?_
  refine jr R1 d_49_1 (pc' := 69) rfl ?_
  refine js_ldc R1 (by decide) rfl d_49_69 ?_
  refine js_reta R3 d_49_71 rfl ?_
  exact ⟨rfl, rfl⟩
theorem hs_word4 {lch : Launch} {d : Nat} {M : mj_M}  (hd : 1 ≤ d)  : mj_Me lch 49 d 0 0 [hv 4] M (fun rv M' => rv = some (.retAddr 15) ∧ M' = M) := by
  refine mj_Me_of (by decide) (by omega) (Nat.le_of_ble_eq_true rfl) ?_
  intro L xs J R1 R2 R3
  show J 0 0 M 0 [(0, hv 4)] []
  refine jr_iload_n R1 d_49_0 rfl ?_
  refine jr R1 d_49_1 (pc' := 72) rfl ?_
  refine js_ldc R1 (by decide) rfl d_49_72 ?_
  refine js_reta R3 d_49_74 rfl ?_
  exact ⟨rfl, rfl⟩
theorem hs_word5 {lch : Launch} {d : Nat} {M : mj_M}  (hd : 1 ≤ d)  : mj_Me lch 49 d 0 0 [hv 5] M (fun rv M' => rv = some (.retAddr 16) ∧ M' = M) := by
  refine mj_Me_of (by decide) (by omega) (Nat.le_of_ble_eq_true rfl) ?_
  intro L xs J R1 R2 R3
  show J 0 0 M 0 [(0, hv 5)] []
  refine jr_iload_n R1 d_49_0 rfl ?_
  refine jr R1 d_49_1 (pc' := 75) rfl ?_
  refine js_ldc R1 (by decide) rfl d_49_75 ?_
  refine js_reta R3 d_49_77 rfl ?_
  exact ⟨rfl, rfl⟩
theorem hs_word6 {lch : Launch} {d : Nat} {M : mj_M}  (hd : 1 ≤ d)  : mj_Me lch 49 d 0 0 [hv 6] M (fun rv M' => rv = some (.retAddr 17) ∧ M' = M) := by
  refine mj_Me_of (by decide) (by omega) (Nat.le_of_ble_eq_true rfl) ?_
  intro L xs J R1 R2 R3
  show J 0 0 M 0 [(0, hv 6)] []
  refine jr_iload_n R1 d_49_0 rfl ?_
  refine jr R1 d_49_1 (pc' := 78) rfl ?_
  refine js_ldc R1 (by decide) rfl d_49_78 ?_
  refine js_reta R3 d_49_80 rfl ?_
  exact ⟨rfl, rfl⟩
theorem hs_word7 {lch : Launch} {d : Nat} {M : mj_M}  (hd : 1 ≤ d)  : mj_Me lch 49 d 0 0 [hv 7] M (fun rv M' => rv = some (.retAddr 18) ∧ M' = M) := by
  refine mj_Me_of (by decide) (by omega) (Nat.le_of_ble_eq_true rfl) ?_
  intro L xs J R1 R2 R3
  show J 0 0 M 0 [(0, hv 7)] []
  refine jr_iload_n R1 d_49_0 rfl ?_
  refine jr R1 d_49_1 (pc' := 81) rfl ?_
  refine js_ldc R1 (by decide) rfl d_49_81 ?_
  refine js_reta R3 d_49_83 rfl ?_
  exact ⟨rfl, rfl⟩
theorem hs_word8 {lch : Launch} {d : Nat} {M : mj_M}  (hd : 1 ≤ d)  : mj_Me lch 49 d 0 0 [hv 8] M (fun rv M' => rv = some (.retAddr 19) ∧ M' = M) := by
  refine mj_Me_of (by decide) (by omega) (Nat.le_of_ble_eq_true rfl) ?_
  intro L xs J R1 R2 R3
  show J 0 0 M 0 [(0, hv 8)] []
  refine jr_iload_n R1 d_49_0 rfl ?_
  refine jr R1 d_49_1 (pc' := 84) rfl ?_
  refine js_ldc R1 (by decide) rfl d_49_84 ?_
  refine js_reta R3 d_49_86 rfl ?_
  exact ⟨rfl, rfl⟩
theorem hs_word9 {lch : Launch} {d : Nat} {M : mj_M}  (hd : 1 ≤ d)  : mj_Me lch 49 d 0 0 [hv 9] M (fun rv M' => rv = some (.retAddr 20) ∧ M' = M) := by
  refine mj_Me_of (by decide) (by omega) (Nat.le_of_ble_eq_true rfl) ?_
  intro L xs J R1 R2 R3
  show J 0 0 M 0 [(0, hv 9)] []
  refine jr_iload_n R1 d_49_0 rfl ?_
  refine jr R1 d_49_1 (pc' := 87) rfl ?_
  refine js_ldc R1 (by decide) rfl d_49_87 ?_
  refine js_reta R3 d_49_89 rfl ?_
  exact ⟨rfl, rfl⟩
theorem hs_word10 {lch : Launch} {d : Nat} {M : mj_M}  (hd : 1 ≤ d)  : mj_Me lch 49 d 0 0 [hv 10] M (fun rv M' => rv = some (.retAddr 21) ∧ M' = M) := by
  refine mj_Me_of (by decide) (by omega) (Nat.le_of_ble_eq_true rfl) ?_
  intro L xs J R1 R2 R3
  show J 0 0 M 0 [(0, hv 10)] []
  refine jr_iload_n R1 d_49_0 rfl ?_
  refine jr R1 d_49_1 (pc' := 90) rfl ?_
  refine js_ldc R1 (by decide) rfl d_49_90 ?_
  refine js_reta R3 d_49_92 rfl ?_
  exact ⟨rfl, rfl⟩
theorem hs_word11 {lch : Launch} {d : Nat} {M : mj_M}  (hd : 1 ≤ d)  : mj_Me lch 49 d 0 0 [hv 11] M (fun rv M' => rv = some (.retAddr 22) ∧ M' = M) := by
  refine mj_Me_of (by decide) (by omega) (Nat.le_of_ble_eq_true rfl) ?_
  intro L xs J R1 R2 R3
  show J 0 0 M 0 [(0, hv 11)] []
  refine jr_iload_n R1 d_49_0 rfl ?_
  refine jr R1 d_49_1 (pc' := 93) rfl ?_
  refine js_ldc R1 (by decide) rfl d_49_93 ?_
  refine js_reta R3 d_49_95 rfl ?_
  exact ⟨rfl, rfl⟩
theorem hw_wl : (List.range 12).all (fun n => decide ((hw_l (11 + n)).map (fun x => x.toInt) = hp_w n)) = true := by decide +kernel
