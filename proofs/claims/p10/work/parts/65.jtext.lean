/-! TEXTS.ADD -/
abbrev tx1 (c : Int) : va_E := .inr (3, [.ref 2, .ref 9, .ref 16, .ref 17, hv c])
abbrev txR (r : Nat → Option Nat) : va_E := .inl (2, 6, .inr (.inr (.inr (.inr r))))
theorem hc_add {lch : Launch} {d : Nat} {B : mj_M} {n tk at' fl sc : Int} {S P V ST E F G : Nat → Int} {cnt : Nat} {r2 r9 : Nat → Option Nat} (hd : 1 ≤ d) (hB : 25 ≤ B.length) (hc : cnt < 6) (h1 : B[1]? = some (tx1 cnt)) (h2 : B[2]? = some (txR r2)) (h9 : B[9]? = some (txR r9)) (hr2 : r2 cnt = some (3 + cnt)) (hr9 : r9 cnt = some (10 + cnt)) (hF : B[3 + cnt]? = some (hA 0 160 F)) (hG : B[10 + cnt]? = some (hA 0 3 G)) :
    mj_Me lch 50 d 0 0 [.ref 1, .ref 18] (rd B n tk at' fl sc S P V ST E) (fun rv M' => rv = some (hv (cnt : Int)) ∧ M' = rd (((B.set (3 + cnt) (hA 0 160 (hcp 160 ST F))).set (10 + cnt) (hA 0 3 (hcp 3 E G))).set 1 (tx1 ((cnt : Int) + 1))) n tk at' fl sc S P V ST E) := by
  refine mj_Me_of (by decide) (by omega) (Nat.le_of_ble_eq_true rfl) ?_
  intro L xs J R1 R2 R3
  show J 0 0 (rd B n tk at' fl sc S P V ST E) 0 [(0, .ref 1), (1, .ref 18)] []
  have hB2 : 25 ≤ (B.set (3 + cnt) (hA 0 160 (hcp 160 ST F))).length := by rw [List.length_set]; exact hB
  have hB3 : 25 ≤ ((B.set (3 + cnt) (hA 0 160 (hcp 160 ST F))).set (10 + cnt) (hA 0 3 (hcp 3 E G))).length := by rw [List.length_set]; exact hB2
  have hB4 : 25 ≤ (((B.set (3 + cnt) (hA 0 160 (hcp 160 ST F))).set (10 + cnt) (hA 0 3 (hcp 3 E G))).set 1 (tx1 ((cnt : Int) + 1))).length := by rw [List.length_set]; exact hB3
  have g1 : (B.set (3 + cnt) (hA 0 160 (hcp 160 ST F)))[1]? = some (tx1 cnt) := by rw [List.getElem?_set_ne (by omega)]; exact h1
  have g9 : (B.set (3 + cnt) (hA 0 160 (hcp 160 ST F)))[9]? = some (txR r9) := by rw [List.getElem?_set_ne (by omega)]; exact h9
  have gG : (B.set (3 + cnt) (hA 0 160 (hcp 160 ST F)))[10 + cnt]? = some (hA 0 3 G) := by rw [List.getElem?_set_ne (by omega)]; exact hG
  have k1 : ((B.set (3 + cnt) (hA 0 160 (hcp 160 ST F))).set (10 + cnt) (hA 0 3 (hcp 3 E G)))[1]? = some (tx1 cnt) := by rw [List.getElem?_set_ne (by omega)]; exact g1
  have m1 : (((B.set (3 + cnt) (hA 0 160 (hcp 160 ST F))).set (10 + cnt) (hA 0 3 (hcp 3 E G))).set 1 (tx1 ((cnt : Int) + 1)))[1]? = some (tx1 ((cnt : Int) + 1)) := List.getElem?_set_self (by omega)
  refine jr_aload_n R1 d_50_0 rfl ?_
  refine jr_getf R1 d_50_1 ((rd_o hB (by omega)).trans h1) (by decide) rfl ?_
  refine jr_bipush R1 d_50_4 (by decide) ?_
  refine jr_icmp R1 true d_50_6 ⟨by omega, by omega⟩ ⟨by omega, by omega⟩ (by unfold hcb; exact decide_eq_true (by omega)) (by decide) (pc' := 12) rfl ?_
  refine jr_aload_n R1 d_50_12 rfl ?_
  refine jr_getf R1 d_50_13 (rd_18 hB) (by decide) rfl ?_
  refine jr_iconst R1 d_50_16 ?_
  refine jr_aload_n R1 d_50_17 rfl ?_
  refine jr_getf R1 d_50_18 ((rd_o hB (by omega)).trans h1) (by decide) rfl ?_
  refine jr_aload_n R1 d_50_21 rfl ?_
  refine jr_getf R1 d_50_22 ((rd_o hB (by omega)).trans h1) (by decide) rfl ?_
  refine jr_aald R1 d_50_25 ((rd_o hB (by omega)).trans h2) (by omega) (by omega) (by decide) hr2 ?_
  refine jr_iconst R1 d_50_26 ?_
  refine jr_sipush R1 d_50_27 (by decide) ?_
  refine jr_acp (n := 160) R1 d_50_30 (rd_23 hB) ((rd_o hB (by omega)).trans hF) (by omega) (by omega) (by omega) (by decide) (rd_so (by omega)) ?_
  refine jr_aload_n R1 d_50_33 rfl ?_
  refine jr_getf R1 d_50_34 (rd_18 hB2) (by decide) rfl ?_
  refine jr_iconst R1 d_50_37 ?_
  refine jr_aload_n R1 d_50_38 rfl ?_
  refine jr_getf R1 d_50_39 ((rd_o hB2 (by omega)).trans g1) (by decide) rfl ?_
  refine jr_aload_n R1 d_50_42 rfl ?_
  refine jr_getf R1 d_50_43 ((rd_o hB2 (by omega)).trans g1) (by decide) rfl ?_
  refine jr_aald R1 d_50_46 ((rd_o hB2 (by omega)).trans g9) (by omega) (by omega) (by decide) hr9 ?_
  refine jr_iconst R1 d_50_47 ?_
  refine jr_iconst R1 d_50_48 ?_
  refine jr_acp (n := 3) R1 d_50_49 (rd_24 hB2) ((rd_o hB2 (by omega)).trans gG) (by omega) (by omega) (by omega) (by decide) (rd_so (by omega)) ?_
  refine jr_aload_n R1 d_50_52 rfl ?_
  refine jr_dup_r R1 d_50_53 ?_
  refine jr_getf R1 d_50_54 ((rd_o hB3 (by omega)).trans k1) (by decide) rfl ?_
  refine jr_iconst R1 d_50_57 ?_
  refine jr_iadd R1 d_50_58 ?_
  refine jr_putf R1 d_50_59 ((rd_o hB3 (by omega)).trans k1) (by decide) (by simp) rfl rfl (rd_so (x := tx1 ((cnt : Int) + 1)) (by omega)) ?_
  refine jr_aload_n R1 d_50_62 rfl ?_
  refine jr_getf R1 d_50_63 ((rd_o hB4 (by omega)).trans m1) (by decide) rfl ?_
  refine jr_iconst R1 d_50_66 ?_
  refine jr_isub R1 d_50_67 ?_
  refine jr_reti R3 d_50_68 rfl ?_
  exact ⟨by rw [show (cnt : Int) + 1 - 1 = cnt by omega], rfl⟩
