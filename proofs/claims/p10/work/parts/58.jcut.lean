/-! TOKENS ARE CUT -/
theorem hc_cutNumber {lch : Launch} {d : Nat} {B : mj_M} {nn : Nat} {g : Nat → Int} {tk at' fl sc : Int} {S P V ST E : Nat → Int} {p : Nat} (hd : 2 ≤ d) (hB : 25 ≤ B.length) (hTp : B[19]? = some (hA 0 160 g)) (hg : ∀ j, hr (g j)) (hn9 : nn ≤ 160) (hat : 0 ≤ at' ∧ at' ≤ 160) (hfl : -1 ≤ fl ∧ fl ≤ 160) (htk : 0 ≤ tk ∧ tk < 161) (hp : p ≤ nn) : mj_Me lch 27 d 0 0 [.ref 18, hv (p : Int)] (rd B ((nn : Int)) tk at' fl sc S P V ST E) (fun rv M' => rv = some (hv ((hp_rn hp_dg g nn p : Nat) : Int)) ∧ ∃ z, M' = rd B (nn : Int) (tk + 1) at' fl sc (hu S tk.toNat (if 4 < hp_rn hp_dg g nn p - p then 303 else 301)) (hu P tk.toNat (p : Int)) (hu V tk.toNat z) ST E) := by
  refine mj_Me_of4 (by decide) (by omega) (Nat.le_of_ble_eq_true rfl) ?_
  intro L xs J R1 R2 R3 R4
  have hl : ∀ (e to : Nat) (v : Int), nn - to ≤ e → p ≤ to → to ≤ nn → hp_rn hp_dg g nn to = hp_rn hp_dg g nn p → J 0 0 (rd B ((nn : Int)) tk at' fl sc S P V ST E) 4 [(3, hv ((to : Int))), (2, hv v), (1, hv ((p : Int))), (0, .ref 18)] [] := by
    intro e
    induction e with
    | zero =>
      intro to v he h1 h2 hto
      have hend : hp_rn hp_dg g nn to = to := hp_rn_out (by omega)
      refine jr_iload_n R1 d_27_4 rfl ?_
      refine jr_aload_n R1 d_27_5 rfl ?_
      refine jr_getf R1 d_27_6 (rd_18 hB) (by decide) rfl ?_
      refine jr_icmp R1 true d_27_9 (by first | assumption | exact hg _ | exact hS _ | exact hV _ | exact hP _ | exact hT _ | exact ⟨by omega, by omega⟩) (by first | assumption | exact hg _ | exact hS _ | exact hV _ | exact hP _ | exact hT _ | exact ⟨by omega, by omega⟩) (by unfold hcb; first | exact decide_eq_true (by omega) | exact decide_eq_false (by omega)) (by decide) (pc' := 45) rfl ?_
      refine jr_aload_n R1 d_27_45 rfl ?_
      refine jr_iload_n R1 d_27_46 rfl ?_
      refine jr_iload_n R1 d_27_47 rfl ?_
      refine jr_isub R1 d_27_48 ?_
      refine jr_iconst R1 d_27_49 ?_
      by_cases h1 : 4 < ((to : Int)) - ((p : Int))
      · refine jr_icmp R1 false d_27_50 (by first | assumption | exact hg _ | exact hS _ | exact hV _ | exact hP _ | exact hT _ | exact ⟨by omega, by omega⟩) (by first | assumption | exact hg _ | exact hS _ | exact hV _ | exact hP _ | exact hT _ | exact ⟨by omega, by omega⟩) (by unfold hcb; first | exact decide_eq_true (by omega) | exact decide_eq_false (by omega)) (by decide) (pc' := 53) rfl ?_
        refine jr_sipush R1 d_27_53 (by decide) ?_
        refine jr_goto R1 d_27_56 (by decide) (pc' := 62) rfl ?_
        refine jr_iload_n R1 d_27_62 rfl ?_
        refine jr_iload_n R1 d_27_63 rfl ?_
        refine jr_callv R2 d_27_64 (by decide) rfl (as := [.ref 18, hv 303, hv ((p : Int)), hv v]) (rest := []) rfl (by unfold mj_rc; rw [show (_ : List Value).headD _ = .ref 18 from rfl]; simp only [rd_18 hB]; decide) (hc_token (d := 1) (by omega) hB (by omega) (by omega) (by omega) (by omega)) (by omega) (Nat.le_of_ble_eq_true rfl) ?_
        rintro rv M9 ⟨rfl, rfl⟩
        show J 0 0 (rd B ((nn : Int)) (tk + 1) at' fl sc ((hu S tk.toNat 303)) ((hu P tk.toNat ((p : Int)))) ((hu V tk.toNat v)) ST E) 67 [(3, hv ((to : Int))), (2, hv v), (1, hv ((p : Int))), (0, .ref 18)] []
        refine jr_iload_n R1 d_27_67 rfl ?_
        refine jr_reti R3 d_27_68 rfl ?_
        first | (exfalso; omega) | skip
        refine ⟨by rw [← hto, hend], v, ?_⟩
        rw [← hto, hend]
        first | (rw [if_pos (by omega)]) | (rw [if_neg (by omega)])
      · refine jr_icmp R1 true d_27_50 (by first | assumption | exact hg _ | exact hS _ | exact hV _ | exact hP _ | exact hT _ | exact ⟨by omega, by omega⟩) (by first | assumption | exact hg _ | exact hS _ | exact hV _ | exact hP _ | exact hT _ | exact ⟨by omega, by omega⟩) (by unfold hcb; first | exact decide_eq_true (by omega) | exact decide_eq_false (by omega)) (by decide) (pc' := 59) rfl ?_
        refine jr_sipush R1 d_27_59 (by decide) ?_
        refine jr_iload_n R1 d_27_62 rfl ?_
        refine jr_iload_n R1 d_27_63 rfl ?_
        refine jr_callv R2 d_27_64 (by decide) rfl (as := [.ref 18, hv 301, hv ((p : Int)), hv v]) (rest := []) rfl (by unfold mj_rc; rw [show (_ : List Value).headD _ = .ref 18 from rfl]; simp only [rd_18 hB]; decide) (hc_token (d := 1) (by omega) hB (by omega) (by omega) (by omega) (by omega)) (by omega) (Nat.le_of_ble_eq_true rfl) ?_
        rintro rv M9 ⟨rfl, rfl⟩
        show J 0 0 (rd B ((nn : Int)) (tk + 1) at' fl sc ((hu S tk.toNat 301)) ((hu P tk.toNat ((p : Int)))) ((hu V tk.toNat v)) ST E) 67 [(3, hv ((to : Int))), (2, hv v), (1, hv ((p : Int))), (0, .ref 18)] []
        refine jr_iload_n R1 d_27_67 rfl ?_
        refine jr_reti R3 d_27_68 rfl ?_
        first | (exfalso; omega) | skip
        refine ⟨by rw [← hto, hend], v, ?_⟩
        rw [← hto, hend]
        first | (rw [if_pos (by omega)]) | (rw [if_neg (by omega)])
    | succ e ih =>
      intro to v he h1 h2 hto
      by_cases hlt : to < nn
      · by_cases hj : hp_dg (g to) = true
        · skip
          refine jr_iload_n R1 d_27_4 rfl ?_
          refine jr_aload_n R1 d_27_5 rfl ?_
          refine jr_getf R1 d_27_6 (rd_18 hB) (by decide) rfl ?_
          refine jr_icmp R1 false d_27_9 (by first | assumption | exact hg _ | exact hS _ | exact hV _ | exact hP _ | exact hT _ | exact ⟨by omega, by omega⟩) (by first | assumption | exact hg _ | exact hS _ | exact hV _ | exact hP _ | exact hT _ | exact ⟨by omega, by omega⟩) (by unfold hcb; first | exact decide_eq_true (by omega) | exact decide_eq_false (by omega)) (by decide) (pc' := 12) rfl ?_
          refine jr_aload_n R1 d_27_12 rfl ?_
          refine jr_getf R1 d_27_13 (rd_18 hB) (by decide) rfl ?_
          refine jr_iload_n R1 d_27_16 rfl ?_
          refine jr_iald R1 d_27_17 (rd_19 hB hTp) (by omega) (by omega) (by decide) ?_
          refine jr_calls R2 d_27_18 (by decide) (by decide) rfl (as := [hv (g ((to : Int)).toNat)]) (rest := []) rfl (hc_isDigit (d := 1) (M := rd B ((nn : Int)) tk at' fl sc S P V ST E) (by omega) (hg _)) (by omega) (Nat.le_of_ble_eq_true rfl) ?_
          rintro rv M9 ⟨rfl, rfl⟩
          rw [ha_tn, if_pos hj]
          show J 0 0 (rd B ((nn : Int)) tk at' fl sc S P V ST E) 21 [(3, hv ((to : Int))), (2, hv v), (1, hv ((p : Int))), (0, .ref 18)] [hv 1]
          refine jr_ifc R1 false d_27_21 (by first | assumption | exact hg _ | exact hS _ | exact hV _ | exact hP _ | exact hT _ | exact ⟨by omega, by omega⟩) (by unfold hcb; first | exact decide_eq_true (by omega) | exact decide_eq_false (by omega)) (by decide) (pc' := 24) rfl ?_
          refine jr_iload_n R1 d_27_24 rfl ?_
          refine jr_bipush R1 d_27_25 (by decide) ?_
          refine jr_imul R1 d_27_27 ?_
          refine jr_aload_n R1 d_27_28 rfl ?_
          refine jr_getf R1 d_27_29 (rd_18 hB) (by decide) rfl ?_
          refine jr_iload_n R1 d_27_32 rfl ?_
          refine jr_iald R1 d_27_33 (rd_19 hB hTp) (by omega) (by omega) (by decide) ?_
          refine jr_iadd R1 d_27_34 ?_
          refine jr_bipush R1 d_27_35 (by decide) ?_
          refine jr_isub R1 d_27_37 ?_
          refine jr_istore_n R1 d_27_38 (by decide) (lo' := [(2, hv ((v * 10 + (g ((to : Int)).toNat)) - 48)), (3, hv ((to : Int))), (1, hv ((p : Int))), (0, .ref 18)]) rfl ?_
          refine jr_iinc R1 d_27_39 (by decide) rfl (lo' := [(3, hv ((to : Int) + 1)), (2, hv ((v * 10 + (g ((to : Int)).toNat)) - 48)), (1, hv ((p : Int))), (0, .ref 18)]) rfl ?_
          refine jr_goto R1 d_27_42 (by decide) (pc' := 4) rfl ?_
          refine R4 0 0 _ 4 _ [(3, hv ((to : Int) + 1)), (2, hv ((v * 10 + (g ((to : Int)).toNat)) - 48)), (1, hv (p : Int)), (0, .ref 18)] _ (fun z hz => by simp only [List.mem_cons, List.not_mem_nil, or_false] at hz ⊢; rcases hz with rfl | rfl | rfl | rfl <;> simp) ?_
          exact ih (to + 1) _ (by omega) (by omega) (by omega) (by rw [← hto, ← hp_rn_go (by omega) hj])
        · have hend : hp_rn hp_dg g nn to = to := hp_rn_no (by simpa using hj)
          refine jr_iload_n R1 d_27_4 rfl ?_
          refine jr_aload_n R1 d_27_5 rfl ?_
          refine jr_getf R1 d_27_6 (rd_18 hB) (by decide) rfl ?_
          refine jr_icmp R1 false d_27_9 (by first | assumption | exact hg _ | exact hS _ | exact hV _ | exact hP _ | exact hT _ | exact ⟨by omega, by omega⟩) (by first | assumption | exact hg _ | exact hS _ | exact hV _ | exact hP _ | exact hT _ | exact ⟨by omega, by omega⟩) (by unfold hcb; first | exact decide_eq_true (by omega) | exact decide_eq_false (by omega)) (by decide) (pc' := 12) rfl ?_
          refine jr_aload_n R1 d_27_12 rfl ?_
          refine jr_getf R1 d_27_13 (rd_18 hB) (by decide) rfl ?_
          refine jr_iload_n R1 d_27_16 rfl ?_
          refine jr_iald R1 d_27_17 (rd_19 hB hTp) (by omega) (by omega) (by decide) ?_
          refine jr_calls R2 d_27_18 (by decide) (by decide) rfl (as := [hv (g ((to : Int)).toNat)]) (rest := []) rfl (hc_isDigit (d := 1) (M := rd B ((nn : Int)) tk at' fl sc S P V ST E) (by omega) (hg _)) (by omega) (Nat.le_of_ble_eq_true rfl) ?_
          rintro rv M9 ⟨rfl, rfl⟩
          rw [ha_tn, if_neg hj]
          show J 0 0 (rd B ((nn : Int)) tk at' fl sc S P V ST E) 21 [(3, hv ((to : Int))), (2, hv v), (1, hv ((p : Int))), (0, .ref 18)] [hv 0]
          refine jr_ifc R1 true d_27_21 (by first | assumption | exact hg _ | exact hS _ | exact hV _ | exact hP _ | exact hT _ | exact ⟨by omega, by omega⟩) (by unfold hcb; first | exact decide_eq_true (by omega) | exact decide_eq_false (by omega)) (by decide) (pc' := 45) rfl ?_
          refine jr_aload_n R1 d_27_45 rfl ?_
          refine jr_iload_n R1 d_27_46 rfl ?_
          refine jr_iload_n R1 d_27_47 rfl ?_
          refine jr_isub R1 d_27_48 ?_
          refine jr_iconst R1 d_27_49 ?_
          by_cases h1 : 4 < ((to : Int)) - ((p : Int))
          · refine jr_icmp R1 false d_27_50 (by first | assumption | exact hg _ | exact hS _ | exact hV _ | exact hP _ | exact hT _ | exact ⟨by omega, by omega⟩) (by first | assumption | exact hg _ | exact hS _ | exact hV _ | exact hP _ | exact hT _ | exact ⟨by omega, by omega⟩) (by unfold hcb; first | exact decide_eq_true (by omega) | exact decide_eq_false (by omega)) (by decide) (pc' := 53) rfl ?_
            refine jr_sipush R1 d_27_53 (by decide) ?_
            refine jr_goto R1 d_27_56 (by decide) (pc' := 62) rfl ?_
            refine jr_iload_n R1 d_27_62 rfl ?_
            refine jr_iload_n R1 d_27_63 rfl ?_
            refine jr_callv R2 d_27_64 (by decide) rfl (as := [.ref 18, hv 303, hv ((p : Int)), hv v]) (rest := []) rfl (by unfold mj_rc; rw [show (_ : List Value).headD _ = .ref 18 from rfl]; simp only [rd_18 hB]; decide) (hc_token (d := 1) (by omega) hB (by omega) (by omega) (by omega) (by omega)) (by omega) (Nat.le_of_ble_eq_true rfl) ?_
            rintro rv M9 ⟨rfl, rfl⟩
            show J 0 0 (rd B ((nn : Int)) (tk + 1) at' fl sc ((hu S tk.toNat 303)) ((hu P tk.toNat ((p : Int)))) ((hu V tk.toNat v)) ST E) 67 [(3, hv ((to : Int))), (2, hv v), (1, hv ((p : Int))), (0, .ref 18)] []
            refine jr_iload_n R1 d_27_67 rfl ?_
            refine jr_reti R3 d_27_68 rfl ?_
            first | (exfalso; omega) | skip
            refine ⟨by rw [← hto, hend], v, ?_⟩
            rw [← hto, hend]
            first | (rw [if_pos (by omega)]) | (rw [if_neg (by omega)])
          · refine jr_icmp R1 true d_27_50 (by first | assumption | exact hg _ | exact hS _ | exact hV _ | exact hP _ | exact hT _ | exact ⟨by omega, by omega⟩) (by first | assumption | exact hg _ | exact hS _ | exact hV _ | exact hP _ | exact hT _ | exact ⟨by omega, by omega⟩) (by unfold hcb; first | exact decide_eq_true (by omega) | exact decide_eq_false (by omega)) (by decide) (pc' := 59) rfl ?_
            refine jr_sipush R1 d_27_59 (by decide) ?_
            refine jr_iload_n R1 d_27_62 rfl ?_
            refine jr_iload_n R1 d_27_63 rfl ?_
            refine jr_callv R2 d_27_64 (by decide) rfl (as := [.ref 18, hv 301, hv ((p : Int)), hv v]) (rest := []) rfl (by unfold mj_rc; rw [show (_ : List Value).headD _ = .ref 18 from rfl]; simp only [rd_18 hB]; decide) (hc_token (d := 1) (by omega) hB (by omega) (by omega) (by omega) (by omega)) (by omega) (Nat.le_of_ble_eq_true rfl) ?_
            rintro rv M9 ⟨rfl, rfl⟩
            show J 0 0 (rd B ((nn : Int)) (tk + 1) at' fl sc ((hu S tk.toNat 301)) ((hu P tk.toNat ((p : Int)))) ((hu V tk.toNat v)) ST E) 67 [(3, hv ((to : Int))), (2, hv v), (1, hv ((p : Int))), (0, .ref 18)] []
            refine jr_iload_n R1 d_27_67 rfl ?_
            refine jr_reti R3 d_27_68 rfl ?_
            first | (exfalso; omega) | skip
            refine ⟨by rw [← hto, hend], v, ?_⟩
            rw [← hto, hend]
            first | (rw [if_pos (by omega)]) | (rw [if_neg (by omega)])
      · have hend : hp_rn hp_dg g nn to = to := hp_rn_out (by omega)
        refine jr_iload_n R1 d_27_4 rfl ?_
        refine jr_aload_n R1 d_27_5 rfl ?_
        refine jr_getf R1 d_27_6 (rd_18 hB) (by decide) rfl ?_
        refine jr_icmp R1 true d_27_9 (by first | assumption | exact hg _ | exact hS _ | exact hV _ | exact hP _ | exact hT _ | exact ⟨by omega, by omega⟩) (by first | assumption | exact hg _ | exact hS _ | exact hV _ | exact hP _ | exact hT _ | exact ⟨by omega, by omega⟩) (by unfold hcb; first | exact decide_eq_true (by omega) | exact decide_eq_false (by omega)) (by decide) (pc' := 45) rfl ?_
        refine jr_aload_n R1 d_27_45 rfl ?_
        refine jr_iload_n R1 d_27_46 rfl ?_
        refine jr_iload_n R1 d_27_47 rfl ?_
        refine jr_isub R1 d_27_48 ?_
        refine jr_iconst R1 d_27_49 ?_
        by_cases h1 : 4 < ((to : Int)) - ((p : Int))
        · refine jr_icmp R1 false d_27_50 (by first | assumption | exact hg _ | exact hS _ | exact hV _ | exact hP _ | exact hT _ | exact ⟨by omega, by omega⟩) (by first | assumption | exact hg _ | exact hS _ | exact hV _ | exact hP _ | exact hT _ | exact ⟨by omega, by omega⟩) (by unfold hcb; first | exact decide_eq_true (by omega) | exact decide_eq_false (by omega)) (by decide) (pc' := 53) rfl ?_
          refine jr_sipush R1 d_27_53 (by decide) ?_
          refine jr_goto R1 d_27_56 (by decide) (pc' := 62) rfl ?_
          refine jr_iload_n R1 d_27_62 rfl ?_
          refine jr_iload_n R1 d_27_63 rfl ?_
          refine jr_callv R2 d_27_64 (by decide) rfl (as := [.ref 18, hv 303, hv ((p : Int)), hv v]) (rest := []) rfl (by unfold mj_rc; rw [show (_ : List Value).headD _ = .ref 18 from rfl]; simp only [rd_18 hB]; decide) (hc_token (d := 1) (by omega) hB (by omega) (by omega) (by omega) (by omega)) (by omega) (Nat.le_of_ble_eq_true rfl) ?_
          rintro rv M9 ⟨rfl, rfl⟩
          show J 0 0 (rd B ((nn : Int)) (tk + 1) at' fl sc ((hu S tk.toNat 303)) ((hu P tk.toNat ((p : Int)))) ((hu V tk.toNat v)) ST E) 67 [(3, hv ((to : Int))), (2, hv v), (1, hv ((p : Int))), (0, .ref 18)] []
          refine jr_iload_n R1 d_27_67 rfl ?_
          refine jr_reti R3 d_27_68 rfl ?_
          first | (exfalso; omega) | skip
          refine ⟨by rw [← hto, hend], v, ?_⟩
          rw [← hto, hend]
          first | (rw [if_pos (by omega)]) | (rw [if_neg (by omega)])
        · refine jr_icmp R1 true d_27_50 (by first | assumption | exact hg _ | exact hS _ | exact hV _ | exact hP _ | exact hT _ | exact ⟨by omega, by omega⟩) (by first | assumption | exact hg _ | exact hS _ | exact hV _ | exact hP _ | exact hT _ | exact ⟨by omega, by omega⟩) (by unfold hcb; first | exact decide_eq_true (by omega) | exact decide_eq_false (by omega)) (by decide) (pc' := 59) rfl ?_
          refine jr_sipush R1 d_27_59 (by decide) ?_
          refine jr_iload_n R1 d_27_62 rfl ?_
          refine jr_iload_n R1 d_27_63 rfl ?_
          refine jr_callv R2 d_27_64 (by decide) rfl (as := [.ref 18, hv 301, hv ((p : Int)), hv v]) (rest := []) rfl (by unfold mj_rc; rw [show (_ : List Value).headD _ = .ref 18 from rfl]; simp only [rd_18 hB]; decide) (hc_token (d := 1) (by omega) hB (by omega) (by omega) (by omega) (by omega)) (by omega) (Nat.le_of_ble_eq_true rfl) ?_
          rintro rv M9 ⟨rfl, rfl⟩
          show J 0 0 (rd B ((nn : Int)) (tk + 1) at' fl sc ((hu S tk.toNat 301)) ((hu P tk.toNat ((p : Int)))) ((hu V tk.toNat v)) ST E) 67 [(3, hv ((to : Int))), (2, hv v), (1, hv ((p : Int))), (0, .ref 18)] []
          refine jr_iload_n R1 d_27_67 rfl ?_
          refine jr_reti R3 d_27_68 rfl ?_
          first | (exfalso; omega) | skip
          refine ⟨by rw [← hto, hend], v, ?_⟩
          rw [← hto, hend]
          first | (rw [if_pos (by omega)]) | (rw [if_neg (by omega)])
  show J 0 0 (rd B ((nn : Int)) tk at' fl sc S P V ST E) 0 [(0, .ref 18), (1, hv (p : Int))] []
  refine jr_iconst R1 d_27_0 ?_
  refine jr_istore_n R1 d_27_1 (by decide) (lo' := [(2, hv 0), (0, .ref 18), (1, hv ((p : Int)))]) rfl ?_
  refine jr_iload_n R1 d_27_2 rfl ?_
  refine jr_istore_n R1 d_27_3 (by decide) (lo' := [(3, hv ((p : Int))), (2, hv 0), (0, .ref 18), (1, hv ((p : Int)))]) rfl ?_
  refine R4 0 0 _ 4 _ [(3, hv (p : Int)), (2, hv 0), (1, hv (p : Int)), (0, .ref 18)] _ (fun z hz => by simp only [List.mem_cons, List.not_mem_nil, or_false] at hz ⊢; rcases hz with rfl | rfl | rfl | rfl <;> simp) ?_
  exact hl (nn - p) p 0 (Nat.le_refl _) (Nat.le_refl _) hp rfl
