/-! CUTWORD -/
theorem hc_cutWord {lch : Launch} {d : Nat} {B : mj_M} {nn : Nat} {g : Nat → Int} {tk at' fl sc : Int} {S P V ST E : Nat → Int} {p : Nat} (hd : 7 ≤ d) (hB : 25 ≤ B.length) (hTp : B[19]? = some (hA 0 160 g)) (hg : ∀ j, hr (g j)) (hn9 : nn ≤ 160) (hat : 0 ≤ at' ∧ at' ≤ 160) (hfl : -1 ≤ fl ∧ fl ≤ 160) (htk : 0 ≤ tk ∧ tk < 161) (hp : p ≤ nn) : mj_Me lch 28 d 0 0 [.ref 18, hv (p : Int)] (rd B ((nn : Int)) tk at' fl sc S P V ST E) (fun rv M' => rv = some (hv ((hp_rn hp_lt g nn p : Nat) : Int)) ∧ ∃ z, M' = rd B (nn : Int) (tk + 1) at' fl sc (hu S tk.toNat (if hp_wd g p (hp_rn hp_lt g nn p) = 12 then 303 else if hp_wd g p (hp_rn hp_lt g nn p) < 6 then 300 else 256 + (hp_wd g p (hp_rn hp_lt g nn p) : Int))) (hu P tk.toNat (p : Int)) (hu V tk.toNat z) ST E) := by
  refine mj_Me_of4 (by decide) (by omega) (Nat.le_of_ble_eq_true rfl) ?_
  intro L xs J R1 R2 R3 R4
  have hl : ∀ (e to : Nat), nn - to ≤ e → p ≤ to → to ≤ nn → hp_rn hp_lt g nn to = hp_rn hp_lt g nn p → J 0 0 (rd B ((nn : Int)) tk at' fl sc S P V ST E) 2 [(2, hv ((to : Int))), (1, hv ((p : Int))), (0, .ref 18)] [] := by
    intro e
    induction e with
    | zero =>
      intro to he h1 h2 hto
      have hend : hp_rn hp_lt g nn to = to := hp_rn_out (by omega)
      refine jr_iload_n R1 d_28_2 rfl ?_
      refine jr_aload_n R1 d_28_3 rfl ?_
      refine jr_getf R1 d_28_4 (rd_18 hB) (by decide) rfl ?_
      refine jr_icmp R1 true d_28_7 (by first | assumption | exact hg _ | exact hS _ | exact hV _ | exact hP _ | exact hT _ | exact ⟨by omega, by omega⟩) (by first | assumption | exact hg _ | exact hS _ | exact hV _ | exact hP _ | exact hT _ | exact ⟨by omega, by omega⟩) (by unfold hcb; first | exact decide_eq_true (by omega) | exact decide_eq_false (by omega)) (by decide) (pc' := 28) rfl ?_
      refine jr_aload_n R1 d_28_28 rfl ?_
      refine jr_iload_n R1 d_28_29 rfl ?_
      refine jr_iload_n R1 d_28_30 rfl ?_
      by_cases hw : hp_wd g p to = 12
      · skip
        refine jr_callv R2 d_28_31 (by decide) rfl (as := [.ref 18, hv ((p : Int)), hv ((to : Int))]) (rest := []) rfl (by unfold mj_rc; rw [show (_ : List Value).headD _ = .ref 18 from rfl]; simp only [rd_18 hB]; decide) (hc_wordAt (d := 6) (p := p) (q := to) (by omega) hB hTp hg hn9 hat hfl (by omega) (by omega)) (by omega) (Nat.le_of_ble_eq_true rfl) ?_
        rintro rv M9 ⟨rfl, rfl⟩
        rw [if_pos hw]
        show J 0 0 (rd B ((nn : Int)) tk at' fl sc S P V ST E) 34 [(2, hv ((to : Int))), (1, hv ((p : Int))), (0, .ref 18)] [hv ((-1))]
        refine jr_istore_n R1 d_28_34 (by decide) (lo' := [(3, hv ((-1))), (2, hv ((to : Int))), (1, hv ((p : Int))), (0, .ref 18)]) rfl ?_
        refine jr_iload_n R1 d_28_35 rfl ?_
        refine jr_iconst R1 d_28_36 ?_
        refine jr_icmp R1 false d_28_37 (by first | assumption | exact hg _ | exact hS _ | exact hV _ | exact hP _ | exact hT _ | exact ⟨by omega, by omega⟩) (by first | assumption | exact hg _ | exact hS _ | exact hV _ | exact hP _ | exact hT _ | exact ⟨by omega, by omega⟩) (by unfold hcb; first | exact decide_eq_true (by omega) | exact decide_eq_false (by omega)) (by decide) (pc' := 40) rfl ?_
        refine jr_aload_n R1 d_28_40 rfl ?_
        refine jr_sipush R1 d_28_41 (by decide) ?_
        refine jr_iload_n R1 d_28_44 rfl ?_
        refine jr_iconst R1 d_28_45 ?_
        refine jr_callv R2 d_28_46 (by decide) rfl (as := [.ref 18, hv 303, hv ((p : Int)), hv 0]) (rest := []) rfl (by unfold mj_rc; rw [show (_ : List Value).headD _ = .ref 18 from rfl]; simp only [rd_18 hB]; decide) (hc_token (d := 1) (by omega) hB (by omega) (by omega) (by omega) (by omega)) (by omega) (Nat.le_of_ble_eq_true rfl) ?_
        rintro rv M9 ⟨rfl, rfl⟩
        show J 0 0 (rd B ((nn : Int)) (tk + 1) at' fl sc ((hu S tk.toNat 303)) ((hu P tk.toNat ((p : Int)))) ((hu V tk.toNat 0)) ST E) 49 [(3, hv ((-1))), (2, hv ((to : Int))), (1, hv ((p : Int))), (0, .ref 18)] []
        refine jr_goto R1 d_28_49 (by decide) (pc' := 81) rfl ?_
        refine jr_iload_n R1 d_28_81 rfl ?_
        refine jr_reti R3 d_28_82 rfl ?_
        first | (exfalso; omega) | (rw [← hto, hend, if_pos hw]; exact ⟨rfl, _, rfl⟩) | (rw [← hto, hend, if_neg hw, if_pos (by omega)]; exact ⟨rfl, _, rfl⟩) | (rw [← hto, hend, if_neg hw, if_neg (by omega)]; exact ⟨rfl, _, rfl⟩)
      · skip
        refine jr_callv R2 d_28_31 (by decide) rfl (as := [.ref 18, hv ((p : Int)), hv ((to : Int))]) (rest := []) rfl (by unfold mj_rc; rw [show (_ : List Value).headD _ = .ref 18 from rfl]; simp only [rd_18 hB]; decide) (hc_wordAt (d := 6) (p := p) (q := to) (by omega) hB hTp hg hn9 hat hfl (by omega) (by omega)) (by omega) (Nat.le_of_ble_eq_true rfl) ?_
        rintro rv M9 ⟨rfl, rfl⟩
        rw [if_neg hw]
        have hwl := hp_wd_le (b := g) (p := p) (q := to)
        show J 0 0 (rd B ((nn : Int)) tk at' fl sc S P V ST E) 34 [(2, hv ((to : Int))), (1, hv ((p : Int))), (0, .ref 18)] [hv ((hp_wd g p to : Int))]
        refine jr_istore_n R1 d_28_34 (by decide) (lo' := [(3, hv ((hp_wd g p to : Int))), (2, hv ((to : Int))), (1, hv ((p : Int))), (0, .ref 18)]) rfl ?_
        refine jr_iload_n R1 d_28_35 rfl ?_
        refine jr_iconst R1 d_28_36 ?_
        by_cases h1 : (hp_wd g p to : Int) = (-1)
        · refine jr_icmp R1 false d_28_37 (by first | assumption | exact hg _ | exact hS _ | exact hV _ | exact hP _ | exact hT _ | exact ⟨by omega, by omega⟩) (by first | assumption | exact hg _ | exact hS _ | exact hV _ | exact hP _ | exact hT _ | exact ⟨by omega, by omega⟩) (by unfold hcb; first | exact decide_eq_true (by omega) | exact decide_eq_false (by omega)) (by decide) (pc' := 40) rfl ?_
          refine jr_aload_n R1 d_28_40 rfl ?_
          refine jr_sipush R1 d_28_41 (by decide) ?_
          refine jr_iload_n R1 d_28_44 rfl ?_
          refine jr_iconst R1 d_28_45 ?_
          refine jr_callv R2 d_28_46 (by decide) rfl (as := [.ref 18, hv 303, hv ((p : Int)), hv 0]) (rest := []) rfl (by unfold mj_rc; rw [show (_ : List Value).headD _ = .ref 18 from rfl]; simp only [rd_18 hB]; decide) (hc_token (d := 1) (by omega) hB (by omega) (by omega) (by omega) (by omega)) (by omega) (Nat.le_of_ble_eq_true rfl) ?_
          rintro rv M9 ⟨rfl, rfl⟩
          show J 0 0 (rd B ((nn : Int)) (tk + 1) at' fl sc ((hu S tk.toNat 303)) ((hu P tk.toNat ((p : Int)))) ((hu V tk.toNat 0)) ST E) 49 [(3, hv ((hp_wd g p to : Int))), (2, hv ((to : Int))), (1, hv ((p : Int))), (0, .ref 18)] []
          refine jr_goto R1 d_28_49 (by decide) (pc' := 81) rfl ?_
          refine jr_iload_n R1 d_28_81 rfl ?_
          refine jr_reti R3 d_28_82 rfl ?_
          first | (exfalso; omega) | (rw [← hto, hend, if_pos hw]; exact ⟨rfl, _, rfl⟩) | (rw [← hto, hend, if_neg hw, if_pos (by omega)]; exact ⟨rfl, _, rfl⟩) | (rw [← hto, hend, if_neg hw, if_neg (by omega)]; exact ⟨rfl, _, rfl⟩)
        · refine jr_icmp R1 true d_28_37 (by first | assumption | exact hg _ | exact hS _ | exact hV _ | exact hP _ | exact hT _ | exact ⟨by omega, by omega⟩) (by first | assumption | exact hg _ | exact hS _ | exact hV _ | exact hP _ | exact hT _ | exact ⟨by omega, by omega⟩) (by unfold hcb; first | exact decide_eq_true (by omega) | exact decide_eq_false (by omega)) (by decide) (pc' := 52) rfl ?_
          refine jr_iload_n R1 d_28_52 rfl ?_
          refine jr_bipush R1 d_28_53 (by decide) ?_
          by_cases h2 : (hp_wd g p to : Int) < 6
          · refine jr_icmp R1 false d_28_55 (by first | assumption | exact hg _ | exact hS _ | exact hV _ | exact hP _ | exact hT _ | exact ⟨by omega, by omega⟩) (by first | assumption | exact hg _ | exact hS _ | exact hV _ | exact hP _ | exact hT _ | exact ⟨by omega, by omega⟩) (by unfold hcb; first | exact decide_eq_true (by omega) | exact decide_eq_false (by omega)) (by decide) (pc' := 58) rfl ?_
            refine jr_aload_n R1 d_28_58 rfl ?_
            refine jr_sipush R1 d_28_59 (by decide) ?_
            refine jr_iload_n R1 d_28_62 rfl ?_
            refine jr_iload_n R1 d_28_63 rfl ?_
            refine jr_callv R2 d_28_64 (by decide) rfl (as := [.ref 18, hv 300, hv ((p : Int)), hv ((hp_wd g p to : Int))]) (rest := []) rfl (by unfold mj_rc; rw [show (_ : List Value).headD _ = .ref 18 from rfl]; simp only [rd_18 hB]; decide) (hc_token (d := 1) (by omega) hB (by omega) (by omega) (by omega) (by omega)) (by omega) (Nat.le_of_ble_eq_true rfl) ?_
            rintro rv M9 ⟨rfl, rfl⟩
            show J 0 0 (rd B ((nn : Int)) (tk + 1) at' fl sc ((hu S tk.toNat 300)) ((hu P tk.toNat ((p : Int)))) ((hu V tk.toNat ((hp_wd g p to : Int)))) ST E) 67 [(3, hv ((hp_wd g p to : Int))), (2, hv ((to : Int))), (1, hv ((p : Int))), (0, .ref 18)] []
            refine jr_goto R1 d_28_67 (by decide) (pc' := 81) rfl ?_
            refine jr_iload_n R1 d_28_81 rfl ?_
            refine jr_reti R3 d_28_82 rfl ?_
            first | (exfalso; omega) | (rw [← hto, hend, if_pos hw]; exact ⟨rfl, _, rfl⟩) | (rw [← hto, hend, if_neg hw, if_pos (by omega)]; exact ⟨rfl, _, rfl⟩) | (rw [← hto, hend, if_neg hw, if_neg (by omega)]; exact ⟨rfl, _, rfl⟩)
          · refine jr_icmp R1 true d_28_55 (by first | assumption | exact hg _ | exact hS _ | exact hV _ | exact hP _ | exact hT _ | exact ⟨by omega, by omega⟩) (by first | assumption | exact hg _ | exact hS _ | exact hV _ | exact hP _ | exact hT _ | exact ⟨by omega, by omega⟩) (by unfold hcb; first | exact decide_eq_true (by omega) | exact decide_eq_false (by omega)) (by decide) (pc' := 70) rfl ?_
            refine jr_aload_n R1 d_28_70 rfl ?_
            refine jr_sipush R1 d_28_71 (by decide) ?_
            refine jr_iload_n R1 d_28_74 rfl ?_
            refine jr_iadd R1 d_28_75 ?_
            refine jr_iload_n R1 d_28_76 rfl ?_
            refine jr_iconst R1 d_28_77 ?_
            refine jr_callv R2 d_28_78 (by decide) rfl (as := [.ref 18, hv (256 + ((hp_wd g p to : Int))), hv ((p : Int)), hv 0]) (rest := []) rfl (by unfold mj_rc; rw [show (_ : List Value).headD _ = .ref 18 from rfl]; simp only [rd_18 hB]; decide) (hc_token (d := 1) (by omega) hB (by omega) (by omega) (by omega) (by omega)) (by omega) (Nat.le_of_ble_eq_true rfl) ?_
            rintro rv M9 ⟨rfl, rfl⟩
            show J 0 0 (rd B ((nn : Int)) (tk + 1) at' fl sc ((hu S tk.toNat (256 + ((hp_wd g p to : Int))))) ((hu P tk.toNat ((p : Int)))) ((hu V tk.toNat 0)) ST E) 81 [(3, hv ((hp_wd g p to : Int))), (2, hv ((to : Int))), (1, hv ((p : Int))), (0, .ref 18)] []
            refine jr_iload_n R1 d_28_81 rfl ?_
            refine jr_reti R3 d_28_82 rfl ?_
            first | (exfalso; omega) | (rw [← hto, hend, if_pos hw]; exact ⟨rfl, _, rfl⟩) | (rw [← hto, hend, if_neg hw, if_pos (by omega)]; exact ⟨rfl, _, rfl⟩) | (rw [← hto, hend, if_neg hw, if_neg (by omega)]; exact ⟨rfl, _, rfl⟩)
    | succ e ih =>
      intro to he h1 h2 hto
      by_cases hlt : to < nn
      · by_cases hj : hp_lt (g to) = true
        · skip
          refine jr_iload_n R1 d_28_2 rfl ?_
          refine jr_aload_n R1 d_28_3 rfl ?_
          refine jr_getf R1 d_28_4 (rd_18 hB) (by decide) rfl ?_
          refine jr_icmp R1 false d_28_7 (by first | assumption | exact hg _ | exact hS _ | exact hV _ | exact hP _ | exact hT _ | exact ⟨by omega, by omega⟩) (by first | assumption | exact hg _ | exact hS _ | exact hV _ | exact hP _ | exact hT _ | exact ⟨by omega, by omega⟩) (by unfold hcb; first | exact decide_eq_true (by omega) | exact decide_eq_false (by omega)) (by decide) (pc' := 10) rfl ?_
          refine jr_aload_n R1 d_28_10 rfl ?_
          refine jr_getf R1 d_28_11 (rd_18 hB) (by decide) rfl ?_
          refine jr_iload_n R1 d_28_14 rfl ?_
          refine jr_iald R1 d_28_15 (rd_19 hB hTp) (by omega) (by omega) (by decide) ?_
          refine jr_calls R2 d_28_16 (by decide) (by decide) rfl (as := [hv (g ((to : Int)).toNat)]) (rest := []) rfl (hc_isLetter (d := 1) (M := rd B ((nn : Int)) tk at' fl sc S P V ST E) (by omega) (hg _)) (by omega) (Nat.le_of_ble_eq_true rfl) ?_
          rintro rv M9 ⟨rfl, rfl⟩
          rw [ha_tn, if_pos hj]
          show J 0 0 (rd B ((nn : Int)) tk at' fl sc S P V ST E) 19 [(2, hv ((to : Int))), (1, hv ((p : Int))), (0, .ref 18)] [hv 1]
          refine jr_ifc R1 false d_28_19 (by first | assumption | exact hg _ | exact hS _ | exact hV _ | exact hP _ | exact hT _ | exact ⟨by omega, by omega⟩) (by unfold hcb; first | exact decide_eq_true (by omega) | exact decide_eq_false (by omega)) (by decide) (pc' := 22) rfl ?_
          refine jr_iinc R1 d_28_22 (by decide) rfl (lo' := [(2, hv ((to : Int) + 1)), (1, hv ((p : Int))), (0, .ref 18)]) rfl ?_
          refine jr_goto R1 d_28_25 (by decide) (pc' := 2) rfl ?_
          refine R4 0 0 _ 2 _ [(2, hv ((to : Int) + 1)), (1, hv (p : Int)), (0, .ref 18)] _ (fun z hz => by simp only [List.mem_cons, List.not_mem_nil, or_false] at hz ⊢; rcases hz with rfl | rfl | rfl <;> simp) ?_
          exact ih (to + 1) (by omega) (by omega) (by omega) (by rw [← hto, ← hp_rn_go (by omega) hj])
        · have hend : hp_rn hp_lt g nn to = to := hp_rn_no (by simpa using hj)
          refine jr_iload_n R1 d_28_2 rfl ?_
          refine jr_aload_n R1 d_28_3 rfl ?_
          refine jr_getf R1 d_28_4 (rd_18 hB) (by decide) rfl ?_
          refine jr_icmp R1 false d_28_7 (by first | assumption | exact hg _ | exact hS _ | exact hV _ | exact hP _ | exact hT _ | exact ⟨by omega, by omega⟩) (by first | assumption | exact hg _ | exact hS _ | exact hV _ | exact hP _ | exact hT _ | exact ⟨by omega, by omega⟩) (by unfold hcb; first | exact decide_eq_true (by omega) | exact decide_eq_false (by omega)) (by decide) (pc' := 10) rfl ?_
          refine jr_aload_n R1 d_28_10 rfl ?_
          refine jr_getf R1 d_28_11 (rd_18 hB) (by decide) rfl ?_
          refine jr_iload_n R1 d_28_14 rfl ?_
          refine jr_iald R1 d_28_15 (rd_19 hB hTp) (by omega) (by omega) (by decide) ?_
          refine jr_calls R2 d_28_16 (by decide) (by decide) rfl (as := [hv (g ((to : Int)).toNat)]) (rest := []) rfl (hc_isLetter (d := 1) (M := rd B ((nn : Int)) tk at' fl sc S P V ST E) (by omega) (hg _)) (by omega) (Nat.le_of_ble_eq_true rfl) ?_
          rintro rv M9 ⟨rfl, rfl⟩
          rw [ha_tn, if_neg hj]
          show J 0 0 (rd B ((nn : Int)) tk at' fl sc S P V ST E) 19 [(2, hv ((to : Int))), (1, hv ((p : Int))), (0, .ref 18)] [hv 0]
          refine jr_ifc R1 true d_28_19 (by first | assumption | exact hg _ | exact hS _ | exact hV _ | exact hP _ | exact hT _ | exact ⟨by omega, by omega⟩) (by unfold hcb; first | exact decide_eq_true (by omega) | exact decide_eq_false (by omega)) (by decide) (pc' := 28) rfl ?_
          refine jr_aload_n R1 d_28_28 rfl ?_
          refine jr_iload_n R1 d_28_29 rfl ?_
          refine jr_iload_n R1 d_28_30 rfl ?_
          by_cases hw : hp_wd g p to = 12
          · skip
            refine jr_callv R2 d_28_31 (by decide) rfl (as := [.ref 18, hv ((p : Int)), hv ((to : Int))]) (rest := []) rfl (by unfold mj_rc; rw [show (_ : List Value).headD _ = .ref 18 from rfl]; simp only [rd_18 hB]; decide) (hc_wordAt (d := 6) (p := p) (q := to) (by omega) hB hTp hg hn9 hat hfl (by omega) (by omega)) (by omega) (Nat.le_of_ble_eq_true rfl) ?_
            rintro rv M9 ⟨rfl, rfl⟩
            rw [if_pos hw]
            show J 0 0 (rd B ((nn : Int)) tk at' fl sc S P V ST E) 34 [(2, hv ((to : Int))), (1, hv ((p : Int))), (0, .ref 18)] [hv ((-1))]
            refine jr_istore_n R1 d_28_34 (by decide) (lo' := [(3, hv ((-1))), (2, hv ((to : Int))), (1, hv ((p : Int))), (0, .ref 18)]) rfl ?_
            refine jr_iload_n R1 d_28_35 rfl ?_
            refine jr_iconst R1 d_28_36 ?_
            refine jr_icmp R1 false d_28_37 (by first | assumption | exact hg _ | exact hS _ | exact hV _ | exact hP _ | exact hT _ | exact ⟨by omega, by omega⟩) (by first | assumption | exact hg _ | exact hS _ | exact hV _ | exact hP _ | exact hT _ | exact ⟨by omega, by omega⟩) (by unfold hcb; first | exact decide_eq_true (by omega) | exact decide_eq_false (by omega)) (by decide) (pc' := 40) rfl ?_
            refine jr_aload_n R1 d_28_40 rfl ?_
            refine jr_sipush R1 d_28_41 (by decide) ?_
            refine jr_iload_n R1 d_28_44 rfl ?_
            refine jr_iconst R1 d_28_45 ?_
            refine jr_callv R2 d_28_46 (by decide) rfl (as := [.ref 18, hv 303, hv ((p : Int)), hv 0]) (rest := []) rfl (by unfold mj_rc; rw [show (_ : List Value).headD _ = .ref 18 from rfl]; simp only [rd_18 hB]; decide) (hc_token (d := 1) (by omega) hB (by omega) (by omega) (by omega) (by omega)) (by omega) (Nat.le_of_ble_eq_true rfl) ?_
            rintro rv M9 ⟨rfl, rfl⟩
            show J 0 0 (rd B ((nn : Int)) (tk + 1) at' fl sc ((hu S tk.toNat 303)) ((hu P tk.toNat ((p : Int)))) ((hu V tk.toNat 0)) ST E) 49 [(3, hv ((-1))), (2, hv ((to : Int))), (1, hv ((p : Int))), (0, .ref 18)] []
            refine jr_goto R1 d_28_49 (by decide) (pc' := 81) rfl ?_
            refine jr_iload_n R1 d_28_81 rfl ?_
            refine jr_reti R3 d_28_82 rfl ?_
            first | (exfalso; omega) | (rw [← hto, hend, if_pos hw]; exact ⟨rfl, _, rfl⟩) | (rw [← hto, hend, if_neg hw, if_pos (by omega)]; exact ⟨rfl, _, rfl⟩) | (rw [← hto, hend, if_neg hw, if_neg (by omega)]; exact ⟨rfl, _, rfl⟩)
          · skip
            refine jr_callv R2 d_28_31 (by decide) rfl (as := [.ref 18, hv ((p : Int)), hv ((to : Int))]) (rest := []) rfl (by unfold mj_rc; rw [show (_ : List Value).headD _ = .ref 18 from rfl]; simp only [rd_18 hB]; decide) (hc_wordAt (d := 6) (p := p) (q := to) (by omega) hB hTp hg hn9 hat hfl (by omega) (by omega)) (by omega) (Nat.le_of_ble_eq_true rfl) ?_
            rintro rv M9 ⟨rfl, rfl⟩
            rw [if_neg hw]
            have hwl := hp_wd_le (b := g) (p := p) (q := to)
            show J 0 0 (rd B ((nn : Int)) tk at' fl sc S P V ST E) 34 [(2, hv ((to : Int))), (1, hv ((p : Int))), (0, .ref 18)] [hv ((hp_wd g p to : Int))]
            refine jr_istore_n R1 d_28_34 (by decide) (lo' := [(3, hv ((hp_wd g p to : Int))), (2, hv ((to : Int))), (1, hv ((p : Int))), (0, .ref 18)]) rfl ?_
            refine jr_iload_n R1 d_28_35 rfl ?_
            refine jr_iconst R1 d_28_36 ?_
            by_cases h1 : (hp_wd g p to : Int) = (-1)
            · refine jr_icmp R1 false d_28_37 (by first | assumption | exact hg _ | exact hS _ | exact hV _ | exact hP _ | exact hT _ | exact ⟨by omega, by omega⟩) (by first | assumption | exact hg _ | exact hS _ | exact hV _ | exact hP _ | exact hT _ | exact ⟨by omega, by omega⟩) (by unfold hcb; first | exact decide_eq_true (by omega) | exact decide_eq_false (by omega)) (by decide) (pc' := 40) rfl ?_
              refine jr_aload_n R1 d_28_40 rfl ?_
              refine jr_sipush R1 d_28_41 (by decide) ?_
              refine jr_iload_n R1 d_28_44 rfl ?_
              refine jr_iconst R1 d_28_45 ?_
              refine jr_callv R2 d_28_46 (by decide) rfl (as := [.ref 18, hv 303, hv ((p : Int)), hv 0]) (rest := []) rfl (by unfold mj_rc; rw [show (_ : List Value).headD _ = .ref 18 from rfl]; simp only [rd_18 hB]; decide) (hc_token (d := 1) (by omega) hB (by omega) (by omega) (by omega) (by omega)) (by omega) (Nat.le_of_ble_eq_true rfl) ?_
              rintro rv M9 ⟨rfl, rfl⟩
              show J 0 0 (rd B ((nn : Int)) (tk + 1) at' fl sc ((hu S tk.toNat 303)) ((hu P tk.toNat ((p : Int)))) ((hu V tk.toNat 0)) ST E) 49 [(3, hv ((hp_wd g p to : Int))), (2, hv ((to : Int))), (1, hv ((p : Int))), (0, .ref 18)] []
              refine jr_goto R1 d_28_49 (by decide) (pc' := 81) rfl ?_
              refine jr_iload_n R1 d_28_81 rfl ?_
              refine jr_reti R3 d_28_82 rfl ?_
              first | (exfalso; omega) | (rw [← hto, hend, if_pos hw]; exact ⟨rfl, _, rfl⟩) | (rw [← hto, hend, if_neg hw, if_pos (by omega)]; exact ⟨rfl, _, rfl⟩) | (rw [← hto, hend, if_neg hw, if_neg (by omega)]; exact ⟨rfl, _, rfl⟩)
            · refine jr_icmp R1 true d_28_37 (by first | assumption | exact hg _ | exact hS _ | exact hV _ | exact hP _ | exact hT _ | exact ⟨by omega, by omega⟩) (by first | assumption | exact hg _ | exact hS _ | exact hV _ | exact hP _ | exact hT _ | exact ⟨by omega, by omega⟩) (by unfold hcb; first | exact decide_eq_true (by omega) | exact decide_eq_false (by omega)) (by decide) (pc' := 52) rfl ?_
              refine jr_iload_n R1 d_28_52 rfl ?_
              refine jr_bipush R1 d_28_53 (by decide) ?_
              by_cases h2 : (hp_wd g p to : Int) < 6
              · refine jr_icmp R1 false d_28_55 (by first | assumption | exact hg _ | exact hS _ | exact hV _ | exact hP _ | exact hT _ | exact ⟨by omega, by omega⟩) (by first | assumption | exact hg _ | exact hS _ | exact hV _ | exact hP _ | exact hT _ | exact ⟨by omega, by omega⟩) (by unfold hcb; first | exact decide_eq_true (by omega) | exact decide_eq_false (by omega)) (by decide) (pc' := 58) rfl ?_
                refine jr_aload_n R1 d_28_58 rfl ?_
                refine jr_sipush R1 d_28_59 (by decide) ?_
                refine jr_iload_n R1 d_28_62 rfl ?_
                refine jr_iload_n R1 d_28_63 rfl ?_
                refine jr_callv R2 d_28_64 (by decide) rfl (as := [.ref 18, hv 300, hv ((p : Int)), hv ((hp_wd g p to : Int))]) (rest := []) rfl (by unfold mj_rc; rw [show (_ : List Value).headD _ = .ref 18 from rfl]; simp only [rd_18 hB]; decide) (hc_token (d := 1) (by omega) hB (by omega) (by omega) (by omega) (by omega)) (by omega) (Nat.le_of_ble_eq_true rfl) ?_
                rintro rv M9 ⟨rfl, rfl⟩
                show J 0 0 (rd B ((nn : Int)) (tk + 1) at' fl sc ((hu S tk.toNat 300)) ((hu P tk.toNat ((p : Int)))) ((hu V tk.toNat ((hp_wd g p to : Int)))) ST E) 67 [(3, hv ((hp_wd g p to : Int))), (2, hv ((to : Int))), (1, hv ((p : Int))), (0, .ref 18)] []
                refine jr_goto R1 d_28_67 (by decide) (pc' := 81) rfl ?_
                refine jr_iload_n R1 d_28_81 rfl ?_
                refine jr_reti R3 d_28_82 rfl ?_
                first | (exfalso; omega) | (rw [← hto, hend, if_pos hw]; exact ⟨rfl, _, rfl⟩) | (rw [← hto, hend, if_neg hw, if_pos (by omega)]; exact ⟨rfl, _, rfl⟩) | (rw [← hto, hend, if_neg hw, if_neg (by omega)]; exact ⟨rfl, _, rfl⟩)
              · refine jr_icmp R1 true d_28_55 (by first | assumption | exact hg _ | exact hS _ | exact hV _ | exact hP _ | exact hT _ | exact ⟨by omega, by omega⟩) (by first | assumption | exact hg _ | exact hS _ | exact hV _ | exact hP _ | exact hT _ | exact ⟨by omega, by omega⟩) (by unfold hcb; first | exact decide_eq_true (by omega) | exact decide_eq_false (by omega)) (by decide) (pc' := 70) rfl ?_
                refine jr_aload_n R1 d_28_70 rfl ?_
                refine jr_sipush R1 d_28_71 (by decide) ?_
                refine jr_iload_n R1 d_28_74 rfl ?_
                refine jr_iadd R1 d_28_75 ?_
                refine jr_iload_n R1 d_28_76 rfl ?_
                refine jr_iconst R1 d_28_77 ?_
                refine jr_callv R2 d_28_78 (by decide) rfl (as := [.ref 18, hv (256 + ((hp_wd g p to : Int))), hv ((p : Int)), hv 0]) (rest := []) rfl (by unfold mj_rc; rw [show (_ : List Value).headD _ = .ref 18 from rfl]; simp only [rd_18 hB]; decide) (hc_token (d := 1) (by omega) hB (by omega) (by omega) (by omega) (by omega)) (by omega) (Nat.le_of_ble_eq_true rfl) ?_
                rintro rv M9 ⟨rfl, rfl⟩
                show J 0 0 (rd B ((nn : Int)) (tk + 1) at' fl sc ((hu S tk.toNat (256 + ((hp_wd g p to : Int))))) ((hu P tk.toNat ((p : Int)))) ((hu V tk.toNat 0)) ST E) 81 [(3, hv ((hp_wd g p to : Int))), (2, hv ((to : Int))), (1, hv ((p : Int))), (0, .ref 18)] []
                refine jr_iload_n R1 d_28_81 rfl ?_
                refine jr_reti R3 d_28_82 rfl ?_
                first | (exfalso; omega) | (rw [← hto, hend, if_pos hw]; exact ⟨rfl, _, rfl⟩) | (rw [← hto, hend, if_neg hw, if_pos (by omega)]; exact ⟨rfl, _, rfl⟩) | (rw [← hto, hend, if_neg hw, if_neg (by omega)]; exact ⟨rfl, _, rfl⟩)
      · have hend : hp_rn hp_lt g nn to = to := hp_rn_out (by omega)
        refine jr_iload_n R1 d_28_2 rfl ?_
        refine jr_aload_n R1 d_28_3 rfl ?_
        refine jr_getf R1 d_28_4 (rd_18 hB) (by decide) rfl ?_
        refine jr_icmp R1 true d_28_7 (by first | assumption | exact hg _ | exact hS _ | exact hV _ | exact hP _ | exact hT _ | exact ⟨by omega, by omega⟩) (by first | assumption | exact hg _ | exact hS _ | exact hV _ | exact hP _ | exact hT _ | exact ⟨by omega, by omega⟩) (by unfold hcb; first | exact decide_eq_true (by omega) | exact decide_eq_false (by omega)) (by decide) (pc' := 28) rfl ?_
        refine jr_aload_n R1 d_28_28 rfl ?_
        refine jr_iload_n R1 d_28_29 rfl ?_
        refine jr_iload_n R1 d_28_30 rfl ?_
        by_cases hw : hp_wd g p to = 12
        · skip
          refine jr_callv R2 d_28_31 (by decide) rfl (as := [.ref 18, hv ((p : Int)), hv ((to : Int))]) (rest := []) rfl (by unfold mj_rc; rw [show (_ : List Value).headD _ = .ref 18 from rfl]; simp only [rd_18 hB]; decide) (hc_wordAt (d := 6) (p := p) (q := to) (by omega) hB hTp hg hn9 hat hfl (by omega) (by omega)) (by omega) (Nat.le_of_ble_eq_true rfl) ?_
          rintro rv M9 ⟨rfl, rfl⟩
          rw [if_pos hw]
          show J 0 0 (rd B ((nn : Int)) tk at' fl sc S P V ST E) 34 [(2, hv ((to : Int))), (1, hv ((p : Int))), (0, .ref 18)] [hv ((-1))]
          refine jr_istore_n R1 d_28_34 (by decide) (lo' := [(3, hv ((-1))), (2, hv ((to : Int))), (1, hv ((p : Int))), (0, .ref 18)]) rfl ?_
          refine jr_iload_n R1 d_28_35 rfl ?_
          refine jr_iconst R1 d_28_36 ?_
          refine jr_icmp R1 false d_28_37 (by first | assumption | exact hg _ | exact hS _ | exact hV _ | exact hP _ | exact hT _ | exact ⟨by omega, by omega⟩) (by first | assumption | exact hg _ | exact hS _ | exact hV _ | exact hP _ | exact hT _ | exact ⟨by omega, by omega⟩) (by unfold hcb; first | exact decide_eq_true (by omega) | exact decide_eq_false (by omega)) (by decide) (pc' := 40) rfl ?_
          refine jr_aload_n R1 d_28_40 rfl ?_
          refine jr_sipush R1 d_28_41 (by decide) ?_
          refine jr_iload_n R1 d_28_44 rfl ?_
          refine jr_iconst R1 d_28_45 ?_
          refine jr_callv R2 d_28_46 (by decide) rfl (as := [.ref 18, hv 303, hv ((p : Int)), hv 0]) (rest := []) rfl (by unfold mj_rc; rw [show (_ : List Value).headD _ = .ref 18 from rfl]; simp only [rd_18 hB]; decide) (hc_token (d := 1) (by omega) hB (by omega) (by omega) (by omega) (by omega)) (by omega) (Nat.le_of_ble_eq_true rfl) ?_
          rintro rv M9 ⟨rfl, rfl⟩
          show J 0 0 (rd B ((nn : Int)) (tk + 1) at' fl sc ((hu S tk.toNat 303)) ((hu P tk.toNat ((p : Int)))) ((hu V tk.toNat 0)) ST E) 49 [(3, hv ((-1))), (2, hv ((to : Int))), (1, hv ((p : Int))), (0, .ref 18)] []
          refine jr_goto R1 d_28_49 (by decide) (pc' := 81) rfl ?_
          refine jr_iload_n R1 d_28_81 rfl ?_
          refine jr_reti R3 d_28_82 rfl ?_
          first | (exfalso; omega) | (rw [← hto, hend, if_pos hw]; exact ⟨rfl, _, rfl⟩) | (rw [← hto, hend, if_neg hw, if_pos (by omega)]; exact ⟨rfl, _, rfl⟩) | (rw [← hto, hend, if_neg hw, if_neg (by omega)]; exact ⟨rfl, _, rfl⟩)
        · skip
          refine jr_callv R2 d_28_31 (by decide) rfl (as := [.ref 18, hv ((p : Int)), hv ((to : Int))]) (rest := []) rfl (by unfold mj_rc; rw [show (_ : List Value).headD _ = .ref 18 from rfl]; simp only [rd_18 hB]; decide) (hc_wordAt (d := 6) (p := p) (q := to) (by omega) hB hTp hg hn9 hat hfl (by omega) (by omega)) (by omega) (Nat.le_of_ble_eq_true rfl) ?_
          rintro rv M9 ⟨rfl, rfl⟩
          rw [if_neg hw]
          have hwl := hp_wd_le (b := g) (p := p) (q := to)
          show J 0 0 (rd B ((nn : Int)) tk at' fl sc S P V ST E) 34 [(2, hv ((to : Int))), (1, hv ((p : Int))), (0, .ref 18)] [hv ((hp_wd g p to : Int))]
          refine jr_istore_n R1 d_28_34 (by decide) (lo' := [(3, hv ((hp_wd g p to : Int))), (2, hv ((to : Int))), (1, hv ((p : Int))), (0, .ref 18)]) rfl ?_
          refine jr_iload_n R1 d_28_35 rfl ?_
          refine jr_iconst R1 d_28_36 ?_
          by_cases h1 : (hp_wd g p to : Int) = (-1)
          · refine jr_icmp R1 false d_28_37 (by first | assumption | exact hg _ | exact hS _ | exact hV _ | exact hP _ | exact hT _ | exact ⟨by omega, by omega⟩) (by first | assumption | exact hg _ | exact hS _ | exact hV _ | exact hP _ | exact hT _ | exact ⟨by omega, by omega⟩) (by unfold hcb; first | exact decide_eq_true (by omega) | exact decide_eq_false (by omega)) (by decide) (pc' := 40) rfl ?_
            refine jr_aload_n R1 d_28_40 rfl ?_
            refine jr_sipush R1 d_28_41 (by decide) ?_
            refine jr_iload_n R1 d_28_44 rfl ?_
            refine jr_iconst R1 d_28_45 ?_
            refine jr_callv R2 d_28_46 (by decide) rfl (as := [.ref 18, hv 303, hv ((p : Int)), hv 0]) (rest := []) rfl (by unfold mj_rc; rw [show (_ : List Value).headD _ = .ref 18 from rfl]; simp only [rd_18 hB]; decide) (hc_token (d := 1) (by omega) hB (by omega) (by omega) (by omega) (by omega)) (by omega) (Nat.le_of_ble_eq_true rfl) ?_
            rintro rv M9 ⟨rfl, rfl⟩
            show J 0 0 (rd B ((nn : Int)) (tk + 1) at' fl sc ((hu S tk.toNat 303)) ((hu P tk.toNat ((p : Int)))) ((hu V tk.toNat 0)) ST E) 49 [(3, hv ((hp_wd g p to : Int))), (2, hv ((to : Int))), (1, hv ((p : Int))), (0, .ref 18)] []
            refine jr_goto R1 d_28_49 (by decide) (pc' := 81) rfl ?_
            refine jr_iload_n R1 d_28_81 rfl ?_
            refine jr_reti R3 d_28_82 rfl ?_
            first | (exfalso; omega) | (rw [← hto, hend, if_pos hw]; exact ⟨rfl, _, rfl⟩) | (rw [← hto, hend, if_neg hw, if_pos (by omega)]; exact ⟨rfl, _, rfl⟩) | (rw [← hto, hend, if_neg hw, if_neg (by omega)]; exact ⟨rfl, _, rfl⟩)
          · refine jr_icmp R1 true d_28_37 (by first | assumption | exact hg _ | exact hS _ | exact hV _ | exact hP _ | exact hT _ | exact ⟨by omega, by omega⟩) (by first | assumption | exact hg _ | exact hS _ | exact hV _ | exact hP _ | exact hT _ | exact ⟨by omega, by omega⟩) (by unfold hcb; first | exact decide_eq_true (by omega) | exact decide_eq_false (by omega)) (by decide) (pc' := 52) rfl ?_
            refine jr_iload_n R1 d_28_52 rfl ?_
            refine jr_bipush R1 d_28_53 (by decide) ?_
            by_cases h2 : (hp_wd g p to : Int) < 6
            · refine jr_icmp R1 false d_28_55 (by first | assumption | exact hg _ | exact hS _ | exact hV _ | exact hP _ | exact hT _ | exact ⟨by omega, by omega⟩) (by first | assumption | exact hg _ | exact hS _ | exact hV _ | exact hP _ | exact hT _ | exact ⟨by omega, by omega⟩) (by unfold hcb; first | exact decide_eq_true (by omega) | exact decide_eq_false (by omega)) (by decide) (pc' := 58) rfl ?_
              refine jr_aload_n R1 d_28_58 rfl ?_
              refine jr_sipush R1 d_28_59 (by decide) ?_
              refine jr_iload_n R1 d_28_62 rfl ?_
              refine jr_iload_n R1 d_28_63 rfl ?_
              refine jr_callv R2 d_28_64 (by decide) rfl (as := [.ref 18, hv 300, hv ((p : Int)), hv ((hp_wd g p to : Int))]) (rest := []) rfl (by unfold mj_rc; rw [show (_ : List Value).headD _ = .ref 18 from rfl]; simp only [rd_18 hB]; decide) (hc_token (d := 1) (by omega) hB (by omega) (by omega) (by omega) (by omega)) (by omega) (Nat.le_of_ble_eq_true rfl) ?_
              rintro rv M9 ⟨rfl, rfl⟩
              show J 0 0 (rd B ((nn : Int)) (tk + 1) at' fl sc ((hu S tk.toNat 300)) ((hu P tk.toNat ((p : Int)))) ((hu V tk.toNat ((hp_wd g p to : Int)))) ST E) 67 [(3, hv ((hp_wd g p to : Int))), (2, hv ((to : Int))), (1, hv ((p : Int))), (0, .ref 18)] []
              refine jr_goto R1 d_28_67 (by decide) (pc' := 81) rfl ?_
              refine jr_iload_n R1 d_28_81 rfl ?_
              refine jr_reti R3 d_28_82 rfl ?_
              first | (exfalso; omega) | (rw [← hto, hend, if_pos hw]; exact ⟨rfl, _, rfl⟩) | (rw [← hto, hend, if_neg hw, if_pos (by omega)]; exact ⟨rfl, _, rfl⟩) | (rw [← hto, hend, if_neg hw, if_neg (by omega)]; exact ⟨rfl, _, rfl⟩)
            · refine jr_icmp R1 true d_28_55 (by first | assumption | exact hg _ | exact hS _ | exact hV _ | exact hP _ | exact hT _ | exact ⟨by omega, by omega⟩) (by first | assumption | exact hg _ | exact hS _ | exact hV _ | exact hP _ | exact hT _ | exact ⟨by omega, by omega⟩) (by unfold hcb; first | exact decide_eq_true (by omega) | exact decide_eq_false (by omega)) (by decide) (pc' := 70) rfl ?_
              refine jr_aload_n R1 d_28_70 rfl ?_
              refine jr_sipush R1 d_28_71 (by decide) ?_
              refine jr_iload_n R1 d_28_74 rfl ?_
              refine jr_iadd R1 d_28_75 ?_
              refine jr_iload_n R1 d_28_76 rfl ?_
              refine jr_iconst R1 d_28_77 ?_
              refine jr_callv R2 d_28_78 (by decide) rfl (as := [.ref 18, hv (256 + ((hp_wd g p to : Int))), hv ((p : Int)), hv 0]) (rest := []) rfl (by unfold mj_rc; rw [show (_ : List Value).headD _ = .ref 18 from rfl]; simp only [rd_18 hB]; decide) (hc_token (d := 1) (by omega) hB (by omega) (by omega) (by omega) (by omega)) (by omega) (Nat.le_of_ble_eq_true rfl) ?_
              rintro rv M9 ⟨rfl, rfl⟩
              show J 0 0 (rd B ((nn : Int)) (tk + 1) at' fl sc ((hu S tk.toNat (256 + ((hp_wd g p to : Int))))) ((hu P tk.toNat ((p : Int)))) ((hu V tk.toNat 0)) ST E) 81 [(3, hv ((hp_wd g p to : Int))), (2, hv ((to : Int))), (1, hv ((p : Int))), (0, .ref 18)] []
              refine jr_iload_n R1 d_28_81 rfl ?_
              refine jr_reti R3 d_28_82 rfl ?_
              first | (exfalso; omega) | (rw [← hto, hend, if_pos hw]; exact ⟨rfl, _, rfl⟩) | (rw [← hto, hend, if_neg hw, if_pos (by omega)]; exact ⟨rfl, _, rfl⟩) | (rw [← hto, hend, if_neg hw, if_neg (by omega)]; exact ⟨rfl, _, rfl⟩)
  show J 0 0 (rd B ((nn : Int)) tk at' fl sc S P V ST E) 0 [(0, .ref 18), (1, hv (p : Int))] []
  refine jr_iload_n R1 d_28_0 rfl ?_
  refine jr_istore_n R1 d_28_1 (by decide) (lo' := [(2, hv ((p : Int))), (0, .ref 18), (1, hv ((p : Int)))]) rfl ?_
  refine R4 0 0 _ 2 _ [(2, hv (p : Int)), (1, hv (p : Int)), (0, .ref 18)] _ (fun z hz => by simp only [List.mem_cons, List.not_mem_nil, or_false] at hz ⊢; rcases hz with rfl | rfl | rfl <;> simp) ?_
  exact hl (nn - p) p (Nat.le_refl _) (Nat.le_refl _) hp rfl
