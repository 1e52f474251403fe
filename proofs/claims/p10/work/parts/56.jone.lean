/-! ONE, EXPRESSION -/
theorem ha_one {lch : Launch} {B : mj_M} {n : Int} {T : Nat} {S P V E : Nat → Int} {tkf pcf : Nat → Int} {N : Nat} (hB : 25 ≤ B.length) (hT9 : T ≤ 160) (hS : ∀ j, hr (S j)) (hP : ∀ j, hr (P j)) (hSk : ∀ j : Nat, j ≤ T → S j = tkf j) (hPk : ∀ j : Nat, j ≤ T → P j = pcf j) (hTk : ∀ j, T ≤ j → tkf j = 302) (hpc : ∀ j, 0 ≤ pcf j ∧ pcf j ≤ 160) (hE : hgE lch B n T S P V E tkf pcf N) (hO : hgO lch B n T S P V E tkf pcf N) : hgO lch B n T S P V E tkf pcf (N + 1) := by
  intro d q k sc ST hq5 hk hsc hfu hd
  rw [hx_fu (by omega)] at hfu
  have hlt : k < T ∨ tkf k = 302 := by
    by_cases g : T ≤ k
    · exact Or.inr (hTk _ g)
    · exact Or.inl (by omega)
  have hs1 : S ((k : Int)).toNat = tkf k := hSk k hk
  refine mj_Me_of (by decide) (by omega) (Nat.le_of_ble_eq_true rfl) ?_
  intro L xs J R1 R2 R3
  show J 0 0 (rd B n ((T : Int) + 1) ((k : Int)) ((-1)) sc S P V ST E) 0 [(0, .ref 18), (1, hv ((q : Int)))] []
  refine jr_aload_n R1 d_36_0 rfl ?_
  refine jr_getf R1 d_36_1 (rd_18 hB) (by decide) rfl ?_
  refine jr_aload_n R1 d_36_4 rfl ?_
  refine jr_getf R1 d_36_5 (rd_18 hB) (by decide) rfl ?_
  refine jr_iald R1 d_36_8 (rd_20 hB) (by omega) (by omega) (by decide) ?_
  refine jr_istore_n R1 d_36_9 (by decide) (lo' := [(2, hv (S ((k : Int)).toNat)), (0, .ref 18), (1, hv ((q : Int)))]) rfl ?_
  refine jr_iload_n R1 d_36_10 rfl ?_
  refine jr_sipush R1 d_36_11 (by decide) ?_
  by_cases h1 : S ((k : Int)).toNat = 301
  · refine jr_icmp R1 false d_36_14 (by first | assumption | exact hg _ | exact hS _ | exact hV _ | exact hP _ | exact hT _ | exact ⟨by omega, by omega⟩) (by first | assumption | exact hg _ | exact hS _ | exact hV _ | exact hP _ | exact hT _ | exact ⟨by omega, by omega⟩) (by unfold hcb; first | exact decide_eq_true (by omega) | exact decide_eq_false (by omega)) (by decide) (pc' := 17) rfl ?_
    refine jr_aload_n R1 d_36_17 rfl ?_
    refine jr_aload_n R1 d_36_18 rfl ?_
    refine jr_getf R1 d_36_19 (rd_18 hB) (by decide) rfl ?_
    refine jr_aload_n R1 d_36_22 rfl ?_
    refine jr_getf R1 d_36_23 (rd_18 hB) (by decide) rfl ?_
    refine jr_iald R1 d_36_26 (rd_22 hB) (by omega) (by omega) (by decide) ?_
    refine jr_callv R2 d_36_27 (by decide) rfl (as := [.ref 18, hv (V ((k : Int)).toNat)]) (rest := []) rfl (by unfold mj_rc; rw [show (_ : List Value).headD _ = .ref 18 from rfl]; simp only [rd_18 hB]; decide) (hc_step (d := 1) (by omega) hB (by omega) (by omega) (by omega) hsc) (by omega) (Nat.le_of_ble_eq_true rfl) ?_
    rintro rv M9 ⟨rfl, sc1, ST1, hsc1, rfl⟩
    show J 0 0 (rd B n ((T : Int) + 1) ((k : Int)) ((-1)) sc1 S P V ST1 E) 30 [(2, hv (S ((k : Int)).toNat)), (0, .ref 18), (1, hv ((q : Int)))] []
    refine jr_aload_n R1 d_36_30 rfl ?_
    refine jr_callv R2 d_36_31 (by decide) rfl (as := [.ref 18]) (rest := []) rfl (by unfold mj_rc; rw [show (_ : List Value).headD _ = .ref 18 from rfl]; simp only [rd_18 hB]; decide) (ha_pass (d := 1) (by omega) hB hT9 hS hP hSk hPk hTk hpc (by omega)) (by omega) (Nat.le_of_ble_eq_true rfl) ?_
    rintro rv M9 ⟨rfl, rfl⟩
    show J 0 0 (rd B n ((T : Int) + 1) ((k : Int) + 1) ((-1)) sc1 S P V ST1 E) 34 [(2, hv (S ((k : Int)).toNat)), (0, .ref 18), (1, hv ((q : Int)))] []
    refine jr_goto R1 d_36_34 (by decide) (pc' := 132) rfl ?_
    refine jr_ret R3 d_36_132 rfl ?_
    rw [hx_num (by omega)]
    refine ⟨rfl, _, _, ?_, rfl⟩; assumption
  · refine jr_icmp R1 true d_36_14 (by first | assumption | exact hg _ | exact hS _ | exact hV _ | exact hP _ | exact hT _ | exact ⟨by omega, by omega⟩) (by first | assumption | exact hg _ | exact hS _ | exact hV _ | exact hP _ | exact hT _ | exact ⟨by omega, by omega⟩) (by unfold hcb; first | exact decide_eq_true (by omega) | exact decide_eq_false (by omega)) (by decide) (pc' := 37) rfl ?_
    refine jr_iload_n R1 d_36_37 rfl ?_
    refine jr_sipush R1 d_36_38 (by decide) ?_
    by_cases h2 : S ((k : Int)).toNat = 300
    · refine jr_icmp R1 false d_36_41 (by first | assumption | exact hg _ | exact hS _ | exact hV _ | exact hP _ | exact hT _ | exact ⟨by omega, by omega⟩) (by first | assumption | exact hg _ | exact hS _ | exact hV _ | exact hP _ | exact hT _ | exact ⟨by omega, by omega⟩) (by unfold hcb; first | exact decide_eq_true (by omega) | exact decide_eq_false (by omega)) (by decide) (pc' := 44) rfl ?_
      refine jr_aload_n R1 d_36_44 rfl ?_
      refine jr_iconst R1 d_36_45 ?_
      refine jr_aload_n R1 d_36_46 rfl ?_
      refine jr_getf R1 d_36_47 (rd_18 hB) (by decide) rfl ?_
      refine jr_aload_n R1 d_36_50 rfl ?_
      refine jr_getf R1 d_36_51 (rd_18 hB) (by decide) rfl ?_
      refine jr_iald R1 d_36_54 (rd_22 hB) (by omega) (by omega) (by decide) ?_
      refine jr_isub R1 d_36_55 ?_
      refine jr_callv R2 d_36_56 (by decide) rfl (as := [.ref 18, hv (((-1)) - (V ((k : Int)).toNat))]) (rest := []) rfl (by unfold mj_rc; rw [show (_ : List Value).headD _ = .ref 18 from rfl]; simp only [rd_18 hB]; decide) (hc_step (d := 1) (by omega) hB (by omega) (by omega) (by omega) hsc) (by omega) (Nat.le_of_ble_eq_true rfl) ?_
      rintro rv M9 ⟨rfl, sc2, ST2, hsc2, rfl⟩
      show J 0 0 (rd B n ((T : Int) + 1) ((k : Int)) ((-1)) sc2 S P V ST2 E) 59 [(2, hv (S ((k : Int)).toNat)), (0, .ref 18), (1, hv ((q : Int)))] []
      refine jr_aload_n R1 d_36_59 rfl ?_
      refine jr_callv R2 d_36_60 (by decide) rfl (as := [.ref 18]) (rest := []) rfl (by unfold mj_rc; rw [show (_ : List Value).headD _ = .ref 18 from rfl]; simp only [rd_18 hB]; decide) (ha_pass (d := 1) (by omega) hB hT9 hS hP hSk hPk hTk hpc (by omega)) (by omega) (Nat.le_of_ble_eq_true rfl) ?_
      rintro rv M9 ⟨rfl, rfl⟩
      show J 0 0 (rd B n ((T : Int) + 1) ((k : Int) + 1) ((-1)) sc2 S P V ST2 E) 63 [(2, hv (S ((k : Int)).toNat)), (0, .ref 18), (1, hv ((q : Int)))] []
      refine jr_goto R1 d_36_63 (by decide) (pc' := 132) rfl ?_
      refine jr_ret R3 d_36_132 rfl ?_
      rw [hx_num (by omega)]
      refine ⟨rfl, _, _, ?_, rfl⟩; assumption
    · refine jr_icmp R1 true d_36_41 (by first | assumption | exact hg _ | exact hS _ | exact hV _ | exact hP _ | exact hT _ | exact ⟨by omega, by omega⟩) (by first | assumption | exact hg _ | exact hS _ | exact hV _ | exact hP _ | exact hT _ | exact ⟨by omega, by omega⟩) (by unfold hcb; first | exact decide_eq_true (by omega) | exact decide_eq_false (by omega)) (by decide) (pc' := 66) rfl ?_
      refine jr_iload_n R1 d_36_66 rfl ?_
      refine jr_bipush R1 d_36_67 (by decide) ?_
      by_cases h3 : S ((k : Int)).toNat = 45
      · refine jr_icmp R1 false d_36_69 (by first | assumption | exact hg _ | exact hS _ | exact hV _ | exact hP _ | exact hT _ | exact ⟨by omega, by omega⟩) (by first | assumption | exact hg _ | exact hS _ | exact hV _ | exact hP _ | exact hT _ | exact ⟨by omega, by omega⟩) (by unfold hcb; first | exact decide_eq_true (by omega) | exact decide_eq_false (by omega)) (by decide) (pc' := 72) rfl ?_
        refine jr_aload_n R1 d_36_72 rfl ?_
        refine jr_iload_n R1 d_36_73 rfl ?_
        by_cases ho : q < 5
        · skip
          refine jr_callv R2 d_36_74 (by decide) rfl (as := [.ref 18, hv ((q : Int))]) (rest := []) rfl (by unfold mj_rc; rw [show (_ : List Value).headD _ = .ref 18 from rfl]; simp only [rd_18 hB]; decide) (ha_opens_t (d := 2) (by omega) hB hT9 hS hP hSk hPk hTk hpc (by omega) ho) (by omega) (Nat.le_of_ble_eq_true rfl) ?_
          rintro rv M9 ⟨rfl, rfl⟩
          show J 0 0 (rd B n ((T : Int) + 1) ((k : Int) + 1) ((-1)) sc S P V ST E) 77 [(2, hv (S ((k : Int)).toNat)), (0, .ref 18), (1, hv ((q : Int)))] [hv 1]
          refine jr_ifc R1 false d_36_77 (by first | assumption | exact hg _ | exact hS _ | exact hV _ | exact hP _ | exact hT _ | exact ⟨by omega, by omega⟩) (by unfold hcb; first | exact decide_eq_true (by omega) | exact decide_eq_false (by omega)) (by decide) (pc' := 80) rfl ?_
          refine jr_aload_n R1 d_36_80 rfl ?_
          refine jr_iload_n R1 d_36_81 rfl ?_
          refine jr_iconst R1 d_36_82 ?_
          refine jr_iadd R1 d_36_83 ?_
          refine jr_calls R2 d_36_84 (by decide) (by decide) rfl (as := [.ref 18, hv ((q : Int) + 1)]) (rest := []) rfl (hO (3 + 8 * (5 - (q + 1))) (q + 1) (k + 1) _ _ (by omega) (by omega) hsc (by rw [hx_fu (by omega)]; omega) (Nat.le_refl _)) (by omega) (Nat.le_of_ble_eq_true rfl) ?_
          rintro rv M9 ⟨rfl, sc3, ST3, hsc3, rfl⟩
          have hok3 := hp_px_ok hTk (fun j => (hpc j).1) N 5 (q + 1) ((k + 1), -1) (by omega) (by simp only; omega) rfl (by rw [hx_fu (by omega)]; simp only; omega)
          have hb3 := hx_bd hT9 hpc hok3
          have hkT3 := hok3.2.1
          show J 0 0 (rd B n ((T : Int) + 1) ((((hp_px tkf pcf N 5 (q + 1) ((k + 1), -1)).1 : Nat) : Int)) ((hp_px tkf pcf N 5 (q + 1) ((k + 1), -1)).2) sc3 S P V ST3 E) 87 [(2, hv (S ((k : Int)).toNat)), (0, .ref 18), (1, hv ((q : Int)))] []
          refine jr_aload_n R1 d_36_87 rfl ?_
          refine jr_sipush R1 d_36_88 (by decide) ?_
          refine jr_callv R2 d_36_91 (by decide) rfl (as := [.ref 18, hv ((-304))]) (rest := []) rfl (by unfold mj_rc; rw [show (_ : List Value).headD _ = .ref 18 from rfl]; simp only [rd_18 hB]; decide) (hc_step (d := 1) (by omega) hB hb3.1 (by omega) hb3.2 hsc3) (by omega) (Nat.le_of_ble_eq_true rfl) ?_
          rintro rv M9 ⟨rfl, sc4, ST4, hsc4, rfl⟩
          show J 0 0 (rd B n ((T : Int) + 1) ((((hp_px tkf pcf N 5 (q + 1) ((k + 1), -1)).1 : Nat) : Int)) ((hp_px tkf pcf N 5 (q + 1) ((k + 1), -1)).2) sc4 S P V ST4 E) 94 [(2, hv (S ((k : Int)).toNat)), (0, .ref 18), (1, hv ((q : Int)))] []
          refine jr_goto R1 d_36_94 (by decide) (pc' := 132) rfl ?_
          refine jr_ret R3 d_36_132 rfl ?_
          rw [hx_neg (by omega), if_neg (by omega)]
          refine ⟨rfl, _, _, ?_, rfl⟩; assumption
        · skip
          refine jr_callv R2 d_36_74 (by decide) rfl (as := [.ref 18, hv ((q : Int))]) (rest := []) rfl (by unfold mj_rc; rw [show (_ : List Value).headD _ = .ref 18 from rfl]; simp only [rd_18 hB]; decide) (ha_opens_f (d := 2) (by omega) hB hT9 hS hP hSk hPk hTk hpc (by omega) (by omega) (by omega)) (by omega) (Nat.le_of_ble_eq_true rfl) ?_
          rintro rv M9 ⟨rfl, rfl⟩
          show J 0 0 (rd B n ((T : Int) + 1) ((k : Int)) (pcf k) sc S P V ST E) 77 [(2, hv (S ((k : Int)).toNat)), (0, .ref 18), (1, hv ((q : Int)))] [hv 0]
          refine jr_ifc R1 true d_36_77 (by first | assumption | exact hg _ | exact hS _ | exact hV _ | exact hP _ | exact hT _ | exact ⟨by omega, by omega⟩) (by unfold hcb; first | exact decide_eq_true (by omega) | exact decide_eq_false (by omega)) (by decide) (pc' := 132) rfl ?_
          refine jr_ret R3 d_36_132 rfl ?_
          rw [hx_neg (by omega), if_pos (by omega)]
          refine ⟨rfl, _, _, ?_, rfl⟩; assumption
      · refine jr_icmp R1 true d_36_69 (by first | assumption | exact hg _ | exact hS _ | exact hV _ | exact hP _ | exact hT _ | exact ⟨by omega, by omega⟩) (by first | assumption | exact hg _ | exact hS _ | exact hV _ | exact hP _ | exact hT _ | exact ⟨by omega, by omega⟩) (by unfold hcb; first | exact decide_eq_true (by omega) | exact decide_eq_false (by omega)) (by decide) (pc' := 97) rfl ?_
        refine jr_iload_n R1 d_36_97 rfl ?_
        refine jr_bipush R1 d_36_98 (by decide) ?_
        by_cases h4 : S ((k : Int)).toNat = 40
        · refine jr_icmp R1 false d_36_100 (by first | assumption | exact hg _ | exact hS _ | exact hV _ | exact hP _ | exact hT _ | exact ⟨by omega, by omega⟩) (by first | assumption | exact hg _ | exact hS _ | exact hV _ | exact hP _ | exact hT _ | exact ⟨by omega, by omega⟩) (by unfold hcb; first | exact decide_eq_true (by omega) | exact decide_eq_false (by omega)) (by decide) (pc' := 103) rfl ?_
          refine jr_aload_n R1 d_36_103 rfl ?_
          refine jr_iload_n R1 d_36_104 rfl ?_
          by_cases ho : q < 5
          · skip
            refine jr_callv R2 d_36_105 (by decide) rfl (as := [.ref 18, hv ((q : Int))]) (rest := []) rfl (by unfold mj_rc; rw [show (_ : List Value).headD _ = .ref 18 from rfl]; simp only [rd_18 hB]; decide) (ha_opens_t (d := 2) (by omega) hB hT9 hS hP hSk hPk hTk hpc (by omega) ho) (by omega) (Nat.le_of_ble_eq_true rfl) ?_
            rintro rv M9 ⟨rfl, rfl⟩
            show J 0 0 (rd B n ((T : Int) + 1) ((k : Int) + 1) ((-1)) sc S P V ST E) 108 [(2, hv (S ((k : Int)).toNat)), (0, .ref 18), (1, hv ((q : Int)))] [hv 1]
            refine jr_ifc R1 false d_36_108 (by first | assumption | exact hg _ | exact hS _ | exact hV _ | exact hP _ | exact hT _ | exact ⟨by omega, by omega⟩) (by unfold hcb; first | exact decide_eq_true (by omega) | exact decide_eq_false (by omega)) (by decide) (pc' := 111) rfl ?_
            refine jr_aload_n R1 d_36_111 rfl ?_
            refine jr_iconst R1 d_36_112 ?_
            refine jr_iload_n R1 d_36_113 rfl ?_
            refine jr_iconst R1 d_36_114 ?_
            refine jr_iadd R1 d_36_115 ?_
            refine jr_calls R2 d_36_116 (by decide) (by decide) rfl (as := [.ref 18, hv 0, hv ((q : Int) + 1)]) (rest := []) rfl (hE (9 - 0 + 8 * (5 - (q + 1))) 0 (q + 1) (k + 1) _ _ (by omega) (by omega) (by omega) hsc (by rw [hx_fu (by omega)]; omega) (Nat.le_refl _)) (by omega) (Nat.le_of_ble_eq_true rfl) ?_
            rintro rv M9 ⟨rfl, sc5, ST5, hsc5, rfl⟩
            have hok5 := hp_px_ok hTk (fun j => (hpc j).1) N 0 (q + 1) ((k + 1), -1) (by omega) (by simp only; omega) rfl (by rw [hx_fu (by omega)]; simp only; omega)
            have hb5 := hx_bd hT9 hpc hok5
            have hkT5 := hok5.2.1
            show J 0 0 (rd B n ((T : Int) + 1) ((((hp_px tkf pcf N 0 (q + 1) ((k + 1), -1)).1 : Nat) : Int)) ((hp_px tkf pcf N 0 (q + 1) ((k + 1), -1)).2) sc5 S P V ST5 E) 119 [(2, hv (S ((k : Int)).toNat)), (0, .ref 18), (1, hv ((q : Int)))] []
            refine jr_aload_n R1 d_36_119 rfl ?_
            refine jr_bipush R1 d_36_120 (by decide) ?_
            refine jr_callv R2 d_36_122 (by decide) rfl (as := [.ref 18, hv 41]) (rest := []) rfl (by unfold mj_rc; rw [show (_ : List Value).headD _ = .ref 18 from rfl]; simp only [rd_18 hB]; decide) (hc_need (d := 2) (by omega) hB hb5.1 (by omega) hb5.2 hS hP ⟨by omega, by omega⟩) (by omega) (Nat.le_of_ble_eq_true rfl) ?_
            rintro rv M9 ⟨rfl, rfl⟩
            show J 0 0 (rd B n ((T : Int) + 1) (if S ((((hp_px tkf pcf N 0 (q + 1) ((k + 1), -1)).1 : Nat) : Int)).toNat = 41 then (if (hp_px tkf pcf N 0 (q + 1) ((k + 1), -1)).2 = -1 ∧ (((hp_px tkf pcf N 0 (q + 1) ((k + 1), -1)).1 : Nat) : Int) + 1 < (T : Int) + 1 then (((hp_px tkf pcf N 0 (q + 1) ((k + 1), -1)).1 : Nat) : Int) + 1 else (((hp_px tkf pcf N 0 (q + 1) ((k + 1), -1)).1 : Nat) : Int)) else (((hp_px tkf pcf N 0 (q + 1) ((k + 1), -1)).1 : Nat) : Int)) (if S ((((hp_px tkf pcf N 0 (q + 1) ((k + 1), -1)).1 : Nat) : Int)).toNat = 41 then (hp_px tkf pcf N 0 (q + 1) ((k + 1), -1)).2 else (if (hp_px tkf pcf N 0 (q + 1) ((k + 1), -1)).2 = -1 then P ((((hp_px tkf pcf N 0 (q + 1) ((k + 1), -1)).1 : Nat) : Int)).toNat else (hp_px tkf pcf N 0 (q + 1) ((k + 1), -1)).2)) sc5 S P V ST5 E) 125 [(2, hv (S ((k : Int)).toNat)), (0, .ref 18), (1, hv ((q : Int)))] []
            refine jr_goto R1 d_36_125 (by decide) (pc' := 132) rfl ?_
            refine jr_ret R3 d_36_132 rfl ?_
            rw [hx_par (by omega), if_neg (by omega)]
            have hn := hx_need (t := 41) (s := hp_px tkf pcf N 0 (q + 1) (k + 1, -1)) hSk hPk hTk (by decide) (by assumption)
            rw [hn.1, hn.2]
            refine ⟨rfl, _, _, ?_, rfl⟩; assumption
          · skip
            refine jr_callv R2 d_36_105 (by decide) rfl (as := [.ref 18, hv ((q : Int))]) (rest := []) rfl (by unfold mj_rc; rw [show (_ : List Value).headD _ = .ref 18 from rfl]; simp only [rd_18 hB]; decide) (ha_opens_f (d := 2) (by omega) hB hT9 hS hP hSk hPk hTk hpc (by omega) (by omega) (by omega)) (by omega) (Nat.le_of_ble_eq_true rfl) ?_
            rintro rv M9 ⟨rfl, rfl⟩
            show J 0 0 (rd B n ((T : Int) + 1) ((k : Int)) (pcf k) sc S P V ST E) 108 [(2, hv (S ((k : Int)).toNat)), (0, .ref 18), (1, hv ((q : Int)))] [hv 0]
            refine jr_ifc R1 true d_36_108 (by first | assumption | exact hg _ | exact hS _ | exact hV _ | exact hP _ | exact hT _ | exact ⟨by omega, by omega⟩) (by unfold hcb; first | exact decide_eq_true (by omega) | exact decide_eq_false (by omega)) (by decide) (pc' := 132) rfl ?_
            refine jr_ret R3 d_36_132 rfl ?_
            rw [hx_par (by omega), if_pos (by omega)]
            refine ⟨rfl, _, _, ?_, rfl⟩; assumption
        · refine jr_icmp R1 true d_36_100 (by first | assumption | exact hg _ | exact hS _ | exact hV _ | exact hP _ | exact hT _ | exact ⟨by omega, by omega⟩) (by first | assumption | exact hg _ | exact hS _ | exact hV _ | exact hP _ | exact hT _ | exact ⟨by omega, by omega⟩) (by unfold hcb; first | exact decide_eq_true (by omega) | exact decide_eq_false (by omega)) (by decide) (pc' := 128) rfl ?_
          refine jr_aload_n R1 d_36_128 rfl ?_
          refine jr_callv R2 d_36_129 (by decide) rfl (as := [.ref 18]) (rest := []) rfl (by unfold mj_rc; rw [show (_ : List Value).headD _ = .ref 18 from rfl]; simp only [rd_18 hB]; decide) (ha_fail (d := 1) (by omega) hB hT9 hS hP hSk hPk hTk hpc (by omega)) (by omega) (Nat.le_of_ble_eq_true rfl) ?_
          rintro rv M9 ⟨rfl, rfl⟩
          show J 0 0 (rd B n ((T : Int) + 1) ((k : Int)) (pcf k) sc S P V ST E) 132 [(2, hv (S ((k : Int)).toNat)), (0, .ref 18), (1, hv ((q : Int)))] []
          refine jr_ret R3 d_36_132 rfl ?_
          rw [hx_no (by omega) (by omega) (by omega) (by omega)]
          refine ⟨rfl, _, _, ?_, rfl⟩; assumption
theorem ha_loop0 {lch : Launch} {B : mj_M} {n : Int} {T : Nat} {S P V E : Nat → Int} {tkf pcf : Nat → Int} {N : Nat} {q d L : Nat} {xs : Nat → Int32} {J : mj_JT} {Q : Option Value → mj_M → Prop} (hB : 25 ≤ B.length) (hT9 : T ≤ 160) (hS : ∀ j, hr (S j)) (hP : ∀ j, hr (P j)) (hSk : ∀ j : Nat, j ≤ T → S j = tkf j) (hPk : ∀ j : Nat, j ≤ T → P j = pcf j) (hTk : ∀ j, T ≤ j → tkf j = 302) (hpc : ∀ j, 0 ≤ pcf j ∧ pcf j ≤ 160) (hq5 : q ≤ 5) (hE : ∀ N', N' < N → hgE lch B n T S P V E tkf pcf N') (hd : 9 - 0 + 8 * (5 - q) ≤ d) (R1 : mj_R1 L xs 29 (mj_ow 29) (mj_ml 29) (Nat.beq (mj_ki 29) 2) 0 0 J) (R2 : mj_R2 lch 29 d 0 0 J) (R3 : mj_R3 29 (mj_rt 29) 0 0 Q J) (R4 : mj_R4 J) :
    ∀ (F k : Nat) (f i sc : Int) (ST : Nat → Int), F ≤ N → k ≤ T → (-1 ≤ f ∧ f ≤ 160) → (0 ≤ sc ∧ sc ≤ 160) → (f = -1 → hp_fu T (6 + 0) k ≤ F) → (0 ≤ i ∧ i ≤ (k : Int)) → (∀ rv M', hq B n T S P V E (hp_px tkf pcf F (6 + 0) q (k, f)) rv M' → Q rv M') → J 0 0 (rd B n ((T : Int) + 1) (k : Int) f sc S P V ST E) 88 [(4, hv i), (3, hv 160), (2, hv ((q : Int))), (1, hv 0), (0, .ref 18)] [] := by
  intro F
  induction F with
  | zero =>
    intro k f i sc ST hF hk hf hsc hfu hi hQ
    by_cases hf1 : f = -1
    · exfalso
      have := hfu hf1
      rw [hx_fu7 (by omega)] at this
      omega
    · skip
      refine jr_iload R1 d_29_88 rfl ?_
      refine jr_iload_n R1 d_29_90 rfl ?_
      by_cases h1 : i < 160
      · refine jr_icmp R1 false d_29_91 (by first | assumption | exact hg _ | exact hS _ | exact hV _ | exact hP _ | exact hT _ | exact ⟨by omega, by omega⟩) (by first | assumption | exact hg _ | exact hS _ | exact hV _ | exact hP _ | exact hT _ | exact ⟨by omega, by omega⟩) (by unfold hcb; first | exact decide_eq_true (by omega) | exact decide_eq_false (by omega)) (by decide) (pc' := 94) rfl ?_
        refine jr_aload_n R1 d_29_94 rfl ?_
        refine jr_getf R1 d_29_95 (rd_18 hB) (by decide) rfl ?_
        refine jr_iconst R1 d_29_98 ?_
        refine jr_icmp R1 true d_29_99 (by first | assumption | exact hg _ | exact hS _ | exact hV _ | exact hP _ | exact hT _ | exact ⟨by omega, by omega⟩) (by first | assumption | exact hg _ | exact hS _ | exact hV _ | exact hP _ | exact hT _ | exact ⟨by omega, by omega⟩) (by unfold hcb; first | exact decide_eq_true (by omega) | exact decide_eq_false (by omega)) (by decide) (pc' := 154) rfl ?_
        refine jr_ret R3 d_29_154 rfl ?_
        exact hQ _ _ ⟨rfl, sc, ST, hsc, by rw [hp_px_f hf1]⟩
      · refine jr_icmp R1 true d_29_91 (by first | assumption | exact hg _ | exact hS _ | exact hV _ | exact hP _ | exact hT _ | exact ⟨by omega, by omega⟩) (by first | assumption | exact hg _ | exact hS _ | exact hV _ | exact hP _ | exact hT _ | exact ⟨by omega, by omega⟩) (by unfold hcb; first | exact decide_eq_true (by omega) | exact decide_eq_false (by omega)) (by decide) (pc' := 154) rfl ?_
        refine jr_ret R3 d_29_154 rfl ?_
        exact hQ _ _ ⟨rfl, sc, ST, hsc, by rw [hp_px_f hf1]⟩
  | succ F ih =>
    intro k f i sc ST hF hk hf hsc hfu hi hQ
    by_cases hf1 : f = -1
    · subst hf1
      have hfu := hfu rfl
      rw [hx_fu7 (by omega)] at hfu
      have hE := hE F (by omega)
      have hlt : k < T ∨ tkf k = 302 := by
        by_cases g : T ≤ k
        · exact Or.inr (hTk _ g)
        · exact Or.inl (by omega)
      have hs1 : S ((k : Int)).toNat = tkf k := hSk k hk
      have hj9 : hp_jb (tkf k) 0 = true → k < T := fun g => by
        rcases hlt with h | h
        · exact h
        · rw [h] at g
          exact absurd g (by decide)
      refine jr_iload R1 d_29_88 rfl ?_
      refine jr_iload_n R1 d_29_90 rfl ?_
      by_cases h1 : i < 160
      · refine jr_icmp R1 false d_29_91 (by first | assumption | exact hg _ | exact hS _ | exact hV _ | exact hP _ | exact hT _ | exact ⟨by omega, by omega⟩) (by first | assumption | exact hg _ | exact hS _ | exact hV _ | exact hP _ | exact hT _ | exact ⟨by omega, by omega⟩) (by unfold hcb; first | exact decide_eq_true (by omega) | exact decide_eq_false (by omega)) (by decide) (pc' := 94) rfl ?_
        refine jr_aload_n R1 d_29_94 rfl ?_
        refine jr_getf R1 d_29_95 (rd_18 hB) (by decide) rfl ?_
        refine jr_iconst R1 d_29_98 ?_
        refine jr_icmp R1 false d_29_99 (by first | assumption | exact hg _ | exact hS _ | exact hV _ | exact hP _ | exact hT _ | exact ⟨by omega, by omega⟩) (by first | assumption | exact hg _ | exact hS _ | exact hV _ | exact hP _ | exact hT _ | exact ⟨by omega, by omega⟩) (by unfold hcb; first | exact decide_eq_true (by omega) | exact decide_eq_false (by omega)) (by decide) (pc' := 102) rfl ?_
        refine jr_aload_n R1 d_29_102 rfl ?_
        refine jr_getf R1 d_29_103 (rd_18 hB) (by decide) rfl ?_
        refine jr_aload_n R1 d_29_106 rfl ?_
        refine jr_getf R1 d_29_107 (rd_18 hB) (by decide) rfl ?_
        refine jr_iald R1 d_29_110 (rd_20 hB) (by omega) (by omega) (by decide) ?_
        refine jr_iload_n R1 d_29_111 rfl ?_
        by_cases hj : hp_jb (tkf k) 0 = true
        · skip
          refine jr_calls R2 d_29_112 (by decide) (by decide) rfl (as := [hv (S ((k : Int)).toNat), hv 0]) (rest := []) rfl (hc_joins0 (d := 1) (M := rd B n ((T : Int) + 1) ((k : Int)) ((-1)) sc S P V ST E) (by omega) (hS _)) (by omega) (Nat.le_of_ble_eq_true rfl) ?_
          rintro rv M9 ⟨rfl, rfl⟩
          rw [hs1, if_pos hj]
          show J 0 0 (rd B n ((T : Int) + 1) ((k : Int)) ((-1)) sc S P V ST E) 115 [(4, hv i), (3, hv 160), (2, hv ((q : Int))), (1, hv 0), (0, .ref 18)] [hv 1]
          refine jr_ifc R1 false d_29_115 (by first | assumption | exact hg _ | exact hS _ | exact hV _ | exact hP _ | exact hT _ | exact ⟨by omega, by omega⟩) (by unfold hcb; first | exact decide_eq_true (by omega) | exact decide_eq_false (by omega)) (by decide) (pc' := 118) rfl ?_
          refine jr_aload_n R1 d_29_118 rfl ?_
          refine jr_getf R1 d_29_119 (rd_18 hB) (by decide) rfl ?_
          refine jr_aload_n R1 d_29_122 rfl ?_
          refine jr_getf R1 d_29_123 (rd_18 hB) (by decide) rfl ?_
          refine jr_iald R1 d_29_126 (rd_20 hB) (by omega) (by omega) (by decide) ?_
          refine jr_istore R1 d_29_127 (by decide) (lo' := [(5, hv (S ((k : Int)).toNat)), (4, hv i), (3, hv 160), (2, hv ((q : Int))), (1, hv 0), (0, .ref 18)]) rfl ?_
          refine jr_aload_n R1 d_29_129 rfl ?_
          refine jr_callv R2 d_29_130 (by decide) rfl (as := [.ref 18]) (rest := []) rfl (by unfold mj_rc; rw [show (_ : List Value).headD _ = .ref 18 from rfl]; simp only [rd_18 hB]; decide) (ha_pass (d := 1) (by omega) hB hT9 hS hP hSk hPk hTk hpc (hj9 hj)) (by omega) (Nat.le_of_ble_eq_true rfl) ?_
          rintro rv M9 ⟨rfl, rfl⟩
          have hkT := hj9 hj
          show J 0 0 (rd B n ((T : Int) + 1) ((k : Int) + 1) ((-1)) sc S P V ST E) 133 [(5, hv (S ((k : Int)).toNat)), (4, hv i), (3, hv 160), (2, hv ((q : Int))), (1, hv 0), (0, .ref 18)] []
          refine jr_aload_n R1 d_29_133 rfl ?_
          refine jr_iload_n R1 d_29_134 rfl ?_
          refine jr_iconst R1 d_29_135 ?_
          refine jr_iadd R1 d_29_136 ?_
          refine jr_iload_n R1 d_29_137 rfl ?_
          refine jr_calls R2 d_29_138 (by decide) (by decide) rfl (as := [.ref 18, hv 1, hv ((q : Int))]) (rest := []) rfl (hE (9 - 1 + 8 * (5 - q)) 1 q (k + 1) _ _ (by omega) (by omega) (by omega) hsc (by rw [hx_fu (by omega)]; omega) (Nat.le_refl _)) (by omega) (Nat.le_of_ble_eq_true rfl) ?_
          rintro rv M9 ⟨rfl, sc6, ST6, hsc6, rfl⟩
          have hok6 := hp_px_ok hTk (fun j => (hpc j).1) F 1 q ((k + 1), -1) (by omega) (by simp only; omega) rfl (by rw [hx_fu (by omega)]; simp only; omega)
          have hb6 := hx_bd hT9 hpc hok6
          have hkT6 := hok6.2.1
          show J 0 0 (rd B n ((T : Int) + 1) ((((hp_px tkf pcf F 1 q ((k + 1), -1)).1 : Nat) : Int)) ((hp_px tkf pcf F 1 q ((k + 1), -1)).2) sc6 S P V ST6 E) 141 [(5, hv (S ((k : Int)).toNat)), (4, hv i), (3, hv 160), (2, hv ((q : Int))), (1, hv 0), (0, .ref 18)] []
          refine jr_aload_n R1 d_29_141 rfl ?_
          refine jr_iload R1 d_29_142 rfl ?_
          refine jr_ineg R1 d_29_144 ?_
          refine jr_callv R2 d_29_145 (by decide) rfl (as := [.ref 18, hv (-(S ((k : Int)).toNat))]) (rest := []) rfl (by unfold mj_rc; rw [show (_ : List Value).headD _ = .ref 18 from rfl]; simp only [rd_18 hB]; decide) (hc_step (d := 1) (by omega) hB hb6.1 (by omega) hb6.2 hsc6) (by omega) (Nat.le_of_ble_eq_true rfl) ?_
          rintro rv M9 ⟨rfl, sc7, ST7, hsc7, rfl⟩
          show J 0 0 (rd B n ((T : Int) + 1) ((((hp_px tkf pcf F 1 q ((k + 1), -1)).1 : Nat) : Int)) ((hp_px tkf pcf F 1 q ((k + 1), -1)).2) sc7 S P V ST7 E) 148 [(5, hv (S ((k : Int)).toNat)), (4, hv i), (3, hv 160), (2, hv ((q : Int))), (1, hv 0), (0, .ref 18)] []
          refine jr_iinc R1 d_29_148 (by decide) rfl (lo' := [(4, hv (i + 1)), (5, hv (S ((k : Int)).toNat)), (3, hv 160), (2, hv ((q : Int))), (1, hv 0), (0, .ref 18)]) rfl ?_
          refine jr_goto R1 d_29_151 (by decide) (pc' := 88) rfl ?_
          refine R4 0 0 _ 88 _ [(4, hv (i + 1)), (3, hv 160), (2, hv (q : Int)), (1, hv 0), (0, .ref 18)] _ (fun z hz => by simp only [List.mem_cons, List.not_mem_nil, or_false] at hz ⊢; rcases hz with rfl | rfl | rfl | rfl | rfl <;> simp) ?_
          refine ih (hp_px tkf pcf F 1 q ((k + 1), -1)).1 (hp_px tkf pcf F 1 q ((k + 1), -1)).2 (i + 1) _ _ (by omega) hkT6 hb6.2 hsc7 (fun g => ?_) ⟨by omega, ?_⟩ (fun rv M' h => hQ rv M' ?_)
          · have h1 := hok6.2.2.1 g (by omega)
            simp only at h1
            rw [hx_fu7 (by omega)]
            omega
          · have h1 := hok6.1
            simp only at h1
            omega
          · rw [hx_more (by omega) (by omega) hj]
            exact h
        · skip
          refine jr_calls R2 d_29_112 (by decide) (by decide) rfl (as := [hv (S ((k : Int)).toNat), hv 0]) (rest := []) rfl (hc_joins0 (d := 1) (M := rd B n ((T : Int) + 1) ((k : Int)) ((-1)) sc S P V ST E) (by omega) (hS _)) (by omega) (Nat.le_of_ble_eq_true rfl) ?_
          rintro rv M9 ⟨rfl, rfl⟩
          rw [hs1, if_neg hj]
          show J 0 0 (rd B n ((T : Int) + 1) ((k : Int)) ((-1)) sc S P V ST E) 115 [(4, hv i), (3, hv 160), (2, hv ((q : Int))), (1, hv 0), (0, .ref 18)] [hv 0]
          refine jr_ifc R1 true d_29_115 (by first | assumption | exact hg _ | exact hS _ | exact hV _ | exact hP _ | exact hT _ | exact ⟨by omega, by omega⟩) (by unfold hcb; first | exact decide_eq_true (by omega) | exact decide_eq_false (by omega)) (by decide) (pc' := 154) rfl ?_
          refine jr_ret R3 d_29_154 rfl ?_
          first | (exact hQ _ _ (by rw [hx_stop (by omega) (by simpa using hj)]; exact ⟨rfl, sc, ST, hsc, rfl⟩)) | (exact hQ _ _ (by rw [hx_stop (by omega) (by rw [hTk k (by omega)]; decide)]; exact ⟨rfl, sc, ST, hsc, rfl⟩))
      · refine jr_icmp R1 true d_29_91 (by first | assumption | exact hg _ | exact hS _ | exact hV _ | exact hP _ | exact hT _ | exact ⟨by omega, by omega⟩) (by first | assumption | exact hg _ | exact hS _ | exact hV _ | exact hP _ | exact hT _ | exact ⟨by omega, by omega⟩) (by unfold hcb; first | exact decide_eq_true (by omega) | exact decide_eq_false (by omega)) (by decide) (pc' := 154) rfl ?_
        refine jr_ret R3 d_29_154 rfl ?_
        first | (exact hQ _ _ (by rw [hx_stop (by omega) (by simpa using hj)]; exact ⟨rfl, sc, ST, hsc, rfl⟩)) | (exact hQ _ _ (by rw [hx_stop (by omega) (by rw [hTk k (by omega)]; decide)]; exact ⟨rfl, sc, ST, hsc, rfl⟩))
    · skip
      refine jr_iload R1 d_29_88 rfl ?_
      refine jr_iload_n R1 d_29_90 rfl ?_
      by_cases h1 : i < 160
      · refine jr_icmp R1 false d_29_91 (by first | assumption | exact hg _ | exact hS _ | exact hV _ | exact hP _ | exact hT _ | exact ⟨by omega, by omega⟩) (by first | assumption | exact hg _ | exact hS _ | exact hV _ | exact hP _ | exact hT _ | exact ⟨by omega, by omega⟩) (by unfold hcb; first | exact decide_eq_true (by omega) | exact decide_eq_false (by omega)) (by decide) (pc' := 94) rfl ?_
        refine jr_aload_n R1 d_29_94 rfl ?_
        refine jr_getf R1 d_29_95 (rd_18 hB) (by decide) rfl ?_
        refine jr_iconst R1 d_29_98 ?_
        refine jr_icmp R1 true d_29_99 (by first | assumption | exact hg _ | exact hS _ | exact hV _ | exact hP _ | exact hT _ | exact ⟨by omega, by omega⟩) (by first | assumption | exact hg _ | exact hS _ | exact hV _ | exact hP _ | exact hT _ | exact ⟨by omega, by omega⟩) (by unfold hcb; first | exact decide_eq_true (by omega) | exact decide_eq_false (by omega)) (by decide) (pc' := 154) rfl ?_
        refine jr_ret R3 d_29_154 rfl ?_
        exact hQ _ _ ⟨rfl, sc, ST, hsc, by rw [hp_px_f hf1]⟩
      · refine jr_icmp R1 true d_29_91 (by first | assumption | exact hg _ | exact hS _ | exact hV _ | exact hP _ | exact hT _ | exact ⟨by omega, by omega⟩) (by first | assumption | exact hg _ | exact hS _ | exact hV _ | exact hP _ | exact hT _ | exact ⟨by omega, by omega⟩) (by unfold hcb; first | exact decide_eq_true (by omega) | exact decide_eq_false (by omega)) (by decide) (pc' := 154) rfl ?_
        refine jr_ret R3 d_29_154 rfl ?_
        exact hQ _ _ ⟨rfl, sc, ST, hsc, by rw [hp_px_f hf1]⟩
theorem ha_loop1 {lch : Launch} {B : mj_M} {n : Int} {T : Nat} {S P V E : Nat → Int} {tkf pcf : Nat → Int} {N : Nat} {q d L : Nat} {xs : Nat → Int32} {J : mj_JT} {Q : Option Value → mj_M → Prop} (hB : 25 ≤ B.length) (hT9 : T ≤ 160) (hS : ∀ j, hr (S j)) (hP : ∀ j, hr (P j)) (hSk : ∀ j : Nat, j ≤ T → S j = tkf j) (hPk : ∀ j : Nat, j ≤ T → P j = pcf j) (hTk : ∀ j, T ≤ j → tkf j = 302) (hpc : ∀ j, 0 ≤ pcf j ∧ pcf j ≤ 160) (hq5 : q ≤ 5) (hE : ∀ N', N' < N → hgE lch B n T S P V E tkf pcf N') (hd : 9 - 1 + 8 * (5 - q) ≤ d) (R1 : mj_R1 L xs 29 (mj_ow 29) (mj_ml 29) (Nat.beq (mj_ki 29) 2) 0 0 J) (R2 : mj_R2 lch 29 d 0 0 J) (R3 : mj_R3 29 (mj_rt 29) 0 0 Q J) (R4 : mj_R4 J) :
    ∀ (F k : Nat) (f i sc : Int) (ST : Nat → Int), F ≤ N → k ≤ T → (-1 ≤ f ∧ f ≤ 160) → (0 ≤ sc ∧ sc ≤ 160) → (f = -1 → hp_fu T (6 + 1) k ≤ F) → (0 ≤ i ∧ i ≤ (k : Int)) → (∀ rv M', hq B n T S P V E (hp_px tkf pcf F (6 + 1) q (k, f)) rv M' → Q rv M') → J 0 0 (rd B n ((T : Int) + 1) (k : Int) f sc S P V ST E) 88 [(4, hv i), (3, hv 160), (2, hv ((q : Int))), (1, hv 1), (0, .ref 18)] [] := by
  intro F
  induction F with
  | zero =>
    intro k f i sc ST hF hk hf hsc hfu hi hQ
    by_cases hf1 : f = -1
    · exfalso
      have := hfu hf1
      rw [hx_fu7 (by omega)] at this
      omega
    · skip
      refine jr_iload R1 d_29_88 rfl ?_
      refine jr_iload_n R1 d_29_90 rfl ?_
      by_cases h1 : i < 160
      · refine jr_icmp R1 false d_29_91 (by first | assumption | exact hg _ | exact hS _ | exact hV _ | exact hP _ | exact hT _ | exact ⟨by omega, by omega⟩) (by first | assumption | exact hg _ | exact hS _ | exact hV _ | exact hP _ | exact hT _ | exact ⟨by omega, by omega⟩) (by unfold hcb; first | exact decide_eq_true (by omega) | exact decide_eq_false (by omega)) (by decide) (pc' := 94) rfl ?_
        refine jr_aload_n R1 d_29_94 rfl ?_
        refine jr_getf R1 d_29_95 (rd_18 hB) (by decide) rfl ?_
        refine jr_iconst R1 d_29_98 ?_
        refine jr_icmp R1 true d_29_99 (by first | assumption | exact hg _ | exact hS _ | exact hV _ | exact hP _ | exact hT _ | exact ⟨by omega, by omega⟩) (by first | assumption | exact hg _ | exact hS _ | exact hV _ | exact hP _ | exact hT _ | exact ⟨by omega, by omega⟩) (by unfold hcb; first | exact decide_eq_true (by omega) | exact decide_eq_false (by omega)) (by decide) (pc' := 154) rfl ?_
        refine jr_ret R3 d_29_154 rfl ?_
        exact hQ _ _ ⟨rfl, sc, ST, hsc, by rw [hp_px_f hf1]⟩
      · refine jr_icmp R1 true d_29_91 (by first | assumption | exact hg _ | exact hS _ | exact hV _ | exact hP _ | exact hT _ | exact ⟨by omega, by omega⟩) (by first | assumption | exact hg _ | exact hS _ | exact hV _ | exact hP _ | exact hT _ | exact ⟨by omega, by omega⟩) (by unfold hcb; first | exact decide_eq_true (by omega) | exact decide_eq_false (by omega)) (by decide) (pc' := 154) rfl ?_
        refine jr_ret R3 d_29_154 rfl ?_
        exact hQ _ _ ⟨rfl, sc, ST, hsc, by rw [hp_px_f hf1]⟩
  | succ F ih =>
    intro k f i sc ST hF hk hf hsc hfu hi hQ
    by_cases hf1 : f = -1
    · subst hf1
      have hfu := hfu rfl
      rw [hx_fu7 (by omega)] at hfu
      have hE := hE F (by omega)
      have hlt : k < T ∨ tkf k = 302 := by
        by_cases g : T ≤ k
        · exact Or.inr (hTk _ g)
        · exact Or.inl (by omega)
      have hs1 : S ((k : Int)).toNat = tkf k := hSk k hk
      have hj9 : hp_jb (tkf k) 1 = true → k < T := fun g => by
        rcases hlt with h | h
        · exact h
        · rw [h] at g
          exact absurd g (by decide)
      refine jr_iload R1 d_29_88 rfl ?_
      refine jr_iload_n R1 d_29_90 rfl ?_
      by_cases h1 : i < 160
      · refine jr_icmp R1 false d_29_91 (by first | assumption | exact hg _ | exact hS _ | exact hV _ | exact hP _ | exact hT _ | exact ⟨by omega, by omega⟩) (by first | assumption | exact hg _ | exact hS _ | exact hV _ | exact hP _ | exact hT _ | exact ⟨by omega, by omega⟩) (by unfold hcb; first | exact decide_eq_true (by omega) | exact decide_eq_false (by omega)) (by decide) (pc' := 94) rfl ?_
        refine jr_aload_n R1 d_29_94 rfl ?_
        refine jr_getf R1 d_29_95 (rd_18 hB) (by decide) rfl ?_
        refine jr_iconst R1 d_29_98 ?_
        refine jr_icmp R1 false d_29_99 (by first | assumption | exact hg _ | exact hS _ | exact hV _ | exact hP _ | exact hT _ | exact ⟨by omega, by omega⟩) (by first | assumption | exact hg _ | exact hS _ | exact hV _ | exact hP _ | exact hT _ | exact ⟨by omega, by omega⟩) (by unfold hcb; first | exact decide_eq_true (by omega) | exact decide_eq_false (by omega)) (by decide) (pc' := 102) rfl ?_
        refine jr_aload_n R1 d_29_102 rfl ?_
        refine jr_getf R1 d_29_103 (rd_18 hB) (by decide) rfl ?_
        refine jr_aload_n R1 d_29_106 rfl ?_
        refine jr_getf R1 d_29_107 (rd_18 hB) (by decide) rfl ?_
        refine jr_iald R1 d_29_110 (rd_20 hB) (by omega) (by omega) (by decide) ?_
        refine jr_iload_n R1 d_29_111 rfl ?_
        by_cases hj : hp_jb (tkf k) 1 = true
        · skip
          refine jr_calls R2 d_29_112 (by decide) (by decide) rfl (as := [hv (S ((k : Int)).toNat), hv 1]) (rest := []) rfl (hc_joins1 (d := 1) (M := rd B n ((T : Int) + 1) ((k : Int)) ((-1)) sc S P V ST E) (by omega) (hS _)) (by omega) (Nat.le_of_ble_eq_true rfl) ?_
          rintro rv M9 ⟨rfl, rfl⟩
          rw [hs1, if_pos hj]
          show J 0 0 (rd B n ((T : Int) + 1) ((k : Int)) ((-1)) sc S P V ST E) 115 [(4, hv i), (3, hv 160), (2, hv ((q : Int))), (1, hv 1), (0, .ref 18)] [hv 1]
          refine jr_ifc R1 false d_29_115 (by first | assumption | exact hg _ | exact hS _ | exact hV _ | exact hP _ | exact hT _ | exact ⟨by omega, by omega⟩) (by unfold hcb; first | exact decide_eq_true (by omega) | exact decide_eq_false (by omega)) (by decide) (pc' := 118) rfl ?_
          refine jr_aload_n R1 d_29_118 rfl ?_
          refine jr_getf R1 d_29_119 (rd_18 hB) (by decide) rfl ?_
          refine jr_aload_n R1 d_29_122 rfl ?_
          refine jr_getf R1 d_29_123 (rd_18 hB) (by decide) rfl ?_
          refine jr_iald R1 d_29_126 (rd_20 hB) (by omega) (by omega) (by decide) ?_
          refine jr_istore R1 d_29_127 (by decide) (lo' := [(5, hv (S ((k : Int)).toNat)), (4, hv i), (3, hv 160), (2, hv ((q : Int))), (1, hv 1), (0, .ref 18)]) rfl ?_
          refine jr_aload_n R1 d_29_129 rfl ?_
          refine jr_callv R2 d_29_130 (by decide) rfl (as := [.ref 18]) (rest := []) rfl (by unfold mj_rc; rw [show (_ : List Value).headD _ = .ref 18 from rfl]; simp only [rd_18 hB]; decide) (ha_pass (d := 1) (by omega) hB hT9 hS hP hSk hPk hTk hpc (hj9 hj)) (by omega) (Nat.le_of_ble_eq_true rfl) ?_
          rintro rv M9 ⟨rfl, rfl⟩
          have hkT := hj9 hj
          show J 0 0 (rd B n ((T : Int) + 1) ((k : Int) + 1) ((-1)) sc S P V ST E) 133 [(5, hv (S ((k : Int)).toNat)), (4, hv i), (3, hv 160), (2, hv ((q : Int))), (1, hv 1), (0, .ref 18)] []
          refine jr_aload_n R1 d_29_133 rfl ?_
          refine jr_iload_n R1 d_29_134 rfl ?_
          refine jr_iconst R1 d_29_135 ?_
          refine jr_iadd R1 d_29_136 ?_
          refine jr_iload_n R1 d_29_137 rfl ?_
          refine jr_calls R2 d_29_138 (by decide) (by decide) rfl (as := [.ref 18, hv 2, hv ((q : Int))]) (rest := []) rfl (hE (9 - 2 + 8 * (5 - q)) 2 q (k + 1) _ _ (by omega) (by omega) (by omega) hsc (by rw [hx_fu (by omega)]; omega) (Nat.le_refl _)) (by omega) (Nat.le_of_ble_eq_true rfl) ?_
          rintro rv M9 ⟨rfl, sc8, ST8, hsc8, rfl⟩
          have hok8 := hp_px_ok hTk (fun j => (hpc j).1) F 2 q ((k + 1), -1) (by omega) (by simp only; omega) rfl (by rw [hx_fu (by omega)]; simp only; omega)
          have hb8 := hx_bd hT9 hpc hok8
          have hkT8 := hok8.2.1
          show J 0 0 (rd B n ((T : Int) + 1) ((((hp_px tkf pcf F 2 q ((k + 1), -1)).1 : Nat) : Int)) ((hp_px tkf pcf F 2 q ((k + 1), -1)).2) sc8 S P V ST8 E) 141 [(5, hv (S ((k : Int)).toNat)), (4, hv i), (3, hv 160), (2, hv ((q : Int))), (1, hv 1), (0, .ref 18)] []
          refine jr_aload_n R1 d_29_141 rfl ?_
          refine jr_iload R1 d_29_142 rfl ?_
          refine jr_ineg R1 d_29_144 ?_
          refine jr_callv R2 d_29_145 (by decide) rfl (as := [.ref 18, hv (-(S ((k : Int)).toNat))]) (rest := []) rfl (by unfold mj_rc; rw [show (_ : List Value).headD _ = .ref 18 from rfl]; simp only [rd_18 hB]; decide) (hc_step (d := 1) (by omega) hB hb8.1 (by omega) hb8.2 hsc8) (by omega) (Nat.le_of_ble_eq_true rfl) ?_
          rintro rv M9 ⟨rfl, sc9, ST9, hsc9, rfl⟩
          show J 0 0 (rd B n ((T : Int) + 1) ((((hp_px tkf pcf F 2 q ((k + 1), -1)).1 : Nat) : Int)) ((hp_px tkf pcf F 2 q ((k + 1), -1)).2) sc9 S P V ST9 E) 148 [(5, hv (S ((k : Int)).toNat)), (4, hv i), (3, hv 160), (2, hv ((q : Int))), (1, hv 1), (0, .ref 18)] []
          refine jr_iinc R1 d_29_148 (by decide) rfl (lo' := [(4, hv (i + 1)), (5, hv (S ((k : Int)).toNat)), (3, hv 160), (2, hv ((q : Int))), (1, hv 1), (0, .ref 18)]) rfl ?_
          refine jr_goto R1 d_29_151 (by decide) (pc' := 88) rfl ?_
          refine R4 0 0 _ 88 _ [(4, hv (i + 1)), (3, hv 160), (2, hv (q : Int)), (1, hv 1), (0, .ref 18)] _ (fun z hz => by simp only [List.mem_cons, List.not_mem_nil, or_false] at hz ⊢; rcases hz with rfl | rfl | rfl | rfl | rfl <;> simp) ?_
          refine ih (hp_px tkf pcf F 2 q ((k + 1), -1)).1 (hp_px tkf pcf F 2 q ((k + 1), -1)).2 (i + 1) _ _ (by omega) hkT8 hb8.2 hsc9 (fun g => ?_) ⟨by omega, ?_⟩ (fun rv M' h => hQ rv M' ?_)
          · have h1 := hok8.2.2.1 g (by omega)
            simp only at h1
            rw [hx_fu7 (by omega)]
            omega
          · have h1 := hok8.1
            simp only at h1
            omega
          · rw [hx_more (by omega) (by omega) hj]
            exact h
        · skip
          refine jr_calls R2 d_29_112 (by decide) (by decide) rfl (as := [hv (S ((k : Int)).toNat), hv 1]) (rest := []) rfl (hc_joins1 (d := 1) (M := rd B n ((T : Int) + 1) ((k : Int)) ((-1)) sc S P V ST E) (by omega) (hS _)) (by omega) (Nat.le_of_ble_eq_true rfl) ?_
          rintro rv M9 ⟨rfl, rfl⟩
          rw [hs1, if_neg hj]
          show J 0 0 (rd B n ((T : Int) + 1) ((k : Int)) ((-1)) sc S P V ST E) 115 [(4, hv i), (3, hv 160), (2, hv ((q : Int))), (1, hv 1), (0, .ref 18)] [hv 0]
          refine jr_ifc R1 true d_29_115 (by first | assumption | exact hg _ | exact hS _ | exact hV _ | exact hP _ | exact hT _ | exact ⟨by omega, by omega⟩) (by unfold hcb; first | exact decide_eq_true (by omega) | exact decide_eq_false (by omega)) (by decide) (pc' := 154) rfl ?_
          refine jr_ret R3 d_29_154 rfl ?_
          first | (exact hQ _ _ (by rw [hx_stop (by omega) (by simpa using hj)]; exact ⟨rfl, sc, ST, hsc, rfl⟩)) | (exact hQ _ _ (by rw [hx_stop (by omega) (by rw [hTk k (by omega)]; decide)]; exact ⟨rfl, sc, ST, hsc, rfl⟩))
      · refine jr_icmp R1 true d_29_91 (by first | assumption | exact hg _ | exact hS _ | exact hV _ | exact hP _ | exact hT _ | exact ⟨by omega, by omega⟩) (by first | assumption | exact hg _ | exact hS _ | exact hV _ | exact hP _ | exact hT _ | exact ⟨by omega, by omega⟩) (by unfold hcb; first | exact decide_eq_true (by omega) | exact decide_eq_false (by omega)) (by decide) (pc' := 154) rfl ?_
        refine jr_ret R3 d_29_154 rfl ?_
        first | (exact hQ _ _ (by rw [hx_stop (by omega) (by simpa using hj)]; exact ⟨rfl, sc, ST, hsc, rfl⟩)) | (exact hQ _ _ (by rw [hx_stop (by omega) (by rw [hTk k (by omega)]; decide)]; exact ⟨rfl, sc, ST, hsc, rfl⟩))
    · skip
      refine jr_iload R1 d_29_88 rfl ?_
      refine jr_iload_n R1 d_29_90 rfl ?_
      by_cases h1 : i < 160
      · refine jr_icmp R1 false d_29_91 (by first | assumption | exact hg _ | exact hS _ | exact hV _ | exact hP _ | exact hT _ | exact ⟨by omega, by omega⟩) (by first | assumption | exact hg _ | exact hS _ | exact hV _ | exact hP _ | exact hT _ | exact ⟨by omega, by omega⟩) (by unfold hcb; first | exact decide_eq_true (by omega) | exact decide_eq_false (by omega)) (by decide) (pc' := 94) rfl ?_
        refine jr_aload_n R1 d_29_94 rfl ?_
        refine jr_getf R1 d_29_95 (rd_18 hB) (by decide) rfl ?_
        refine jr_iconst R1 d_29_98 ?_
        refine jr_icmp R1 true d_29_99 (by first | assumption | exact hg _ | exact hS _ | exact hV _ | exact hP _ | exact hT _ | exact ⟨by omega, by omega⟩) (by first | assumption | exact hg _ | exact hS _ | exact hV _ | exact hP _ | exact hT _ | exact ⟨by omega, by omega⟩) (by unfold hcb; first | exact decide_eq_true (by omega) | exact decide_eq_false (by omega)) (by decide) (pc' := 154) rfl ?_
        refine jr_ret R3 d_29_154 rfl ?_
        exact hQ _ _ ⟨rfl, sc, ST, hsc, by rw [hp_px_f hf1]⟩
      · refine jr_icmp R1 true d_29_91 (by first | assumption | exact hg _ | exact hS _ | exact hV _ | exact hP _ | exact hT _ | exact ⟨by omega, by omega⟩) (by first | assumption | exact hg _ | exact hS _ | exact hV _ | exact hP _ | exact hT _ | exact ⟨by omega, by omega⟩) (by unfold hcb; first | exact decide_eq_true (by omega) | exact decide_eq_false (by omega)) (by decide) (pc' := 154) rfl ?_
        refine jr_ret R3 d_29_154 rfl ?_
        exact hQ _ _ ⟨rfl, sc, ST, hsc, by rw [hp_px_f hf1]⟩
theorem ha_loop3 {lch : Launch} {B : mj_M} {n : Int} {T : Nat} {S P V E : Nat → Int} {tkf pcf : Nat → Int} {N : Nat} {q d L : Nat} {xs : Nat → Int32} {J : mj_JT} {Q : Option Value → mj_M → Prop} (hB : 25 ≤ B.length) (hT9 : T ≤ 160) (hS : ∀ j, hr (S j)) (hP : ∀ j, hr (P j)) (hSk : ∀ j : Nat, j ≤ T → S j = tkf j) (hPk : ∀ j : Nat, j ≤ T → P j = pcf j) (hTk : ∀ j, T ≤ j → tkf j = 302) (hpc : ∀ j, 0 ≤ pcf j ∧ pcf j ≤ 160) (hq5 : q ≤ 5) (hE : ∀ N', N' < N → hgE lch B n T S P V E tkf pcf N') (hd : 9 - 3 + 8 * (5 - q) ≤ d) (R1 : mj_R1 L xs 29 (mj_ow 29) (mj_ml 29) (Nat.beq (mj_ki 29) 2) 0 0 J) (R2 : mj_R2 lch 29 d 0 0 J) (R3 : mj_R3 29 (mj_rt 29) 0 0 Q J) (R4 : mj_R4 J) :
    ∀ (F k : Nat) (f i sc : Int) (ST : Nat → Int), F ≤ N → k ≤ T → (-1 ≤ f ∧ f ≤ 160) → (0 ≤ sc ∧ sc ≤ 160) → (f = -1 → hp_fu T (6 + 3) k ≤ F) → (0 ≤ i ∧ i ≤ (k : Int)) → (∀ rv M', hq B n T S P V E (hp_px tkf pcf F (6 + 3) q (k, f)) rv M' → Q rv M') → J 0 0 (rd B n ((T : Int) + 1) (k : Int) f sc S P V ST E) 88 [(4, hv i), (3, hv 160), (2, hv ((q : Int))), (1, hv 3), (0, .ref 18)] [] := by
  intro F
  induction F with
  | zero =>
    intro k f i sc ST hF hk hf hsc hfu hi hQ
    by_cases hf1 : f = -1
    · exfalso
      have := hfu hf1
      rw [hx_fu7 (by omega)] at this
      omega
    · skip
      refine jr_iload R1 d_29_88 rfl ?_
      refine jr_iload_n R1 d_29_90 rfl ?_
      by_cases h1 : i < 160
      · refine jr_icmp R1 false d_29_91 (by first | assumption | exact hg _ | exact hS _ | exact hV _ | exact hP _ | exact hT _ | exact ⟨by omega, by omega⟩) (by first | assumption | exact hg _ | exact hS _ | exact hV _ | exact hP _ | exact hT _ | exact ⟨by omega, by omega⟩) (by unfold hcb; first | exact decide_eq_true (by omega) | exact decide_eq_false (by omega)) (by decide) (pc' := 94) rfl ?_
        refine jr_aload_n R1 d_29_94 rfl ?_
        refine jr_getf R1 d_29_95 (rd_18 hB) (by decide) rfl ?_
        refine jr_iconst R1 d_29_98 ?_
        refine jr_icmp R1 true d_29_99 (by first | assumption | exact hg _ | exact hS _ | exact hV _ | exact hP _ | exact hT _ | exact ⟨by omega, by omega⟩) (by first | assumption | exact hg _ | exact hS _ | exact hV _ | exact hP _ | exact hT _ | exact ⟨by omega, by omega⟩) (by unfold hcb; first | exact decide_eq_true (by omega) | exact decide_eq_false (by omega)) (by decide) (pc' := 154) rfl ?_
        refine jr_ret R3 d_29_154 rfl ?_
        exact hQ _ _ ⟨rfl, sc, ST, hsc, by rw [hp_px_f hf1]⟩
      · refine jr_icmp R1 true d_29_91 (by first | assumption | exact hg _ | exact hS _ | exact hV _ | exact hP _ | exact hT _ | exact ⟨by omega, by omega⟩) (by first | assumption | exact hg _ | exact hS _ | exact hV _ | exact hP _ | exact hT _ | exact ⟨by omega, by omega⟩) (by unfold hcb; first | exact decide_eq_true (by omega) | exact decide_eq_false (by omega)) (by decide) (pc' := 154) rfl ?_
        refine jr_ret R3 d_29_154 rfl ?_
        exact hQ _ _ ⟨rfl, sc, ST, hsc, by rw [hp_px_f hf1]⟩
  | succ F ih =>
    intro k f i sc ST hF hk hf hsc hfu hi hQ
    by_cases hf1 : f = -1
    · subst hf1
      have hfu := hfu rfl
      rw [hx_fu7 (by omega)] at hfu
      have hE := hE F (by omega)
      have hlt : k < T ∨ tkf k = 302 := by
        by_cases g : T ≤ k
        · exact Or.inr (hTk _ g)
        · exact Or.inl (by omega)
      have hs1 : S ((k : Int)).toNat = tkf k := hSk k hk
      have hj9 : hp_jb (tkf k) 3 = true → k < T := fun g => by
        rcases hlt with h | h
        · exact h
        · rw [h] at g
          exact absurd g (by decide)
      refine jr_iload R1 d_29_88 rfl ?_
      refine jr_iload_n R1 d_29_90 rfl ?_
      by_cases h1 : i < 160
      · refine jr_icmp R1 false d_29_91 (by first | assumption | exact hg _ | exact hS _ | exact hV _ | exact hP _ | exact hT _ | exact ⟨by omega, by omega⟩) (by first | assumption | exact hg _ | exact hS _ | exact hV _ | exact hP _ | exact hT _ | exact ⟨by omega, by omega⟩) (by unfold hcb; first | exact decide_eq_true (by omega) | exact decide_eq_false (by omega)) (by decide) (pc' := 94) rfl ?_
        refine jr_aload_n R1 d_29_94 rfl ?_
        refine jr_getf R1 d_29_95 (rd_18 hB) (by decide) rfl ?_
        refine jr_iconst R1 d_29_98 ?_
        refine jr_icmp R1 false d_29_99 (by first | assumption | exact hg _ | exact hS _ | exact hV _ | exact hP _ | exact hT _ | exact ⟨by omega, by omega⟩) (by first | assumption | exact hg _ | exact hS _ | exact hV _ | exact hP _ | exact hT _ | exact ⟨by omega, by omega⟩) (by unfold hcb; first | exact decide_eq_true (by omega) | exact decide_eq_false (by omega)) (by decide) (pc' := 102) rfl ?_
        refine jr_aload_n R1 d_29_102 rfl ?_
        refine jr_getf R1 d_29_103 (rd_18 hB) (by decide) rfl ?_
        refine jr_aload_n R1 d_29_106 rfl ?_
        refine jr_getf R1 d_29_107 (rd_18 hB) (by decide) rfl ?_
        refine jr_iald R1 d_29_110 (rd_20 hB) (by omega) (by omega) (by decide) ?_
        refine jr_iload_n R1 d_29_111 rfl ?_
        by_cases hj : hp_jb (tkf k) 3 = true
        · skip
          refine jr_calls R2 d_29_112 (by decide) (by decide) rfl (as := [hv (S ((k : Int)).toNat), hv 3]) (rest := []) rfl (hc_joins3 (d := 1) (M := rd B n ((T : Int) + 1) ((k : Int)) ((-1)) sc S P V ST E) (by omega) (hS _)) (by omega) (Nat.le_of_ble_eq_true rfl) ?_
          rintro rv M9 ⟨rfl, rfl⟩
          rw [hs1, if_pos hj]
          show J 0 0 (rd B n ((T : Int) + 1) ((k : Int)) ((-1)) sc S P V ST E) 115 [(4, hv i), (3, hv 160), (2, hv ((q : Int))), (1, hv 3), (0, .ref 18)] [hv 1]
          refine jr_ifc R1 false d_29_115 (by first | assumption | exact hg _ | exact hS _ | exact hV _ | exact hP _ | exact hT _ | exact ⟨by omega, by omega⟩) (by unfold hcb; first | exact decide_eq_true (by omega) | exact decide_eq_false (by omega)) (by decide) (pc' := 118) rfl ?_
          refine jr_aload_n R1 d_29_118 rfl ?_
          refine jr_getf R1 d_29_119 (rd_18 hB) (by decide) rfl ?_
          refine jr_aload_n R1 d_29_122 rfl ?_
          refine jr_getf R1 d_29_123 (rd_18 hB) (by decide) rfl ?_
          refine jr_iald R1 d_29_126 (rd_20 hB) (by omega) (by omega) (by decide) ?_
          refine jr_istore R1 d_29_127 (by decide) (lo' := [(5, hv (S ((k : Int)).toNat)), (4, hv i), (3, hv 160), (2, hv ((q : Int))), (1, hv 3), (0, .ref 18)]) rfl ?_
          refine jr_aload_n R1 d_29_129 rfl ?_
          refine jr_callv R2 d_29_130 (by decide) rfl (as := [.ref 18]) (rest := []) rfl (by unfold mj_rc; rw [show (_ : List Value).headD _ = .ref 18 from rfl]; simp only [rd_18 hB]; decide) (ha_pass (d := 1) (by omega) hB hT9 hS hP hSk hPk hTk hpc (hj9 hj)) (by omega) (Nat.le_of_ble_eq_true rfl) ?_
          rintro rv M9 ⟨rfl, rfl⟩
          have hkT := hj9 hj
          show J 0 0 (rd B n ((T : Int) + 1) ((k : Int) + 1) ((-1)) sc S P V ST E) 133 [(5, hv (S ((k : Int)).toNat)), (4, hv i), (3, hv 160), (2, hv ((q : Int))), (1, hv 3), (0, .ref 18)] []
          refine jr_aload_n R1 d_29_133 rfl ?_
          refine jr_iload_n R1 d_29_134 rfl ?_
          refine jr_iconst R1 d_29_135 ?_
          refine jr_iadd R1 d_29_136 ?_
          refine jr_iload_n R1 d_29_137 rfl ?_
          refine jr_calls R2 d_29_138 (by decide) (by decide) rfl (as := [.ref 18, hv 4, hv ((q : Int))]) (rest := []) rfl (hE (9 - 4 + 8 * (5 - q)) 4 q (k + 1) _ _ (by omega) (by omega) (by omega) hsc (by rw [hx_fu (by omega)]; omega) (Nat.le_refl _)) (by omega) (Nat.le_of_ble_eq_true rfl) ?_
          rintro rv M9 ⟨rfl, sc10, ST10, hsc10, rfl⟩
          have hok10 := hp_px_ok hTk (fun j => (hpc j).1) F 4 q ((k + 1), -1) (by omega) (by simp only; omega) rfl (by rw [hx_fu (by omega)]; simp only; omega)
          have hb10 := hx_bd hT9 hpc hok10
          have hkT10 := hok10.2.1
          show J 0 0 (rd B n ((T : Int) + 1) ((((hp_px tkf pcf F 4 q ((k + 1), -1)).1 : Nat) : Int)) ((hp_px tkf pcf F 4 q ((k + 1), -1)).2) sc10 S P V ST10 E) 141 [(5, hv (S ((k : Int)).toNat)), (4, hv i), (3, hv 160), (2, hv ((q : Int))), (1, hv 3), (0, .ref 18)] []
          refine jr_aload_n R1 d_29_141 rfl ?_
          refine jr_iload R1 d_29_142 rfl ?_
          refine jr_ineg R1 d_29_144 ?_
          refine jr_callv R2 d_29_145 (by decide) rfl (as := [.ref 18, hv (-(S ((k : Int)).toNat))]) (rest := []) rfl (by unfold mj_rc; rw [show (_ : List Value).headD _ = .ref 18 from rfl]; simp only [rd_18 hB]; decide) (hc_step (d := 1) (by omega) hB hb10.1 (by omega) hb10.2 hsc10) (by omega) (Nat.le_of_ble_eq_true rfl) ?_
          rintro rv M9 ⟨rfl, sc11, ST11, hsc11, rfl⟩
          show J 0 0 (rd B n ((T : Int) + 1) ((((hp_px tkf pcf F 4 q ((k + 1), -1)).1 : Nat) : Int)) ((hp_px tkf pcf F 4 q ((k + 1), -1)).2) sc11 S P V ST11 E) 148 [(5, hv (S ((k : Int)).toNat)), (4, hv i), (3, hv 160), (2, hv ((q : Int))), (1, hv 3), (0, .ref 18)] []
          refine jr_iinc R1 d_29_148 (by decide) rfl (lo' := [(4, hv (i + 1)), (5, hv (S ((k : Int)).toNat)), (3, hv 160), (2, hv ((q : Int))), (1, hv 3), (0, .ref 18)]) rfl ?_
          refine jr_goto R1 d_29_151 (by decide) (pc' := 88) rfl ?_
          refine R4 0 0 _ 88 _ [(4, hv (i + 1)), (3, hv 160), (2, hv (q : Int)), (1, hv 3), (0, .ref 18)] _ (fun z hz => by simp only [List.mem_cons, List.not_mem_nil, or_false] at hz ⊢; rcases hz with rfl | rfl | rfl | rfl | rfl <;> simp) ?_
          refine ih (hp_px tkf pcf F 4 q ((k + 1), -1)).1 (hp_px tkf pcf F 4 q ((k + 1), -1)).2 (i + 1) _ _ (by omega) hkT10 hb10.2 hsc11 (fun g => ?_) ⟨by omega, ?_⟩ (fun rv M' h => hQ rv M' ?_)
          · have h1 := hok10.2.2.1 g (by omega)
            simp only at h1
            rw [hx_fu7 (by omega)]
            omega
          · have h1 := hok10.1
            simp only at h1
            omega
          · rw [hx_more (by omega) (by omega) hj]
            exact h
        · skip
          refine jr_calls R2 d_29_112 (by decide) (by decide) rfl (as := [hv (S ((k : Int)).toNat), hv 3]) (rest := []) rfl (hc_joins3 (d := 1) (M := rd B n ((T : Int) + 1) ((k : Int)) ((-1)) sc S P V ST E) (by omega) (hS _)) (by omega) (Nat.le_of_ble_eq_true rfl) ?_
          rintro rv M9 ⟨rfl, rfl⟩
          rw [hs1, if_neg hj]
          show J 0 0 (rd B n ((T : Int) + 1) ((k : Int)) ((-1)) sc S P V ST E) 115 [(4, hv i), (3, hv 160), (2, hv ((q : Int))), (1, hv 3), (0, .ref 18)] [hv 0]
          refine jr_ifc R1 true d_29_115 (by first | assumption | exact hg _ | exact hS _ | exact hV _ | exact hP _ | exact hT _ | exact ⟨by omega, by omega⟩) (by unfold hcb; first | exact decide_eq_true (by omega) | exact decide_eq_false (by omega)) (by decide) (pc' := 154) rfl ?_
          refine jr_ret R3 d_29_154 rfl ?_
          first | (exact hQ _ _ (by rw [hx_stop (by omega) (by simpa using hj)]; exact ⟨rfl, sc, ST, hsc, rfl⟩)) | (exact hQ _ _ (by rw [hx_stop (by omega) (by rw [hTk k (by omega)]; decide)]; exact ⟨rfl, sc, ST, hsc, rfl⟩))
      · refine jr_icmp R1 true d_29_91 (by first | assumption | exact hg _ | exact hS _ | exact hV _ | exact hP _ | exact hT _ | exact ⟨by omega, by omega⟩) (by first | assumption | exact hg _ | exact hS _ | exact hV _ | exact hP _ | exact hT _ | exact ⟨by omega, by omega⟩) (by unfold hcb; first | exact decide_eq_true (by omega) | exact decide_eq_false (by omega)) (by decide) (pc' := 154) rfl ?_
        refine jr_ret R3 d_29_154 rfl ?_
        first | (exact hQ _ _ (by rw [hx_stop (by omega) (by simpa using hj)]; exact ⟨rfl, sc, ST, hsc, rfl⟩)) | (exact hQ _ _ (by rw [hx_stop (by omega) (by rw [hTk k (by omega)]; decide)]; exact ⟨rfl, sc, ST, hsc, rfl⟩))
    · skip
      refine jr_iload R1 d_29_88 rfl ?_
      refine jr_iload_n R1 d_29_90 rfl ?_
      by_cases h1 : i < 160
      · refine jr_icmp R1 false d_29_91 (by first | assumption | exact hg _ | exact hS _ | exact hV _ | exact hP _ | exact hT _ | exact ⟨by omega, by omega⟩) (by first | assumption | exact hg _ | exact hS _ | exact hV _ | exact hP _ | exact hT _ | exact ⟨by omega, by omega⟩) (by unfold hcb; first | exact decide_eq_true (by omega) | exact decide_eq_false (by omega)) (by decide) (pc' := 94) rfl ?_
        refine jr_aload_n R1 d_29_94 rfl ?_
        refine jr_getf R1 d_29_95 (rd_18 hB) (by decide) rfl ?_
        refine jr_iconst R1 d_29_98 ?_
        refine jr_icmp R1 true d_29_99 (by first | assumption | exact hg _ | exact hS _ | exact hV _ | exact hP _ | exact hT _ | exact ⟨by omega, by omega⟩) (by first | assumption | exact hg _ | exact hS _ | exact hV _ | exact hP _ | exact hT _ | exact ⟨by omega, by omega⟩) (by unfold hcb; first | exact decide_eq_true (by omega) | exact decide_eq_false (by omega)) (by decide) (pc' := 154) rfl ?_
        refine jr_ret R3 d_29_154 rfl ?_
        exact hQ _ _ ⟨rfl, sc, ST, hsc, by rw [hp_px_f hf1]⟩
      · refine jr_icmp R1 true d_29_91 (by first | assumption | exact hg _ | exact hS _ | exact hV _ | exact hP _ | exact hT _ | exact ⟨by omega, by omega⟩) (by first | assumption | exact hg _ | exact hS _ | exact hV _ | exact hP _ | exact hT _ | exact ⟨by omega, by omega⟩) (by unfold hcb; first | exact decide_eq_true (by omega) | exact decide_eq_false (by omega)) (by decide) (pc' := 154) rfl ?_
        refine jr_ret R3 d_29_154 rfl ?_
        exact hQ _ _ ⟨rfl, sc, ST, hsc, by rw [hp_px_f hf1]⟩
theorem ha_loop4 {lch : Launch} {B : mj_M} {n : Int} {T : Nat} {S P V E : Nat → Int} {tkf pcf : Nat → Int} {N : Nat} {q d L : Nat} {xs : Nat → Int32} {J : mj_JT} {Q : Option Value → mj_M → Prop} (hB : 25 ≤ B.length) (hT9 : T ≤ 160) (hS : ∀ j, hr (S j)) (hP : ∀ j, hr (P j)) (hSk : ∀ j : Nat, j ≤ T → S j = tkf j) (hPk : ∀ j : Nat, j ≤ T → P j = pcf j) (hTk : ∀ j, T ≤ j → tkf j = 302) (hpc : ∀ j, 0 ≤ pcf j ∧ pcf j ≤ 160) (hq5 : q ≤ 5) (hE : ∀ N', N' < N → hgE lch B n T S P V E tkf pcf N') (hd : 9 - 4 + 8 * (5 - q) ≤ d) (R1 : mj_R1 L xs 29 (mj_ow 29) (mj_ml 29) (Nat.beq (mj_ki 29) 2) 0 0 J) (R2 : mj_R2 lch 29 d 0 0 J) (R3 : mj_R3 29 (mj_rt 29) 0 0 Q J) (R4 : mj_R4 J) :
    ∀ (F k : Nat) (f i sc : Int) (ST : Nat → Int), F ≤ N → k ≤ T → (-1 ≤ f ∧ f ≤ 160) → (0 ≤ sc ∧ sc ≤ 160) → (f = -1 → hp_fu T (6 + 4) k ≤ F) → (0 ≤ i ∧ i ≤ (k : Int)) → (∀ rv M', hq B n T S P V E (hp_px tkf pcf F (6 + 4) q (k, f)) rv M' → Q rv M') → J 0 0 (rd B n ((T : Int) + 1) (k : Int) f sc S P V ST E) 88 [(4, hv i), (3, hv 160), (2, hv ((q : Int))), (1, hv 4), (0, .ref 18)] [] := by
  intro F
  induction F with
  | zero =>
    intro k f i sc ST hF hk hf hsc hfu hi hQ
    by_cases hf1 : f = -1
    · exfalso
      have := hfu hf1
      rw [hx_fu7 (by omega)] at this
      omega
    · skip
      refine jr_iload R1 d_29_88 rfl ?_
      refine jr_iload_n R1 d_29_90 rfl ?_
      by_cases h1 : i < 160
      · refine jr_icmp R1 false d_29_91 (by first | assumption | exact hg _ | exact hS _ | exact hV _ | exact hP _ | exact hT _ | exact ⟨by omega, by omega⟩) (by first | assumption | exact hg _ | exact hS _ | exact hV _ | exact hP _ | exact hT _ | exact ⟨by omega, by omega⟩) (by unfold hcb; first | exact decide_eq_true (by omega) | exact decide_eq_false (by omega)) (by decide) (pc' := 94) rfl ?_
        refine jr_aload_n R1 d_29_94 rfl ?_
        refine jr_getf R1 d_29_95 (rd_18 hB) (by decide) rfl ?_
        refine jr_iconst R1 d_29_98 ?_
        refine jr_icmp R1 true d_29_99 (by first | assumption | exact hg _ | exact hS _ | exact hV _ | exact hP _ | exact hT _ | exact ⟨by omega, by omega⟩) (by first | assumption | exact hg _ | exact hS _ | exact hV _ | exact hP _ | exact hT _ | exact ⟨by omega, by omega⟩) (by unfold hcb; first | exact decide_eq_true (by omega) | exact decide_eq_false (by omega)) (by decide) (pc' := 154) rfl ?_
        refine jr_ret R3 d_29_154 rfl ?_
        exact hQ _ _ ⟨rfl, sc, ST, hsc, by rw [hp_px_f hf1]⟩
      · refine jr_icmp R1 true d_29_91 (by first | assumption | exact hg _ | exact hS _ | exact hV _ | exact hP _ | exact hT _ | exact ⟨by omega, by omega⟩) (by first | assumption | exact hg _ | exact hS _ | exact hV _ | exact hP _ | exact hT _ | exact ⟨by omega, by omega⟩) (by unfold hcb; first | exact decide_eq_true (by omega) | exact decide_eq_false (by omega)) (by decide) (pc' := 154) rfl ?_
        refine jr_ret R3 d_29_154 rfl ?_
        exact hQ _ _ ⟨rfl, sc, ST, hsc, by rw [hp_px_f hf1]⟩
  | succ F ih =>
    intro k f i sc ST hF hk hf hsc hfu hi hQ
    by_cases hf1 : f = -1
    · subst hf1
      have hfu := hfu rfl
      rw [hx_fu7 (by omega)] at hfu
      have hE := hE F (by omega)
      have hlt : k < T ∨ tkf k = 302 := by
        by_cases g : T ≤ k
        · exact Or.inr (hTk _ g)
        · exact Or.inl (by omega)
      have hs1 : S ((k : Int)).toNat = tkf k := hSk k hk
      have hj9 : hp_jb (tkf k) 4 = true → k < T := fun g => by
        rcases hlt with h | h
        · exact h
        · rw [h] at g
          exact absurd g (by decide)
      refine jr_iload R1 d_29_88 rfl ?_
      refine jr_iload_n R1 d_29_90 rfl ?_
      by_cases h1 : i < 160
      · refine jr_icmp R1 false d_29_91 (by first | assumption | exact hg _ | exact hS _ | exact hV _ | exact hP _ | exact hT _ | exact ⟨by omega, by omega⟩) (by first | assumption | exact hg _ | exact hS _ | exact hV _ | exact hP _ | exact hT _ | exact ⟨by omega, by omega⟩) (by unfold hcb; first | exact decide_eq_true (by omega) | exact decide_eq_false (by omega)) (by decide) (pc' := 94) rfl ?_
        refine jr_aload_n R1 d_29_94 rfl ?_
        refine jr_getf R1 d_29_95 (rd_18 hB) (by decide) rfl ?_
        refine jr_iconst R1 d_29_98 ?_
        refine jr_icmp R1 false d_29_99 (by first | assumption | exact hg _ | exact hS _ | exact hV _ | exact hP _ | exact hT _ | exact ⟨by omega, by omega⟩) (by first | assumption | exact hg _ | exact hS _ | exact hV _ | exact hP _ | exact hT _ | exact ⟨by omega, by omega⟩) (by unfold hcb; first | exact decide_eq_true (by omega) | exact decide_eq_false (by omega)) (by decide) (pc' := 102) rfl ?_
        refine jr_aload_n R1 d_29_102 rfl ?_
        refine jr_getf R1 d_29_103 (rd_18 hB) (by decide) rfl ?_
        refine jr_aload_n R1 d_29_106 rfl ?_
        refine jr_getf R1 d_29_107 (rd_18 hB) (by decide) rfl ?_
        refine jr_iald R1 d_29_110 (rd_20 hB) (by omega) (by omega) (by decide) ?_
        refine jr_iload_n R1 d_29_111 rfl ?_
        by_cases hj : hp_jb (tkf k) 4 = true
        · skip
          refine jr_calls R2 d_29_112 (by decide) (by decide) rfl (as := [hv (S ((k : Int)).toNat), hv 4]) (rest := []) rfl (hc_joins4 (d := 1) (M := rd B n ((T : Int) + 1) ((k : Int)) ((-1)) sc S P V ST E) (by omega) (hS _)) (by omega) (Nat.le_of_ble_eq_true rfl) ?_
          rintro rv M9 ⟨rfl, rfl⟩
          rw [hs1, if_pos hj]
          show J 0 0 (rd B n ((T : Int) + 1) ((k : Int)) ((-1)) sc S P V ST E) 115 [(4, hv i), (3, hv 160), (2, hv ((q : Int))), (1, hv 4), (0, .ref 18)] [hv 1]
          refine jr_ifc R1 false d_29_115 (by first | assumption | exact hg _ | exact hS _ | exact hV _ | exact hP _ | exact hT _ | exact ⟨by omega, by omega⟩) (by unfold hcb; first | exact decide_eq_true (by omega) | exact decide_eq_false (by omega)) (by decide) (pc' := 118) rfl ?_
          refine jr_aload_n R1 d_29_118 rfl ?_
          refine jr_getf R1 d_29_119 (rd_18 hB) (by decide) rfl ?_
          refine jr_aload_n R1 d_29_122 rfl ?_
          refine jr_getf R1 d_29_123 (rd_18 hB) (by decide) rfl ?_
          refine jr_iald R1 d_29_126 (rd_20 hB) (by omega) (by omega) (by decide) ?_
          refine jr_istore R1 d_29_127 (by decide) (lo' := [(5, hv (S ((k : Int)).toNat)), (4, hv i), (3, hv 160), (2, hv ((q : Int))), (1, hv 4), (0, .ref 18)]) rfl ?_
          refine jr_aload_n R1 d_29_129 rfl ?_
          refine jr_callv R2 d_29_130 (by decide) rfl (as := [.ref 18]) (rest := []) rfl (by unfold mj_rc; rw [show (_ : List Value).headD _ = .ref 18 from rfl]; simp only [rd_18 hB]; decide) (ha_pass (d := 1) (by omega) hB hT9 hS hP hSk hPk hTk hpc (hj9 hj)) (by omega) (Nat.le_of_ble_eq_true rfl) ?_
          rintro rv M9 ⟨rfl, rfl⟩
          have hkT := hj9 hj
          show J 0 0 (rd B n ((T : Int) + 1) ((k : Int) + 1) ((-1)) sc S P V ST E) 133 [(5, hv (S ((k : Int)).toNat)), (4, hv i), (3, hv 160), (2, hv ((q : Int))), (1, hv 4), (0, .ref 18)] []
          refine jr_aload_n R1 d_29_133 rfl ?_
          refine jr_iload_n R1 d_29_134 rfl ?_
          refine jr_iconst R1 d_29_135 ?_
          refine jr_iadd R1 d_29_136 ?_
          refine jr_iload_n R1 d_29_137 rfl ?_
          refine jr_calls R2 d_29_138 (by decide) (by decide) rfl (as := [.ref 18, hv 5, hv ((q : Int))]) (rest := []) rfl (hE (9 - 5 + 8 * (5 - q)) 5 q (k + 1) _ _ (by omega) (by omega) (by omega) hsc (by rw [hx_fu (by omega)]; omega) (Nat.le_refl _)) (by omega) (Nat.le_of_ble_eq_true rfl) ?_
          rintro rv M9 ⟨rfl, sc12, ST12, hsc12, rfl⟩
          have hok12 := hp_px_ok hTk (fun j => (hpc j).1) F 5 q ((k + 1), -1) (by omega) (by simp only; omega) rfl (by rw [hx_fu (by omega)]; simp only; omega)
          have hb12 := hx_bd hT9 hpc hok12
          have hkT12 := hok12.2.1
          show J 0 0 (rd B n ((T : Int) + 1) ((((hp_px tkf pcf F 5 q ((k + 1), -1)).1 : Nat) : Int)) ((hp_px tkf pcf F 5 q ((k + 1), -1)).2) sc12 S P V ST12 E) 141 [(5, hv (S ((k : Int)).toNat)), (4, hv i), (3, hv 160), (2, hv ((q : Int))), (1, hv 4), (0, .ref 18)] []
          refine jr_aload_n R1 d_29_141 rfl ?_
          refine jr_iload R1 d_29_142 rfl ?_
          refine jr_ineg R1 d_29_144 ?_
          refine jr_callv R2 d_29_145 (by decide) rfl (as := [.ref 18, hv (-(S ((k : Int)).toNat))]) (rest := []) rfl (by unfold mj_rc; rw [show (_ : List Value).headD _ = .ref 18 from rfl]; simp only [rd_18 hB]; decide) (hc_step (d := 1) (by omega) hB hb12.1 (by omega) hb12.2 hsc12) (by omega) (Nat.le_of_ble_eq_true rfl) ?_
          rintro rv M9 ⟨rfl, sc13, ST13, hsc13, rfl⟩
          show J 0 0 (rd B n ((T : Int) + 1) ((((hp_px tkf pcf F 5 q ((k + 1), -1)).1 : Nat) : Int)) ((hp_px tkf pcf F 5 q ((k + 1), -1)).2) sc13 S P V ST13 E) 148 [(5, hv (S ((k : Int)).toNat)), (4, hv i), (3, hv 160), (2, hv ((q : Int))), (1, hv 4), (0, .ref 18)] []
          refine jr_iinc R1 d_29_148 (by decide) rfl (lo' := [(4, hv (i + 1)), (5, hv (S ((k : Int)).toNat)), (3, hv 160), (2, hv ((q : Int))), (1, hv 4), (0, .ref 18)]) rfl ?_
          refine jr_goto R1 d_29_151 (by decide) (pc' := 88) rfl ?_
          refine R4 0 0 _ 88 _ [(4, hv (i + 1)), (3, hv 160), (2, hv (q : Int)), (1, hv 4), (0, .ref 18)] _ (fun z hz => by simp only [List.mem_cons, List.not_mem_nil, or_false] at hz ⊢; rcases hz with rfl | rfl | rfl | rfl | rfl <;> simp) ?_
          refine ih (hp_px tkf pcf F 5 q ((k + 1), -1)).1 (hp_px tkf pcf F 5 q ((k + 1), -1)).2 (i + 1) _ _ (by omega) hkT12 hb12.2 hsc13 (fun g => ?_) ⟨by omega, ?_⟩ (fun rv M' h => hQ rv M' ?_)
          · have h1 := hok12.2.2.1 g (by omega)
            simp only at h1
            rw [hx_fu7 (by omega)]
            omega
          · have h1 := hok12.1
            simp only at h1
            omega
          · rw [hx_more (by omega) (by omega) hj]
            exact h
        · skip
          refine jr_calls R2 d_29_112 (by decide) (by decide) rfl (as := [hv (S ((k : Int)).toNat), hv 4]) (rest := []) rfl (hc_joins4 (d := 1) (M := rd B n ((T : Int) + 1) ((k : Int)) ((-1)) sc S P V ST E) (by omega) (hS _)) (by omega) (Nat.le_of_ble_eq_true rfl) ?_
          rintro rv M9 ⟨rfl, rfl⟩
          rw [hs1, if_neg hj]
          show J 0 0 (rd B n ((T : Int) + 1) ((k : Int)) ((-1)) sc S P V ST E) 115 [(4, hv i), (3, hv 160), (2, hv ((q : Int))), (1, hv 4), (0, .ref 18)] [hv 0]
          refine jr_ifc R1 true d_29_115 (by first | assumption | exact hg _ | exact hS _ | exact hV _ | exact hP _ | exact hT _ | exact ⟨by omega, by omega⟩) (by unfold hcb; first | exact decide_eq_true (by omega) | exact decide_eq_false (by omega)) (by decide) (pc' := 154) rfl ?_
          refine jr_ret R3 d_29_154 rfl ?_
          first | (exact hQ _ _ (by rw [hx_stop (by omega) (by simpa using hj)]; exact ⟨rfl, sc, ST, hsc, rfl⟩)) | (exact hQ _ _ (by rw [hx_stop (by omega) (by rw [hTk k (by omega)]; decide)]; exact ⟨rfl, sc, ST, hsc, rfl⟩))
      · refine jr_icmp R1 true d_29_91 (by first | assumption | exact hg _ | exact hS _ | exact hV _ | exact hP _ | exact hT _ | exact ⟨by omega, by omega⟩) (by first | assumption | exact hg _ | exact hS _ | exact hV _ | exact hP _ | exact hT _ | exact ⟨by omega, by omega⟩) (by unfold hcb; first | exact decide_eq_true (by omega) | exact decide_eq_false (by omega)) (by decide) (pc' := 154) rfl ?_
        refine jr_ret R3 d_29_154 rfl ?_
        first | (exact hQ _ _ (by rw [hx_stop (by omega) (by simpa using hj)]; exact ⟨rfl, sc, ST, hsc, rfl⟩)) | (exact hQ _ _ (by rw [hx_stop (by omega) (by rw [hTk k (by omega)]; decide)]; exact ⟨rfl, sc, ST, hsc, rfl⟩))
    · skip
      refine jr_iload R1 d_29_88 rfl ?_
      refine jr_iload_n R1 d_29_90 rfl ?_
      by_cases h1 : i < 160
      · refine jr_icmp R1 false d_29_91 (by first | assumption | exact hg _ | exact hS _ | exact hV _ | exact hP _ | exact hT _ | exact ⟨by omega, by omega⟩) (by first | assumption | exact hg _ | exact hS _ | exact hV _ | exact hP _ | exact hT _ | exact ⟨by omega, by omega⟩) (by unfold hcb; first | exact decide_eq_true (by omega) | exact decide_eq_false (by omega)) (by decide) (pc' := 94) rfl ?_
        refine jr_aload_n R1 d_29_94 rfl ?_
        refine jr_getf R1 d_29_95 (rd_18 hB) (by decide) rfl ?_
        refine jr_iconst R1 d_29_98 ?_
        refine jr_icmp R1 true d_29_99 (by first | assumption | exact hg _ | exact hS _ | exact hV _ | exact hP _ | exact hT _ | exact ⟨by omega, by omega⟩) (by first | assumption | exact hg _ | exact hS _ | exact hV _ | exact hP _ | exact hT _ | exact ⟨by omega, by omega⟩) (by unfold hcb; first | exact decide_eq_true (by omega) | exact decide_eq_false (by omega)) (by decide) (pc' := 154) rfl ?_
        refine jr_ret R3 d_29_154 rfl ?_
        exact hQ _ _ ⟨rfl, sc, ST, hsc, by rw [hp_px_f hf1]⟩
      · refine jr_icmp R1 true d_29_91 (by first | assumption | exact hg _ | exact hS _ | exact hV _ | exact hP _ | exact hT _ | exact ⟨by omega, by omega⟩) (by first | assumption | exact hg _ | exact hS _ | exact hV _ | exact hP _ | exact hT _ | exact ⟨by omega, by omega⟩) (by unfold hcb; first | exact decide_eq_true (by omega) | exact decide_eq_false (by omega)) (by decide) (pc' := 154) rfl ?_
        refine jr_ret R3 d_29_154 rfl ?_
        exact hQ _ _ ⟨rfl, sc, ST, hsc, by rw [hp_px_f hf1]⟩
theorem ha_exp0 {lch : Launch} {B : mj_M} {n : Int} {T : Nat} {S P V E : Nat → Int} {tkf pcf : Nat → Int} {N : Nat} (hB : 25 ≤ B.length) (hT9 : T ≤ 160) (hS : ∀ j, hr (S j)) (hP : ∀ j, hr (P j)) (hSk : ∀ j : Nat, j ≤ T → S j = tkf j) (hPk : ∀ j : Nat, j ≤ T → P j = pcf j) (hTk : ∀ j, T ≤ j → tkf j = 302) (hpc : ∀ j, 0 ≤ pcf j ∧ pcf j ≤ 160) (hE : ∀ N', N' < N + 1 → hgE lch B n T S P V E tkf pcf N') (hO1 : hgO lch B n T S P V E tkf pcf (N + 1)) :
    ∀ (d q k : Nat) (sc : Int) (ST : Nat → Int), q ≤ 5 → k ≤ T → (0 ≤ sc ∧ sc ≤ 160) → hp_fu T 0 k ≤ N + 1 → 9 - 0 + 8 * (5 - q) ≤ d → mj_Me lch 29 d 0 0 [.ref 18, hv 0, hv (q : Int)] (rd B n ((T : Int) + 1) (k : Int) (-1) sc S P V ST E) (hq B n T S P V E (hp_px tkf pcf (N + 1) 0 q (k, -1))) := by
  intro d q k sc ST hq5 hk hsc hfu hd
  rw [hx_fu (by omega)] at hfu
  have hlt : k < T ∨ tkf k = 302 := by
    by_cases g : T ≤ k
    · exact Or.inr (hTk _ g)
    · exact Or.inl (by omega)
  have hs1 : S ((k : Int)).toNat = tkf k := hSk k hk
  have hEs := hE
  have hE := hE N (by omega)
  refine mj_Me_of4 (by decide) (by omega) (Nat.le_of_ble_eq_true rfl) ?_
  intro L xs J R1 R2 R3 R4
  show J 0 0 (rd B n ((T : Int) + 1) ((k : Int)) ((-1)) sc S P V ST E) 0 [(0, .ref 18), (1, hv 0), (2, hv (q : Int))] []
  refine jr_aload_n R1 d_29_0 rfl ?_
  refine jr_getf R1 d_29_1 (rd_18 hB) (by decide) rfl ?_
  refine jr_iconst R1 d_29_4 ?_
  refine jr_icmp R1 true d_29_5 (by first | assumption | exact hg _ | exact hS _ | exact hV _ | exact hP _ | exact hT _ | exact ⟨by omega, by omega⟩) (by first | assumption | exact hg _ | exact hS _ | exact hV _ | exact hP _ | exact hT _ | exact ⟨by omega, by omega⟩) (by unfold hcb; first | exact decide_eq_true (by omega) | exact decide_eq_false (by omega)) (by decide) (pc' := 9) rfl ?_
  refine jr_iload_n R1 d_29_9 rfl ?_
  refine jr_iconst R1 d_29_10 ?_
  refine jr_icmp R1 true d_29_11 (by first | assumption | exact hg _ | exact hS _ | exact hV _ | exact hP _ | exact hT _ | exact ⟨by omega, by omega⟩) (by first | assumption | exact hg _ | exact hS _ | exact hV _ | exact hP _ | exact hT _ | exact ⟨by omega, by omega⟩) (by unfold hcb; first | exact decide_eq_true (by omega) | exact decide_eq_false (by omega)) (by decide) (pc' := 20) rfl ?_
  refine jr_iload_n R1 d_29_20 rfl ?_
  refine jr_iconst R1 d_29_21 ?_
  refine jr_icmp R1 true d_29_22 (by first | assumption | exact hg _ | exact hS _ | exact hV _ | exact hP _ | exact hT _ | exact ⟨by omega, by omega⟩) (by first | assumption | exact hg _ | exact hS _ | exact hV _ | exact hP _ | exact hT _ | exact ⟨by omega, by omega⟩) (by unfold hcb; first | exact decide_eq_true (by omega) | exact decide_eq_false (by omega)) (by decide) (pc' := 64) rfl ?_
  refine jr_aload_n R1 d_29_64 rfl ?_
  refine jr_iload_n R1 d_29_65 rfl ?_
  refine jr_iconst R1 d_29_66 ?_
  refine jr_iadd R1 d_29_67 ?_
  refine jr_iload_n R1 d_29_68 rfl ?_
  refine jr_calls R2 d_29_69 (by decide) (by decide) rfl (as := [.ref 18, hv 1, hv ((q : Int))]) (rest := []) rfl (hE (9 - 1 + 8 * (5 - q)) 1 q k _ _ (by omega) (by omega) (by omega) hsc (by rw [hx_fu (by omega)]; omega) (Nat.le_refl _)) (by omega) (Nat.le_of_ble_eq_true rfl) ?_
  rintro rv M9 ⟨rfl, sc14, ST14, hsc14, rfl⟩
  have hok14 := hp_px_ok hTk (fun j => (hpc j).1) N 1 q (k, -1) (by omega) (by simp only; omega) rfl (by rw [hx_fu (by omega)]; simp only; omega)
  have hb14 := hx_bd hT9 hpc hok14
  have hkT14 := hok14.2.1
  show J 0 0 (rd B n ((T : Int) + 1) ((((hp_px tkf pcf N 1 q (k, -1)).1 : Nat) : Int)) ((hp_px tkf pcf N 1 q (k, -1)).2) sc14 S P V ST14 E) 72 [(0, .ref 18), (1, hv 0), (2, hv ((q : Int)))] []
  refine jr_iload_n R1 d_29_72 rfl ?_
  refine jr_iconst R1 d_29_73 ?_
  refine jr_icmp R1 true d_29_74 (by first | assumption | exact hg _ | exact hS _ | exact hV _ | exact hP _ | exact hT _ | exact ⟨by omega, by omega⟩) (by first | assumption | exact hg _ | exact hS _ | exact hV _ | exact hP _ | exact hT _ | exact ⟨by omega, by omega⟩) (by unfold hcb; first | exact decide_eq_true (by omega) | exact decide_eq_false (by omega)) (by decide) (pc' := 81) rfl ?_
  refine jr_sipush R1 d_29_81 (by decide) ?_
  refine jr_istore_n R1 d_29_84 (by decide) (lo' := [(3, hv 160), (0, .ref 18), (1, hv 0), (2, hv ((q : Int)))]) rfl ?_
  refine jr_iconst R1 d_29_85 ?_
  refine jr_istore R1 d_29_86 (by decide) (lo' := [(4, hv 0), (3, hv 160), (0, .ref 18), (1, hv 0), (2, hv ((q : Int)))]) rfl ?_
  refine R4 0 0 _ 88 _ [(4, hv 0), (3, hv 160), (2, hv (q : Int)), (1, hv 0), (0, .ref 18)] _ (fun z hz => by simp only [List.mem_cons, List.not_mem_nil, or_false] at hz ⊢; rcases hz with rfl | rfl | rfl | rfl | rfl <;> simp) ?_
  refine ha_loop0 hB hT9 hS hP hSk hPk hTk hpc hq5 (fun N' h => hEs N' (by omega)) hd R1 R2 R3 R4 N (hp_px tkf pcf N 1 q (k, -1)).1 (hp_px tkf pcf N 1 q (k, -1)).2 0 _ _ (Nat.le_refl _) hkT14 hb14.2 hsc14 (fun g => ?_) ⟨by omega, by omega⟩ (fun rv M' h => ?_)
  · have h1 := hok14.2.2.1 g (by omega)
    simp only at h1
    rw [hx_fu7 (by omega)]
    omega
  · rw [hx_lev (by omega) (by omega)]
    exact h
theorem ha_exp1 {lch : Launch} {B : mj_M} {n : Int} {T : Nat} {S P V E : Nat → Int} {tkf pcf : Nat → Int} {N : Nat} (hB : 25 ≤ B.length) (hT9 : T ≤ 160) (hS : ∀ j, hr (S j)) (hP : ∀ j, hr (P j)) (hSk : ∀ j : Nat, j ≤ T → S j = tkf j) (hPk : ∀ j : Nat, j ≤ T → P j = pcf j) (hTk : ∀ j, T ≤ j → tkf j = 302) (hpc : ∀ j, 0 ≤ pcf j ∧ pcf j ≤ 160) (hE : ∀ N', N' < N + 1 → hgE lch B n T S P V E tkf pcf N') (hO1 : hgO lch B n T S P V E tkf pcf (N + 1)) :
    ∀ (d q k : Nat) (sc : Int) (ST : Nat → Int), q ≤ 5 → k ≤ T → (0 ≤ sc ∧ sc ≤ 160) → hp_fu T 1 k ≤ N + 1 → 9 - 1 + 8 * (5 - q) ≤ d → mj_Me lch 29 d 0 0 [.ref 18, hv 1, hv (q : Int)] (rd B n ((T : Int) + 1) (k : Int) (-1) sc S P V ST E) (hq B n T S P V E (hp_px tkf pcf (N + 1) 1 q (k, -1))) := by
  intro d q k sc ST hq5 hk hsc hfu hd
  rw [hx_fu (by omega)] at hfu
  have hlt : k < T ∨ tkf k = 302 := by
    by_cases g : T ≤ k
    · exact Or.inr (hTk _ g)
    · exact Or.inl (by omega)
  have hs1 : S ((k : Int)).toNat = tkf k := hSk k hk
  have hEs := hE
  have hE := hE N (by omega)
  refine mj_Me_of4 (by decide) (by omega) (Nat.le_of_ble_eq_true rfl) ?_
  intro L xs J R1 R2 R3 R4
  show J 0 0 (rd B n ((T : Int) + 1) ((k : Int)) ((-1)) sc S P V ST E) 0 [(0, .ref 18), (1, hv 1), (2, hv (q : Int))] []
  refine jr_aload_n R1 d_29_0 rfl ?_
  refine jr_getf R1 d_29_1 (rd_18 hB) (by decide) rfl ?_
  refine jr_iconst R1 d_29_4 ?_
  refine jr_icmp R1 true d_29_5 (by first | assumption | exact hg _ | exact hS _ | exact hV _ | exact hP _ | exact hT _ | exact ⟨by omega, by omega⟩) (by first | assumption | exact hg _ | exact hS _ | exact hV _ | exact hP _ | exact hT _ | exact ⟨by omega, by omega⟩) (by unfold hcb; first | exact decide_eq_true (by omega) | exact decide_eq_false (by omega)) (by decide) (pc' := 9) rfl ?_
  refine jr_iload_n R1 d_29_9 rfl ?_
  refine jr_iconst R1 d_29_10 ?_
  refine jr_icmp R1 true d_29_11 (by first | assumption | exact hg _ | exact hS _ | exact hV _ | exact hP _ | exact hT _ | exact ⟨by omega, by omega⟩) (by first | assumption | exact hg _ | exact hS _ | exact hV _ | exact hP _ | exact hT _ | exact ⟨by omega, by omega⟩) (by unfold hcb; first | exact decide_eq_true (by omega) | exact decide_eq_false (by omega)) (by decide) (pc' := 20) rfl ?_
  refine jr_iload_n R1 d_29_20 rfl ?_
  refine jr_iconst R1 d_29_21 ?_
  refine jr_icmp R1 true d_29_22 (by first | assumption | exact hg _ | exact hS _ | exact hV _ | exact hP _ | exact hT _ | exact ⟨by omega, by omega⟩) (by first | assumption | exact hg _ | exact hS _ | exact hV _ | exact hP _ | exact hT _ | exact ⟨by omega, by omega⟩) (by unfold hcb; first | exact decide_eq_true (by omega) | exact decide_eq_false (by omega)) (by decide) (pc' := 64) rfl ?_
  refine jr_aload_n R1 d_29_64 rfl ?_
  refine jr_iload_n R1 d_29_65 rfl ?_
  refine jr_iconst R1 d_29_66 ?_
  refine jr_iadd R1 d_29_67 ?_
  refine jr_iload_n R1 d_29_68 rfl ?_
  refine jr_calls R2 d_29_69 (by decide) (by decide) rfl (as := [.ref 18, hv 2, hv ((q : Int))]) (rest := []) rfl (hE (9 - 2 + 8 * (5 - q)) 2 q k _ _ (by omega) (by omega) (by omega) hsc (by rw [hx_fu (by omega)]; omega) (Nat.le_refl _)) (by omega) (Nat.le_of_ble_eq_true rfl) ?_
  rintro rv M9 ⟨rfl, sc15, ST15, hsc15, rfl⟩
  have hok15 := hp_px_ok hTk (fun j => (hpc j).1) N 2 q (k, -1) (by omega) (by simp only; omega) rfl (by rw [hx_fu (by omega)]; simp only; omega)
  have hb15 := hx_bd hT9 hpc hok15
  have hkT15 := hok15.2.1
  show J 0 0 (rd B n ((T : Int) + 1) ((((hp_px tkf pcf N 2 q (k, -1)).1 : Nat) : Int)) ((hp_px tkf pcf N 2 q (k, -1)).2) sc15 S P V ST15 E) 72 [(0, .ref 18), (1, hv 1), (2, hv ((q : Int)))] []
  refine jr_iload_n R1 d_29_72 rfl ?_
  refine jr_iconst R1 d_29_73 ?_
  refine jr_icmp R1 true d_29_74 (by first | assumption | exact hg _ | exact hS _ | exact hV _ | exact hP _ | exact hT _ | exact ⟨by omega, by omega⟩) (by first | assumption | exact hg _ | exact hS _ | exact hV _ | exact hP _ | exact hT _ | exact ⟨by omega, by omega⟩) (by unfold hcb; first | exact decide_eq_true (by omega) | exact decide_eq_false (by omega)) (by decide) (pc' := 81) rfl ?_
  refine jr_sipush R1 d_29_81 (by decide) ?_
  refine jr_istore_n R1 d_29_84 (by decide) (lo' := [(3, hv 160), (0, .ref 18), (1, hv 1), (2, hv ((q : Int)))]) rfl ?_
  refine jr_iconst R1 d_29_85 ?_
  refine jr_istore R1 d_29_86 (by decide) (lo' := [(4, hv 0), (3, hv 160), (0, .ref 18), (1, hv 1), (2, hv ((q : Int)))]) rfl ?_
  refine R4 0 0 _ 88 _ [(4, hv 0), (3, hv 160), (2, hv (q : Int)), (1, hv 1), (0, .ref 18)] _ (fun z hz => by simp only [List.mem_cons, List.not_mem_nil, or_false] at hz ⊢; rcases hz with rfl | rfl | rfl | rfl | rfl <;> simp) ?_
  refine ha_loop1 hB hT9 hS hP hSk hPk hTk hpc hq5 (fun N' h => hEs N' (by omega)) hd R1 R2 R3 R4 N (hp_px tkf pcf N 2 q (k, -1)).1 (hp_px tkf pcf N 2 q (k, -1)).2 0 _ _ (Nat.le_refl _) hkT15 hb15.2 hsc15 (fun g => ?_) ⟨by omega, by omega⟩ (fun rv M' h => ?_)
  · have h1 := hok15.2.2.1 g (by omega)
    simp only at h1
    rw [hx_fu7 (by omega)]
    omega
  · rw [hx_lev (by omega) (by omega)]
    exact h
theorem ha_exp2 {lch : Launch} {B : mj_M} {n : Int} {T : Nat} {S P V E : Nat → Int} {tkf pcf : Nat → Int} {N : Nat} (hB : 25 ≤ B.length) (hT9 : T ≤ 160) (hS : ∀ j, hr (S j)) (hP : ∀ j, hr (P j)) (hSk : ∀ j : Nat, j ≤ T → S j = tkf j) (hPk : ∀ j : Nat, j ≤ T → P j = pcf j) (hTk : ∀ j, T ≤ j → tkf j = 302) (hpc : ∀ j, 0 ≤ pcf j ∧ pcf j ≤ 160) (hE : ∀ N', N' < N + 1 → hgE lch B n T S P V E tkf pcf N') (hO1 : hgO lch B n T S P V E tkf pcf (N + 1)) :
    ∀ (d q k : Nat) (sc : Int) (ST : Nat → Int), q ≤ 5 → k ≤ T → (0 ≤ sc ∧ sc ≤ 160) → hp_fu T 2 k ≤ N + 1 → 9 - 2 + 8 * (5 - q) ≤ d → mj_Me lch 29 d 0 0 [.ref 18, hv 2, hv (q : Int)] (rd B n ((T : Int) + 1) (k : Int) (-1) sc S P V ST E) (hq B n T S P V E (hp_px tkf pcf (N + 1) 2 q (k, -1))) := by
  intro d q k sc ST hq5 hk hsc hfu hd
  rw [hx_fu (by omega)] at hfu
  have hlt : k < T ∨ tkf k = 302 := by
    by_cases g : T ≤ k
    · exact Or.inr (hTk _ g)
    · exact Or.inl (by omega)
  have hs1 : S ((k : Int)).toNat = tkf k := hSk k hk
  obtain ⟨N', rfl⟩ : ∃ N', N = N' + 1 := ⟨N - 1, by omega⟩
  have hE2 := hE N' (by omega)
  have hE := hE (N' + 1) (by omega)
  refine mj_Me_of4 (by decide) (by omega) (Nat.le_of_ble_eq_true rfl) ?_
  intro L xs J R1 R2 R3 R4
  show J 0 0 (rd B n ((T : Int) + 1) ((k : Int)) ((-1)) sc S P V ST E) 0 [(0, .ref 18), (1, hv 2), (2, hv (q : Int))] []
  refine jr_aload_n R1 d_29_0 rfl ?_
  refine jr_getf R1 d_29_1 (rd_18 hB) (by decide) rfl ?_
  refine jr_iconst R1 d_29_4 ?_
  refine jr_icmp R1 true d_29_5 (by first | assumption | exact hg _ | exact hS _ | exact hV _ | exact hP _ | exact hT _ | exact ⟨by omega, by omega⟩) (by first | assumption | exact hg _ | exact hS _ | exact hV _ | exact hP _ | exact hT _ | exact ⟨by omega, by omega⟩) (by unfold hcb; first | exact decide_eq_true (by omega) | exact decide_eq_false (by omega)) (by decide) (pc' := 9) rfl ?_
  refine jr_iload_n R1 d_29_9 rfl ?_
  refine jr_iconst R1 d_29_10 ?_
  refine jr_icmp R1 true d_29_11 (by first | assumption | exact hg _ | exact hS _ | exact hV _ | exact hP _ | exact hT _ | exact ⟨by omega, by omega⟩) (by first | assumption | exact hg _ | exact hS _ | exact hV _ | exact hP _ | exact hT _ | exact ⟨by omega, by omega⟩) (by unfold hcb; first | exact decide_eq_true (by omega) | exact decide_eq_false (by omega)) (by decide) (pc' := 20) rfl ?_
  refine jr_iload_n R1 d_29_20 rfl ?_
  refine jr_iconst R1 d_29_21 ?_
  refine jr_icmp R1 false d_29_22 (by first | assumption | exact hg _ | exact hS _ | exact hV _ | exact hP _ | exact hT _ | exact ⟨by omega, by omega⟩) (by first | assumption | exact hg _ | exact hS _ | exact hV _ | exact hP _ | exact hT _ | exact ⟨by omega, by omega⟩) (by unfold hcb; first | exact decide_eq_true (by omega) | exact decide_eq_false (by omega)) (by decide) (pc' := 25) rfl ?_
  refine jr_aload_n R1 d_29_25 rfl ?_
  refine jr_getf R1 d_29_26 (rd_18 hB) (by decide) rfl ?_
  refine jr_aload_n R1 d_29_29 rfl ?_
  refine jr_getf R1 d_29_30 (rd_18 hB) (by decide) rfl ?_
  refine jr_iald R1 d_29_33 (rd_20 hB) (by omega) (by omega) (by decide) ?_
  refine jr_sipush R1 d_29_34 (by decide) ?_
  by_cases h1 : S ((k : Int)).toNat = 267
  · refine jr_icmp R1 false d_29_37 (by first | assumption | exact hg _ | exact hS _ | exact hV _ | exact hP _ | exact hT _ | exact ⟨by omega, by omega⟩) (by first | assumption | exact hg _ | exact hS _ | exact hV _ | exact hP _ | exact hT _ | exact ⟨by omega, by omega⟩) (by unfold hcb; first | exact decide_eq_true (by omega) | exact decide_eq_false (by omega)) (by decide) (pc' := 40) rfl ?_
    refine jr_aload_n R1 d_29_40 rfl ?_
    refine jr_iload_n R1 d_29_41 rfl ?_
    by_cases ho : q < 5
    · skip
      refine jr_callv R2 d_29_42 (by decide) rfl (as := [.ref 18, hv ((q : Int))]) (rest := []) rfl (by unfold mj_rc; rw [show (_ : List Value).headD _ = .ref 18 from rfl]; simp only [rd_18 hB]; decide) (ha_opens_t (d := 2) (by omega) hB hT9 hS hP hSk hPk hTk hpc (by omega) ho) (by omega) (Nat.le_of_ble_eq_true rfl) ?_
      rintro rv M9 ⟨rfl, rfl⟩
      show J 0 0 (rd B n ((T : Int) + 1) ((k : Int) + 1) ((-1)) sc S P V ST E) 45 [(0, .ref 18), (1, hv 2), (2, hv ((q : Int)))] [hv 1]
      refine jr_ifc R1 false d_29_45 (by first | assumption | exact hg _ | exact hS _ | exact hV _ | exact hP _ | exact hT _ | exact ⟨by omega, by omega⟩) (by unfold hcb; first | exact decide_eq_true (by omega) | exact decide_eq_false (by omega)) (by decide) (pc' := 48) rfl ?_
      refine jr_aload_n R1 d_29_48 rfl ?_
      refine jr_iconst R1 d_29_49 ?_
      refine jr_iload_n R1 d_29_50 rfl ?_
      refine jr_iconst R1 d_29_51 ?_
      refine jr_iadd R1 d_29_52 ?_
      refine jr_calls R2 d_29_53 (by decide) (by decide) rfl (as := [.ref 18, hv 2, hv ((q : Int) + 1)]) (rest := []) rfl (hE (9 - 2 + 8 * (5 - (q + 1))) 2 (q + 1) (k + 1) _ _ (by omega) (by omega) (by omega) hsc (by rw [hx_fu (by omega)]; omega) (Nat.le_refl _)) (by omega) (Nat.le_of_ble_eq_true rfl) ?_
      rintro rv M9 ⟨rfl, sc16, ST16, hsc16, rfl⟩
      have hok16 := hp_px_ok hTk (fun j => (hpc j).1) (N' + 1) 2 (q + 1) ((k + 1), -1) (by omega) (by simp only; omega) rfl (by rw [hx_fu (by omega)]; simp only; omega)
      have hb16 := hx_bd hT9 hpc hok16
      have hkT16 := hok16.2.1
      show J 0 0 (rd B n ((T : Int) + 1) ((((hp_px tkf pcf (N' + 1) 2 (q + 1) ((k + 1), -1)).1 : Nat) : Int)) ((hp_px tkf pcf (N' + 1) 2 (q + 1) ((k + 1), -1)).2) sc16 S P V ST16 E) 56 [(0, .ref 18), (1, hv 2), (2, hv ((q : Int)))] []
      refine jr_aload_n R1 d_29_56 rfl ?_
      refine jr_sipush R1 d_29_57 (by decide) ?_
      refine jr_callv R2 d_29_60 (by decide) rfl (as := [.ref 18, hv ((-267))]) (rest := []) rfl (by unfold mj_rc; rw [show (_ : List Value).headD _ = .ref 18 from rfl]; simp only [rd_18 hB]; decide) (hc_step (d := 1) (by omega) hB hb16.1 (by omega) hb16.2 hsc16) (by omega) (Nat.le_of_ble_eq_true rfl) ?_
      rintro rv M9 ⟨rfl, sc17, ST17, hsc17, rfl⟩
      show J 0 0 (rd B n ((T : Int) + 1) ((((hp_px tkf pcf (N' + 1) 2 (q + 1) ((k + 1), -1)).1 : Nat) : Int)) ((hp_px tkf pcf (N' + 1) 2 (q + 1) ((k + 1), -1)).2) sc17 S P V ST17 E) 63 [(0, .ref 18), (1, hv 2), (2, hv ((q : Int)))] []
      refine jr_ret R3 d_29_63 rfl ?_
      first | (rw [hx_not (by omega), if_pos (by omega)]; refine ⟨rfl, _, _, ?_, rfl⟩; assumption) | (rw [hx_not (by omega), if_neg (by omega)]; refine ⟨rfl, _, _, ?_, rfl⟩; assumption)
    · skip
      refine jr_callv R2 d_29_42 (by decide) rfl (as := [.ref 18, hv ((q : Int))]) (rest := []) rfl (by unfold mj_rc; rw [show (_ : List Value).headD _ = .ref 18 from rfl]; simp only [rd_18 hB]; decide) (ha_opens_f (d := 2) (by omega) hB hT9 hS hP hSk hPk hTk hpc (by omega) (by omega) (by omega)) (by omega) (Nat.le_of_ble_eq_true rfl) ?_
      rintro rv M9 ⟨rfl, rfl⟩
      show J 0 0 (rd B n ((T : Int) + 1) ((k : Int)) (pcf k) sc S P V ST E) 45 [(0, .ref 18), (1, hv 2), (2, hv ((q : Int)))] [hv 0]
      refine jr_ifc R1 true d_29_45 (by first | assumption | exact hg _ | exact hS _ | exact hV _ | exact hP _ | exact hT _ | exact ⟨by omega, by omega⟩) (by unfold hcb; first | exact decide_eq_true (by omega) | exact decide_eq_false (by omega)) (by decide) (pc' := 63) rfl ?_
      refine jr_ret R3 d_29_63 rfl ?_
      first | (rw [hx_not (by omega), if_pos (by omega)]; refine ⟨rfl, _, _, ?_, rfl⟩; assumption) | (rw [hx_not (by omega), if_neg (by omega)]; refine ⟨rfl, _, _, ?_, rfl⟩; assumption)
  · refine jr_icmp R1 true d_29_37 (by first | assumption | exact hg _ | exact hS _ | exact hV _ | exact hP _ | exact hT _ | exact ⟨by omega, by omega⟩) (by first | assumption | exact hg _ | exact hS _ | exact hV _ | exact hP _ | exact hT _ | exact ⟨by omega, by omega⟩) (by unfold hcb; first | exact decide_eq_true (by omega) | exact decide_eq_false (by omega)) (by decide) (pc' := 64) rfl ?_
    refine jr_aload_n R1 d_29_64 rfl ?_
    refine jr_iload_n R1 d_29_65 rfl ?_
    refine jr_iconst R1 d_29_66 ?_
    refine jr_iadd R1 d_29_67 ?_
    refine jr_iload_n R1 d_29_68 rfl ?_
    refine jr_calls R2 d_29_69 (by decide) (by decide) rfl (as := [.ref 18, hv 3, hv ((q : Int))]) (rest := []) rfl (hE (9 - 3 + 8 * (5 - q)) 3 q k _ _ (by omega) (by omega) (by omega) hsc (by rw [hx_fu (by omega)]; omega) (Nat.le_refl _)) (by omega) (Nat.le_of_ble_eq_true rfl) ?_
    rintro rv M9 ⟨rfl, sc18, ST18, hsc18, rfl⟩
    have hok18 := hp_px_ok hTk (fun j => (hpc j).1) (N' + 1) 3 q (k, -1) (by omega) (by simp only; omega) rfl (by rw [hx_fu (by omega)]; simp only; omega)
    have hb18 := hx_bd hT9 hpc hok18
    have hkT18 := hok18.2.1
    show J 0 0 (rd B n ((T : Int) + 1) ((((hp_px tkf pcf (N' + 1) 3 q (k, -1)).1 : Nat) : Int)) ((hp_px tkf pcf (N' + 1) 3 q (k, -1)).2) sc18 S P V ST18 E) 72 [(0, .ref 18), (1, hv 2), (2, hv ((q : Int)))] []
    refine jr_iload_n R1 d_29_72 rfl ?_
    refine jr_iconst R1 d_29_73 ?_
    refine jr_icmp R1 false d_29_74 (by first | assumption | exact hg _ | exact hS _ | exact hV _ | exact hP _ | exact hT _ | exact ⟨by omega, by omega⟩) (by first | assumption | exact hg _ | exact hS _ | exact hV _ | exact hP _ | exact hT _ | exact ⟨by omega, by omega⟩) (by unfold hcb; first | exact decide_eq_true (by omega) | exact decide_eq_false (by omega)) (by decide) (pc' := 77) rfl ?_
    refine jr_iconst R1 d_29_77 ?_
    refine jr_goto R1 d_29_78 (by decide) (pc' := 84) rfl ?_
    refine jr_istore_n R1 d_29_84 (by decide) (lo' := [(3, hv 1), (0, .ref 18), (1, hv 2), (2, hv ((q : Int)))]) rfl ?_
    refine jr_iconst R1 d_29_85 ?_
    refine jr_istore R1 d_29_86 (by decide) (lo' := [(4, hv 0), (3, hv 1), (0, .ref 18), (1, hv 2), (2, hv ((q : Int)))]) rfl ?_
    refine jr_iload R1 d_29_88 rfl ?_
    refine jr_iload_n R1 d_29_90 rfl ?_
    refine jr_icmp R1 false d_29_91 (by first | assumption | exact hg _ | exact hS _ | exact hV _ | exact hP _ | exact hT _ | exact ⟨by omega, by omega⟩) (by first | assumption | exact hg _ | exact hS _ | exact hV _ | exact hP _ | exact hT _ | exact ⟨by omega, by omega⟩) (by unfold hcb; first | exact decide_eq_true (by omega) | exact decide_eq_false (by omega)) (by decide) (pc' := 94) rfl ?_
    refine jr_aload_n R1 d_29_94 rfl ?_
    refine jr_getf R1 d_29_95 (rd_18 hB) (by decide) rfl ?_
    refine jr_iconst R1 d_29_98 ?_
    by_cases h2 : (hp_px tkf pcf (N' + 1) 3 q (k, -1)).2 = (-1)
    · refine jr_icmp R1 false d_29_99 (by first | assumption | exact hg _ | exact hS _ | exact hV _ | exact hP _ | exact hT _ | exact ⟨by omega, by omega⟩) (by first | assumption | exact hg _ | exact hS _ | exact hV _ | exact hP _ | exact hT _ | exact ⟨by omega, by omega⟩) (by unfold hcb; first | exact decide_eq_true (by omega) | exact decide_eq_false (by omega)) (by decide) (pc' := 102) rfl ?_
      have hs9 : S ((((hp_px tkf pcf (N' + 1) 3 q (k, -1)).1 : Nat) : Int)).toNat = tkf (hp_px tkf pcf (N' + 1) 3 q (k, -1)).1 := hSk _ hkT18
      have hlt9 : hp_jb (tkf (hp_px tkf pcf (N' + 1) 3 q (k, -1)).1) 2 = true → (hp_px tkf pcf (N' + 1) 3 q (k, -1)).1 < T := fun g => by
        by_cases g2 : T ≤ (hp_px tkf pcf (N' + 1) 3 q (k, -1)).1
        · rw [hTk _ g2] at g; exact absurd g (by decide)
        · omega
      have hneg : (hp_px tkf pcf (N' + 1) 3 q (k, -1)).2 = -1 := h2
      have hsE : (hp_px tkf pcf (N' + 1) 3 q (k, -1)) = ((hp_px tkf pcf (N' + 1) 3 q (k, -1)).1, -1) := Prod.ext rfl hneg
      have hok9 := hok18.2.2.1 hneg (by omega)
      simp only at hok9
      rw [hneg]
      refine jr_aload_n R1 d_29_102 rfl ?_
      refine jr_getf R1 d_29_103 (rd_18 hB) (by decide) rfl ?_
      refine jr_aload_n R1 d_29_106 rfl ?_
      refine jr_getf R1 d_29_107 (rd_18 hB) (by decide) rfl ?_
      refine jr_iald R1 d_29_110 (rd_20 hB) (by omega) (by omega) (by decide) ?_
      refine jr_iload_n R1 d_29_111 rfl ?_
      by_cases hj : hp_jb (tkf (hp_px tkf pcf (N' + 1) 3 q (k, -1)).1) 2 = true
      · skip
        refine jr_calls R2 d_29_112 (by decide) (by decide) rfl (as := [hv (S ((((hp_px tkf pcf (N' + 1) 3 q (k, -1)).1 : Nat) : Int)).toNat), hv 2]) (rest := []) rfl (hc_joins2 (d := 1) (M := rd B n ((T : Int) + 1) ((((hp_px tkf pcf (N' + 1) 3 q (k, -1)).1 : Nat) : Int)) ((-1)) sc18 S P V ST18 E) (by omega) (hS _)) (by omega) (Nat.le_of_ble_eq_true rfl) ?_
        rintro rv M9 ⟨rfl, rfl⟩
        rw [hs9, if_pos hj]
        show J 0 0 (rd B n ((T : Int) + 1) ((((hp_px tkf pcf (N' + 1) 3 q (k, -1)).1 : Nat) : Int)) ((-1)) sc18 S P V ST18 E) 115 [(4, hv 0), (3, hv 1), (0, .ref 18), (1, hv 2), (2, hv ((q : Int)))] [hv 1]
        refine jr_ifc R1 false d_29_115 (by first | assumption | exact hg _ | exact hS _ | exact hV _ | exact hP _ | exact hT _ | exact ⟨by omega, by omega⟩) (by unfold hcb; first | exact decide_eq_true (by omega) | exact decide_eq_false (by omega)) (by decide) (pc' := 118) rfl ?_
        refine jr_aload_n R1 d_29_118 rfl ?_
        refine jr_getf R1 d_29_119 (rd_18 hB) (by decide) rfl ?_
        refine jr_aload_n R1 d_29_122 rfl ?_
        refine jr_getf R1 d_29_123 (rd_18 hB) (by decide) rfl ?_
        refine jr_iald R1 d_29_126 (rd_20 hB) (by omega) (by omega) (by decide) ?_
        refine jr_istore R1 d_29_127 (by decide) (lo' := [(5, hv (S ((((hp_px tkf pcf (N' + 1) 3 q (k, -1)).1 : Nat) : Int)).toNat)), (4, hv 0), (3, hv 1), (0, .ref 18), (1, hv 2), (2, hv ((q : Int)))]) rfl ?_
        refine jr_aload_n R1 d_29_129 rfl ?_
        refine jr_callv R2 d_29_130 (by decide) rfl (as := [.ref 18]) (rest := []) rfl (by unfold mj_rc; rw [show (_ : List Value).headD _ = .ref 18 from rfl]; simp only [rd_18 hB]; decide) (ha_pass (d := 1) (by omega) hB hT9 hS hP hSk hPk hTk hpc (hlt9 hj)) (by omega) (Nat.le_of_ble_eq_true rfl) ?_
        rintro rv M9 ⟨rfl, rfl⟩
        have hkT9 := hlt9 hj
        show J 0 0 (rd B n ((T : Int) + 1) ((((hp_px tkf pcf (N' + 1) 3 q (k, -1)).1 : Nat) : Int) + 1) ((-1)) sc18 S P V ST18 E) 133 [(5, hv (S ((((hp_px tkf pcf (N' + 1) 3 q (k, -1)).1 : Nat) : Int)).toNat)), (4, hv 0), (3, hv 1), (0, .ref 18), (1, hv 2), (2, hv ((q : Int)))] []
        refine jr_aload_n R1 d_29_133 rfl ?_
        refine jr_iload_n R1 d_29_134 rfl ?_
        refine jr_iconst R1 d_29_135 ?_
        refine jr_iadd R1 d_29_136 ?_
        refine jr_iload_n R1 d_29_137 rfl ?_
        refine jr_calls R2 d_29_138 (by decide) (by decide) rfl (as := [.ref 18, hv 3, hv ((q : Int))]) (rest := []) rfl (hE2 (9 - 3 + 8 * (5 - q)) 3 q ((hp_px tkf pcf (N' + 1) 3 q (k, -1)).1 + 1) _ _ (by omega) (by omega) (by omega) hsc18 (by rw [hx_fu (by omega)]; omega) (Nat.le_refl _)) (by omega) (Nat.le_of_ble_eq_true rfl) ?_
        rintro rv M9 ⟨rfl, sc19, ST19, hsc19, rfl⟩
        have hok19 := hp_px_ok hTk (fun j => (hpc j).1) N' 3 q (((hp_px tkf pcf (N' + 1) 3 q (k, -1)).1 + 1), -1) (by omega) (by simp only; omega) rfl (by rw [hx_fu (by omega)]; simp only; omega)
        have hb19 := hx_bd hT9 hpc hok19
        have hkT19 := hok19.2.1
        show J 0 0 (rd B n ((T : Int) + 1) ((((hp_px tkf pcf N' 3 q (((hp_px tkf pcf (N' + 1) 3 q (k, -1)).1 + 1), -1)).1 : Nat) : Int)) ((hp_px tkf pcf N' 3 q (((hp_px tkf pcf (N' + 1) 3 q (k, -1)).1 + 1), -1)).2) sc19 S P V ST19 E) 141 [(5, hv (S ((((hp_px tkf pcf (N' + 1) 3 q (k, -1)).1 : Nat) : Int)).toNat)), (4, hv 0), (3, hv 1), (0, .ref 18), (1, hv 2), (2, hv ((q : Int)))] []
        refine jr_aload_n R1 d_29_141 rfl ?_
        refine jr_iload R1 d_29_142 rfl ?_
        refine jr_ineg R1 d_29_144 ?_
        refine jr_callv R2 d_29_145 (by decide) rfl (as := [.ref 18, hv (-(S ((((hp_px tkf pcf (N' + 1) 3 q (k, -1)).1 : Nat) : Int)).toNat))]) (rest := []) rfl (by unfold mj_rc; rw [show (_ : List Value).headD _ = .ref 18 from rfl]; simp only [rd_18 hB]; decide) (hc_step (d := 1) (by omega) hB hb19.1 (by omega) hb19.2 hsc19) (by omega) (Nat.le_of_ble_eq_true rfl) ?_
        rintro rv M9 ⟨rfl, sc20, ST20, hsc20, rfl⟩
        show J 0 0 (rd B n ((T : Int) + 1) ((((hp_px tkf pcf N' 3 q (((hp_px tkf pcf (N' + 1) 3 q (k, -1)).1 + 1), -1)).1 : Nat) : Int)) ((hp_px tkf pcf N' 3 q (((hp_px tkf pcf (N' + 1) 3 q (k, -1)).1 + 1), -1)).2) sc20 S P V ST20 E) 148 [(5, hv (S ((((hp_px tkf pcf (N' + 1) 3 q (k, -1)).1 : Nat) : Int)).toNat)), (4, hv 0), (3, hv 1), (0, .ref 18), (1, hv 2), (2, hv ((q : Int)))] []
        refine jr_iinc R1 d_29_148 (by decide) rfl (lo' := [(4, hv 1), (5, hv (S ((((hp_px tkf pcf (N' + 1) 3 q (k, -1)).1 : Nat) : Int)).toNat)), (3, hv 1), (0, .ref 18), (1, hv 2), (2, hv ((q : Int)))]) rfl ?_
        refine jr_goto R1 d_29_151 (by decide) (pc' := 88) rfl ?_
        refine jr_iload R1 d_29_88 rfl ?_
        refine jr_iload_n R1 d_29_90 rfl ?_
        refine jr_icmp R1 true d_29_91 (by first | assumption | exact hg _ | exact hS _ | exact hV _ | exact hP _ | exact hT _ | exact ⟨by omega, by omega⟩) (by first | assumption | exact hg _ | exact hS _ | exact hV _ | exact hP _ | exact hT _ | exact ⟨by omega, by omega⟩) (by unfold hcb; first | exact decide_eq_true (by omega) | exact decide_eq_false (by omega)) (by decide) (pc' := 154) rfl ?_
        refine jr_ret R3 d_29_154 rfl ?_
        have e := hx_two (tkf := tkf) (pcf := pcf) (N := N') (q := q) hj
        rw [← hsE] at e
        rw [hx_lev (by omega) (by omega)]
        show hq B n T S P V E (hp_px tkf pcf (N' + 1) 8 q (hp_px tkf pcf (N' + 1) 3 q (k, -1))) _ _
        rw [e]
        refine ⟨rfl, _, _, ?_, rfl⟩; assumption
      · skip
        refine jr_calls R2 d_29_112 (by decide) (by decide) rfl (as := [hv (S ((((hp_px tkf pcf (N' + 1) 3 q (k, -1)).1 : Nat) : Int)).toNat), hv 2]) (rest := []) rfl (hc_joins2 (d := 1) (M := rd B n ((T : Int) + 1) ((((hp_px tkf pcf (N' + 1) 3 q (k, -1)).1 : Nat) : Int)) ((-1)) sc18 S P V ST18 E) (by omega) (hS _)) (by omega) (Nat.le_of_ble_eq_true rfl) ?_
        rintro rv M9 ⟨rfl, rfl⟩
        rw [hs9, if_neg hj]
        show J 0 0 (rd B n ((T : Int) + 1) ((((hp_px tkf pcf (N' + 1) 3 q (k, -1)).1 : Nat) : Int)) ((-1)) sc18 S P V ST18 E) 115 [(4, hv 0), (3, hv 1), (0, .ref 18), (1, hv 2), (2, hv ((q : Int)))] [hv 0]
        refine jr_ifc R1 true d_29_115 (by first | assumption | exact hg _ | exact hS _ | exact hV _ | exact hP _ | exact hT _ | exact ⟨by omega, by omega⟩) (by unfold hcb; first | exact decide_eq_true (by omega) | exact decide_eq_false (by omega)) (by decide) (pc' := 154) rfl ?_
        refine jr_ret R3 d_29_154 rfl ?_
        have e := hx_stop (tkf := tkf) (pcf := pcf) (N := N') (l := 2) (q := q) (by omega) (by simpa using hj)
        rw [← hsE] at e
        rw [hx_lev (by omega) (by omega), e]
        refine ⟨rfl, _, _, ?_, by rw [hneg]⟩; assumption
    · refine jr_icmp R1 true d_29_99 (by first | assumption | exact hg _ | exact hS _ | exact hV _ | exact hP _ | exact hT _ | exact ⟨by omega, by omega⟩) (by first | assumption | exact hg _ | exact hS _ | exact hV _ | exact hP _ | exact hT _ | exact ⟨by omega, by omega⟩) (by unfold hcb; first | exact decide_eq_true (by omega) | exact decide_eq_false (by omega)) (by decide) (pc' := 154) rfl ?_
      refine jr_ret R3 d_29_154 rfl ?_
      rw [hx_lev (by omega) (by omega), hp_px_f (by assumption)]
      refine ⟨rfl, _, _, ?_, rfl⟩; assumption
theorem ha_exp3 {lch : Launch} {B : mj_M} {n : Int} {T : Nat} {S P V E : Nat → Int} {tkf pcf : Nat → Int} {N : Nat} (hB : 25 ≤ B.length) (hT9 : T ≤ 160) (hS : ∀ j, hr (S j)) (hP : ∀ j, hr (P j)) (hSk : ∀ j : Nat, j ≤ T → S j = tkf j) (hPk : ∀ j : Nat, j ≤ T → P j = pcf j) (hTk : ∀ j, T ≤ j → tkf j = 302) (hpc : ∀ j, 0 ≤ pcf j ∧ pcf j ≤ 160) (hE : ∀ N', N' < N + 1 → hgE lch B n T S P V E tkf pcf N') (hO1 : hgO lch B n T S P V E tkf pcf (N + 1)) :
    ∀ (d q k : Nat) (sc : Int) (ST : Nat → Int), q ≤ 5 → k ≤ T → (0 ≤ sc ∧ sc ≤ 160) → hp_fu T 3 k ≤ N + 1 → 9 - 3 + 8 * (5 - q) ≤ d → mj_Me lch 29 d 0 0 [.ref 18, hv 3, hv (q : Int)] (rd B n ((T : Int) + 1) (k : Int) (-1) sc S P V ST E) (hq B n T S P V E (hp_px tkf pcf (N + 1) 3 q (k, -1))) := by
  intro d q k sc ST hq5 hk hsc hfu hd
  rw [hx_fu (by omega)] at hfu
  have hlt : k < T ∨ tkf k = 302 := by
    by_cases g : T ≤ k
    · exact Or.inr (hTk _ g)
    · exact Or.inl (by omega)
  have hs1 : S ((k : Int)).toNat = tkf k := hSk k hk
  have hEs := hE
  have hE := hE N (by omega)
  refine mj_Me_of4 (by decide) (by omega) (Nat.le_of_ble_eq_true rfl) ?_
  intro L xs J R1 R2 R3 R4
  show J 0 0 (rd B n ((T : Int) + 1) ((k : Int)) ((-1)) sc S P V ST E) 0 [(0, .ref 18), (1, hv 3), (2, hv (q : Int))] []
  refine jr_aload_n R1 d_29_0 rfl ?_
  refine jr_getf R1 d_29_1 (rd_18 hB) (by decide) rfl ?_
  refine jr_iconst R1 d_29_4 ?_
  refine jr_icmp R1 true d_29_5 (by first | assumption | exact hg _ | exact hS _ | exact hV _ | exact hP _ | exact hT _ | exact ⟨by omega, by omega⟩) (by first | assumption | exact hg _ | exact hS _ | exact hV _ | exact hP _ | exact hT _ | exact ⟨by omega, by omega⟩) (by unfold hcb; first | exact decide_eq_true (by omega) | exact decide_eq_false (by omega)) (by decide) (pc' := 9) rfl ?_
  refine jr_iload_n R1 d_29_9 rfl ?_
  refine jr_iconst R1 d_29_10 ?_
  refine jr_icmp R1 true d_29_11 (by first | assumption | exact hg _ | exact hS _ | exact hV _ | exact hP _ | exact hT _ | exact ⟨by omega, by omega⟩) (by first | assumption | exact hg _ | exact hS _ | exact hV _ | exact hP _ | exact hT _ | exact ⟨by omega, by omega⟩) (by unfold hcb; first | exact decide_eq_true (by omega) | exact decide_eq_false (by omega)) (by decide) (pc' := 20) rfl ?_
  refine jr_iload_n R1 d_29_20 rfl ?_
  refine jr_iconst R1 d_29_21 ?_
  refine jr_icmp R1 true d_29_22 (by first | assumption | exact hg _ | exact hS _ | exact hV _ | exact hP _ | exact hT _ | exact ⟨by omega, by omega⟩) (by first | assumption | exact hg _ | exact hS _ | exact hV _ | exact hP _ | exact hT _ | exact ⟨by omega, by omega⟩) (by unfold hcb; first | exact decide_eq_true (by omega) | exact decide_eq_false (by omega)) (by decide) (pc' := 64) rfl ?_
  refine jr_aload_n R1 d_29_64 rfl ?_
  refine jr_iload_n R1 d_29_65 rfl ?_
  refine jr_iconst R1 d_29_66 ?_
  refine jr_iadd R1 d_29_67 ?_
  refine jr_iload_n R1 d_29_68 rfl ?_
  refine jr_calls R2 d_29_69 (by decide) (by decide) rfl (as := [.ref 18, hv 4, hv ((q : Int))]) (rest := []) rfl (hE (9 - 4 + 8 * (5 - q)) 4 q k _ _ (by omega) (by omega) (by omega) hsc (by rw [hx_fu (by omega)]; omega) (Nat.le_refl _)) (by omega) (Nat.le_of_ble_eq_true rfl) ?_
  rintro rv M9 ⟨rfl, sc21, ST21, hsc21, rfl⟩
  have hok21 := hp_px_ok hTk (fun j => (hpc j).1) N 4 q (k, -1) (by omega) (by simp only; omega) rfl (by rw [hx_fu (by omega)]; simp only; omega)
  have hb21 := hx_bd hT9 hpc hok21
  have hkT21 := hok21.2.1
  show J 0 0 (rd B n ((T : Int) + 1) ((((hp_px tkf pcf N 4 q (k, -1)).1 : Nat) : Int)) ((hp_px tkf pcf N 4 q (k, -1)).2) sc21 S P V ST21 E) 72 [(0, .ref 18), (1, hv 3), (2, hv ((q : Int)))] []
  refine jr_iload_n R1 d_29_72 rfl ?_
  refine jr_iconst R1 d_29_73 ?_
  refine jr_icmp R1 true d_29_74 (by first | assumption | exact hg _ | exact hS _ | exact hV _ | exact hP _ | exact hT _ | exact ⟨by omega, by omega⟩) (by first | assumption | exact hg _ | exact hS _ | exact hV _ | exact hP _ | exact hT _ | exact ⟨by omega, by omega⟩) (by unfold hcb; first | exact decide_eq_true (by omega) | exact decide_eq_false (by omega)) (by decide) (pc' := 81) rfl ?_
  refine jr_sipush R1 d_29_81 (by decide) ?_
  refine jr_istore_n R1 d_29_84 (by decide) (lo' := [(3, hv 160), (0, .ref 18), (1, hv 3), (2, hv ((q : Int)))]) rfl ?_
  refine jr_iconst R1 d_29_85 ?_
  refine jr_istore R1 d_29_86 (by decide) (lo' := [(4, hv 0), (3, hv 160), (0, .ref 18), (1, hv 3), (2, hv ((q : Int)))]) rfl ?_
  refine R4 0 0 _ 88 _ [(4, hv 0), (3, hv 160), (2, hv (q : Int)), (1, hv 3), (0, .ref 18)] _ (fun z hz => by simp only [List.mem_cons, List.not_mem_nil, or_false] at hz ⊢; rcases hz with rfl | rfl | rfl | rfl | rfl <;> simp) ?_
  refine ha_loop3 hB hT9 hS hP hSk hPk hTk hpc hq5 (fun N' h => hEs N' (by omega)) hd R1 R2 R3 R4 N (hp_px tkf pcf N 4 q (k, -1)).1 (hp_px tkf pcf N 4 q (k, -1)).2 0 _ _ (Nat.le_refl _) hkT21 hb21.2 hsc21 (fun g => ?_) ⟨by omega, by omega⟩ (fun rv M' h => ?_)
  · have h1 := hok21.2.2.1 g (by omega)
    simp only at h1
    rw [hx_fu7 (by omega)]
    omega
  · rw [hx_lev (by omega) (by omega)]
    exact h
theorem ha_exp4 {lch : Launch} {B : mj_M} {n : Int} {T : Nat} {S P V E : Nat → Int} {tkf pcf : Nat → Int} {N : Nat} (hB : 25 ≤ B.length) (hT9 : T ≤ 160) (hS : ∀ j, hr (S j)) (hP : ∀ j, hr (P j)) (hSk : ∀ j : Nat, j ≤ T → S j = tkf j) (hPk : ∀ j : Nat, j ≤ T → P j = pcf j) (hTk : ∀ j, T ≤ j → tkf j = 302) (hpc : ∀ j, 0 ≤ pcf j ∧ pcf j ≤ 160) (hE : ∀ N', N' < N + 1 → hgE lch B n T S P V E tkf pcf N') (hO1 : hgO lch B n T S P V E tkf pcf (N + 1)) :
    ∀ (d q k : Nat) (sc : Int) (ST : Nat → Int), q ≤ 5 → k ≤ T → (0 ≤ sc ∧ sc ≤ 160) → hp_fu T 4 k ≤ N + 1 → 9 - 4 + 8 * (5 - q) ≤ d → mj_Me lch 29 d 0 0 [.ref 18, hv 4, hv (q : Int)] (rd B n ((T : Int) + 1) (k : Int) (-1) sc S P V ST E) (hq B n T S P V E (hp_px tkf pcf (N + 1) 4 q (k, -1))) := by
  intro d q k sc ST hq5 hk hsc hfu hd
  rw [hx_fu (by omega)] at hfu
  have hlt : k < T ∨ tkf k = 302 := by
    by_cases g : T ≤ k
    · exact Or.inr (hTk _ g)
    · exact Or.inl (by omega)
  have hs1 : S ((k : Int)).toNat = tkf k := hSk k hk
  have hEs := hE
  have hE := hE N (by omega)
  refine mj_Me_of4 (by decide) (by omega) (Nat.le_of_ble_eq_true rfl) ?_
  intro L xs J R1 R2 R3 R4
  show J 0 0 (rd B n ((T : Int) + 1) ((k : Int)) ((-1)) sc S P V ST E) 0 [(0, .ref 18), (1, hv 4), (2, hv (q : Int))] []
  refine jr_aload_n R1 d_29_0 rfl ?_
  refine jr_getf R1 d_29_1 (rd_18 hB) (by decide) rfl ?_
  refine jr_iconst R1 d_29_4 ?_
  refine jr_icmp R1 true d_29_5 (by first | assumption | exact hg _ | exact hS _ | exact hV _ | exact hP _ | exact hT _ | exact ⟨by omega, by omega⟩) (by first | assumption | exact hg _ | exact hS _ | exact hV _ | exact hP _ | exact hT _ | exact ⟨by omega, by omega⟩) (by unfold hcb; first | exact decide_eq_true (by omega) | exact decide_eq_false (by omega)) (by decide) (pc' := 9) rfl ?_
  refine jr_iload_n R1 d_29_9 rfl ?_
  refine jr_iconst R1 d_29_10 ?_
  refine jr_icmp R1 true d_29_11 (by first | assumption | exact hg _ | exact hS _ | exact hV _ | exact hP _ | exact hT _ | exact ⟨by omega, by omega⟩) (by first | assumption | exact hg _ | exact hS _ | exact hV _ | exact hP _ | exact hT _ | exact ⟨by omega, by omega⟩) (by unfold hcb; first | exact decide_eq_true (by omega) | exact decide_eq_false (by omega)) (by decide) (pc' := 20) rfl ?_
  refine jr_iload_n R1 d_29_20 rfl ?_
  refine jr_iconst R1 d_29_21 ?_
  refine jr_icmp R1 true d_29_22 (by first | assumption | exact hg _ | exact hS _ | exact hV _ | exact hP _ | exact hT _ | exact ⟨by omega, by omega⟩) (by first | assumption | exact hg _ | exact hS _ | exact hV _ | exact hP _ | exact hT _ | exact ⟨by omega, by omega⟩) (by unfold hcb; first | exact decide_eq_true (by omega) | exact decide_eq_false (by omega)) (by decide) (pc' := 64) rfl ?_
  refine jr_aload_n R1 d_29_64 rfl ?_
  refine jr_iload_n R1 d_29_65 rfl ?_
  refine jr_iconst R1 d_29_66 ?_
  refine jr_iadd R1 d_29_67 ?_
  refine jr_iload_n R1 d_29_68 rfl ?_
  refine jr_calls R2 d_29_69 (by decide) (by decide) rfl (as := [.ref 18, hv 5, hv ((q : Int))]) (rest := []) rfl (hE (9 - 5 + 8 * (5 - q)) 5 q k _ _ (by omega) (by omega) (by omega) hsc (by rw [hx_fu (by omega)]; omega) (Nat.le_refl _)) (by omega) (Nat.le_of_ble_eq_true rfl) ?_
  rintro rv M9 ⟨rfl, sc22, ST22, hsc22, rfl⟩
  have hok22 := hp_px_ok hTk (fun j => (hpc j).1) N 5 q (k, -1) (by omega) (by simp only; omega) rfl (by rw [hx_fu (by omega)]; simp only; omega)
  have hb22 := hx_bd hT9 hpc hok22
  have hkT22 := hok22.2.1
  show J 0 0 (rd B n ((T : Int) + 1) ((((hp_px tkf pcf N 5 q (k, -1)).1 : Nat) : Int)) ((hp_px tkf pcf N 5 q (k, -1)).2) sc22 S P V ST22 E) 72 [(0, .ref 18), (1, hv 4), (2, hv ((q : Int)))] []
  refine jr_iload_n R1 d_29_72 rfl ?_
  refine jr_iconst R1 d_29_73 ?_
  refine jr_icmp R1 true d_29_74 (by first | assumption | exact hg _ | exact hS _ | exact hV _ | exact hP _ | exact hT _ | exact ⟨by omega, by omega⟩) (by first | assumption | exact hg _ | exact hS _ | exact hV _ | exact hP _ | exact hT _ | exact ⟨by omega, by omega⟩) (by unfold hcb; first | exact decide_eq_true (by omega) | exact decide_eq_false (by omega)) (by decide) (pc' := 81) rfl ?_
  refine jr_sipush R1 d_29_81 (by decide) ?_
  refine jr_istore_n R1 d_29_84 (by decide) (lo' := [(3, hv 160), (0, .ref 18), (1, hv 4), (2, hv ((q : Int)))]) rfl ?_
  refine jr_iconst R1 d_29_85 ?_
  refine jr_istore R1 d_29_86 (by decide) (lo' := [(4, hv 0), (3, hv 160), (0, .ref 18), (1, hv 4), (2, hv ((q : Int)))]) rfl ?_
  refine R4 0 0 _ 88 _ [(4, hv 0), (3, hv 160), (2, hv (q : Int)), (1, hv 4), (0, .ref 18)] _ (fun z hz => by simp only [List.mem_cons, List.not_mem_nil, or_false] at hz ⊢; rcases hz with rfl | rfl | rfl | rfl | rfl <;> simp) ?_
  refine ha_loop4 hB hT9 hS hP hSk hPk hTk hpc hq5 (fun N' h => hEs N' (by omega)) hd R1 R2 R3 R4 N (hp_px tkf pcf N 5 q (k, -1)).1 (hp_px tkf pcf N 5 q (k, -1)).2 0 _ _ (Nat.le_refl _) hkT22 hb22.2 hsc22 (fun g => ?_) ⟨by omega, by omega⟩ (fun rv M' h => ?_)
  · have h1 := hok22.2.2.1 g (by omega)
    simp only at h1
    rw [hx_fu7 (by omega)]
    omega
  · rw [hx_lev (by omega) (by omega)]
    exact h
theorem ha_exp5 {lch : Launch} {B : mj_M} {n : Int} {T : Nat} {S P V E : Nat → Int} {tkf pcf : Nat → Int} {N : Nat} (hB : 25 ≤ B.length) (hT9 : T ≤ 160) (hS : ∀ j, hr (S j)) (hP : ∀ j, hr (P j)) (hSk : ∀ j : Nat, j ≤ T → S j = tkf j) (hPk : ∀ j : Nat, j ≤ T → P j = pcf j) (hTk : ∀ j, T ≤ j → tkf j = 302) (hpc : ∀ j, 0 ≤ pcf j ∧ pcf j ≤ 160) (hE : ∀ N', N' < N + 1 → hgE lch B n T S P V E tkf pcf N') (hO1 : hgO lch B n T S P V E tkf pcf (N + 1)) :
    ∀ (d q k : Nat) (sc : Int) (ST : Nat → Int), q ≤ 5 → k ≤ T → (0 ≤ sc ∧ sc ≤ 160) → hp_fu T 5 k ≤ N + 1 → 9 - 5 + 8 * (5 - q) ≤ d → mj_Me lch 29 d 0 0 [.ref 18, hv 5, hv (q : Int)] (rd B n ((T : Int) + 1) (k : Int) (-1) sc S P V ST E) (hq B n T S P V E (hp_px tkf pcf (N + 1) 5 q (k, -1))) := by
  intro d q k sc ST hq5 hk hsc hfu hd
  rw [hx_fu (by omega)] at hfu
  have hlt : k < T ∨ tkf k = 302 := by
    by_cases g : T ≤ k
    · exact Or.inr (hTk _ g)
    · exact Or.inl (by omega)
  have hs1 : S ((k : Int)).toNat = tkf k := hSk k hk
  refine mj_Me_of4 (by decide) (by omega) (Nat.le_of_ble_eq_true rfl) ?_
  intro L xs J R1 R2 R3 R4
  show J 0 0 (rd B n ((T : Int) + 1) ((k : Int)) ((-1)) sc S P V ST E) 0 [(0, .ref 18), (1, hv 5), (2, hv (q : Int))] []
  refine jr_aload_n R1 d_29_0 rfl ?_
  refine jr_getf R1 d_29_1 (rd_18 hB) (by decide) rfl ?_
  refine jr_iconst R1 d_29_4 ?_
  refine jr_icmp R1 true d_29_5 (by first | assumption | exact hg _ | exact hS _ | exact hV _ | exact hP _ | exact hT _ | exact ⟨by omega, by omega⟩) (by first | assumption | exact hg _ | exact hS _ | exact hV _ | exact hP _ | exact hT _ | exact ⟨by omega, by omega⟩) (by unfold hcb; first | exact decide_eq_true (by omega) | exact decide_eq_false (by omega)) (by decide) (pc' := 9) rfl ?_
  refine jr_iload_n R1 d_29_9 rfl ?_
  refine jr_iconst R1 d_29_10 ?_
  refine jr_icmp R1 false d_29_11 (by first | assumption | exact hg _ | exact hS _ | exact hV _ | exact hP _ | exact hT _ | exact ⟨by omega, by omega⟩) (by first | assumption | exact hg _ | exact hS _ | exact hV _ | exact hP _ | exact hT _ | exact ⟨by omega, by omega⟩) (by unfold hcb; first | exact decide_eq_true (by omega) | exact decide_eq_false (by omega)) (by decide) (pc' := 14) rfl ?_
  refine jr_aload_n R1 d_29_14 rfl ?_
  refine jr_iload_n R1 d_29_15 rfl ?_
  refine jr_calls R2 d_29_16 (by decide) (by decide) rfl (as := [.ref 18, hv ((q : Int))]) (rest := []) rfl (hO1 (3 + 8 * (5 - q)) q k _ _ (by omega) (by omega) hsc (by rw [hx_fu (by omega)]; omega) (Nat.le_refl _)) (by omega) (Nat.le_of_ble_eq_true rfl) ?_
  rintro rv M9 ⟨rfl, sc23, ST23, hsc23, rfl⟩
  show J 0 0 (rd B n ((T : Int) + 1) ((((hp_px tkf pcf (N + 1) 5 q (k, -1)).1 : Nat) : Int)) ((hp_px tkf pcf (N + 1) 5 q (k, -1)).2) sc23 S P V ST23 E) 19 [(0, .ref 18), (1, hv 5), (2, hv ((q : Int)))] []
  refine jr_ret R3 d_29_19 rfl ?_
  first | (rw [hx_not (by omega), if_pos (by omega)]; refine ⟨rfl, _, _, ?_, rfl⟩; assumption) | (rw [hx_not (by omega), if_neg (by omega)]; refine ⟨rfl, _, _, ?_, rfl⟩; assumption) | (refine ⟨rfl, _, _, ?_, rfl⟩; assumption)
