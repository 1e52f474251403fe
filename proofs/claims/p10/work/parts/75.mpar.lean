/-! THE MODEL'S PARSER: levels -/
theorem mk_atom {lch : Launch} {C : mj_M} {A : Nat → Value} {U : Nat → Int} {Z : List Value} {g b : Nat → Int} {fr n : Nat} {tc tp : Int} {N : Nat} (hC : 84 ≤ C.length) (hTx : C[81]? = some (hA 0 960 g)) (hg : ∀ j, hr (b j)) (hb : ∀ j, j < n → b j = g (fr + j)) (hfr : fr + n ≤ 960) (hn9 : n ≤ 160) (hb0 : ∀ j, j < n → 0 ≤ b j ∧ b j ≤ 255) (hA9 : mg lch C A U Z tc tp fr n b N 5 107) (hE9 : mg lch C A U Z tc tp fr n b N 0 123) : mg lch C A U Z tc tp fr n b (N + 1) 5 107 := by
  intro d o k q to wo fa ho hk hm hfa hfu hd
  rw [hx_fu (by omega)] at hfu
  have hto9 := hm.2.2.1
  have hwo9 := hm.2.2.2
  have hone := mt_one hm
  have hnum := mt_num hm
  have hend := mt_end hm
  refine mj_Me_of (by decide) (by omega) (Nat.le_of_ble_eq_true rfl) ?_
  intro L xs J R1 R2 R3
  show J 0 0 (md C A U Z tc tp ((fr : Int)) ((n : Int)) ((q : Int)) to (hpc b n k) wo ((o : Int)) 0 fa) 0 [(0, .ref 80)] []
  refine jr_iconst R1 d_107_0 ?_
  refine jr_istore_n R1 d_107_1 (by decide) (lo' := [(1, hv 0), (0, .ref 80)]) rfl ?_
  refine jr_aload_n R1 d_107_2 rfl ?_
  refine jr_bipush R1 d_107_3 (by decide) ?_
  by_cases hs14_45 : hp_tk b n k = 45
  · skip
    refine jr_callv R2 d_107_5 (by decide) rfl (as := [.ref 80, hv 45]) (rest := []) rfl (by unfold mj_rc; rw [show (_ : List Value).headD _ = .ref 80 from rfl]; simp only [md_80 hC]; decide) (hm_isSign (d := 1) (by omega) hC (Or.inl rfl) hm.2.2.1 hm.2.2.2 ⟨by omega, by omega⟩) (by omega) (Nat.le_of_ble_eq_true rfl) ?_
    rintro rv M9 ⟨rfl, rfl⟩
    rw [if_pos ⟨rfl, (mt_sg hm rfl).mpr hs14_45⟩]
    show J 0 0 (md C A U Z tc tp ((fr : Int)) ((n : Int)) ((q : Int)) to (hpc b n k) wo ((o : Int)) 0 fa) 8 [(1, hv 0), (0, .ref 80)] [hv 1]
    refine jr_ifc R1 false d_107_8 (by first | assumption | exact hg _ | exact hS _ | exact hV _ | exact hP _ | exact hT _ | exact ⟨by omega, by omega⟩) (by unfold hcb; first | exact decide_eq_true (by omega) | exact decide_eq_false (by omega)) (by decide) (pc' := 11) rfl ?_
    refine jr_aload_n R1 d_107_11 rfl ?_
    by_cases ho15 : o < 5
    · skip
      refine jr_callv R2 d_107_12 (by decide) rfl (as := [.ref 80]) (rest := []) rfl (by unfold mj_rc; rw [show (_ : List Value).headD _ = .ref 80 from rfl]; simp only [md_80 hC]; decide) (mk_opens_t (d := 3) (by omega) hC hTx hg hb hfr hn9 hb0 hm (by omega) (by omega)) (by omega) (Nat.le_of_ble_eq_true rfl) ?_
      rintro rv M9 ⟨rfl, q15, to15, wo15, hm15, rfl⟩
      show J 0 0 (md C A U Z tc tp ((fr : Int)) ((n : Int)) ((q15 : Int)) to15 (hpc b n (k + 1)) wo15 ((o : Int) + 1) 0 fa) 15 [(1, hv 0), (0, .ref 80)] [hv 1]
      refine jr_ifc R1 false d_107_15 (by first | assumption | exact hg _ | exact hS _ | exact hV _ | exact hP _ | exact hT _ | exact ⟨by omega, by omega⟩) (by unfold hcb; first | exact decide_eq_true (by omega) | exact decide_eq_false (by omega)) (by decide) (pc' := 18) rfl ?_
      refine jr_aload_n R1 d_107_18 rfl ?_
      by_cases hS16 : (hp_px (hp_tk b n) (hpc b n) N 5 (o + 1) ((k + 1), -1)).2 = -1
      · skip
        refine jr_callv R2 d_107_19 (by decide) rfl (as := [.ref 80]) (rest := []) rfl (by unfold mj_rc; rw [show (_ : List Value).headD _ = .ref 80 from rfl]; simp only [md_80 hC]; decide) (hA9 (10 - 5 + 7 * (5 - (o + 1))) (o + 1) (k + 1) _ _ _ _ (by omega) (mt_kT hk (by omega)) hm15 hfa (by rw [hx_fu (by omega)]; omega) (Nat.le_refl _)) (by omega) (Nat.le_of_ble_eq_true rfl) ?_
        rintro rv M9 ⟨⟨z16, hz16, rfl⟩, q16, to16, wo16, fa16, hm16, hfa16, hfe16, rfl⟩
        have hok16 := hp_px_ok (tk := hp_tk b n) (pc := hpc b n) (T := hp_T b n) (fun j hj => hp_tk_T hj) hpc_0 N 5 (o + 1) ((k + 1), -1) (by omega) (mt_kT hk (by omega)) rfl (by rw [hx_fu (by omega)]; simp only; omega)
        have hwo16_ := hm16.2.2.2
        rw [if_pos hS16]
        show J 0 0 (md C A U Z tc tp ((fr : Int)) ((n : Int)) ((q16 : Int)) to16 (hpc b n (hp_px (hp_tk b n) (hpc b n) N 5 (o + 1) ((k + 1), -1)).1) wo16 ((((o + 1) : Nat) : Int)) 0 fa16) 22 [(1, hv 0), (0, .ref 80)] [hv z16]
        refine jr_ineg R1 d_107_22 ?_
        refine jr_istore_n R1 d_107_23 (by decide) (lo' := [(1, hv (-z16)), (0, .ref 80)]) rfl ?_
        refine jr_aload_n R1 d_107_24 rfl ?_
        refine jr_dup_r R1 d_107_25 ?_
        refine jr_getf R1 d_107_26 (md_80 hC) (by decide) rfl ?_
        refine jr_iconst R1 d_107_29 ?_
        refine jr_isub R1 d_107_30 ?_
        refine jr_putf R1 d_107_31 (md_80 hC) (by decide) (md_pl (by decide)) rfl rfl (M' := md C A U Z tc tp ((fr : Int)) ((n : Int)) ((q16 : Int)) to16 (hpc b n (hp_px (hp_tk b n) (hpc b n) N 5 (o + 1) ((k + 1), -1)).1) wo16 (((((o + 1) : Nat) : Int)) - 1) 0 fa16) md_p ?_
        refine jr_goto R1 d_107_34 (by decide) (pc' := 161) rfl ?_
        refine jr_iload_n R1 d_107_161 rfl ?_
        refine jr_reti R3 d_107_162 rfl ?_
        rw [show ((((o + 1) : Nat) : Int)) - 1 = (o : Int) by omega]
        rw [hx_neg (by assumption), if_neg (by omega)]
        exact mq_ok _ hm16 hfa16 hS16
      · skip
        refine jr_callv R2 d_107_19 (by decide) rfl (as := [.ref 80]) (rest := []) rfl (by unfold mj_rc; rw [show (_ : List Value).headD _ = .ref 80 from rfl]; simp only [md_80 hC]; decide) (hA9 (10 - 5 + 7 * (5 - (o + 1))) (o + 1) (k + 1) _ _ _ _ (by omega) (mt_kT hk (by omega)) hm15 hfa (by rw [hx_fu (by omega)]; omega) (Nat.le_refl _)) (by omega) (Nat.le_of_ble_eq_true rfl) ?_
        rintro rv M9 ⟨⟨z16, hz16, rfl⟩, q16, to16, wo16, fa16, hm16, hfa16, hfe16, rfl⟩
        have hok16 := hp_px_ok (tk := hp_tk b n) (pc := hpc b n) (T := hp_T b n) (fun j hj => hp_tk_T hj) hpc_0 N 5 (o + 1) ((k + 1), -1) (by omega) (mt_kT hk (by omega)) rfl (by rw [hx_fu (by omega)]; simp only; omega)
        have hwo16_ := hm16.2.2.2
        rw [if_neg hS16]
        show J 0 0 (md C A U Z tc tp ((fr : Int)) ((n : Int)) ((q16 : Int)) to16 (hpc b n (hp_px (hp_tk b n) (hpc b n) N 5 (o + 1) ((k + 1), -1)).1) wo16 ((((o + 1) : Nat) : Int)) 1 fa16) 22 [(1, hv 0), (0, .ref 80)] [hv z16]
        refine jr_ineg R1 d_107_22 ?_
        refine jr_istore_n R1 d_107_23 (by decide) (lo' := [(1, hv (-z16)), (0, .ref 80)]) rfl ?_
        refine jr_aload_n R1 d_107_24 rfl ?_
        refine jr_dup_r R1 d_107_25 ?_
        refine jr_getf R1 d_107_26 (md_80 hC) (by decide) rfl ?_
        refine jr_iconst R1 d_107_29 ?_
        refine jr_isub R1 d_107_30 ?_
        refine jr_putf R1 d_107_31 (md_80 hC) (by decide) (md_pl (by decide)) rfl rfl (M' := md C A U Z tc tp ((fr : Int)) ((n : Int)) ((q16 : Int)) to16 (hpc b n (hp_px (hp_tk b n) (hpc b n) N 5 (o + 1) ((k + 1), -1)).1) wo16 (((((o + 1) : Nat) : Int)) - 1) 1 fa16) md_p ?_
        refine jr_goto R1 d_107_34 (by decide) (pc' := 161) rfl ?_
        refine jr_iload_n R1 d_107_161 rfl ?_
        refine jr_reti R3 d_107_162 rfl ?_
        rw [show ((((o + 1) : Nat) : Int)) - 1 = (o : Int) by omega]
        rw [hx_neg (by assumption), if_neg (by omega)]
        exact mq_bad _ hm16 hfa16 hS16 (hfe16 hS16)
    · skip
      refine jr_callv R2 d_107_12 (by decide) rfl (as := [.ref 80]) (rest := []) rfl (by unfold mj_rc; rw [show (_ : List Value).headD _ = .ref 80 from rfl]; simp only [md_80 hC]; decide) (mk_opens_f (d := 3) (by omega) hC hTx hg hb hfr hn9 hb0 hm (by omega)) (by omega) (Nat.le_of_ble_eq_true rfl) ?_
      rintro rv M9 ⟨rfl, rfl⟩
      show J 0 0 (md C A U Z tc tp ((fr : Int)) ((n : Int)) ((q : Int)) to (hpc b n k) wo ((o : Int)) 1 (hpc b n k)) 15 [(1, hv 0), (0, .ref 80)] [hv 0]
      refine jr_ifc R1 true d_107_15 (by first | assumption | exact hg _ | exact hS _ | exact hV _ | exact hP _ | exact hT _ | exact ⟨by omega, by omega⟩) (by unfold hcb; first | exact decide_eq_true (by omega) | exact decide_eq_false (by omega)) (by decide) (pc' := 161) rfl ?_
      refine jr_iload_n R1 d_107_161 rfl ?_
      refine jr_reti R3 d_107_162 rfl ?_
      first | rw [hx_neg (by assumption), if_pos (by omega)] | rw [hx_par (by assumption), if_pos (by omega)]
      exact mq_bad (k, _) hm (hpc_bd hn9 k) hpc_ne rfl
  · skip
    refine jr_callv R2 d_107_5 (by decide) rfl (as := [.ref 80, hv 45]) (rest := []) rfl (by unfold mj_rc; rw [show (_ : List Value).headD _ = .ref 80 from rfl]; simp only [md_80 hC]; decide) (hm_isSign (d := 1) (by omega) hC (Or.inl rfl) hm.2.2.1 hm.2.2.2 ⟨by omega, by omega⟩) (by omega) (Nat.le_of_ble_eq_true rfl) ?_
    rintro rv M9 ⟨rfl, rfl⟩
    rw [if_neg (fun z => hs14_45 ((mt_sg hm rfl).mp z.2))]
    show J 0 0 (md C A U Z tc tp ((fr : Int)) ((n : Int)) ((q : Int)) to (hpc b n k) wo ((o : Int)) 0 fa) 8 [(1, hv 0), (0, .ref 80)] [hv 0]
    refine jr_ifc R1 true d_107_8 (by first | assumption | exact hg _ | exact hS _ | exact hV _ | exact hP _ | exact hT _ | exact ⟨by omega, by omega⟩) (by unfold hcb; first | exact decide_eq_true (by omega) | exact decide_eq_false (by omega)) (by decide) (pc' := 37) rfl ?_
    refine jr_aload_n R1 d_107_37 rfl ?_
    refine jr_bipush R1 d_107_38 (by decide) ?_
    by_cases hs17_40 : hp_tk b n k = 40
    · skip
      refine jr_callv R2 d_107_40 (by decide) rfl (as := [.ref 80, hv 40]) (rest := []) rfl (by unfold mj_rc; rw [show (_ : List Value).headD _ = .ref 80 from rfl]; simp only [md_80 hC]; decide) (hm_isSign (d := 1) (by omega) hC (Or.inl rfl) hm.2.2.1 hm.2.2.2 ⟨by omega, by omega⟩) (by omega) (Nat.le_of_ble_eq_true rfl) ?_
      rintro rv M9 ⟨rfl, rfl⟩
      rw [if_pos ⟨rfl, (mt_sg hm rfl).mpr hs17_40⟩]
      show J 0 0 (md C A U Z tc tp ((fr : Int)) ((n : Int)) ((q : Int)) to (hpc b n k) wo ((o : Int)) 0 fa) 43 [(1, hv 0), (0, .ref 80)] [hv 1]
      refine jr_ifc R1 false d_107_43 (by first | assumption | exact hg _ | exact hS _ | exact hV _ | exact hP _ | exact hT _ | exact ⟨by omega, by omega⟩) (by unfold hcb; first | exact decide_eq_true (by omega) | exact decide_eq_false (by omega)) (by decide) (pc' := 46) rfl ?_
      refine jr_aload_n R1 d_107_46 rfl ?_
      by_cases ho18 : o < 5
      · skip
        refine jr_callv R2 d_107_47 (by decide) rfl (as := [.ref 80]) (rest := []) rfl (by unfold mj_rc; rw [show (_ : List Value).headD _ = .ref 80 from rfl]; simp only [md_80 hC]; decide) (mk_opens_t (d := 3) (by omega) hC hTx hg hb hfr hn9 hb0 hm (by omega) (by omega)) (by omega) (Nat.le_of_ble_eq_true rfl) ?_
        rintro rv M9 ⟨rfl, q18, to18, wo18, hm18, rfl⟩
        show J 0 0 (md C A U Z tc tp ((fr : Int)) ((n : Int)) ((q18 : Int)) to18 (hpc b n (k + 1)) wo18 ((o : Int) + 1) 0 fa) 50 [(1, hv 0), (0, .ref 80)] [hv 1]
        refine jr_ifc R1 false d_107_50 (by first | assumption | exact hg _ | exact hS _ | exact hV _ | exact hP _ | exact hT _ | exact ⟨by omega, by omega⟩) (by unfold hcb; first | exact decide_eq_true (by omega) | exact decide_eq_false (by omega)) (by decide) (pc' := 53) rfl ?_
        refine jr_aload_n R1 d_107_53 rfl ?_
        by_cases hS19 : (hp_px (hp_tk b n) (hpc b n) N 0 (o + 1) ((k + 1), -1)).2 = -1
        · skip
          refine jr_callv R2 d_107_54 (by decide) rfl (as := [.ref 80]) (rest := []) rfl (by unfold mj_rc; rw [show (_ : List Value).headD _ = .ref 80 from rfl]; simp only [md_80 hC]; decide) (hE9 (10 - 0 + 7 * (5 - (o + 1))) (o + 1) (k + 1) _ _ _ _ (by omega) (mt_kT hk (by omega)) hm18 hfa (by rw [hx_fu (by omega)]; omega) (Nat.le_refl _)) (by omega) (Nat.le_of_ble_eq_true rfl) ?_
          rintro rv M9 ⟨⟨z19, hz19, rfl⟩, q19, to19, wo19, fa19, hm19, hfa19, hfe19, rfl⟩
          have hok19 := hp_px_ok (tk := hp_tk b n) (pc := hpc b n) (T := hp_T b n) (fun j hj => hp_tk_T hj) hpc_0 N 0 (o + 1) ((k + 1), -1) (by omega) (mt_kT hk (by omega)) rfl (by rw [hx_fu (by omega)]; simp only; omega)
          have hwo19_ := hm19.2.2.2
          rw [if_pos hS19]
          show J 0 0 (md C A U Z tc tp ((fr : Int)) ((n : Int)) ((q19 : Int)) to19 (hpc b n (hp_px (hp_tk b n) (hpc b n) N 0 (o + 1) ((k + 1), -1)).1) wo19 ((((o + 1) : Nat) : Int)) 0 fa19) 57 [(1, hv 0), (0, .ref 80)] [hv z19]
          refine jr_istore_n R1 d_107_57 (by decide) (lo' := [(1, hv z19), (0, .ref 80)]) rfl ?_
          refine jr_aload_n R1 d_107_58 rfl ?_
          refine jr_bipush R1 d_107_59 (by decide) ?_
          by_cases hs20_41 : hp_tk b n ((hp_px (hp_tk b n) (hpc b n) N 0 (o + 1) ((k + 1), -1)).1) = 41
          · skip
            refine jr_callv R2 d_107_61 (by decide) rfl (as := [.ref 80, hv 41]) (rest := []) rfl (by unfold mj_rc; rw [show (_ : List Value).headD _ = .ref 80 from rfl]; simp only [md_80 hC]; decide) (hm_isSign (d := 1) (by omega) hC (Or.inl rfl) hm19.2.2.1 hm19.2.2.2 ⟨by omega, by omega⟩) (by omega) (Nat.le_of_ble_eq_true rfl) ?_
            rintro rv M9 ⟨rfl, rfl⟩
            rw [if_pos ⟨rfl, (mt_sg hm19 rfl).mpr hs20_41⟩]
            show J 0 0 (md C A U Z tc tp ((fr : Int)) ((n : Int)) ((q19 : Int)) to19 (hpc b n (hp_px (hp_tk b n) (hpc b n) N 0 (o + 1) ((k + 1), -1)).1) wo19 ((((o + 1) : Nat) : Int)) 0 fa19) 64 [(1, hv z19), (0, .ref 80)] [hv 1]
            refine jr_ifc R1 true d_107_64 (by first | assumption | exact hg _ | exact hS _ | exact hV _ | exact hP _ | exact hT _ | exact ⟨by omega, by omega⟩) (by unfold hcb; first | exact decide_eq_true (by omega) | exact decide_eq_false (by omega)) (by decide) (pc' := 71) rfl ?_
            refine jr_aload_n R1 d_107_71 rfl ?_
            refine jr_dup_r R1 d_107_72 ?_
            refine jr_getf R1 d_107_73 (md_80 hC) (by decide) rfl ?_
            refine jr_iconst R1 d_107_76 ?_
            refine jr_isub R1 d_107_77 ?_
            refine jr_putf R1 d_107_78 (md_80 hC) (by decide) (md_pl (by decide)) rfl rfl (M' := md C A U Z tc tp ((fr : Int)) ((n : Int)) ((q19 : Int)) to19 (hpc b n (hp_px (hp_tk b n) (hpc b n) N 0 (o + 1) ((k + 1), -1)).1) wo19 (((((o + 1) : Nat) : Int)) - 1) 0 fa19) md_p ?_
            refine jr_aload_n R1 d_107_81 rfl ?_
            refine jr_getf R1 d_107_82 (md_80 hC) (by decide) rfl ?_
            refine jr_ifc R1 false d_107_85 (by first | assumption | exact hg _ | exact hS _ | exact hV _ | exact hP _ | exact hT _ | exact ⟨by omega, by omega⟩) (by unfold hcb; first | exact decide_eq_true (by omega) | exact decide_eq_false (by omega)) (by decide) (pc' := 88) rfl ?_
            refine jr_aload_n R1 d_107_88 rfl ?_
            refine jr_callv R2 d_107_89 (by decide) rfl (as := [.ref 80]) (rest := []) rfl (by unfold mj_rc; rw [show (_ : List Value).headD _ = .ref 80 from rfl]; simp only [md_80 hC]; decide) (hm_next (d := 2) (x := q19) (p := hp_P b n ((hp_px (hp_tk b n) (hpc b n) N 0 (o + 1) ((k + 1), -1)).1 + 1)) (by omega) hC hTx hg hb hfr hn9 hb0 (mt_qn hm19) (mt_nx hm19 (by omega)) hm19.2.2.2) (by omega) (Nat.le_of_ble_eq_true rfl) ?_
            rintro rv M9 ⟨rfl, he9, to21, wo21, hmp9, hbd9, rfl⟩
            obtain ⟨q21, rfl⟩ := mbd_q hbd9
            have hm21 : mt b n ((hp_px (hp_tk b n) (hpc b n) N 0 (o + 1) ((k + 1), -1)).1 + 1) q21 to21 wo21 := ⟨hmp9, hbd9⟩
            show J 0 0 (md C A U Z tc tp ((fr : Int)) ((n : Int)) ((q21 : Int)) to21 (hpc b n ((hp_px (hp_tk b n) (hpc b n) N 0 (o + 1) ((k + 1), -1)).1 + 1)) wo21 (((((o + 1) : Nat) : Int)) - 1) 0 fa19) 92 [(1, hv z19), (0, .ref 80)] []
            refine jr_goto R1 d_107_92 (by decide) (pc' := 161) rfl ?_
            refine jr_iload_n R1 d_107_161 rfl ?_
            refine jr_reti R3 d_107_162 rfl ?_
            rw [show ((((o + 1) : Nat) : Int)) - 1 = (o : Int) by omega]
            rw [hx_par (by assumption), if_neg (by omega)]
            rw [hx_nd1 hS19 (by assumption)]
            exact mq_ok (_, -1) hm21 hfa19 rfl
          · skip
            refine jr_callv R2 d_107_61 (by decide) rfl (as := [.ref 80, hv 41]) (rest := []) rfl (by unfold mj_rc; rw [show (_ : List Value).headD _ = .ref 80 from rfl]; simp only [md_80 hC]; decide) (hm_isSign (d := 1) (by omega) hC (Or.inl rfl) hm19.2.2.1 hm19.2.2.2 ⟨by omega, by omega⟩) (by omega) (Nat.le_of_ble_eq_true rfl) ?_
            rintro rv M9 ⟨rfl, rfl⟩
            rw [if_neg (fun z => hs20_41 ((mt_sg hm19 rfl).mp z.2))]
            show J 0 0 (md C A U Z tc tp ((fr : Int)) ((n : Int)) ((q19 : Int)) to19 (hpc b n (hp_px (hp_tk b n) (hpc b n) N 0 (o + 1) ((k + 1), -1)).1) wo19 ((((o + 1) : Nat) : Int)) 0 fa19) 64 [(1, hv z19), (0, .ref 80)] [hv 0]
            refine jr_ifc R1 false d_107_64 (by first | assumption | exact hg _ | exact hS _ | exact hV _ | exact hP _ | exact hT _ | exact ⟨by omega, by omega⟩) (by unfold hcb; first | exact decide_eq_true (by omega) | exact decide_eq_false (by omega)) (by decide) (pc' := 67) rfl ?_
            refine jr_aload_n R1 d_107_67 rfl ?_
            refine jr_callv R2 d_107_68 (by decide) rfl (as := [.ref 80]) (rest := []) rfl (by unfold mj_rc; rw [show (_ : List Value).headD _ = .ref 80 from rfl]; simp only [md_80 hC]; decide) (hm_fail (d := 1) (by omega) hC (Or.inl rfl)) (by omega) (Nat.le_of_ble_eq_true rfl) ?_
            rintro rv M9 ⟨rfl, rfl⟩
            rw [if_pos rfl]
            show J 0 0 (md C A U Z tc tp ((fr : Int)) ((n : Int)) ((q19 : Int)) to19 (hpc b n (hp_px (hp_tk b n) (hpc b n) N 0 (o + 1) ((k + 1), -1)).1) wo19 ((((o + 1) : Nat) : Int)) 1 (hpc b n (hp_px (hp_tk b n) (hpc b n) N 0 (o + 1) ((k + 1), -1)).1)) 71 [(1, hv z19), (0, .ref 80)] []
            refine jr_aload_n R1 d_107_71 rfl ?_
            refine jr_dup_r R1 d_107_72 ?_
            refine jr_getf R1 d_107_73 (md_80 hC) (by decide) rfl ?_
            refine jr_iconst R1 d_107_76 ?_
            refine jr_isub R1 d_107_77 ?_
            refine jr_putf R1 d_107_78 (md_80 hC) (by decide) (md_pl (by decide)) rfl rfl (M' := md C A U Z tc tp ((fr : Int)) ((n : Int)) ((q19 : Int)) to19 (hpc b n (hp_px (hp_tk b n) (hpc b n) N 0 (o + 1) ((k + 1), -1)).1) wo19 (((((o + 1) : Nat) : Int)) - 1) 1 (hpc b n (hp_px (hp_tk b n) (hpc b n) N 0 (o + 1) ((k + 1), -1)).1)) md_p ?_
            refine jr_aload_n R1 d_107_81 rfl ?_
            refine jr_getf R1 d_107_82 (md_80 hC) (by decide) rfl ?_
            refine jr_ifc R1 true d_107_85 (by first | assumption | exact hg _ | exact hS _ | exact hV _ | exact hP _ | exact hT _ | exact ⟨by omega, by omega⟩) (by unfold hcb; first | exact decide_eq_true (by omega) | exact decide_eq_false (by omega)) (by decide) (pc' := 161) rfl ?_
            refine jr_iload_n R1 d_107_161 rfl ?_
            refine jr_reti R3 d_107_162 rfl ?_
            rw [show ((((o + 1) : Nat) : Int)) - 1 = (o : Int) by omega]
            rw [hx_par (by assumption), if_neg (by omega)]
            rw [hx_nd2 hS19 (by assumption)]
            exact mq_bad (_, _) hm19 (hpc_bd hn9 (hp_px (hp_tk b n) (hpc b n) N 0 (o + 1) ((k + 1), -1)).1) hpc_ne rfl
        · skip
          refine jr_callv R2 d_107_54 (by decide) rfl (as := [.ref 80]) (rest := []) rfl (by unfold mj_rc; rw [show (_ : List Value).headD _ = .ref 80 from rfl]; simp only [md_80 hC]; decide) (hE9 (10 - 0 + 7 * (5 - (o + 1))) (o + 1) (k + 1) _ _ _ _ (by omega) (mt_kT hk (by omega)) hm18 hfa (by rw [hx_fu (by omega)]; omega) (Nat.le_refl _)) (by omega) (Nat.le_of_ble_eq_true rfl) ?_
          rintro rv M9 ⟨⟨z19, hz19, rfl⟩, q19, to19, wo19, fa19, hm19, hfa19, hfe19, rfl⟩
          have hok19 := hp_px_ok (tk := hp_tk b n) (pc := hpc b n) (T := hp_T b n) (fun j hj => hp_tk_T hj) hpc_0 N 0 (o + 1) ((k + 1), -1) (by omega) (mt_kT hk (by omega)) rfl (by rw [hx_fu (by omega)]; simp only; omega)
          have hwo19_ := hm19.2.2.2
          rw [if_neg hS19]
          show J 0 0 (md C A U Z tc tp ((fr : Int)) ((n : Int)) ((q19 : Int)) to19 (hpc b n (hp_px (hp_tk b n) (hpc b n) N 0 (o + 1) ((k + 1), -1)).1) wo19 ((((o + 1) : Nat) : Int)) 1 fa19) 57 [(1, hv 0), (0, .ref 80)] [hv z19]
          refine jr_istore_n R1 d_107_57 (by decide) (lo' := [(1, hv z19), (0, .ref 80)]) rfl ?_
          refine jr_aload_n R1 d_107_58 rfl ?_
          refine jr_bipush R1 d_107_59 (by decide) ?_
          refine jr_callv R2 d_107_61 (by decide) rfl (as := [.ref 80, hv 41]) (rest := []) rfl (by unfold mj_rc; rw [show (_ : List Value).headD _ = .ref 80 from rfl]; simp only [md_80 hC]; decide) (hm_isSign (d := 1) (by omega) hC (Or.inr rfl) hm19.2.2.1 hm19.2.2.2 ⟨by omega, by omega⟩) (by omega) (Nat.le_of_ble_eq_true rfl) ?_
          rintro rv M9 ⟨rfl, rfl⟩
          rw [if_neg (fun z => absurd z.1 (by decide))]
          show J 0 0 (md C A U Z tc tp ((fr : Int)) ((n : Int)) ((q19 : Int)) to19 (hpc b n (hp_px (hp_tk b n) (hpc b n) N 0 (o + 1) ((k + 1), -1)).1) wo19 ((((o + 1) : Nat) : Int)) 1 fa19) 64 [(1, hv z19), (0, .ref 80)] [hv 0]
          refine jr_ifc R1 false d_107_64 (by first | assumption | exact hg _ | exact hS _ | exact hV _ | exact hP _ | exact hT _ | exact ⟨by omega, by omega⟩) (by unfold hcb; first | exact decide_eq_true (by omega) | exact decide_eq_false (by omega)) (by decide) (pc' := 67) rfl ?_
          refine jr_aload_n R1 d_107_67 rfl ?_
          refine jr_callv R2 d_107_68 (by decide) rfl (as := [.ref 80]) (rest := []) rfl (by unfold mj_rc; rw [show (_ : List Value).headD _ = .ref 80 from rfl]; simp only [md_80 hC]; decide) (hm_fail (d := 1) (by omega) hC (Or.inr rfl)) (by omega) (Nat.le_of_ble_eq_true rfl) ?_
          rintro rv M9 ⟨rfl, rfl⟩
          rw [if_neg (by decide)]
          show J 0 0 (md C A U Z tc tp ((fr : Int)) ((n : Int)) ((q19 : Int)) to19 (hpc b n (hp_px (hp_tk b n) (hpc b n) N 0 (o + 1) ((k + 1), -1)).1) wo19 ((((o + 1) : Nat) : Int)) 1 fa19) 71 [(1, hv z19), (0, .ref 80)] []
          refine jr_aload_n R1 d_107_71 rfl ?_
          refine jr_dup_r R1 d_107_72 ?_
          refine jr_getf R1 d_107_73 (md_80 hC) (by decide) rfl ?_
          refine jr_iconst R1 d_107_76 ?_
          refine jr_isub R1 d_107_77 ?_
          refine jr_putf R1 d_107_78 (md_80 hC) (by decide) (md_pl (by decide)) rfl rfl (M' := md C A U Z tc tp ((fr : Int)) ((n : Int)) ((q19 : Int)) to19 (hpc b n (hp_px (hp_tk b n) (hpc b n) N 0 (o + 1) ((k + 1), -1)).1) wo19 (((((o + 1) : Nat) : Int)) - 1) 1 fa19) md_p ?_
          refine jr_aload_n R1 d_107_81 rfl ?_
          refine jr_getf R1 d_107_82 (md_80 hC) (by decide) rfl ?_
          refine jr_ifc R1 true d_107_85 (by first | assumption | exact hg _ | exact hS _ | exact hV _ | exact hP _ | exact hT _ | exact ⟨by omega, by omega⟩) (by unfold hcb; first | exact decide_eq_true (by omega) | exact decide_eq_false (by omega)) (by decide) (pc' := 161) rfl ?_
          refine jr_iload_n R1 d_107_161 rfl ?_
          refine jr_reti R3 d_107_162 rfl ?_
          rw [show ((((o + 1) : Nat) : Int)) - 1 = (o : Int) by omega]
          rw [hx_par (by assumption), if_neg (by omega)]
          rw [hp_need_f hS19]
          exact mq_bad _ hm19 hfa19 hS19 (hfe19 hS19)
      · skip
        refine jr_callv R2 d_107_47 (by decide) rfl (as := [.ref 80]) (rest := []) rfl (by unfold mj_rc; rw [show (_ : List Value).headD _ = .ref 80 from rfl]; simp only [md_80 hC]; decide) (mk_opens_f (d := 3) (by omega) hC hTx hg hb hfr hn9 hb0 hm (by omega)) (by omega) (Nat.le_of_ble_eq_true rfl) ?_
        rintro rv M9 ⟨rfl, rfl⟩
        show J 0 0 (md C A U Z tc tp ((fr : Int)) ((n : Int)) ((q : Int)) to (hpc b n k) wo ((o : Int)) 1 (hpc b n k)) 50 [(1, hv 0), (0, .ref 80)] [hv 0]
        refine jr_ifc R1 true d_107_50 (by first | assumption | exact hg _ | exact hS _ | exact hV _ | exact hP _ | exact hT _ | exact ⟨by omega, by omega⟩) (by unfold hcb; first | exact decide_eq_true (by omega) | exact decide_eq_false (by omega)) (by decide) (pc' := 161) rfl ?_
        refine jr_iload_n R1 d_107_161 rfl ?_
        refine jr_reti R3 d_107_162 rfl ?_
        first | rw [hx_neg (by assumption), if_pos (by omega)] | rw [hx_par (by assumption), if_pos (by omega)]
        exact mq_bad (k, _) hm (hpc_bd hn9 k) hpc_ne rfl
    · skip
      refine jr_callv R2 d_107_40 (by decide) rfl (as := [.ref 80, hv 40]) (rest := []) rfl (by unfold mj_rc; rw [show (_ : List Value).headD _ = .ref 80 from rfl]; simp only [md_80 hC]; decide) (hm_isSign (d := 1) (by omega) hC (Or.inl rfl) hm.2.2.1 hm.2.2.2 ⟨by omega, by omega⟩) (by omega) (Nat.le_of_ble_eq_true rfl) ?_
      rintro rv M9 ⟨rfl, rfl⟩
      rw [if_neg (fun z => hs17_40 ((mt_sg hm rfl).mp z.2))]
      show J 0 0 (md C A U Z tc tp ((fr : Int)) ((n : Int)) ((q : Int)) to (hpc b n k) wo ((o : Int)) 0 fa) 43 [(1, hv 0), (0, .ref 80)] [hv 0]
      refine jr_ifc R1 true d_107_43 (by first | assumption | exact hg _ | exact hS _ | exact hV _ | exact hP _ | exact hT _ | exact ⟨by omega, by omega⟩) (by unfold hcb; first | exact decide_eq_true (by omega) | exact decide_eq_false (by omega)) (by decide) (pc' := 95) rfl ?_
      refine jr_aload_n R1 d_107_95 rfl ?_
      refine jr_getf R1 d_107_96 (md_80 hC) (by decide) rfl ?_
      refine jr_ifc R1 false d_107_99 (by first | assumption | exact hg _ | exact hS _ | exact hV _ | exact hP _ | exact hT _ | exact ⟨by omega, by omega⟩) (by unfold hcb; first | exact decide_eq_true (by omega) | exact decide_eq_false (by omega)) (by decide) (pc' := 102) rfl ?_
      refine jr_aload_n R1 d_107_102 rfl ?_
      refine jr_getf R1 d_107_103 (md_80 hC) (by decide) rfl ?_
      refine jr_iconst R1 d_107_106 ?_
      by_cases h1 : to = 2
      · refine jr_icmp R1 false d_107_107 (by first | assumption | exact hg _ | exact hS _ | exact hV _ | exact hP _ | exact hT _ | exact ⟨by omega, by omega⟩) (by first | assumption | exact hg _ | exact hS _ | exact hV _ | exact hP _ | exact hT _ | exact ⟨by omega, by omega⟩) (by unfold hcb; first | exact decide_eq_true (by omega) | exact decide_eq_false (by omega)) (by decide) (pc' := 110) rfl ?_
        have hn301 := (mt_num hm).mp h1
        refine jr_aload_n R1 d_107_110 rfl ?_
        refine jr_getf R1 d_107_111 (md_80 hC) (by decide) rfl ?_
        refine jl_l2i R1 d_107_114 ?_
        refine jr_istore_n R1 d_107_115 (by decide) (lo' := [(1, hv wo), (0, .ref 80)]) rfl ?_
        refine jr_aload_n R1 d_107_116 rfl ?_
        refine jr_callv R2 d_107_117 (by decide) rfl (as := [.ref 80]) (rest := []) rfl (by unfold mj_rc; rw [show (_ : List Value).headD _ = .ref 80 from rfl]; simp only [md_80 hC]; decide) (hm_next (d := 2) (x := q) (p := hp_P b n (k + 1)) (by omega) hC hTx hg hb hfr hn9 hb0 (mt_qn hm) (mt_nx hm (by omega)) hm.2.2.2) (by omega) (Nat.le_of_ble_eq_true rfl) ?_
        rintro rv M9 ⟨rfl, he9, to22, wo22, hmp9, hbd9, rfl⟩
        obtain ⟨q22, rfl⟩ := mbd_q hbd9
        have hm22 : mt b n (k + 1) q22 to22 wo22 := ⟨hmp9, hbd9⟩
        show J 0 0 (md C A U Z tc tp ((fr : Int)) ((n : Int)) ((q22 : Int)) to22 (hpc b n (k + 1)) wo22 ((o : Int)) 0 fa) 120 [(1, hv wo), (0, .ref 80)] []
        refine jr_goto R1 d_107_120 (by decide) (pc' := 161) rfl ?_
        refine jr_iload_n R1 d_107_161 rfl ?_
        refine jr_reti R3 d_107_162 rfl ?_
        rw [hx_num (by omega)]
        exact mq_ok (k + 1, -1) hm22 hfa rfl
      · refine jr_icmp R1 true d_107_107 (by first | assumption | exact hg _ | exact hS _ | exact hV _ | exact hP _ | exact hT _ | exact ⟨by omega, by omega⟩) (by first | assumption | exact hg _ | exact hS _ | exact hV _ | exact hP _ | exact hT _ | exact ⟨by omega, by omega⟩) (by unfold hcb; first | exact decide_eq_true (by omega) | exact decide_eq_false (by omega)) (by decide) (pc' := 123) rfl ?_
        refine jr_aload_n R1 d_107_123 rfl ?_
        refine jr_getf R1 d_107_124 (md_80 hC) (by decide) rfl ?_
        refine jr_ifc R1 false d_107_127 (by first | assumption | exact hg _ | exact hS _ | exact hV _ | exact hP _ | exact hT _ | exact ⟨by omega, by omega⟩) (by unfold hcb; first | exact decide_eq_true (by omega) | exact decide_eq_false (by omega)) (by decide) (pc' := 130) rfl ?_
        refine jr_aload_n R1 d_107_130 rfl ?_
        refine jr_getf R1 d_107_131 (md_80 hC) (by decide) rfl ?_
        refine jr_iconst R1 d_107_134 ?_
        by_cases h2 : to = 1
        · refine jr_icmp R1 false d_107_135 (by first | assumption | exact hg _ | exact hS _ | exact hV _ | exact hP _ | exact hT _ | exact ⟨by omega, by omega⟩) (by first | assumption | exact hg _ | exact hS _ | exact hV _ | exact hP _ | exact hT _ | exact ⟨by omega, by omega⟩) (by unfold hcb; first | exact decide_eq_true (by omega) | exact decide_eq_false (by omega)) (by decide) (pc' := 138) rfl ?_
          refine jr_aload_n R1 d_107_138 rfl ?_
          by_cases h300 : hp_tk b n k = 300
          · skip
            refine jr_callv R2 d_107_139 (by decide) rfl (as := [.ref 80]) (rest := []) rfl (by unfold mj_rc; rw [show (_ : List Value).headD _ = .ref 80 from rfl]; simp only [md_80 hC]; decide) (mk_name_t (d := 4) (by omega) hC hTx hg hb hfr hn9 hb0 hm (by omega) h300) (by omega) (Nat.le_of_ble_eq_true rfl) ?_
            rintro rv M9 ⟨⟨z23, hz23, rfl⟩, rfl⟩
            show J 0 0 (md C A U Z tc tp ((fr : Int)) ((n : Int)) ((q : Int)) to (hpc b n k) wo ((o : Int)) 0 fa) 142 [(1, hv 0), (0, .ref 80)] [hv z23]
            refine jr_istore_n R1 d_107_142 (by decide) (lo' := [(1, hv z23), (0, .ref 80)]) rfl ?_
            refine jr_aload_n R1 d_107_143 rfl ?_
            refine jr_getf R1 d_107_144 (md_80 hC) (by decide) rfl ?_
            refine jr_ifc R1 false d_107_147 (by first | assumption | exact hg _ | exact hS _ | exact hV _ | exact hP _ | exact hT _ | exact ⟨by omega, by omega⟩) (by unfold hcb; first | exact decide_eq_true (by omega) | exact decide_eq_false (by omega)) (by decide) (pc' := 150) rfl ?_
            refine jr_aload_n R1 d_107_150 rfl ?_
            refine jr_callv R2 d_107_151 (by decide) rfl (as := [.ref 80]) (rest := []) rfl (by unfold mj_rc; rw [show (_ : List Value).headD _ = .ref 80 from rfl]; simp only [md_80 hC]; decide) (hm_next (d := 2) (x := q) (p := hp_P b n (k + 1)) (by omega) hC hTx hg hb hfr hn9 hb0 (mt_qn hm) (mt_nx hm (by omega)) hm.2.2.2) (by omega) (Nat.le_of_ble_eq_true rfl) ?_
            rintro rv M9 ⟨rfl, he9, to24, wo24, hmp9, hbd9, rfl⟩
            obtain ⟨q24, rfl⟩ := mbd_q hbd9
            have hm24 : mt b n (k + 1) q24 to24 wo24 := ⟨hmp9, hbd9⟩
            show J 0 0 (md C A U Z tc tp ((fr : Int)) ((n : Int)) ((q24 : Int)) to24 (hpc b n (k + 1)) wo24 ((o : Int)) 0 fa) 154 [(1, hv z23), (0, .ref 80)] []
            refine jr_goto R1 d_107_154 (by decide) (pc' := 161) rfl ?_
            refine jr_iload_n R1 d_107_161 rfl ?_
            refine jr_reti R3 d_107_162 rfl ?_
            rw [hx_num (by omega)]
            exact mq_ok (k + 1, -1) hm24 hfa rfl
          · skip
            refine jr_callv R2 d_107_139 (by decide) rfl (as := [.ref 80]) (rest := []) rfl (by unfold mj_rc; rw [show (_ : List Value).headD _ = .ref 80 from rfl]; simp only [md_80 hC]; decide) (mk_name_f (d := 4) (by omega) hC hTx hg hb hfr hn9 hb0 hm (by omega) h300) (by omega) (Nat.le_of_ble_eq_true rfl) ?_
            rintro rv M9 ⟨rfl, rfl⟩
            show J 0 0 (md C A U Z tc tp ((fr : Int)) ((n : Int)) ((q : Int)) to (hpc b n k) wo ((o : Int)) 1 (hpc b n k)) 142 [(1, hv 0), (0, .ref 80)] [hv 0]
            refine jr_istore_n R1 d_107_142 (by decide) (lo' := [(1, hv 0), (0, .ref 80)]) rfl ?_
            refine jr_aload_n R1 d_107_143 rfl ?_
            refine jr_getf R1 d_107_144 (md_80 hC) (by decide) rfl ?_
            refine jr_ifc R1 true d_107_147 (by first | assumption | exact hg _ | exact hS _ | exact hV _ | exact hP _ | exact hT _ | exact ⟨by omega, by omega⟩) (by unfold hcb; first | exact decide_eq_true (by omega) | exact decide_eq_false (by omega)) (by decide) (pc' := 161) rfl ?_
            refine jr_iload_n R1 d_107_161 rfl ?_
            refine jr_reti R3 d_107_162 rfl ?_
            rw [hx_no (by omega) (by omega) (by omega) (by omega)]
            exact mq_bad (k, _) hm (hpc_bd hn9 k) hpc_ne rfl
        · refine jr_icmp R1 true d_107_135 (by first | assumption | exact hg _ | exact hS _ | exact hV _ | exact hP _ | exact hT _ | exact ⟨by omega, by omega⟩) (by first | assumption | exact hg _ | exact hS _ | exact hV _ | exact hP _ | exact hT _ | exact ⟨by omega, by omega⟩) (by unfold hcb; first | exact decide_eq_true (by omega) | exact decide_eq_false (by omega)) (by decide) (pc' := 157) rfl ?_
          refine jr_aload_n R1 d_107_157 rfl ?_
          refine jr_callv R2 d_107_158 (by decide) rfl (as := [.ref 80]) (rest := []) rfl (by unfold mj_rc; rw [show (_ : List Value).headD _ = .ref 80 from rfl]; simp only [md_80 hC]; decide) (hm_fail (d := 1) (by omega) hC (Or.inl rfl)) (by omega) (Nat.le_of_ble_eq_true rfl) ?_
          rintro rv M9 ⟨rfl, rfl⟩
          rw [if_pos rfl]
          show J 0 0 (md C A U Z tc tp ((fr : Int)) ((n : Int)) ((q : Int)) to (hpc b n k) wo ((o : Int)) 1 (hpc b n k)) 161 [(1, hv 0), (0, .ref 80)] []
          refine jr_iload_n R1 d_107_161 rfl ?_
          refine jr_reti R3 d_107_162 rfl ?_
          rw [hx_no (by omega) (by omega) (by omega) (by omega)]
          exact mq_bad (k, _) hm (hpc_bd hn9 k) hpc_ne rfl
theorem mk_loop4 {lch : Launch} {C : mj_M} {A : Nat → Value} {U : Nat → Int} {Z : List Value} {g b : Nat → Int} {fr n : Nat} {tc tp : Int} {N d o L : Nat} {xs : Nat → Int32} {J : mj_JT} {Q : Option Value → mj_M → Prop} (hC : 84 ≤ C.length) (hTx : C[81]? = some (hA 0 960 g)) (hg : ∀ j, hr (b j)) (hb : ∀ j, j < n → b j = g (fr + j)) (hfr : fr + n ≤ 960) (hn9 : n ≤ 160) (hb0 : ∀ j, j < n → 0 ≤ b j ∧ b j ≤ 255) (ho : o ≤ 5) (hS : ∀ N', N' ≤ N → mg lch C A U Z tc tp fr n b N' 5 107) (hd : 10 - 4 + 7 * (5 - o) ≤ d) (R1 : mj_R1 L xs 172 (mj_ow 172) (mj_ml 172) (Nat.beq (mj_ki 172) 2) 0 0 J) (R2 : mj_R2 lch 172 d 0 0 J) (R3 : mj_R3 172 (mj_rt 172) 0 0 Q J) (R4 : mj_R4 J) :
    ∀ (F k q : Nat) (f to wo fa z : Int), F ≤ N → k ≤ hp_T b n → mt b n k q to wo → (0 ≤ fa ∧ fa ≤ 160) → (f ≠ -1 → fa = f) → (f = -1 → hp_fu (hp_T b n) (6 + 4) k ≤ F) → hr z → (∀ rv M', mq C A U Z tc tp fr n b o (hp_px (hp_tk b n) (hpc b n) F (6 + 4) o (k, f)) rv M' → Q rv M') → J 0 0 (md C A U Z tc tp ((fr : Int)) ((n : Int)) ((q : Int)) to (hpc b n k) wo ((o : Int)) (if f = -1 then 0 else 1) fa) 5 [(1, hv z), (0, .ref 80)] [] := by
  intro F
  induction F with
  | zero =>
    intro k q f to wo fa z hF hk hm hfa hfe hfu hz hQ
    by_cases hf1 : f = -1
    · exfalso
      have := hfu hf1
      rw [hx_fu7 (by omega)] at this
      omega
    · skip
      rw [if_neg hf1]
      refine jr_aload_n R1 d_172_5 rfl ?_
      refine jr_bipush R1 d_172_6 (by decide) ?_
      refine jr_callv R2 d_172_8 (by decide) rfl (as := [.ref 80, hv 42]) (rest := []) rfl (by unfold mj_rc; rw [show (_ : List Value).headD _ = .ref 80 from rfl]; simp only [md_80 hC]; decide) (hm_isSign (d := 1) (by omega) hC (Or.inr rfl) hm.2.2.1 hm.2.2.2 ⟨by omega, by omega⟩) (by omega) (Nat.le_of_ble_eq_true rfl) ?_
      rintro rv M9 ⟨rfl, rfl⟩
      rw [if_neg (fun z => absurd z.1 (by decide))]
      show J 0 0 (md C A U Z tc tp ((fr : Int)) ((n : Int)) ((q : Int)) to (hpc b n k) wo ((o : Int)) 1 fa) 11 [(1, hv z), (0, .ref 80)] [hv 0]
      refine jr_ifc R1 true d_172_11 (by first | assumption | exact hg _ | exact hS _ | exact hV _ | exact hP _ | exact hT _ | exact ⟨by omega, by omega⟩) (by unfold hcb; first | exact decide_eq_true (by omega) | exact decide_eq_false (by omega)) (by decide) (pc' := 28) rfl ?_
      refine jr_iload_n R1 d_172_28 rfl ?_
      refine jr_reti R3 d_172_29 rfl ?_
      exact hQ _ _ (by rw [hp_px_f hf1]; exact mq_bad (k, f) hm hfa hf1 (hfe hf1))
  | succ F ih =>
    intro k q f to wo fa z hF hk hm hfa hfe hfu hz hQ
    by_cases hf1 : f = -1
    · subst hf1
      have hfu := hfu rfl
      rw [hx_fu7 (by omega)] at hfu
      rw [if_pos rfl]
      have hto9 := hm.2.2.1
      have hwo9 := hm.2.2.2
      refine jr_aload_n R1 d_172_5 rfl ?_
      refine jr_bipush R1 d_172_6 (by decide) ?_
      by_cases hs25_42 : hp_tk b n k = 42
      · skip
        refine jr_callv R2 d_172_8 (by decide) rfl (as := [.ref 80, hv 42]) (rest := []) rfl (by unfold mj_rc; rw [show (_ : List Value).headD _ = .ref 80 from rfl]; simp only [md_80 hC]; decide) (hm_isSign (d := 1) (by omega) hC (Or.inl rfl) hm.2.2.1 hm.2.2.2 ⟨by omega, by omega⟩) (by omega) (Nat.le_of_ble_eq_true rfl) ?_
        rintro rv M9 ⟨rfl, rfl⟩
        rw [if_pos ⟨rfl, (mt_sg hm rfl).mpr hs25_42⟩]
        show J 0 0 (md C A U Z tc tp ((fr : Int)) ((n : Int)) ((q : Int)) to (hpc b n k) wo ((o : Int)) 0 fa) 11 [(1, hv z), (0, .ref 80)] [hv 1]
        refine jr_ifc R1 false d_172_11 (by first | assumption | exact hg _ | exact hS _ | exact hV _ | exact hP _ | exact hT _ | exact ⟨by omega, by omega⟩) (by unfold hcb; first | exact decide_eq_true (by omega) | exact decide_eq_false (by omega)) (by decide) (pc' := 14) rfl ?_
        refine jr_aload_n R1 d_172_14 rfl ?_
        refine jr_callv R2 d_172_15 (by decide) rfl (as := [.ref 80]) (rest := []) rfl (by unfold mj_rc; rw [show (_ : List Value).headD _ = .ref 80 from rfl]; simp only [md_80 hC]; decide) (hm_next (d := 2) (x := q) (p := hp_P b n (k + 1)) (by omega) hC hTx hg hb hfr hn9 hb0 (mt_qn hm) (mt_nx hm (by omega)) hm.2.2.2) (by omega) (Nat.le_of_ble_eq_true rfl) ?_
        rintro rv M9 ⟨rfl, he9, to26, wo26, hmp9, hbd9, rfl⟩
        obtain ⟨q26, rfl⟩ := mbd_q hbd9
        have hm26 : mt b n (k + 1) q26 to26 wo26 := ⟨hmp9, hbd9⟩
        show J 0 0 (md C A U Z tc tp ((fr : Int)) ((n : Int)) ((q26 : Int)) to26 (hpc b n (k + 1)) wo26 ((o : Int)) 0 fa) 18 [(1, hv z), (0, .ref 80)] []
        refine jr_iload_n R1 d_172_18 rfl ?_
        refine jr_aload_n R1 d_172_19 rfl ?_
        refine jr_callv R2 d_172_20 (by decide) rfl (as := [.ref 80]) (rest := [hv z]) rfl (by unfold mj_rc; rw [show (_ : List Value).headD _ = .ref 80 from rfl]; simp only [md_80 hC]; decide) (hS F (by omega) (10 - 5 + 7 * (5 - o)) o (k + 1) _ _ _ _ (by omega) (mt_kT hk (by omega)) hm26 hfa (by rw [hx_fu (by omega)]; omega) (Nat.le_refl _)) (by omega) (Nat.le_of_ble_eq_true rfl) ?_
        rintro rv M9 ⟨⟨z27, hz27, rfl⟩, q27, to27, wo27, fa27, hm27, hfa27, hfe27, rfl⟩
        have hok27 := hp_px_ok (tk := hp_tk b n) (pc := hpc b n) (T := hp_T b n) (fun j hj => hp_tk_T hj) hpc_0 F 5 o ((k + 1), -1) (by omega) (mt_kT hk (by omega)) rfl (by rw [hx_fu (by omega)]; simp only; omega)
        have hwo27_ := hm27.2.2.2
        show J 0 0 (md C A U Z tc tp ((fr : Int)) ((n : Int)) ((q27 : Int)) to27 (hpc b n (hp_px (hp_tk b n) (hpc b n) F 5 o ((k + 1), -1)).1) wo27 ((o : Int)) (if (hp_px (hp_tk b n) (hpc b n) F 5 o ((k + 1), -1)).2 = -1 then 0 else 1) fa27) 23 [(1, hv z), (0, .ref 80)] [hv z27, hv z]
        refine jr_imul R1 d_172_23 ?_
        refine jr_istore_n R1 d_172_24 (by decide) (lo' := [(1, hv (z * z27)), (0, .ref 80)]) rfl ?_
        refine jr_goto R1 d_172_25 (by decide) (pc' := 5) rfl ?_
        obtain ⟨z9, hz9, ez9⟩ := hv_any (z * z27)
        refine R4 0 0 _ 5 _ [(1, hv z9), (0, .ref 80)] _ (fun y hy => by rw [← ez9] at hy; simp only [List.mem_cons, List.not_mem_nil, or_false] at hy ⊢; rcases hy with rfl | rfl <;> simp) ?_
        refine ih (hp_px (hp_tk b n) (hpc b n) F 5 o ((k + 1), -1)).1 q27 (hp_px (hp_tk b n) (hpc b n) F 5 o ((k + 1), -1)).2 _ _ _ z9 (by omega) hok27.2.1 hm27 hfa27 hfe27 (fun g => ?_) hz9 (fun rv M' h => hQ rv M' ?_)
        · have h1 := hok27.2.2.1 g (by omega)
          simp only at h1
          rw [hx_fu7 (by omega)]
          omega
        · rw [hx_more (by omega) (by omega) (by unfold hp_jb; simp; omega)]
          exact h
      · skip
        refine jr_callv R2 d_172_8 (by decide) rfl (as := [.ref 80, hv 42]) (rest := []) rfl (by unfold mj_rc; rw [show (_ : List Value).headD _ = .ref 80 from rfl]; simp only [md_80 hC]; decide) (hm_isSign (d := 1) (by omega) hC (Or.inl rfl) hm.2.2.1 hm.2.2.2 ⟨by omega, by omega⟩) (by omega) (Nat.le_of_ble_eq_true rfl) ?_
        rintro rv M9 ⟨rfl, rfl⟩
        rw [if_neg (fun z => hs25_42 ((mt_sg hm rfl).mp z.2))]
        show J 0 0 (md C A U Z tc tp ((fr : Int)) ((n : Int)) ((q : Int)) to (hpc b n k) wo ((o : Int)) 0 fa) 11 [(1, hv z), (0, .ref 80)] [hv 0]
        refine jr_ifc R1 true d_172_11 (by first | assumption | exact hg _ | exact hS _ | exact hV _ | exact hP _ | exact hT _ | exact ⟨by omega, by omega⟩) (by unfold hcb; first | exact decide_eq_true (by omega) | exact decide_eq_false (by omega)) (by decide) (pc' := 28) rfl ?_
        refine jr_iload_n R1 d_172_28 rfl ?_
        refine jr_reti R3 d_172_29 rfl ?_
        exact hQ _ _ (by rw [hx_stop (by omega) (by unfold hp_jb; simp; omega)]; exact mq_ok (k, -1) hm hfa rfl)
    · skip
      rw [if_neg hf1]
      refine jr_aload_n R1 d_172_5 rfl ?_
      refine jr_bipush R1 d_172_6 (by decide) ?_
      refine jr_callv R2 d_172_8 (by decide) rfl (as := [.ref 80, hv 42]) (rest := []) rfl (by unfold mj_rc; rw [show (_ : List Value).headD _ = .ref 80 from rfl]; simp only [md_80 hC]; decide) (hm_isSign (d := 1) (by omega) hC (Or.inr rfl) hm.2.2.1 hm.2.2.2 ⟨by omega, by omega⟩) (by omega) (Nat.le_of_ble_eq_true rfl) ?_
      rintro rv M9 ⟨rfl, rfl⟩
      rw [if_neg (fun z => absurd z.1 (by decide))]
      show J 0 0 (md C A U Z tc tp ((fr : Int)) ((n : Int)) ((q : Int)) to (hpc b n k) wo ((o : Int)) 1 fa) 11 [(1, hv z), (0, .ref 80)] [hv 0]
      refine jr_ifc R1 true d_172_11 (by first | assumption | exact hg _ | exact hS _ | exact hV _ | exact hP _ | exact hT _ | exact ⟨by omega, by omega⟩) (by unfold hcb; first | exact decide_eq_true (by omega) | exact decide_eq_false (by omega)) (by decide) (pc' := 28) rfl ?_
      refine jr_iload_n R1 d_172_28 rfl ?_
      refine jr_reti R3 d_172_29 rfl ?_
      exact hQ _ _ (by rw [hp_px_f hf1]; exact mq_bad (k, f) hm hfa hf1 (hfe hf1))
theorem mk_lev4 {lch : Launch} {C : mj_M} {A : Nat → Value} {U : Nat → Int} {Z : List Value} {g b : Nat → Int} {fr n : Nat} {tc tp : Int} {N : Nat} (hC : 84 ≤ C.length) (hTx : C[81]? = some (hA 0 960 g)) (hg : ∀ j, hr (b j)) (hb : ∀ j, j < n → b j = g (fr + j)) (hfr : fr + n ≤ 960) (hn9 : n ≤ 160) (hb0 : ∀ j, j < n → 0 ≤ b j ∧ b j ≤ 255) (hS : ∀ N', N' ≤ N → mg lch C A U Z tc tp fr n b N' 5 107) : mg lch C A U Z tc tp fr n b (N + 1) 4 172 := by
  intro d o k q to wo fa ho hk hm hfa hfu hd
  rw [hx_fu (by omega)] at hfu
  refine mj_Me_of4 (by decide) (by omega) (Nat.le_of_ble_eq_true rfl) ?_
  intro L xs J R1 R2 R3 R4
  show J 0 0 (md C A U Z tc tp ((fr : Int)) ((n : Int)) ((q : Int)) to (hpc b n k) wo ((o : Int)) 0 fa) 0 [(0, .ref 80)] []
  refine jr_aload_n R1 d_172_0 rfl ?_
  refine jr_callv R2 d_172_1 (by decide) rfl (as := [.ref 80]) (rest := []) rfl (by unfold mj_rc; rw [show (_ : List Value).headD _ = .ref 80 from rfl]; simp only [md_80 hC]; decide) (hS N (Nat.le_refl _) (10 - 5 + 7 * (5 - o)) o k _ _ _ _ (by omega) hk hm hfa (by rw [hx_fu (by omega)]; omega) (Nat.le_refl _)) (by omega) (Nat.le_of_ble_eq_true rfl) ?_
  rintro rv M9 ⟨⟨z28, hz28, rfl⟩, q28, to28, wo28, fa28, hm28, hfa28, hfe28, rfl⟩
  have hok28 := hp_px_ok (tk := hp_tk b n) (pc := hpc b n) (T := hp_T b n) (fun j hj => hp_tk_T hj) hpc_0 N 5 o (k, -1) (by omega) hk rfl (by rw [hx_fu (by omega)]; simp only; omega)
  have hwo28_ := hm28.2.2.2
  show J 0 0 (md C A U Z tc tp ((fr : Int)) ((n : Int)) ((q28 : Int)) to28 (hpc b n (hp_px (hp_tk b n) (hpc b n) N 5 o (k, -1)).1) wo28 ((o : Int)) (if (hp_px (hp_tk b n) (hpc b n) N 5 o (k, -1)).2 = -1 then 0 else 1) fa28) 4 [(0, .ref 80)] [hv z28]
  refine jr_istore_n R1 d_172_4 (by decide) (lo' := [(1, hv z28), (0, .ref 80)]) rfl ?_
  refine mk_loop4 hC hTx hg hb hfr hn9 hb0 ho hS hd R1 R2 R3 R4 N (hp_px (hp_tk b n) (hpc b n) N 5 o (k, -1)).1 q28 (hp_px (hp_tk b n) (hpc b n) N 5 o (k, -1)).2 _ _ _ z28 (Nat.le_refl _) hok28.2.1 hm28 hfa28 hfe28 (fun g => ?_) hz28 (fun rv M' h => ?_)
  · have h1 := hok28.2.2.1 g (by omega)
    simp only at h1
    rw [hx_fu7 (by omega)]
    omega
  · rw [hx_lev (by omega) (by omega)]
    exact h
theorem mk_loop3 {lch : Launch} {C : mj_M} {A : Nat → Value} {U : Nat → Int} {Z : List Value} {g b : Nat → Int} {fr n : Nat} {tc tp : Int} {N d o L : Nat} {xs : Nat → Int32} {J : mj_JT} {Q : Option Value → mj_M → Prop} (hC : 84 ≤ C.length) (hTx : C[81]? = some (hA 0 960 g)) (hg : ∀ j, hr (b j)) (hb : ∀ j, j < n → b j = g (fr + j)) (hfr : fr + n ≤ 960) (hn9 : n ≤ 160) (hb0 : ∀ j, j < n → 0 ≤ b j ∧ b j ≤ 255) (ho : o ≤ 5) (hS : ∀ N', N' ≤ N → mg lch C A U Z tc tp fr n b N' 4 172) (hd : 10 - 3 + 7 * (5 - o) ≤ d) (R1 : mj_R1 L xs 105 (mj_ow 105) (mj_ml 105) (Nat.beq (mj_ki 105) 2) 0 0 J) (R2 : mj_R2 lch 105 d 0 0 J) (R3 : mj_R3 105 (mj_rt 105) 0 0 Q J) (R4 : mj_R4 J) :
    ∀ (F k q : Nat) (f to wo fa z : Int), F ≤ N → k ≤ hp_T b n → mt b n k q to wo → (0 ≤ fa ∧ fa ≤ 160) → (f ≠ -1 → fa = f) → (f = -1 → hp_fu (hp_T b n) (6 + 3) k ≤ F) → hr z → (∀ rv M', mq C A U Z tc tp fr n b o (hp_px (hp_tk b n) (hpc b n) F (6 + 3) o (k, f)) rv M' → Q rv M') → J 0 0 (md C A U Z tc tp ((fr : Int)) ((n : Int)) ((q : Int)) to (hpc b n k) wo ((o : Int)) (if f = -1 then 0 else 1) fa) 5 [(1, hv z), (0, .ref 80)] [] := by
  intro F
  induction F with
  | zero =>
    intro k q f to wo fa z hF hk hm hfa hfe hfu hz hQ
    by_cases hf1 : f = -1
    · exfalso
      have := hfu hf1
      rw [hx_fu7 (by omega)] at this
      omega
    · skip
      rw [if_neg hf1]
      refine jr_aload_n R1 d_105_5 rfl ?_
      refine jr_bipush R1 d_105_6 (by decide) ?_
      refine jr_callv R2 d_105_8 (by decide) rfl (as := [.ref 80, hv 43]) (rest := []) rfl (by unfold mj_rc; rw [show (_ : List Value).headD _ = .ref 80 from rfl]; simp only [md_80 hC]; decide) (hm_isSign (d := 1) (by omega) hC (Or.inr rfl) hm.2.2.1 hm.2.2.2 ⟨by omega, by omega⟩) (by omega) (Nat.le_of_ble_eq_true rfl) ?_
      rintro rv M9 ⟨rfl, rfl⟩
      rw [if_neg (fun z => absurd z.1 (by decide))]
      show J 0 0 (md C A U Z tc tp ((fr : Int)) ((n : Int)) ((q : Int)) to (hpc b n k) wo ((o : Int)) 1 fa) 11 [(1, hv z), (0, .ref 80)] [hv 0]
      refine jr_ifc R1 false d_105_11 (by first | assumption | exact hg _ | exact hS _ | exact hV _ | exact hP _ | exact hT _ | exact ⟨by omega, by omega⟩) (by unfold hcb; first | exact decide_eq_true (by omega) | exact decide_eq_false (by omega)) (by decide) (pc' := 14) rfl ?_
      refine jr_aload_n R1 d_105_14 rfl ?_
      refine jr_bipush R1 d_105_15 (by decide) ?_
      refine jr_callv R2 d_105_17 (by decide) rfl (as := [.ref 80, hv 45]) (rest := []) rfl (by unfold mj_rc; rw [show (_ : List Value).headD _ = .ref 80 from rfl]; simp only [md_80 hC]; decide) (hm_isSign (d := 1) (by omega) hC (Or.inr rfl) hm.2.2.1 hm.2.2.2 ⟨by omega, by omega⟩) (by omega) (Nat.le_of_ble_eq_true rfl) ?_
      rintro rv M9 ⟨rfl, rfl⟩
      rw [if_neg (fun z => absurd z.1 (by decide))]
      show J 0 0 (md C A U Z tc tp ((fr : Int)) ((n : Int)) ((q : Int)) to (hpc b n k) wo ((o : Int)) 1 fa) 20 [(1, hv z), (0, .ref 80)] [hv 0]
      refine jr_ifc R1 true d_105_20 (by first | assumption | exact hg _ | exact hS _ | exact hV _ | exact hP _ | exact hT _ | exact ⟨by omega, by omega⟩) (by unfold hcb; first | exact decide_eq_true (by omega) | exact decide_eq_false (by omega)) (by decide) (pc' := 66) rfl ?_
      refine jr_iload_n R1 d_105_66 rfl ?_
      refine jr_reti R3 d_105_67 rfl ?_
      exact hQ _ _ (by rw [hp_px_f hf1]; exact mq_bad (k, f) hm hfa hf1 (hfe hf1))
  | succ F ih =>
    intro k q f to wo fa z hF hk hm hfa hfe hfu hz hQ
    by_cases hf1 : f = -1
    · subst hf1
      have hfu := hfu rfl
      rw [hx_fu7 (by omega)] at hfu
      rw [if_pos rfl]
      have hto9 := hm.2.2.1
      have hwo9 := hm.2.2.2
      refine jr_aload_n R1 d_105_5 rfl ?_
      refine jr_bipush R1 d_105_6 (by decide) ?_
      by_cases hs29_43 : hp_tk b n k = 43
      · skip
        refine jr_callv R2 d_105_8 (by decide) rfl (as := [.ref 80, hv 43]) (rest := []) rfl (by unfold mj_rc; rw [show (_ : List Value).headD _ = .ref 80 from rfl]; simp only [md_80 hC]; decide) (hm_isSign (d := 1) (by omega) hC (Or.inl rfl) hm.2.2.1 hm.2.2.2 ⟨by omega, by omega⟩) (by omega) (Nat.le_of_ble_eq_true rfl) ?_
        rintro rv M9 ⟨rfl, rfl⟩
        rw [if_pos ⟨rfl, (mt_sg hm rfl).mpr hs29_43⟩]
        show J 0 0 (md C A U Z tc tp ((fr : Int)) ((n : Int)) ((q : Int)) to (hpc b n k) wo ((o : Int)) 0 fa) 11 [(1, hv z), (0, .ref 80)] [hv 1]
        refine jr_ifc R1 true d_105_11 (by first | assumption | exact hg _ | exact hS _ | exact hV _ | exact hP _ | exact hT _ | exact ⟨by omega, by omega⟩) (by unfold hcb; first | exact decide_eq_true (by omega) | exact decide_eq_false (by omega)) (by decide) (pc' := 23) rfl ?_
        refine jr_aload_n R1 d_105_23 rfl ?_
        refine jr_getf R1 d_105_24 (md_80 hC) (by decide) rfl ?_
        refine jl_ldc (z := 43) R1 d_105_27 (by decide) rfl ?_
        by_cases h1 : wo = 43
        · refine jl_if R1 false (by first | assumption | exact ⟨by omega, by omega⟩ | exact hR_hr (by assumption) | exact hR_hr (hg _)) (by first | assumption | exact ⟨by omega, by omega⟩ | exact hR_hr (by assumption) | exact hR_hr (hg _)) d_105_30 d_105_31 (by unfold hcb; first | exact decide_eq_true (by omega) | exact decide_eq_false (by omega)) (by decide) (pc' := 34) rfl ?_
          refine jr_iconst R1 d_105_34 ?_
          refine jr_goto R1 d_105_35 (by decide) (pc' := 39) rfl ?_
          refine jr_istore_n R1 d_105_39 (by decide) (lo' := [(2, hv 1), (1, hv z), (0, .ref 80)]) rfl ?_
          refine jr_aload_n R1 d_105_40 rfl ?_
          refine jr_callv R2 d_105_41 (by decide) rfl (as := [.ref 80]) (rest := []) rfl (by unfold mj_rc; rw [show (_ : List Value).headD _ = .ref 80 from rfl]; simp only [md_80 hC]; decide) (hm_next (d := 2) (x := q) (p := hp_P b n (k + 1)) (by omega) hC hTx hg hb hfr hn9 hb0 (mt_qn hm) (mt_nx hm (by omega)) hm.2.2.2) (by omega) (Nat.le_of_ble_eq_true rfl) ?_
          rintro rv M9 ⟨rfl, he9, to30, wo30, hmp9, hbd9, rfl⟩
          obtain ⟨q30, rfl⟩ := mbd_q hbd9
          have hm30 : mt b n (k + 1) q30 to30 wo30 := ⟨hmp9, hbd9⟩
          show J 0 0 (md C A U Z tc tp ((fr : Int)) ((n : Int)) ((q30 : Int)) to30 (hpc b n (k + 1)) wo30 ((o : Int)) 0 fa) 44 [(2, hv 1), (1, hv z), (0, .ref 80)] []
          refine jr_aload_n R1 d_105_44 rfl ?_
          refine jr_callv R2 d_105_45 (by decide) rfl (as := [.ref 80]) (rest := []) rfl (by unfold mj_rc; rw [show (_ : List Value).headD _ = .ref 80 from rfl]; simp only [md_80 hC]; decide) (hS F (by omega) (10 - 4 + 7 * (5 - o)) o (k + 1) _ _ _ _ (by omega) (mt_kT hk (by omega)) hm30 hfa (by rw [hx_fu (by omega)]; omega) (Nat.le_refl _)) (by omega) (Nat.le_of_ble_eq_true rfl) ?_
          rintro rv M9 ⟨⟨z31, hz31, rfl⟩, q31, to31, wo31, fa31, hm31, hfa31, hfe31, rfl⟩
          have hok31 := hp_px_ok (tk := hp_tk b n) (pc := hpc b n) (T := hp_T b n) (fun j hj => hp_tk_T hj) hpc_0 F 4 o ((k + 1), -1) (by omega) (mt_kT hk (by omega)) rfl (by rw [hx_fu (by omega)]; simp only; omega)
          have hwo31_ := hm31.2.2.2
          show J 0 0 (md C A U Z tc tp ((fr : Int)) ((n : Int)) ((q31 : Int)) to31 (hpc b n (hp_px (hp_tk b n) (hpc b n) F 4 o ((k + 1), -1)).1) wo31 ((o : Int)) (if (hp_px (hp_tk b n) (hpc b n) F 4 o ((k + 1), -1)).2 = -1 then 0 else 1) fa31) 48 [(2, hv 1), (1, hv z), (0, .ref 80)] [hv z31]
          refine jr_istore_n R1 d_105_48 (by decide) (lo' := [(3, hv z31), (2, hv 1), (1, hv z), (0, .ref 80)]) rfl ?_
          refine jr_iload_n R1 d_105_49 rfl ?_
          refine jr_ifc R1 false d_105_50 (by first | assumption | exact hg _ | exact hS _ | exact hV _ | exact hP _ | exact hT _ | exact ⟨by omega, by omega⟩) (by unfold hcb; first | exact decide_eq_true (by omega) | exact decide_eq_false (by omega)) (by decide) (pc' := 53) rfl ?_
          refine jr_iload_n R1 d_105_53 rfl ?_
          refine jr_iload_n R1 d_105_54 rfl ?_
          refine jr_iadd R1 d_105_55 ?_
          refine jr_goto R1 d_105_56 (by decide) (pc' := 62) rfl ?_
          refine jr_istore_n R1 d_105_62 (by decide) (lo' := [(1, hv (z + z31)), (3, hv z31), (2, hv 1), (0, .ref 80)]) rfl ?_
          refine jr_goto R1 d_105_63 (by decide) (pc' := 5) rfl ?_
          obtain ⟨z9, hz9, ez9⟩ := hv_any (z + z31)
          refine R4 0 0 _ 5 _ [(1, hv z9), (0, .ref 80)] _ (fun y hy => by rw [← ez9] at hy; simp only [List.mem_cons, List.not_mem_nil, or_false] at hy ⊢; rcases hy with rfl | rfl <;> simp) ?_
          refine ih (hp_px (hp_tk b n) (hpc b n) F 4 o ((k + 1), -1)).1 q31 (hp_px (hp_tk b n) (hpc b n) F 4 o ((k + 1), -1)).2 _ _ _ z9 (by omega) hok31.2.1 hm31 hfa31 hfe31 (fun g => ?_) hz9 (fun rv M' h => hQ rv M' ?_)
          · have h1 := hok31.2.2.1 g (by omega)
            simp only at h1
            rw [hx_fu7 (by omega)]
            omega
          · rw [hx_more (by omega) (by omega) (by unfold hp_jb; simp; omega)]
            exact h
        · refine jl_if R1 true (by first | assumption | exact ⟨by omega, by omega⟩ | exact hR_hr (by assumption) | exact hR_hr (hg _)) (by first | assumption | exact ⟨by omega, by omega⟩ | exact hR_hr (by assumption) | exact hR_hr (hg _)) d_105_30 d_105_31 (by unfold hcb; first | exact decide_eq_true (by omega) | exact decide_eq_false (by omega)) (by decide) (pc' := 38) rfl ?_
          refine jr_iconst R1 d_105_38 ?_
          refine jr_istore_n R1 d_105_39 (by decide) (lo' := [(2, hv 0), (1, hv z), (0, .ref 80)]) rfl ?_
          refine jr_aload_n R1 d_105_40 rfl ?_
          refine jr_callv R2 d_105_41 (by decide) rfl (as := [.ref 80]) (rest := []) rfl (by unfold mj_rc; rw [show (_ : List Value).headD _ = .ref 80 from rfl]; simp only [md_80 hC]; decide) (hm_next (d := 2) (x := q) (p := hp_P b n (k + 1)) (by omega) hC hTx hg hb hfr hn9 hb0 (mt_qn hm) (mt_nx hm (by omega)) hm.2.2.2) (by omega) (Nat.le_of_ble_eq_true rfl) ?_
          rintro rv M9 ⟨rfl, he9, to32, wo32, hmp9, hbd9, rfl⟩
          obtain ⟨q32, rfl⟩ := mbd_q hbd9
          have hm32 : mt b n (k + 1) q32 to32 wo32 := ⟨hmp9, hbd9⟩
          show J 0 0 (md C A U Z tc tp ((fr : Int)) ((n : Int)) ((q32 : Int)) to32 (hpc b n (k + 1)) wo32 ((o : Int)) 0 fa) 44 [(2, hv 0), (1, hv z), (0, .ref 80)] []
          refine jr_aload_n R1 d_105_44 rfl ?_
          refine jr_callv R2 d_105_45 (by decide) rfl (as := [.ref 80]) (rest := []) rfl (by unfold mj_rc; rw [show (_ : List Value).headD _ = .ref 80 from rfl]; simp only [md_80 hC]; decide) (hS F (by omega) (10 - 4 + 7 * (5 - o)) o (k + 1) _ _ _ _ (by omega) (mt_kT hk (by omega)) hm32 hfa (by rw [hx_fu (by omega)]; omega) (Nat.le_refl _)) (by omega) (Nat.le_of_ble_eq_true rfl) ?_
          rintro rv M9 ⟨⟨z33, hz33, rfl⟩, q33, to33, wo33, fa33, hm33, hfa33, hfe33, rfl⟩
          have hok33 := hp_px_ok (tk := hp_tk b n) (pc := hpc b n) (T := hp_T b n) (fun j hj => hp_tk_T hj) hpc_0 F 4 o ((k + 1), -1) (by omega) (mt_kT hk (by omega)) rfl (by rw [hx_fu (by omega)]; simp only; omega)
          have hwo33_ := hm33.2.2.2
          show J 0 0 (md C A U Z tc tp ((fr : Int)) ((n : Int)) ((q33 : Int)) to33 (hpc b n (hp_px (hp_tk b n) (hpc b n) F 4 o ((k + 1), -1)).1) wo33 ((o : Int)) (if (hp_px (hp_tk b n) (hpc b n) F 4 o ((k + 1), -1)).2 = -1 then 0 else 1) fa33) 48 [(2, hv 0), (1, hv z), (0, .ref 80)] [hv z33]
          refine jr_istore_n R1 d_105_48 (by decide) (lo' := [(3, hv z33), (2, hv 0), (1, hv z), (0, .ref 80)]) rfl ?_
          refine jr_iload_n R1 d_105_49 rfl ?_
          refine jr_ifc R1 true d_105_50 (by first | assumption | exact hg _ | exact hS _ | exact hV _ | exact hP _ | exact hT _ | exact ⟨by omega, by omega⟩) (by unfold hcb; first | exact decide_eq_true (by omega) | exact decide_eq_false (by omega)) (by decide) (pc' := 59) rfl ?_
          refine jr_iload_n R1 d_105_59 rfl ?_
          refine jr_iload_n R1 d_105_60 rfl ?_
          refine jr_isub R1 d_105_61 ?_
          refine jr_istore_n R1 d_105_62 (by decide) (lo' := [(1, hv (z - z33)), (3, hv z33), (2, hv 0), (0, .ref 80)]) rfl ?_
          refine jr_goto R1 d_105_63 (by decide) (pc' := 5) rfl ?_
          obtain ⟨z9, hz9, ez9⟩ := hv_any (z - z33)
          refine R4 0 0 _ 5 _ [(1, hv z9), (0, .ref 80)] _ (fun y hy => by rw [← ez9] at hy; simp only [List.mem_cons, List.not_mem_nil, or_false] at hy ⊢; rcases hy with rfl | rfl <;> simp) ?_
          refine ih (hp_px (hp_tk b n) (hpc b n) F 4 o ((k + 1), -1)).1 q33 (hp_px (hp_tk b n) (hpc b n) F 4 o ((k + 1), -1)).2 _ _ _ z9 (by omega) hok33.2.1 hm33 hfa33 hfe33 (fun g => ?_) hz9 (fun rv M' h => hQ rv M' ?_)
          · have h1 := hok33.2.2.1 g (by omega)
            simp only at h1
            rw [hx_fu7 (by omega)]
            omega
          · rw [hx_more (by omega) (by omega) (by unfold hp_jb; simp; omega)]
            exact h
      · skip
        refine jr_callv R2 d_105_8 (by decide) rfl (as := [.ref 80, hv 43]) (rest := []) rfl (by unfold mj_rc; rw [show (_ : List Value).headD _ = .ref 80 from rfl]; simp only [md_80 hC]; decide) (hm_isSign (d := 1) (by omega) hC (Or.inl rfl) hm.2.2.1 hm.2.2.2 ⟨by omega, by omega⟩) (by omega) (Nat.le_of_ble_eq_true rfl) ?_
        rintro rv M9 ⟨rfl, rfl⟩
        rw [if_neg (fun z => hs29_43 ((mt_sg hm rfl).mp z.2))]
        show J 0 0 (md C A U Z tc tp ((fr : Int)) ((n : Int)) ((q : Int)) to (hpc b n k) wo ((o : Int)) 0 fa) 11 [(1, hv z), (0, .ref 80)] [hv 0]
        refine jr_ifc R1 false d_105_11 (by first | assumption | exact hg _ | exact hS _ | exact hV _ | exact hP _ | exact hT _ | exact ⟨by omega, by omega⟩) (by unfold hcb; first | exact decide_eq_true (by omega) | exact decide_eq_false (by omega)) (by decide) (pc' := 14) rfl ?_
        refine jr_aload_n R1 d_105_14 rfl ?_
        refine jr_bipush R1 d_105_15 (by decide) ?_
        by_cases hs34_45 : hp_tk b n k = 45
        · skip
          refine jr_callv R2 d_105_17 (by decide) rfl (as := [.ref 80, hv 45]) (rest := []) rfl (by unfold mj_rc; rw [show (_ : List Value).headD _ = .ref 80 from rfl]; simp only [md_80 hC]; decide) (hm_isSign (d := 1) (by omega) hC (Or.inl rfl) hm.2.2.1 hm.2.2.2 ⟨by omega, by omega⟩) (by omega) (Nat.le_of_ble_eq_true rfl) ?_
          rintro rv M9 ⟨rfl, rfl⟩
          rw [if_pos ⟨rfl, (mt_sg hm rfl).mpr hs34_45⟩]
          show J 0 0 (md C A U Z tc tp ((fr : Int)) ((n : Int)) ((q : Int)) to (hpc b n k) wo ((o : Int)) 0 fa) 20 [(1, hv z), (0, .ref 80)] [hv 1]
          refine jr_ifc R1 false d_105_20 (by first | assumption | exact hg _ | exact hS _ | exact hV _ | exact hP _ | exact hT _ | exact ⟨by omega, by omega⟩) (by unfold hcb; first | exact decide_eq_true (by omega) | exact decide_eq_false (by omega)) (by decide) (pc' := 23) rfl ?_
          refine jr_aload_n R1 d_105_23 rfl ?_
          refine jr_getf R1 d_105_24 (md_80 hC) (by decide) rfl ?_
          refine jl_ldc (z := 43) R1 d_105_27 (by decide) rfl ?_
          by_cases h2 : wo = 43
          · refine jl_if R1 false (by first | assumption | exact ⟨by omega, by omega⟩ | exact hR_hr (by assumption) | exact hR_hr (hg _)) (by first | assumption | exact ⟨by omega, by omega⟩ | exact hR_hr (by assumption) | exact hR_hr (hg _)) d_105_30 d_105_31 (by unfold hcb; first | exact decide_eq_true (by omega) | exact decide_eq_false (by omega)) (by decide) (pc' := 34) rfl ?_
            refine jr_iconst R1 d_105_34 ?_
            refine jr_goto R1 d_105_35 (by decide) (pc' := 39) rfl ?_
            refine jr_istore_n R1 d_105_39 (by decide) (lo' := [(2, hv 1), (1, hv z), (0, .ref 80)]) rfl ?_
            refine jr_aload_n R1 d_105_40 rfl ?_
            refine jr_callv R2 d_105_41 (by decide) rfl (as := [.ref 80]) (rest := []) rfl (by unfold mj_rc; rw [show (_ : List Value).headD _ = .ref 80 from rfl]; simp only [md_80 hC]; decide) (hm_next (d := 2) (x := q) (p := hp_P b n (k + 1)) (by omega) hC hTx hg hb hfr hn9 hb0 (mt_qn hm) (mt_nx hm (by omega)) hm.2.2.2) (by omega) (Nat.le_of_ble_eq_true rfl) ?_
            rintro rv M9 ⟨rfl, he9, to35, wo35, hmp9, hbd9, rfl⟩
            obtain ⟨q35, rfl⟩ := mbd_q hbd9
            have hm35 : mt b n (k + 1) q35 to35 wo35 := ⟨hmp9, hbd9⟩
            show J 0 0 (md C A U Z tc tp ((fr : Int)) ((n : Int)) ((q35 : Int)) to35 (hpc b n (k + 1)) wo35 ((o : Int)) 0 fa) 44 [(2, hv 1), (1, hv z), (0, .ref 80)] []
            refine jr_aload_n R1 d_105_44 rfl ?_
            refine jr_callv R2 d_105_45 (by decide) rfl (as := [.ref 80]) (rest := []) rfl (by unfold mj_rc; rw [show (_ : List Value).headD _ = .ref 80 from rfl]; simp only [md_80 hC]; decide) (hS F (by omega) (10 - 4 + 7 * (5 - o)) o (k + 1) _ _ _ _ (by omega) (mt_kT hk (by omega)) hm35 hfa (by rw [hx_fu (by omega)]; omega) (Nat.le_refl _)) (by omega) (Nat.le_of_ble_eq_true rfl) ?_
            rintro rv M9 ⟨⟨z36, hz36, rfl⟩, q36, to36, wo36, fa36, hm36, hfa36, hfe36, rfl⟩
            have hok36 := hp_px_ok (tk := hp_tk b n) (pc := hpc b n) (T := hp_T b n) (fun j hj => hp_tk_T hj) hpc_0 F 4 o ((k + 1), -1) (by omega) (mt_kT hk (by omega)) rfl (by rw [hx_fu (by omega)]; simp only; omega)
            have hwo36_ := hm36.2.2.2
            show J 0 0 (md C A U Z tc tp ((fr : Int)) ((n : Int)) ((q36 : Int)) to36 (hpc b n (hp_px (hp_tk b n) (hpc b n) F 4 o ((k + 1), -1)).1) wo36 ((o : Int)) (if (hp_px (hp_tk b n) (hpc b n) F 4 o ((k + 1), -1)).2 = -1 then 0 else 1) fa36) 48 [(2, hv 1), (1, hv z), (0, .ref 80)] [hv z36]
            refine jr_istore_n R1 d_105_48 (by decide) (lo' := [(3, hv z36), (2, hv 1), (1, hv z), (0, .ref 80)]) rfl ?_
            refine jr_iload_n R1 d_105_49 rfl ?_
            refine jr_ifc R1 false d_105_50 (by first | assumption | exact hg _ | exact hS _ | exact hV _ | exact hP _ | exact hT _ | exact ⟨by omega, by omega⟩) (by unfold hcb; first | exact decide_eq_true (by omega) | exact decide_eq_false (by omega)) (by decide) (pc' := 53) rfl ?_
            refine jr_iload_n R1 d_105_53 rfl ?_
            refine jr_iload_n R1 d_105_54 rfl ?_
            refine jr_iadd R1 d_105_55 ?_
            refine jr_goto R1 d_105_56 (by decide) (pc' := 62) rfl ?_
            refine jr_istore_n R1 d_105_62 (by decide) (lo' := [(1, hv (z + z36)), (3, hv z36), (2, hv 1), (0, .ref 80)]) rfl ?_
            refine jr_goto R1 d_105_63 (by decide) (pc' := 5) rfl ?_
            obtain ⟨z9, hz9, ez9⟩ := hv_any (z + z36)
            refine R4 0 0 _ 5 _ [(1, hv z9), (0, .ref 80)] _ (fun y hy => by rw [← ez9] at hy; simp only [List.mem_cons, List.not_mem_nil, or_false] at hy ⊢; rcases hy with rfl | rfl <;> simp) ?_
            refine ih (hp_px (hp_tk b n) (hpc b n) F 4 o ((k + 1), -1)).1 q36 (hp_px (hp_tk b n) (hpc b n) F 4 o ((k + 1), -1)).2 _ _ _ z9 (by omega) hok36.2.1 hm36 hfa36 hfe36 (fun g => ?_) hz9 (fun rv M' h => hQ rv M' ?_)
            · have h1 := hok36.2.2.1 g (by omega)
              simp only at h1
              rw [hx_fu7 (by omega)]
              omega
            · rw [hx_more (by omega) (by omega) (by unfold hp_jb; simp; omega)]
              exact h
          · refine jl_if R1 true (by first | assumption | exact ⟨by omega, by omega⟩ | exact hR_hr (by assumption) | exact hR_hr (hg _)) (by first | assumption | exact ⟨by omega, by omega⟩ | exact hR_hr (by assumption) | exact hR_hr (hg _)) d_105_30 d_105_31 (by unfold hcb; first | exact decide_eq_true (by omega) | exact decide_eq_false (by omega)) (by decide) (pc' := 38) rfl ?_
            refine jr_iconst R1 d_105_38 ?_
            refine jr_istore_n R1 d_105_39 (by decide) (lo' := [(2, hv 0), (1, hv z), (0, .ref 80)]) rfl ?_
            refine jr_aload_n R1 d_105_40 rfl ?_
            refine jr_callv R2 d_105_41 (by decide) rfl (as := [.ref 80]) (rest := []) rfl (by unfold mj_rc; rw [show (_ : List Value).headD _ = .ref 80 from rfl]; simp only [md_80 hC]; decide) (hm_next (d := 2) (x := q) (p := hp_P b n (k + 1)) (by omega) hC hTx hg hb hfr hn9 hb0 (mt_qn hm) (mt_nx hm (by omega)) hm.2.2.2) (by omega) (Nat.le_of_ble_eq_true rfl) ?_
            rintro rv M9 ⟨rfl, he9, to37, wo37, hmp9, hbd9, rfl⟩
            obtain ⟨q37, rfl⟩ := mbd_q hbd9
            have hm37 : mt b n (k + 1) q37 to37 wo37 := ⟨hmp9, hbd9⟩
            show J 0 0 (md C A U Z tc tp ((fr : Int)) ((n : Int)) ((q37 : Int)) to37 (hpc b n (k + 1)) wo37 ((o : Int)) 0 fa) 44 [(2, hv 0), (1, hv z), (0, .ref 80)] []
            refine jr_aload_n R1 d_105_44 rfl ?_
            refine jr_callv R2 d_105_45 (by decide) rfl (as := [.ref 80]) (rest := []) rfl (by unfold mj_rc; rw [show (_ : List Value).headD _ = .ref 80 from rfl]; simp only [md_80 hC]; decide) (hS F (by omega) (10 - 4 + 7 * (5 - o)) o (k + 1) _ _ _ _ (by omega) (mt_kT hk (by omega)) hm37 hfa (by rw [hx_fu (by omega)]; omega) (Nat.le_refl _)) (by omega) (Nat.le_of_ble_eq_true rfl) ?_
            rintro rv M9 ⟨⟨z38, hz38, rfl⟩, q38, to38, wo38, fa38, hm38, hfa38, hfe38, rfl⟩
            have hok38 := hp_px_ok (tk := hp_tk b n) (pc := hpc b n) (T := hp_T b n) (fun j hj => hp_tk_T hj) hpc_0 F 4 o ((k + 1), -1) (by omega) (mt_kT hk (by omega)) rfl (by rw [hx_fu (by omega)]; simp only; omega)
            have hwo38_ := hm38.2.2.2
            show J 0 0 (md C A U Z tc tp ((fr : Int)) ((n : Int)) ((q38 : Int)) to38 (hpc b n (hp_px (hp_tk b n) (hpc b n) F 4 o ((k + 1), -1)).1) wo38 ((o : Int)) (if (hp_px (hp_tk b n) (hpc b n) F 4 o ((k + 1), -1)).2 = -1 then 0 else 1) fa38) 48 [(2, hv 0), (1, hv z), (0, .ref 80)] [hv z38]
            refine jr_istore_n R1 d_105_48 (by decide) (lo' := [(3, hv z38), (2, hv 0), (1, hv z), (0, .ref 80)]) rfl ?_
            refine jr_iload_n R1 d_105_49 rfl ?_
            refine jr_ifc R1 true d_105_50 (by first | assumption | exact hg _ | exact hS _ | exact hV _ | exact hP _ | exact hT _ | exact ⟨by omega, by omega⟩) (by unfold hcb; first | exact decide_eq_true (by omega) | exact decide_eq_false (by omega)) (by decide) (pc' := 59) rfl ?_
            refine jr_iload_n R1 d_105_59 rfl ?_
            refine jr_iload_n R1 d_105_60 rfl ?_
            refine jr_isub R1 d_105_61 ?_
            refine jr_istore_n R1 d_105_62 (by decide) (lo' := [(1, hv (z - z38)), (3, hv z38), (2, hv 0), (0, .ref 80)]) rfl ?_
            refine jr_goto R1 d_105_63 (by decide) (pc' := 5) rfl ?_
            obtain ⟨z9, hz9, ez9⟩ := hv_any (z - z38)
            refine R4 0 0 _ 5 _ [(1, hv z9), (0, .ref 80)] _ (fun y hy => by rw [← ez9] at hy; simp only [List.mem_cons, List.not_mem_nil, or_false] at hy ⊢; rcases hy with rfl | rfl <;> simp) ?_
            refine ih (hp_px (hp_tk b n) (hpc b n) F 4 o ((k + 1), -1)).1 q38 (hp_px (hp_tk b n) (hpc b n) F 4 o ((k + 1), -1)).2 _ _ _ z9 (by omega) hok38.2.1 hm38 hfa38 hfe38 (fun g => ?_) hz9 (fun rv M' h => hQ rv M' ?_)
            · have h1 := hok38.2.2.1 g (by omega)
              simp only at h1
              rw [hx_fu7 (by omega)]
              omega
            · rw [hx_more (by omega) (by omega) (by unfold hp_jb; simp; omega)]
              exact h
        · skip
          refine jr_callv R2 d_105_17 (by decide) rfl (as := [.ref 80, hv 45]) (rest := []) rfl (by unfold mj_rc; rw [show (_ : List Value).headD _ = .ref 80 from rfl]; simp only [md_80 hC]; decide) (hm_isSign (d := 1) (by omega) hC (Or.inl rfl) hm.2.2.1 hm.2.2.2 ⟨by omega, by omega⟩) (by omega) (Nat.le_of_ble_eq_true rfl) ?_
          rintro rv M9 ⟨rfl, rfl⟩
          rw [if_neg (fun z => hs34_45 ((mt_sg hm rfl).mp z.2))]
          show J 0 0 (md C A U Z tc tp ((fr : Int)) ((n : Int)) ((q : Int)) to (hpc b n k) wo ((o : Int)) 0 fa) 20 [(1, hv z), (0, .ref 80)] [hv 0]
          refine jr_ifc R1 true d_105_20 (by first | assumption | exact hg _ | exact hS _ | exact hV _ | exact hP _ | exact hT _ | exact ⟨by omega, by omega⟩) (by unfold hcb; first | exact decide_eq_true (by omega) | exact decide_eq_false (by omega)) (by decide) (pc' := 66) rfl ?_
          refine jr_iload_n R1 d_105_66 rfl ?_
          refine jr_reti R3 d_105_67 rfl ?_
          exact hQ _ _ (by rw [hx_stop (by omega) (by unfold hp_jb; simp; omega)]; exact mq_ok (k, -1) hm hfa rfl)
    · skip
      rw [if_neg hf1]
      refine jr_aload_n R1 d_105_5 rfl ?_
      refine jr_bipush R1 d_105_6 (by decide) ?_
      refine jr_callv R2 d_105_8 (by decide) rfl (as := [.ref 80, hv 43]) (rest := []) rfl (by unfold mj_rc; rw [show (_ : List Value).headD _ = .ref 80 from rfl]; simp only [md_80 hC]; decide) (hm_isSign (d := 1) (by omega) hC (Or.inr rfl) hm.2.2.1 hm.2.2.2 ⟨by omega, by omega⟩) (by omega) (Nat.le_of_ble_eq_true rfl) ?_
      rintro rv M9 ⟨rfl, rfl⟩
      rw [if_neg (fun z => absurd z.1 (by decide))]
      show J 0 0 (md C A U Z tc tp ((fr : Int)) ((n : Int)) ((q : Int)) to (hpc b n k) wo ((o : Int)) 1 fa) 11 [(1, hv z), (0, .ref 80)] [hv 0]
      refine jr_ifc R1 false d_105_11 (by first | assumption | exact hg _ | exact hS _ | exact hV _ | exact hP _ | exact hT _ | exact ⟨by omega, by omega⟩) (by unfold hcb; first | exact decide_eq_true (by omega) | exact decide_eq_false (by omega)) (by decide) (pc' := 14) rfl ?_
      refine jr_aload_n R1 d_105_14 rfl ?_
      refine jr_bipush R1 d_105_15 (by decide) ?_
      refine jr_callv R2 d_105_17 (by decide) rfl (as := [.ref 80, hv 45]) (rest := []) rfl (by unfold mj_rc; rw [show (_ : List Value).headD _ = .ref 80 from rfl]; simp only [md_80 hC]; decide) (hm_isSign (d := 1) (by omega) hC (Or.inr rfl) hm.2.2.1 hm.2.2.2 ⟨by omega, by omega⟩) (by omega) (Nat.le_of_ble_eq_true rfl) ?_
      rintro rv M9 ⟨rfl, rfl⟩
      rw [if_neg (fun z => absurd z.1 (by decide))]
      show J 0 0 (md C A U Z tc tp ((fr : Int)) ((n : Int)) ((q : Int)) to (hpc b n k) wo ((o : Int)) 1 fa) 20 [(1, hv z), (0, .ref 80)] [hv 0]
      refine jr_ifc R1 true d_105_20 (by first | assumption | exact hg _ | exact hS _ | exact hV _ | exact hP _ | exact hT _ | exact ⟨by omega, by omega⟩) (by unfold hcb; first | exact decide_eq_true (by omega) | exact decide_eq_false (by omega)) (by decide) (pc' := 66) rfl ?_
      refine jr_iload_n R1 d_105_66 rfl ?_
      refine jr_reti R3 d_105_67 rfl ?_
      exact hQ _ _ (by rw [hp_px_f hf1]; exact mq_bad (k, f) hm hfa hf1 (hfe hf1))
theorem mk_lev3 {lch : Launch} {C : mj_M} {A : Nat → Value} {U : Nat → Int} {Z : List Value} {g b : Nat → Int} {fr n : Nat} {tc tp : Int} {N : Nat} (hC : 84 ≤ C.length) (hTx : C[81]? = some (hA 0 960 g)) (hg : ∀ j, hr (b j)) (hb : ∀ j, j < n → b j = g (fr + j)) (hfr : fr + n ≤ 960) (hn9 : n ≤ 160) (hb0 : ∀ j, j < n → 0 ≤ b j ∧ b j ≤ 255) (hS : ∀ N', N' ≤ N → mg lch C A U Z tc tp fr n b N' 4 172) : mg lch C A U Z tc tp fr n b (N + 1) 3 105 := by
  intro d o k q to wo fa ho hk hm hfa hfu hd
  rw [hx_fu (by omega)] at hfu
  refine mj_Me_of4 (by decide) (by omega) (Nat.le_of_ble_eq_true rfl) ?_
  intro L xs J R1 R2 R3 R4
  show J 0 0 (md C A U Z tc tp ((fr : Int)) ((n : Int)) ((q : Int)) to (hpc b n k) wo ((o : Int)) 0 fa) 0 [(0, .ref 80)] []
  refine jr_aload_n R1 d_105_0 rfl ?_
  refine jr_callv R2 d_105_1 (by decide) rfl (as := [.ref 80]) (rest := []) rfl (by unfold mj_rc; rw [show (_ : List Value).headD _ = .ref 80 from rfl]; simp only [md_80 hC]; decide) (hS N (Nat.le_refl _) (10 - 4 + 7 * (5 - o)) o k _ _ _ _ (by omega) hk hm hfa (by rw [hx_fu (by omega)]; omega) (Nat.le_refl _)) (by omega) (Nat.le_of_ble_eq_true rfl) ?_
  rintro rv M9 ⟨⟨z39, hz39, rfl⟩, q39, to39, wo39, fa39, hm39, hfa39, hfe39, rfl⟩
  have hok39 := hp_px_ok (tk := hp_tk b n) (pc := hpc b n) (T := hp_T b n) (fun j hj => hp_tk_T hj) hpc_0 N 4 o (k, -1) (by omega) hk rfl (by rw [hx_fu (by omega)]; simp only; omega)
  have hwo39_ := hm39.2.2.2
  show J 0 0 (md C A U Z tc tp ((fr : Int)) ((n : Int)) ((q39 : Int)) to39 (hpc b n (hp_px (hp_tk b n) (hpc b n) N 4 o (k, -1)).1) wo39 ((o : Int)) (if (hp_px (hp_tk b n) (hpc b n) N 4 o (k, -1)).2 = -1 then 0 else 1) fa39) 4 [(0, .ref 80)] [hv z39]
  refine jr_istore_n R1 d_105_4 (by decide) (lo' := [(1, hv z39), (0, .ref 80)]) rfl ?_
  refine mk_loop3 hC hTx hg hb hfr hn9 hb0 ho hS hd R1 R2 R3 R4 N (hp_px (hp_tk b n) (hpc b n) N 4 o (k, -1)).1 q39 (hp_px (hp_tk b n) (hpc b n) N 4 o (k, -1)).2 _ _ _ z39 (Nat.le_refl _) hok39.2.1 hm39 hfa39 hfe39 (fun g => ?_) hz39 (fun rv M' h => ?_)
  · have h1 := hok39.2.2.1 g (by omega)
    simp only at h1
    rw [hx_fu7 (by omega)]
    omega
  · rw [hx_lev (by omega) (by omega)]
    exact h
theorem mk_loop1 {lch : Launch} {C : mj_M} {A : Nat → Value} {U : Nat → Int} {Z : List Value} {g b : Nat → Int} {fr n : Nat} {tc tp : Int} {N d o L : Nat} {xs : Nat → Int32} {J : mj_JT} {Q : Option Value → mj_M → Prop} (hC : 84 ≤ C.length) (hTx : C[81]? = some (hA 0 960 g)) (hg : ∀ j, hr (b j)) (hb : ∀ j, j < n → b j = g (fr + j)) (hfr : fr + n ≤ 960) (hn9 : n ≤ 160) (hb0 : ∀ j, j < n → 0 ≤ b j ∧ b j ≤ 255) (ho : o ≤ 5) (hS : ∀ N', N' ≤ N → mg lch C A U Z tc tp fr n b N' 2 156) (hd : 10 - 1 + 7 * (5 - o) ≤ d) (R1 : mj_R1 L xs 112 (mj_ow 112) (mj_ml 112) (Nat.beq (mj_ki 112) 2) 0 0 J) (R2 : mj_R2 lch 112 d 0 0 J) (R3 : mj_R3 112 (mj_rt 112) 0 0 Q J) (R4 : mj_R4 J) :
    ∀ (F k q : Nat) (f to wo fa z : Int), F ≤ N → k ≤ hp_T b n → mt b n k q to wo → (0 ≤ fa ∧ fa ≤ 160) → (f ≠ -1 → fa = f) → (f = -1 → hp_fu (hp_T b n) (6 + 1) k ≤ F) → hr z → (∀ rv M', mq C A U Z tc tp fr n b o (hp_px (hp_tk b n) (hpc b n) F (6 + 1) o (k, f)) rv M' → Q rv M') → J 0 0 (md C A U Z tc tp ((fr : Int)) ((n : Int)) ((q : Int)) to (hpc b n k) wo ((o : Int)) (if f = -1 then 0 else 1) fa) 5 [(1, hv z), (0, .ref 80)] [] := by
  intro F
  induction F with
  | zero =>
    intro k q f to wo fa z hF hk hm hfa hfe hfu hz hQ
    by_cases hf1 : f = -1
    · exfalso
      have := hfu hf1
      rw [hx_fu7 (by omega)] at this
      omega
    · skip
      rw [if_neg hf1]
      refine jr_aload_n R1 d_112_5 rfl ?_
      refine jr_bipush R1 d_112_6 (by decide) ?_
      refine jr_bipush R1 d_112_8 (by decide) ?_
      refine jr_bipush R1 d_112_10 (by decide) ?_
      refine jr_iconst R1 d_112_12 ?_
      refine jr_iconst R1 d_112_13 ?_
      refine jr_iconst R1 d_112_14 ?_
      refine jr_iconst R1 d_112_15 ?_
      refine jr_iconst R1 d_112_16 ?_
      refine jr_callv R2 d_112_17 (by decide) rfl (as := [.ref 80, hv 97, hv 110, hv 100, hv 0, hv 0, hv 0, hv 0, hv 0]) (rest := []) rfl (by unfold mj_rc; rw [show (_ : List Value).headD _ = .ref 80 from rfl]; simp only [md_80 hC]; decide) (hm_isWord (d := 3) (p := hp_P b n k) (by omega) hC hTx hg hb hfr hn9 hb0 (mt_pq hm) (mt_qn hm) (Or.inr rfl) hm.2.2.1 ⟨by omega, by omega⟩ ⟨by omega, by omega⟩ ⟨by omega, by omega⟩ ⟨by omega, by omega⟩ ⟨by omega, by omega⟩ ⟨by omega, by omega⟩ ⟨by omega, by omega⟩ ⟨by omega, by omega⟩) (by omega) (Nat.le_of_ble_eq_true rfl) ?_
      rintro rv M9 ⟨rfl, rfl⟩
      rw [if_neg (fun z => absurd z.1 (by decide))]
      show J 0 0 (md C A U Z tc tp ((fr : Int)) ((n : Int)) ((q : Int)) to (hpc b n k) wo ((o : Int)) 1 fa) 20 [(1, hv z), (0, .ref 80)] [hv 0]
      refine jr_ifc R1 true d_112_20 (by first | assumption | exact hg _ | exact hS _ | exact hV _ | exact hP _ | exact hT _ | exact ⟨by omega, by omega⟩) (by unfold hcb; first | exact decide_eq_true (by omega) | exact decide_eq_false (by omega)) (by decide) (pc' := 49) rfl ?_
      refine jr_iload_n R1 d_112_49 rfl ?_
      refine jr_reti R3 d_112_50 rfl ?_
      exact hQ _ _ (by rw [hp_px_f hf1]; exact mq_bad (k, f) hm hfa hf1 (hfe hf1))
  | succ F ih =>
    intro k q f to wo fa z hF hk hm hfa hfe hfu hz hQ
    by_cases hf1 : f = -1
    · subst hf1
      have hfu := hfu rfl
      rw [hx_fu7 (by omega)] at hfu
      rw [if_pos rfl]
      have hto9 := hm.2.2.1
      have hwo9 := hm.2.2.2
      refine jr_aload_n R1 d_112_5 rfl ?_
      refine jr_bipush R1 d_112_6 (by decide) ?_
      refine jr_bipush R1 d_112_8 (by decide) ?_
      refine jr_bipush R1 d_112_10 (by decide) ?_
      refine jr_iconst R1 d_112_12 ?_
      refine jr_iconst R1 d_112_13 ?_
      refine jr_iconst R1 d_112_14 ?_
      refine jr_iconst R1 d_112_15 ?_
      refine jr_iconst R1 d_112_16 ?_
      by_cases hw40_10 : hp_tk b n k = 266
      · skip
        refine jr_callv R2 d_112_17 (by decide) rfl (as := [.ref 80, hv 97, hv 110, hv 100, hv 0, hv 0, hv 0, hv 0, hv 0]) (rest := []) rfl (by unfold mj_rc; rw [show (_ : List Value).headD _ = .ref 80 from rfl]; simp only [md_80 hC]; decide) (hm_isWord (d := 3) (p := hp_P b n k) (by omega) hC hTx hg hb hfr hn9 hb0 (mt_pq hm) (mt_qn hm) (Or.inl rfl) hm.2.2.1 ⟨by omega, by omega⟩ ⟨by omega, by omega⟩ ⟨by omega, by omega⟩ ⟨by omega, by omega⟩ ⟨by omega, by omega⟩ ⟨by omega, by omega⟩ ⟨by omega, by omega⟩ ⟨by omega, by omega⟩) (by omega) (Nat.le_of_ble_eq_true rfl) ?_
        rintro rv M9 ⟨rfl, rfl⟩
        rw [if_pos ⟨rfl, (mv_10 hm).mpr hw40_10⟩]
        show J 0 0 (md C A U Z tc tp ((fr : Int)) ((n : Int)) ((q : Int)) to (hpc b n k) wo ((o : Int)) 0 fa) 20 [(1, hv z), (0, .ref 80)] [hv 1]
        refine jr_ifc R1 false d_112_20 (by first | assumption | exact hg _ | exact hS _ | exact hV _ | exact hP _ | exact hT _ | exact ⟨by omega, by omega⟩) (by unfold hcb; first | exact decide_eq_true (by omega) | exact decide_eq_false (by omega)) (by decide) (pc' := 23) rfl ?_
        refine jr_aload_n R1 d_112_23 rfl ?_
        refine jr_callv R2 d_112_24 (by decide) rfl (as := [.ref 80]) (rest := []) rfl (by unfold mj_rc; rw [show (_ : List Value).headD _ = .ref 80 from rfl]; simp only [md_80 hC]; decide) (hm_next (d := 2) (x := q) (p := hp_P b n (k + 1)) (by omega) hC hTx hg hb hfr hn9 hb0 (mt_qn hm) (mt_nx hm (by omega)) hm.2.2.2) (by omega) (Nat.le_of_ble_eq_true rfl) ?_
        rintro rv M9 ⟨rfl, he9, to41, wo41, hmp9, hbd9, rfl⟩
        obtain ⟨q41, rfl⟩ := mbd_q hbd9
        have hm41 : mt b n (k + 1) q41 to41 wo41 := ⟨hmp9, hbd9⟩
        show J 0 0 (md C A U Z tc tp ((fr : Int)) ((n : Int)) ((q41 : Int)) to41 (hpc b n (k + 1)) wo41 ((o : Int)) 0 fa) 27 [(1, hv z), (0, .ref 80)] []
        refine jr_aload_n R1 d_112_27 rfl ?_
        refine jr_callv R2 d_112_28 (by decide) rfl (as := [.ref 80]) (rest := []) rfl (by unfold mj_rc; rw [show (_ : List Value).headD _ = .ref 80 from rfl]; simp only [md_80 hC]; decide) (hS F (by omega) (10 - 2 + 7 * (5 - o)) o (k + 1) _ _ _ _ (by omega) (mt_kT hk (by omega)) hm41 hfa (by rw [hx_fu (by omega)]; omega) (Nat.le_refl _)) (by omega) (Nat.le_of_ble_eq_true rfl) ?_
        rintro rv M9 ⟨⟨z42, hz42, rfl⟩, q42, to42, wo42, fa42, hm42, hfa42, hfe42, rfl⟩
        have hok42 := hp_px_ok (tk := hp_tk b n) (pc := hpc b n) (T := hp_T b n) (fun j hj => hp_tk_T hj) hpc_0 F 2 o ((k + 1), -1) (by omega) (mt_kT hk (by omega)) rfl (by rw [hx_fu (by omega)]; simp only; omega)
        have hwo42_ := hm42.2.2.2
        show J 0 0 (md C A U Z tc tp ((fr : Int)) ((n : Int)) ((q42 : Int)) to42 (hpc b n (hp_px (hp_tk b n) (hpc b n) F 2 o ((k + 1), -1)).1) wo42 ((o : Int)) (if (hp_px (hp_tk b n) (hpc b n) F 2 o ((k + 1), -1)).2 = -1 then 0 else 1) fa42) 31 [(1, hv z), (0, .ref 80)] [hv z42]
        refine jr_istore_n R1 d_112_31 (by decide) (lo' := [(2, hv z42), (1, hv z), (0, .ref 80)]) rfl ?_
        refine jr_iload_n R1 d_112_32 rfl ?_
        by_cases h1 : z = 0
        · refine jr_ifc R1 true d_112_33 (by first | assumption | exact hg _ | exact hS _ | exact hV _ | exact hP _ | exact hT _ | exact ⟨by omega, by omega⟩) (by unfold hcb; first | exact decide_eq_true (by omega) | exact decide_eq_false (by omega)) (by decide) (pc' := 44) rfl ?_
          refine jr_iconst R1 d_112_44 ?_
          refine jr_istore_n R1 d_112_45 (by decide) (lo' := [(1, hv 0), (2, hv z42), (0, .ref 80)]) rfl ?_
          refine jr_goto R1 d_112_46 (by decide) (pc' := 5) rfl ?_
          obtain ⟨z9, hz9, ez9⟩ := hv_any (0)
          refine R4 0 0 _ 5 _ [(1, hv z9), (0, .ref 80)] _ (fun y hy => by rw [← ez9] at hy; simp only [List.mem_cons, List.not_mem_nil, or_false] at hy ⊢; rcases hy with rfl | rfl <;> simp) ?_
          refine ih (hp_px (hp_tk b n) (hpc b n) F 2 o ((k + 1), -1)).1 q42 (hp_px (hp_tk b n) (hpc b n) F 2 o ((k + 1), -1)).2 _ _ _ z9 (by omega) hok42.2.1 hm42 hfa42 hfe42 (fun g => ?_) hz9 (fun rv M' h => hQ rv M' ?_)
          · have h1 := hok42.2.2.1 g (by omega)
            simp only at h1
            rw [hx_fu7 (by omega)]
            omega
          · rw [hx_more (by omega) (by omega) (by unfold hp_jb; simp; omega)]
            exact h
        · refine jr_ifc R1 false d_112_33 (by first | assumption | exact hg _ | exact hS _ | exact hV _ | exact hP _ | exact hT _ | exact ⟨by omega, by omega⟩) (by unfold hcb; first | exact decide_eq_true (by omega) | exact decide_eq_false (by omega)) (by decide) (pc' := 36) rfl ?_
          refine jr_iload_n R1 d_112_36 rfl ?_
          by_cases h2 : z42 = 0
          · refine jr_ifc R1 true d_112_37 (by first | assumption | exact hg _ | exact hS _ | exact hV _ | exact hP _ | exact hT _ | exact ⟨by omega, by omega⟩) (by unfold hcb; first | exact decide_eq_true (by omega) | exact decide_eq_false (by omega)) (by decide) (pc' := 44) rfl ?_
            refine jr_iconst R1 d_112_44 ?_
            refine jr_istore_n R1 d_112_45 (by decide) (lo' := [(1, hv 0), (2, hv z42), (0, .ref 80)]) rfl ?_
            refine jr_goto R1 d_112_46 (by decide) (pc' := 5) rfl ?_
            obtain ⟨z9, hz9, ez9⟩ := hv_any (0)
            refine R4 0 0 _ 5 _ [(1, hv z9), (0, .ref 80)] _ (fun y hy => by rw [← ez9] at hy; simp only [List.mem_cons, List.not_mem_nil, or_false] at hy ⊢; rcases hy with rfl | rfl <;> simp) ?_
            refine ih (hp_px (hp_tk b n) (hpc b n) F 2 o ((k + 1), -1)).1 q42 (hp_px (hp_tk b n) (hpc b n) F 2 o ((k + 1), -1)).2 _ _ _ z9 (by omega) hok42.2.1 hm42 hfa42 hfe42 (fun g => ?_) hz9 (fun rv M' h => hQ rv M' ?_)
            · have h1 := hok42.2.2.1 g (by omega)
              simp only at h1
              rw [hx_fu7 (by omega)]
              omega
            · rw [hx_more (by omega) (by omega) (by unfold hp_jb; simp; omega)]
              exact h
          · refine jr_ifc R1 false d_112_37 (by first | assumption | exact hg _ | exact hS _ | exact hV _ | exact hP _ | exact hT _ | exact ⟨by omega, by omega⟩) (by unfold hcb; first | exact decide_eq_true (by omega) | exact decide_eq_false (by omega)) (by decide) (pc' := 40) rfl ?_
            refine jr_iconst R1 d_112_40 ?_
            refine jr_goto R1 d_112_41 (by decide) (pc' := 45) rfl ?_
            refine jr_istore_n R1 d_112_45 (by decide) (lo' := [(1, hv 1), (2, hv z42), (0, .ref 80)]) rfl ?_
            refine jr_goto R1 d_112_46 (by decide) (pc' := 5) rfl ?_
            obtain ⟨z9, hz9, ez9⟩ := hv_any (1)
            refine R4 0 0 _ 5 _ [(1, hv z9), (0, .ref 80)] _ (fun y hy => by rw [← ez9] at hy; simp only [List.mem_cons, List.not_mem_nil, or_false] at hy ⊢; rcases hy with rfl | rfl <;> simp) ?_
            refine ih (hp_px (hp_tk b n) (hpc b n) F 2 o ((k + 1), -1)).1 q42 (hp_px (hp_tk b n) (hpc b n) F 2 o ((k + 1), -1)).2 _ _ _ z9 (by omega) hok42.2.1 hm42 hfa42 hfe42 (fun g => ?_) hz9 (fun rv M' h => hQ rv M' ?_)
            · have h1 := hok42.2.2.1 g (by omega)
              simp only at h1
              rw [hx_fu7 (by omega)]
              omega
            · rw [hx_more (by omega) (by omega) (by unfold hp_jb; simp; omega)]
              exact h
      · skip
        refine jr_callv R2 d_112_17 (by decide) rfl (as := [.ref 80, hv 97, hv 110, hv 100, hv 0, hv 0, hv 0, hv 0, hv 0]) (rest := []) rfl (by unfold mj_rc; rw [show (_ : List Value).headD _ = .ref 80 from rfl]; simp only [md_80 hC]; decide) (hm_isWord (d := 3) (p := hp_P b n k) (by omega) hC hTx hg hb hfr hn9 hb0 (mt_pq hm) (mt_qn hm) (Or.inl rfl) hm.2.2.1 ⟨by omega, by omega⟩ ⟨by omega, by omega⟩ ⟨by omega, by omega⟩ ⟨by omega, by omega⟩ ⟨by omega, by omega⟩ ⟨by omega, by omega⟩ ⟨by omega, by omega⟩ ⟨by omega, by omega⟩) (by omega) (Nat.le_of_ble_eq_true rfl) ?_
        rintro rv M9 ⟨rfl, rfl⟩
        rw [if_neg (fun z => hw40_10 ((mv_10 hm).mp z.2))]
        show J 0 0 (md C A U Z tc tp ((fr : Int)) ((n : Int)) ((q : Int)) to (hpc b n k) wo ((o : Int)) 0 fa) 20 [(1, hv z), (0, .ref 80)] [hv 0]
        refine jr_ifc R1 true d_112_20 (by first | assumption | exact hg _ | exact hS _ | exact hV _ | exact hP _ | exact hT _ | exact ⟨by omega, by omega⟩) (by unfold hcb; first | exact decide_eq_true (by omega) | exact decide_eq_false (by omega)) (by decide) (pc' := 49) rfl ?_
        refine jr_iload_n R1 d_112_49 rfl ?_
        refine jr_reti R3 d_112_50 rfl ?_
        exact hQ _ _ (by rw [hx_stop (by omega) (by unfold hp_jb; simp; omega)]; exact mq_ok (k, -1) hm hfa rfl)
    · skip
      rw [if_neg hf1]
      refine jr_aload_n R1 d_112_5 rfl ?_
      refine jr_bipush R1 d_112_6 (by decide) ?_
      refine jr_bipush R1 d_112_8 (by decide) ?_
      refine jr_bipush R1 d_112_10 (by decide) ?_
      refine jr_iconst R1 d_112_12 ?_
      refine jr_iconst R1 d_112_13 ?_
      refine jr_iconst R1 d_112_14 ?_
      refine jr_iconst R1 d_112_15 ?_
      refine jr_iconst R1 d_112_16 ?_
      refine jr_callv R2 d_112_17 (by decide) rfl (as := [.ref 80, hv 97, hv 110, hv 100, hv 0, hv 0, hv 0, hv 0, hv 0]) (rest := []) rfl (by unfold mj_rc; rw [show (_ : List Value).headD _ = .ref 80 from rfl]; simp only [md_80 hC]; decide) (hm_isWord (d := 3) (p := hp_P b n k) (by omega) hC hTx hg hb hfr hn9 hb0 (mt_pq hm) (mt_qn hm) (Or.inr rfl) hm.2.2.1 ⟨by omega, by omega⟩ ⟨by omega, by omega⟩ ⟨by omega, by omega⟩ ⟨by omega, by omega⟩ ⟨by omega, by omega⟩ ⟨by omega, by omega⟩ ⟨by omega, by omega⟩ ⟨by omega, by omega⟩) (by omega) (Nat.le_of_ble_eq_true rfl) ?_
      rintro rv M9 ⟨rfl, rfl⟩
      rw [if_neg (fun z => absurd z.1 (by decide))]
      show J 0 0 (md C A U Z tc tp ((fr : Int)) ((n : Int)) ((q : Int)) to (hpc b n k) wo ((o : Int)) 1 fa) 20 [(1, hv z), (0, .ref 80)] [hv 0]
      refine jr_ifc R1 true d_112_20 (by first | assumption | exact hg _ | exact hS _ | exact hV _ | exact hP _ | exact hT _ | exact ⟨by omega, by omega⟩) (by unfold hcb; first | exact decide_eq_true (by omega) | exact decide_eq_false (by omega)) (by decide) (pc' := 49) rfl ?_
      refine jr_iload_n R1 d_112_49 rfl ?_
      refine jr_reti R3 d_112_50 rfl ?_
      exact hQ _ _ (by rw [hp_px_f hf1]; exact mq_bad (k, f) hm hfa hf1 (hfe hf1))
theorem mk_lev1 {lch : Launch} {C : mj_M} {A : Nat → Value} {U : Nat → Int} {Z : List Value} {g b : Nat → Int} {fr n : Nat} {tc tp : Int} {N : Nat} (hC : 84 ≤ C.length) (hTx : C[81]? = some (hA 0 960 g)) (hg : ∀ j, hr (b j)) (hb : ∀ j, j < n → b j = g (fr + j)) (hfr : fr + n ≤ 960) (hn9 : n ≤ 160) (hb0 : ∀ j, j < n → 0 ≤ b j ∧ b j ≤ 255) (hS : ∀ N', N' ≤ N → mg lch C A U Z tc tp fr n b N' 2 156) : mg lch C A U Z tc tp fr n b (N + 1) 1 112 := by
  intro d o k q to wo fa ho hk hm hfa hfu hd
  rw [hx_fu (by omega)] at hfu
  refine mj_Me_of4 (by decide) (by omega) (Nat.le_of_ble_eq_true rfl) ?_
  intro L xs J R1 R2 R3 R4
  show J 0 0 (md C A U Z tc tp ((fr : Int)) ((n : Int)) ((q : Int)) to (hpc b n k) wo ((o : Int)) 0 fa) 0 [(0, .ref 80)] []
  refine jr_aload_n R1 d_112_0 rfl ?_
  refine jr_callv R2 d_112_1 (by decide) rfl (as := [.ref 80]) (rest := []) rfl (by unfold mj_rc; rw [show (_ : List Value).headD _ = .ref 80 from rfl]; simp only [md_80 hC]; decide) (hS N (Nat.le_refl _) (10 - 2 + 7 * (5 - o)) o k _ _ _ _ (by omega) hk hm hfa (by rw [hx_fu (by omega)]; omega) (Nat.le_refl _)) (by omega) (Nat.le_of_ble_eq_true rfl) ?_
  rintro rv M9 ⟨⟨z43, hz43, rfl⟩, q43, to43, wo43, fa43, hm43, hfa43, hfe43, rfl⟩
  have hok43 := hp_px_ok (tk := hp_tk b n) (pc := hpc b n) (T := hp_T b n) (fun j hj => hp_tk_T hj) hpc_0 N 2 o (k, -1) (by omega) hk rfl (by rw [hx_fu (by omega)]; simp only; omega)
  have hwo43_ := hm43.2.2.2
  show J 0 0 (md C A U Z tc tp ((fr : Int)) ((n : Int)) ((q43 : Int)) to43 (hpc b n (hp_px (hp_tk b n) (hpc b n) N 2 o (k, -1)).1) wo43 ((o : Int)) (if (hp_px (hp_tk b n) (hpc b n) N 2 o (k, -1)).2 = -1 then 0 else 1) fa43) 4 [(0, .ref 80)] [hv z43]
  refine jr_istore_n R1 d_112_4 (by decide) (lo' := [(1, hv z43), (0, .ref 80)]) rfl ?_
  refine mk_loop1 hC hTx hg hb hfr hn9 hb0 ho hS hd R1 R2 R3 R4 N (hp_px (hp_tk b n) (hpc b n) N 2 o (k, -1)).1 q43 (hp_px (hp_tk b n) (hpc b n) N 2 o (k, -1)).2 _ _ _ z43 (Nat.le_refl _) hok43.2.1 hm43 hfa43 hfe43 (fun g => ?_) hz43 (fun rv M' h => ?_)
  · have h1 := hok43.2.2.1 g (by omega)
    simp only at h1
    rw [hx_fu7 (by omega)]
    omega
  · rw [hx_lev (by omega) (by omega)]
    exact h
theorem mk_loop0 {lch : Launch} {C : mj_M} {A : Nat → Value} {U : Nat → Int} {Z : List Value} {g b : Nat → Int} {fr n : Nat} {tc tp : Int} {N d o L : Nat} {xs : Nat → Int32} {J : mj_JT} {Q : Option Value → mj_M → Prop} (hC : 84 ≤ C.length) (hTx : C[81]? = some (hA 0 960 g)) (hg : ∀ j, hr (b j)) (hb : ∀ j, j < n → b j = g (fr + j)) (hfr : fr + n ≤ 960) (hn9 : n ≤ 160) (hb0 : ∀ j, j < n → 0 ≤ b j ∧ b j ≤ 255) (ho : o ≤ 5) (hS : ∀ N', N' ≤ N → mg lch C A U Z tc tp fr n b N' 1 112) (hd : 10 - 0 + 7 * (5 - o) ≤ d) (R1 : mj_R1 L xs 123 (mj_ow 123) (mj_ml 123) (Nat.beq (mj_ki 123) 2) 0 0 J) (R2 : mj_R2 lch 123 d 0 0 J) (R3 : mj_R3 123 (mj_rt 123) 0 0 Q J) (R4 : mj_R4 J) :
    ∀ (F k q : Nat) (f to wo fa z : Int), F ≤ N → k ≤ hp_T b n → mt b n k q to wo → (0 ≤ fa ∧ fa ≤ 160) → (f ≠ -1 → fa = f) → (f = -1 → hp_fu (hp_T b n) (6 + 0) k ≤ F) → hr z → (∀ rv M', mq C A U Z tc tp fr n b o (hp_px (hp_tk b n) (hpc b n) F (6 + 0) o (k, f)) rv M' → Q rv M') → J 0 0 (md C A U Z tc tp ((fr : Int)) ((n : Int)) ((q : Int)) to (hpc b n k) wo ((o : Int)) (if f = -1 then 0 else 1) fa) 5 [(1, hv z), (0, .ref 80)] [] := by
  intro F
  induction F with
  | zero =>
    intro k q f to wo fa z hF hk hm hfa hfe hfu hz hQ
    by_cases hf1 : f = -1
    · exfalso
      have := hfu hf1
      rw [hx_fu7 (by omega)] at this
      omega
    · skip
      rw [if_neg hf1]
      refine jr_aload_n R1 d_123_5 rfl ?_
      refine jr_bipush R1 d_123_6 (by decide) ?_
      refine jr_bipush R1 d_123_8 (by decide) ?_
      refine jr_iconst R1 d_123_10 ?_
      refine jr_iconst R1 d_123_11 ?_
      refine jr_iconst R1 d_123_12 ?_
      refine jr_iconst R1 d_123_13 ?_
      refine jr_iconst R1 d_123_14 ?_
      refine jr_iconst R1 d_123_15 ?_
      refine jr_callv R2 d_123_16 (by decide) rfl (as := [.ref 80, hv 111, hv 114, hv 0, hv 0, hv 0, hv 0, hv 0, hv 0]) (rest := []) rfl (by unfold mj_rc; rw [show (_ : List Value).headD _ = .ref 80 from rfl]; simp only [md_80 hC]; decide) (hm_isWord (d := 3) (p := hp_P b n k) (by omega) hC hTx hg hb hfr hn9 hb0 (mt_pq hm) (mt_qn hm) (Or.inr rfl) hm.2.2.1 ⟨by omega, by omega⟩ ⟨by omega, by omega⟩ ⟨by omega, by omega⟩ ⟨by omega, by omega⟩ ⟨by omega, by omega⟩ ⟨by omega, by omega⟩ ⟨by omega, by omega⟩ ⟨by omega, by omega⟩) (by omega) (Nat.le_of_ble_eq_true rfl) ?_
      rintro rv M9 ⟨rfl, rfl⟩
      rw [if_neg (fun z => absurd z.1 (by decide))]
      show J 0 0 (md C A U Z tc tp ((fr : Int)) ((n : Int)) ((q : Int)) to (hpc b n k) wo ((o : Int)) 1 fa) 19 [(1, hv z), (0, .ref 80)] [hv 0]
      refine jr_ifc R1 true d_123_19 (by first | assumption | exact hg _ | exact hS _ | exact hV _ | exact hP _ | exact hT _ | exact ⟨by omega, by omega⟩) (by unfold hcb; first | exact decide_eq_true (by omega) | exact decide_eq_false (by omega)) (by decide) (pc' := 48) rfl ?_
      refine jr_iload_n R1 d_123_48 rfl ?_
      refine jr_reti R3 d_123_49 rfl ?_
      exact hQ _ _ (by rw [hp_px_f hf1]; exact mq_bad (k, f) hm hfa hf1 (hfe hf1))
  | succ F ih =>
    intro k q f to wo fa z hF hk hm hfa hfe hfu hz hQ
    by_cases hf1 : f = -1
    · subst hf1
      have hfu := hfu rfl
      rw [hx_fu7 (by omega)] at hfu
      rw [if_pos rfl]
      have hto9 := hm.2.2.1
      have hwo9 := hm.2.2.2
      refine jr_aload_n R1 d_123_5 rfl ?_
      refine jr_bipush R1 d_123_6 (by decide) ?_
      refine jr_bipush R1 d_123_8 (by decide) ?_
      refine jr_iconst R1 d_123_10 ?_
      refine jr_iconst R1 d_123_11 ?_
      refine jr_iconst R1 d_123_12 ?_
      refine jr_iconst R1 d_123_13 ?_
      refine jr_iconst R1 d_123_14 ?_
      refine jr_iconst R1 d_123_15 ?_
      by_cases hw44_9 : hp_tk b n k = 265
      · skip
        refine jr_callv R2 d_123_16 (by decide) rfl (as := [.ref 80, hv 111, hv 114, hv 0, hv 0, hv 0, hv 0, hv 0, hv 0]) (rest := []) rfl (by unfold mj_rc; rw [show (_ : List Value).headD _ = .ref 80 from rfl]; simp only [md_80 hC]; decide) (hm_isWord (d := 3) (p := hp_P b n k) (by omega) hC hTx hg hb hfr hn9 hb0 (mt_pq hm) (mt_qn hm) (Or.inl rfl) hm.2.2.1 ⟨by omega, by omega⟩ ⟨by omega, by omega⟩ ⟨by omega, by omega⟩ ⟨by omega, by omega⟩ ⟨by omega, by omega⟩ ⟨by omega, by omega⟩ ⟨by omega, by omega⟩ ⟨by omega, by omega⟩) (by omega) (Nat.le_of_ble_eq_true rfl) ?_
        rintro rv M9 ⟨rfl, rfl⟩
        rw [if_pos ⟨rfl, (mv_9 hm).mpr hw44_9⟩]
        show J 0 0 (md C A U Z tc tp ((fr : Int)) ((n : Int)) ((q : Int)) to (hpc b n k) wo ((o : Int)) 0 fa) 19 [(1, hv z), (0, .ref 80)] [hv 1]
        refine jr_ifc R1 false d_123_19 (by first | assumption | exact hg _ | exact hS _ | exact hV _ | exact hP _ | exact hT _ | exact ⟨by omega, by omega⟩) (by unfold hcb; first | exact decide_eq_true (by omega) | exact decide_eq_false (by omega)) (by decide) (pc' := 22) rfl ?_
        refine jr_aload_n R1 d_123_22 rfl ?_
        refine jr_callv R2 d_123_23 (by decide) rfl (as := [.ref 80]) (rest := []) rfl (by unfold mj_rc; rw [show (_ : List Value).headD _ = .ref 80 from rfl]; simp only [md_80 hC]; decide) (hm_next (d := 2) (x := q) (p := hp_P b n (k + 1)) (by omega) hC hTx hg hb hfr hn9 hb0 (mt_qn hm) (mt_nx hm (by omega)) hm.2.2.2) (by omega) (Nat.le_of_ble_eq_true rfl) ?_
        rintro rv M9 ⟨rfl, he9, to45, wo45, hmp9, hbd9, rfl⟩
        obtain ⟨q45, rfl⟩ := mbd_q hbd9
        have hm45 : mt b n (k + 1) q45 to45 wo45 := ⟨hmp9, hbd9⟩
        show J 0 0 (md C A U Z tc tp ((fr : Int)) ((n : Int)) ((q45 : Int)) to45 (hpc b n (k + 1)) wo45 ((o : Int)) 0 fa) 26 [(1, hv z), (0, .ref 80)] []
        refine jr_aload_n R1 d_123_26 rfl ?_
        refine jr_callv R2 d_123_27 (by decide) rfl (as := [.ref 80]) (rest := []) rfl (by unfold mj_rc; rw [show (_ : List Value).headD _ = .ref 80 from rfl]; simp only [md_80 hC]; decide) (hS F (by omega) (10 - 1 + 7 * (5 - o)) o (k + 1) _ _ _ _ (by omega) (mt_kT hk (by omega)) hm45 hfa (by rw [hx_fu (by omega)]; omega) (Nat.le_refl _)) (by omega) (Nat.le_of_ble_eq_true rfl) ?_
        rintro rv M9 ⟨⟨z46, hz46, rfl⟩, q46, to46, wo46, fa46, hm46, hfa46, hfe46, rfl⟩
        have hok46 := hp_px_ok (tk := hp_tk b n) (pc := hpc b n) (T := hp_T b n) (fun j hj => hp_tk_T hj) hpc_0 F 1 o ((k + 1), -1) (by omega) (mt_kT hk (by omega)) rfl (by rw [hx_fu (by omega)]; simp only; omega)
        have hwo46_ := hm46.2.2.2
        show J 0 0 (md C A U Z tc tp ((fr : Int)) ((n : Int)) ((q46 : Int)) to46 (hpc b n (hp_px (hp_tk b n) (hpc b n) F 1 o ((k + 1), -1)).1) wo46 ((o : Int)) (if (hp_px (hp_tk b n) (hpc b n) F 1 o ((k + 1), -1)).2 = -1 then 0 else 1) fa46) 30 [(1, hv z), (0, .ref 80)] [hv z46]
        refine jr_istore_n R1 d_123_30 (by decide) (lo' := [(2, hv z46), (1, hv z), (0, .ref 80)]) rfl ?_
        refine jr_iload_n R1 d_123_31 rfl ?_
        by_cases h1 : z = 0
        · refine jr_ifc R1 false d_123_32 (by first | assumption | exact hg _ | exact hS _ | exact hV _ | exact hP _ | exact hT _ | exact ⟨by omega, by omega⟩) (by unfold hcb; first | exact decide_eq_true (by omega) | exact decide_eq_false (by omega)) (by decide) (pc' := 35) rfl ?_
          refine jr_iload_n R1 d_123_35 rfl ?_
          by_cases h2 : z46 = 0
          · refine jr_ifc R1 true d_123_36 (by first | assumption | exact hg _ | exact hS _ | exact hV _ | exact hP _ | exact hT _ | exact ⟨by omega, by omega⟩) (by unfold hcb; first | exact decide_eq_true (by omega) | exact decide_eq_false (by omega)) (by decide) (pc' := 43) rfl ?_
            refine jr_iconst R1 d_123_43 ?_
            refine jr_istore_n R1 d_123_44 (by decide) (lo' := [(1, hv 0), (2, hv z46), (0, .ref 80)]) rfl ?_
            refine jr_goto R1 d_123_45 (by decide) (pc' := 5) rfl ?_
            obtain ⟨z9, hz9, ez9⟩ := hv_any (0)
            refine R4 0 0 _ 5 _ [(1, hv z9), (0, .ref 80)] _ (fun y hy => by rw [← ez9] at hy; simp only [List.mem_cons, List.not_mem_nil, or_false] at hy ⊢; rcases hy with rfl | rfl <;> simp) ?_
            refine ih (hp_px (hp_tk b n) (hpc b n) F 1 o ((k + 1), -1)).1 q46 (hp_px (hp_tk b n) (hpc b n) F 1 o ((k + 1), -1)).2 _ _ _ z9 (by omega) hok46.2.1 hm46 hfa46 hfe46 (fun g => ?_) hz9 (fun rv M' h => hQ rv M' ?_)
            · have h1 := hok46.2.2.1 g (by omega)
              simp only at h1
              rw [hx_fu7 (by omega)]
              omega
            · rw [hx_more (by omega) (by omega) (by unfold hp_jb; simp; omega)]
              exact h
          · refine jr_ifc R1 false d_123_36 (by first | assumption | exact hg _ | exact hS _ | exact hV _ | exact hP _ | exact hT _ | exact ⟨by omega, by omega⟩) (by unfold hcb; first | exact decide_eq_true (by omega) | exact decide_eq_false (by omega)) (by decide) (pc' := 39) rfl ?_
            refine jr_iconst R1 d_123_39 ?_
            refine jr_goto R1 d_123_40 (by decide) (pc' := 44) rfl ?_
            refine jr_istore_n R1 d_123_44 (by decide) (lo' := [(1, hv 1), (2, hv z46), (0, .ref 80)]) rfl ?_
            refine jr_goto R1 d_123_45 (by decide) (pc' := 5) rfl ?_
            obtain ⟨z9, hz9, ez9⟩ := hv_any (1)
            refine R4 0 0 _ 5 _ [(1, hv z9), (0, .ref 80)] _ (fun y hy => by rw [← ez9] at hy; simp only [List.mem_cons, List.not_mem_nil, or_false] at hy ⊢; rcases hy with rfl | rfl <;> simp) ?_
            refine ih (hp_px (hp_tk b n) (hpc b n) F 1 o ((k + 1), -1)).1 q46 (hp_px (hp_tk b n) (hpc b n) F 1 o ((k + 1), -1)).2 _ _ _ z9 (by omega) hok46.2.1 hm46 hfa46 hfe46 (fun g => ?_) hz9 (fun rv M' h => hQ rv M' ?_)
            · have h1 := hok46.2.2.1 g (by omega)
              simp only at h1
              rw [hx_fu7 (by omega)]
              omega
            · rw [hx_more (by omega) (by omega) (by unfold hp_jb; simp; omega)]
              exact h
        · refine jr_ifc R1 true d_123_32 (by first | assumption | exact hg _ | exact hS _ | exact hV _ | exact hP _ | exact hT _ | exact ⟨by omega, by omega⟩) (by unfold hcb; first | exact decide_eq_true (by omega) | exact decide_eq_false (by omega)) (by decide) (pc' := 39) rfl ?_
          refine jr_iconst R1 d_123_39 ?_
          refine jr_goto R1 d_123_40 (by decide) (pc' := 44) rfl ?_
          refine jr_istore_n R1 d_123_44 (by decide) (lo' := [(1, hv 1), (2, hv z46), (0, .ref 80)]) rfl ?_
          refine jr_goto R1 d_123_45 (by decide) (pc' := 5) rfl ?_
          obtain ⟨z9, hz9, ez9⟩ := hv_any (1)
          refine R4 0 0 _ 5 _ [(1, hv z9), (0, .ref 80)] _ (fun y hy => by rw [← ez9] at hy; simp only [List.mem_cons, List.not_mem_nil, or_false] at hy ⊢; rcases hy with rfl | rfl <;> simp) ?_
          refine ih (hp_px (hp_tk b n) (hpc b n) F 1 o ((k + 1), -1)).1 q46 (hp_px (hp_tk b n) (hpc b n) F 1 o ((k + 1), -1)).2 _ _ _ z9 (by omega) hok46.2.1 hm46 hfa46 hfe46 (fun g => ?_) hz9 (fun rv M' h => hQ rv M' ?_)
          · have h1 := hok46.2.2.1 g (by omega)
            simp only at h1
            rw [hx_fu7 (by omega)]
            omega
          · rw [hx_more (by omega) (by omega) (by unfold hp_jb; simp; omega)]
            exact h
      · skip
        refine jr_callv R2 d_123_16 (by decide) rfl (as := [.ref 80, hv 111, hv 114, hv 0, hv 0, hv 0, hv 0, hv 0, hv 0]) (rest := []) rfl (by unfold mj_rc; rw [show (_ : List Value).headD _ = .ref 80 from rfl]; simp only [md_80 hC]; decide) (hm_isWord (d := 3) (p := hp_P b n k) (by omega) hC hTx hg hb hfr hn9 hb0 (mt_pq hm) (mt_qn hm) (Or.inl rfl) hm.2.2.1 ⟨by omega, by omega⟩ ⟨by omega, by omega⟩ ⟨by omega, by omega⟩ ⟨by omega, by omega⟩ ⟨by omega, by omega⟩ ⟨by omega, by omega⟩ ⟨by omega, by omega⟩ ⟨by omega, by omega⟩) (by omega) (Nat.le_of_ble_eq_true rfl) ?_
        rintro rv M9 ⟨rfl, rfl⟩
        rw [if_neg (fun z => hw44_9 ((mv_9 hm).mp z.2))]
        show J 0 0 (md C A U Z tc tp ((fr : Int)) ((n : Int)) ((q : Int)) to (hpc b n k) wo ((o : Int)) 0 fa) 19 [(1, hv z), (0, .ref 80)] [hv 0]
        refine jr_ifc R1 true d_123_19 (by first | assumption | exact hg _ | exact hS _ | exact hV _ | exact hP _ | exact hT _ | exact ⟨by omega, by omega⟩) (by unfold hcb; first | exact decide_eq_true (by omega) | exact decide_eq_false (by omega)) (by decide) (pc' := 48) rfl ?_
        refine jr_iload_n R1 d_123_48 rfl ?_
        refine jr_reti R3 d_123_49 rfl ?_
        exact hQ _ _ (by rw [hx_stop (by omega) (by unfold hp_jb; simp; omega)]; exact mq_ok (k, -1) hm hfa rfl)
    · skip
      rw [if_neg hf1]
      refine jr_aload_n R1 d_123_5 rfl ?_
      refine jr_bipush R1 d_123_6 (by decide) ?_
      refine jr_bipush R1 d_123_8 (by decide) ?_
      refine jr_iconst R1 d_123_10 ?_
      refine jr_iconst R1 d_123_11 ?_
      refine jr_iconst R1 d_123_12 ?_
      refine jr_iconst R1 d_123_13 ?_
      refine jr_iconst R1 d_123_14 ?_
      refine jr_iconst R1 d_123_15 ?_
      refine jr_callv R2 d_123_16 (by decide) rfl (as := [.ref 80, hv 111, hv 114, hv 0, hv 0, hv 0, hv 0, hv 0, hv 0]) (rest := []) rfl (by unfold mj_rc; rw [show (_ : List Value).headD _ = .ref 80 from rfl]; simp only [md_80 hC]; decide) (hm_isWord (d := 3) (p := hp_P b n k) (by omega) hC hTx hg hb hfr hn9 hb0 (mt_pq hm) (mt_qn hm) (Or.inr rfl) hm.2.2.1 ⟨by omega, by omega⟩ ⟨by omega, by omega⟩ ⟨by omega, by omega⟩ ⟨by omega, by omega⟩ ⟨by omega, by omega⟩ ⟨by omega, by omega⟩ ⟨by omega, by omega⟩ ⟨by omega, by omega⟩) (by omega) (Nat.le_of_ble_eq_true rfl) ?_
      rintro rv M9 ⟨rfl, rfl⟩
      rw [if_neg (fun z => absurd z.1 (by decide))]
      show J 0 0 (md C A U Z tc tp ((fr : Int)) ((n : Int)) ((q : Int)) to (hpc b n k) wo ((o : Int)) 1 fa) 19 [(1, hv z), (0, .ref 80)] [hv 0]
      refine jr_ifc R1 true d_123_19 (by first | assumption | exact hg _ | exact hS _ | exact hV _ | exact hP _ | exact hT _ | exact ⟨by omega, by omega⟩) (by unfold hcb; first | exact decide_eq_true (by omega) | exact decide_eq_false (by omega)) (by decide) (pc' := 48) rfl ?_
      refine jr_iload_n R1 d_123_48 rfl ?_
      refine jr_reti R3 d_123_49 rfl ?_
      exact hQ _ _ (by rw [hp_px_f hf1]; exact mq_bad (k, f) hm hfa hf1 (hfe hf1))
theorem mk_lev0 {lch : Launch} {C : mj_M} {A : Nat → Value} {U : Nat → Int} {Z : List Value} {g b : Nat → Int} {fr n : Nat} {tc tp : Int} {N : Nat} (hC : 84 ≤ C.length) (hTx : C[81]? = some (hA 0 960 g)) (hg : ∀ j, hr (b j)) (hb : ∀ j, j < n → b j = g (fr + j)) (hfr : fr + n ≤ 960) (hn9 : n ≤ 160) (hb0 : ∀ j, j < n → 0 ≤ b j ∧ b j ≤ 255) (hS : ∀ N', N' ≤ N → mg lch C A U Z tc tp fr n b N' 1 112) : mg lch C A U Z tc tp fr n b (N + 1) 0 123 := by
  intro d o k q to wo fa ho hk hm hfa hfu hd
  rw [hx_fu (by omega)] at hfu
  refine mj_Me_of4 (by decide) (by omega) (Nat.le_of_ble_eq_true rfl) ?_
  intro L xs J R1 R2 R3 R4
  show J 0 0 (md C A U Z tc tp ((fr : Int)) ((n : Int)) ((q : Int)) to (hpc b n k) wo ((o : Int)) 0 fa) 0 [(0, .ref 80)] []
  refine jr_aload_n R1 d_123_0 rfl ?_
  refine jr_callv R2 d_123_1 (by decide) rfl (as := [.ref 80]) (rest := []) rfl (by unfold mj_rc; rw [show (_ : List Value).headD _ = .ref 80 from rfl]; simp only [md_80 hC]; decide) (hS N (Nat.le_refl _) (10 - 1 + 7 * (5 - o)) o k _ _ _ _ (by omega) hk hm hfa (by rw [hx_fu (by omega)]; omega) (Nat.le_refl _)) (by omega) (Nat.le_of_ble_eq_true rfl) ?_
  rintro rv M9 ⟨⟨z47, hz47, rfl⟩, q47, to47, wo47, fa47, hm47, hfa47, hfe47, rfl⟩
  have hok47 := hp_px_ok (tk := hp_tk b n) (pc := hpc b n) (T := hp_T b n) (fun j hj => hp_tk_T hj) hpc_0 N 1 o (k, -1) (by omega) hk rfl (by rw [hx_fu (by omega)]; simp only; omega)
  have hwo47_ := hm47.2.2.2
  show J 0 0 (md C A U Z tc tp ((fr : Int)) ((n : Int)) ((q47 : Int)) to47 (hpc b n (hp_px (hp_tk b n) (hpc b n) N 1 o (k, -1)).1) wo47 ((o : Int)) (if (hp_px (hp_tk b n) (hpc b n) N 1 o (k, -1)).2 = -1 then 0 else 1) fa47) 4 [(0, .ref 80)] [hv z47]
  refine jr_istore_n R1 d_123_4 (by decide) (lo' := [(1, hv z47), (0, .ref 80)]) rfl ?_
  refine mk_loop0 hC hTx hg hb hfr hn9 hb0 ho hS hd R1 R2 R3 R4 N (hp_px (hp_tk b n) (hpc b n) N 1 o (k, -1)).1 q47 (hp_px (hp_tk b n) (hpc b n) N 1 o (k, -1)).2 _ _ _ z47 (Nat.le_refl _) hok47.2.1 hm47 hfa47 hfe47 (fun g => ?_) hz47 (fun rv M' h => ?_)
  · have h1 := hok47.2.2.1 g (by omega)
    simp only at h1
    rw [hx_fu7 (by omega)]
    omega
  · rw [hx_lev (by omega) (by omega)]
    exact h
theorem mk_lev2 {lch : Launch} {C : mj_M} {A : Nat → Value} {U : Nat → Int} {Z : List Value} {g b : Nat → Int} {fr n : Nat} {tc tp : Int} {N : Nat} (hC : 84 ≤ C.length) (hTx : C[81]? = some (hA 0 960 g)) (hg : ∀ j, hr (b j)) (hb : ∀ j, j < n → b j = g (fr + j)) (hfr : fr + n ≤ 960) (hn9 : n ≤ 160) (hb0 : ∀ j, j < n → 0 ≤ b j ∧ b j ≤ 255) (hD : ∀ N', N' ≤ N → mg lch C A U Z tc tp fr n b N' 3 105) (hN : ∀ N', N' ≤ N → mg lch C A U Z tc tp fr n b N' 2 156) : mg lch C A U Z tc tp fr n b (N + 1) 2 156 := by
  intro d o k q to wo fa ho hk hm hfa hfu hd
  rw [hx_fu (by omega)] at hfu
  obtain ⟨N', rfl⟩ : ∃ N', N = N' + 1 := ⟨N - 1, by omega⟩
  have hto9 := hm.2.2.1
  have hwo9 := hm.2.2.2
  refine mj_Me_of (by decide) (by omega) (Nat.le_of_ble_eq_true rfl) ?_
  intro L xs J R1 R2 R3
  show J 0 0 (md C A U Z tc tp ((fr : Int)) ((n : Int)) ((q : Int)) to (hpc b n k) wo ((o : Int)) 0 fa) 0 [(0, .ref 80)] []
  refine jr_aload_n R1 d_156_0 rfl ?_
  refine jr_bipush R1 d_156_1 (by decide) ?_
  refine jr_bipush R1 d_156_3 (by decide) ?_
  refine jr_bipush R1 d_156_5 (by decide) ?_
  refine jr_iconst R1 d_156_7 ?_
  refine jr_iconst R1 d_156_8 ?_
  refine jr_iconst R1 d_156_9 ?_
  refine jr_iconst R1 d_156_10 ?_
  refine jr_iconst R1 d_156_11 ?_
  by_cases hw48_11 : hp_tk b n k = 267
  · skip
    refine jr_callv R2 d_156_12 (by decide) rfl (as := [.ref 80, hv 110, hv 111, hv 116, hv 0, hv 0, hv 0, hv 0, hv 0]) (rest := []) rfl (by unfold mj_rc; rw [show (_ : List Value).headD _ = .ref 80 from rfl]; simp only [md_80 hC]; decide) (hm_isWord (d := 3) (p := hp_P b n k) (by omega) hC hTx hg hb hfr hn9 hb0 (mt_pq hm) (mt_qn hm) (Or.inl rfl) hm.2.2.1 ⟨by omega, by omega⟩ ⟨by omega, by omega⟩ ⟨by omega, by omega⟩ ⟨by omega, by omega⟩ ⟨by omega, by omega⟩ ⟨by omega, by omega⟩ ⟨by omega, by omega⟩ ⟨by omega, by omega⟩) (by omega) (Nat.le_of_ble_eq_true rfl) ?_
    rintro rv M9 ⟨rfl, rfl⟩
    rw [if_pos ⟨rfl, (mv_11 hm).mpr hw48_11⟩]
    show J 0 0 (md C A U Z tc tp ((fr : Int)) ((n : Int)) ((q : Int)) to (hpc b n k) wo ((o : Int)) 0 fa) 15 [(0, .ref 80)] [hv 1]
    refine jr_ifc R1 false d_156_15 (by first | assumption | exact hg _ | exact hS _ | exact hV _ | exact hP _ | exact hT _ | exact ⟨by omega, by omega⟩) (by unfold hcb; first | exact decide_eq_true (by omega) | exact decide_eq_false (by omega)) (by decide) (pc' := 18) rfl ?_
    refine jr_aload_n R1 d_156_18 rfl ?_
    by_cases ho49 : o < 5
    · skip
      refine jr_callv R2 d_156_19 (by decide) rfl (as := [.ref 80]) (rest := []) rfl (by unfold mj_rc; rw [show (_ : List Value).headD _ = .ref 80 from rfl]; simp only [md_80 hC]; decide) (mk_opens_t (d := 3) (by omega) hC hTx hg hb hfr hn9 hb0 hm (by omega) (by omega)) (by omega) (Nat.le_of_ble_eq_true rfl) ?_
      rintro rv M9 ⟨rfl, q49, to49, wo49, hm49, rfl⟩
      show J 0 0 (md C A U Z tc tp ((fr : Int)) ((n : Int)) ((q49 : Int)) to49 (hpc b n (k + 1)) wo49 ((o : Int) + 1) 0 fa) 22 [(0, .ref 80)] [hv 1]
      refine jr_ifc R1 true d_156_22 (by first | assumption | exact hg _ | exact hS _ | exact hV _ | exact hP _ | exact hT _ | exact ⟨by omega, by omega⟩) (by unfold hcb; first | exact decide_eq_true (by omega) | exact decide_eq_false (by omega)) (by decide) (pc' := 27) rfl ?_
      refine jr_aload_n R1 d_156_27 rfl ?_
      refine jr_callv R2 d_156_28 (by decide) rfl (as := [.ref 80]) (rest := []) rfl (by unfold mj_rc; rw [show (_ : List Value).headD _ = .ref 80 from rfl]; simp only [md_80 hC]; decide) (hN (N' + 1) (by omega) (10 - 2 + 7 * (5 - (o + 1))) (o + 1) (k + 1) _ _ _ _ (by omega) (mt_kT hk (by omega)) hm49 hfa (by rw [hx_fu (by omega)]; omega) (Nat.le_refl _)) (by omega) (Nat.le_of_ble_eq_true rfl) ?_
      rintro rv M9 ⟨⟨z50, hz50, rfl⟩, q50, to50, wo50, fa50, hm50, hfa50, hfe50, rfl⟩
      have hok50 := hp_px_ok (tk := hp_tk b n) (pc := hpc b n) (T := hp_T b n) (fun j hj => hp_tk_T hj) hpc_0 (N' + 1) 2 (o + 1) ((k + 1), -1) (by omega) (mt_kT hk (by omega)) rfl (by rw [hx_fu (by omega)]; simp only; omega)
      have hwo50_ := hm50.2.2.2
      show J 0 0 (md C A U Z tc tp ((fr : Int)) ((n : Int)) ((q50 : Int)) to50 (hpc b n (hp_px (hp_tk b n) (hpc b n) (N' + 1) 2 (o + 1) ((k + 1), -1)).1) wo50 ((((o + 1) : Nat) : Int)) (if (hp_px (hp_tk b n) (hpc b n) (N' + 1) 2 (o + 1) ((k + 1), -1)).2 = -1 then 0 else 1) fa50) 31 [(0, .ref 80)] [hv z50]
      refine jr_istore_n R1 d_156_31 (by decide) (lo' := [(1, hv z50), (0, .ref 80)]) rfl ?_
      refine jr_aload_n R1 d_156_32 rfl ?_
      refine jr_dup_r R1 d_156_33 ?_
      refine jr_getf R1 d_156_34 (md_80 hC) (by decide) rfl ?_
      refine jr_iconst R1 d_156_37 ?_
      refine jr_isub R1 d_156_38 ?_
      refine jr_putf R1 d_156_39 (md_80 hC) (by decide) (md_pl (by decide)) rfl rfl (M' := md C A U Z tc tp ((fr : Int)) ((n : Int)) ((q50 : Int)) to50 (hpc b n (hp_px (hp_tk b n) (hpc b n) (N' + 1) 2 (o + 1) ((k + 1), -1)).1) wo50 (((((o + 1) : Nat) : Int)) - 1) (if (hp_px (hp_tk b n) (hpc b n) (N' + 1) 2 (o + 1) ((k + 1), -1)).2 = -1 then 0 else 1) fa50) md_p ?_
      refine jr_iload_n R1 d_156_42 rfl ?_
      by_cases h1 : z50 = 0
      · refine jr_ifc R1 false d_156_43 (by first | assumption | exact hg _ | exact hS _ | exact hV _ | exact hP _ | exact hT _ | exact ⟨by omega, by omega⟩) (by unfold hcb; first | exact decide_eq_true (by omega) | exact decide_eq_false (by omega)) (by decide) (pc' := 46) rfl ?_
        refine jr_iconst R1 d_156_46 ?_
        refine jr_goto R1 d_156_47 (by decide) (pc' := 51) rfl ?_
        refine jr_reti R3 d_156_51 rfl ?_
        rw [show ((((o + 1) : Nat) : Int)) - 1 = (o : Int) by omega]
        rw [hx_not (by assumption), if_neg (by omega)]
        exact mq_any _ hm50 hfa50 hfe50
      · refine jr_ifc R1 true d_156_43 (by first | assumption | exact hg _ | exact hS _ | exact hV _ | exact hP _ | exact hT _ | exact ⟨by omega, by omega⟩) (by unfold hcb; first | exact decide_eq_true (by omega) | exact decide_eq_false (by omega)) (by decide) (pc' := 50) rfl ?_
        refine jr_iconst R1 d_156_50 ?_
        refine jr_reti R3 d_156_51 rfl ?_
        rw [show ((((o + 1) : Nat) : Int)) - 1 = (o : Int) by omega]
        rw [hx_not (by assumption), if_neg (by omega)]
        exact mq_any _ hm50 hfa50 hfe50
    · skip
      refine jr_callv R2 d_156_19 (by decide) rfl (as := [.ref 80]) (rest := []) rfl (by unfold mj_rc; rw [show (_ : List Value).headD _ = .ref 80 from rfl]; simp only [md_80 hC]; decide) (mk_opens_f (d := 3) (by omega) hC hTx hg hb hfr hn9 hb0 hm (by omega)) (by omega) (Nat.le_of_ble_eq_true rfl) ?_
      rintro rv M9 ⟨rfl, rfl⟩
      show J 0 0 (md C A U Z tc tp ((fr : Int)) ((n : Int)) ((q : Int)) to (hpc b n k) wo ((o : Int)) 1 (hpc b n k)) 22 [(0, .ref 80)] [hv 0]
      refine jr_ifc R1 false d_156_22 (by first | assumption | exact hg _ | exact hS _ | exact hV _ | exact hP _ | exact hT _ | exact ⟨by omega, by omega⟩) (by unfold hcb; first | exact decide_eq_true (by omega) | exact decide_eq_false (by omega)) (by decide) (pc' := 25) rfl ?_
      refine jr_iconst R1 d_156_25 ?_
      refine jr_reti R3 d_156_26 rfl ?_
      rw [hx_not (by assumption), if_pos (by omega)]
      exact mq_bad (k, _) hm (hpc_bd hn9 k) hpc_ne rfl
  · skip
    refine jr_callv R2 d_156_12 (by decide) rfl (as := [.ref 80, hv 110, hv 111, hv 116, hv 0, hv 0, hv 0, hv 0, hv 0]) (rest := []) rfl (by unfold mj_rc; rw [show (_ : List Value).headD _ = .ref 80 from rfl]; simp only [md_80 hC]; decide) (hm_isWord (d := 3) (p := hp_P b n k) (by omega) hC hTx hg hb hfr hn9 hb0 (mt_pq hm) (mt_qn hm) (Or.inl rfl) hm.2.2.1 ⟨by omega, by omega⟩ ⟨by omega, by omega⟩ ⟨by omega, by omega⟩ ⟨by omega, by omega⟩ ⟨by omega, by omega⟩ ⟨by omega, by omega⟩ ⟨by omega, by omega⟩ ⟨by omega, by omega⟩) (by omega) (Nat.le_of_ble_eq_true rfl) ?_
    rintro rv M9 ⟨rfl, rfl⟩
    rw [if_neg (fun z => hw48_11 ((mv_11 hm).mp z.2))]
    show J 0 0 (md C A U Z tc tp ((fr : Int)) ((n : Int)) ((q : Int)) to (hpc b n k) wo ((o : Int)) 0 fa) 15 [(0, .ref 80)] [hv 0]
    refine jr_ifc R1 true d_156_15 (by first | assumption | exact hg _ | exact hS _ | exact hV _ | exact hP _ | exact hT _ | exact ⟨by omega, by omega⟩) (by unfold hcb; first | exact decide_eq_true (by omega) | exact decide_eq_false (by omega)) (by decide) (pc' := 52) rfl ?_
    refine jr_aload_n R1 d_156_52 rfl ?_
    by_cases hS51 : (hp_px (hp_tk b n) (hpc b n) (N' + 1) 3 o (k, -1)).2 = -1
    · skip
      refine jr_callv R2 d_156_53 (by decide) rfl (as := [.ref 80]) (rest := []) rfl (by unfold mj_rc; rw [show (_ : List Value).headD _ = .ref 80 from rfl]; simp only [md_80 hC]; decide) (hD (N' + 1) (by omega) (10 - 3 + 7 * (5 - o)) o k _ _ _ _ (by omega) hk hm hfa (by rw [hx_fu (by omega)]; omega) (Nat.le_refl _)) (by omega) (Nat.le_of_ble_eq_true rfl) ?_
      rintro rv M9 ⟨⟨z51, hz51, rfl⟩, q51, to51, wo51, fa51, hm51, hfa51, hfe51, rfl⟩
      have hok51 := hp_px_ok (tk := hp_tk b n) (pc := hpc b n) (T := hp_T b n) (fun j hj => hp_tk_T hj) hpc_0 (N' + 1) 3 o (k, -1) (by omega) hk rfl (by rw [hx_fu (by omega)]; simp only; omega)
      have hwo51_ := hm51.2.2.2
      rw [if_pos hS51]
      show J 0 0 (md C A U Z tc tp ((fr : Int)) ((n : Int)) ((q51 : Int)) to51 (hpc b n (hp_px (hp_tk b n) (hpc b n) (N' + 1) 3 o (k, -1)).1) wo51 ((o : Int)) 0 fa51) 56 [(0, .ref 80)] [hv z51]
      refine jr_istore_n R1 d_156_56 (by decide) (lo' := [(1, hv z51), (0, .ref 80)]) rfl ?_
      refine jr_aload_n R1 d_156_57 rfl ?_
      refine jr_bipush R1 d_156_58 (by decide) ?_
      by_cases hs52_60 : hp_tk b n ((hp_px (hp_tk b n) (hpc b n) (N' + 1) 3 o (k, -1)).1) = 60
      · skip
        refine jr_callv R2 d_156_60 (by decide) rfl (as := [.ref 80, hv 60]) (rest := []) rfl (by unfold mj_rc; rw [show (_ : List Value).headD _ = .ref 80 from rfl]; simp only [md_80 hC]; decide) (hm_isSign (d := 1) (by omega) hC (Or.inl rfl) hm51.2.2.1 hm51.2.2.2 ⟨by omega, by omega⟩) (by omega) (Nat.le_of_ble_eq_true rfl) ?_
        rintro rv M9 ⟨rfl, rfl⟩
        rw [if_pos ⟨rfl, (mt_sg hm51 rfl).mpr hs52_60⟩]
        show J 0 0 (md C A U Z tc tp ((fr : Int)) ((n : Int)) ((q51 : Int)) to51 (hpc b n (hp_px (hp_tk b n) (hpc b n) (N' + 1) 3 o (k, -1)).1) wo51 ((o : Int)) 0 fa51) 63 [(1, hv z51), (0, .ref 80)] [hv 1]
        refine jr_ifc R1 true d_156_63 (by first | assumption | exact hg _ | exact hS _ | exact hV _ | exact hP _ | exact hT _ | exact ⟨by omega, by omega⟩) (by unfold hcb; first | exact decide_eq_true (by omega) | exact decide_eq_false (by omega)) (by decide) (pc' := 77) rfl ?_
        refine jr_aload_n R1 d_156_77 rfl ?_
        refine jr_getf R1 d_156_78 (md_80 hC) (by decide) rfl ?_
        refine jl_ldc (z := 60) R1 d_156_81 (by decide) rfl ?_
        by_cases h2 : wo51 = 60
        · refine jl_if R1 false (by first | assumption | exact ⟨by omega, by omega⟩ | exact hR_hr (by assumption) | exact hR_hr (hg _)) (by first | assumption | exact ⟨by omega, by omega⟩ | exact hR_hr (by assumption) | exact hR_hr (hg _)) d_156_84 d_156_85 (by unfold hcb; first | exact decide_eq_true (by omega) | exact decide_eq_false (by omega)) (by decide) (pc' := 88) rfl ?_
          refine jr_iconst R1 d_156_88 ?_
          refine jr_goto R1 d_156_89 (by decide) (pc' := 93) rfl ?_
          refine jr_istore_n R1 d_156_93 (by decide) (lo' := [(2, hv 1), (1, hv z51), (0, .ref 80)]) rfl ?_
          refine jr_aload_n R1 d_156_94 rfl ?_
          refine jr_callv R2 d_156_95 (by decide) rfl (as := [.ref 80]) (rest := []) rfl (by unfold mj_rc; rw [show (_ : List Value).headD _ = .ref 80 from rfl]; simp only [md_80 hC]; decide) (hm_next (d := 2) (x := q51) (p := hp_P b n ((hp_px (hp_tk b n) (hpc b n) (N' + 1) 3 o (k, -1)).1 + 1)) (by omega) hC hTx hg hb hfr hn9 hb0 (mt_qn hm51) (mt_nx hm51 (by omega)) hm51.2.2.2) (by omega) (Nat.le_of_ble_eq_true rfl) ?_
          rintro rv M9 ⟨rfl, he9, to53, wo53, hmp9, hbd9, rfl⟩
          obtain ⟨q53, rfl⟩ := mbd_q hbd9
          have hm53 : mt b n ((hp_px (hp_tk b n) (hpc b n) (N' + 1) 3 o (k, -1)).1 + 1) q53 to53 wo53 := ⟨hmp9, hbd9⟩
          show J 0 0 (md C A U Z tc tp ((fr : Int)) ((n : Int)) ((q53 : Int)) to53 (hpc b n ((hp_px (hp_tk b n) (hpc b n) (N' + 1) 3 o (k, -1)).1 + 1)) wo53 ((o : Int)) 0 fa51) 98 [(2, hv 1), (1, hv z51), (0, .ref 80)] []
          refine jr_aload_n R1 d_156_98 rfl ?_
          have hlt51 := hok51.2.2.1 hS51 (by omega)
          simp only at hlt51
          refine jr_callv R2 d_156_99 (by decide) rfl (as := [.ref 80]) (rest := []) rfl (by unfold mj_rc; rw [show (_ : List Value).headD _ = .ref 80 from rfl]; simp only [md_80 hC]; decide) (hD N' (by omega) (10 - 3 + 7 * (5 - o)) o ((hp_px (hp_tk b n) (hpc b n) (N' + 1) 3 o (k, -1)).1 + 1) _ _ _ _ (by omega) (mt_kT hok51.2.1 (by omega)) hm53 hfa51 (by rw [hx_fu (by omega)]; omega) (Nat.le_refl _)) (by omega) (Nat.le_of_ble_eq_true rfl) ?_
          rintro rv M9 ⟨⟨z54, hz54, rfl⟩, q54, to54, wo54, fa54, hm54, hfa54, hfe54, rfl⟩
          have hok54 := hp_px_ok (tk := hp_tk b n) (pc := hpc b n) (T := hp_T b n) (fun j hj => hp_tk_T hj) hpc_0 N' 3 o (((hp_px (hp_tk b n) (hpc b n) (N' + 1) 3 o (k, -1)).1 + 1), -1) (by omega) (mt_kT hok51.2.1 (by omega)) rfl (by rw [hx_fu (by omega)]; simp only; omega)
          have hwo54_ := hm54.2.2.2
          show J 0 0 (md C A U Z tc tp ((fr : Int)) ((n : Int)) ((q54 : Int)) to54 (hpc b n (hp_px (hp_tk b n) (hpc b n) N' 3 o (((hp_px (hp_tk b n) (hpc b n) (N' + 1) 3 o (k, -1)).1 + 1), -1)).1) wo54 ((o : Int)) (if (hp_px (hp_tk b n) (hpc b n) N' 3 o (((hp_px (hp_tk b n) (hpc b n) (N' + 1) 3 o (k, -1)).1 + 1), -1)).2 = -1 then 0 else 1) fa54) 102 [(2, hv 1), (1, hv z51), (0, .ref 80)] [hv z54]
          refine jr_istore_n R1 d_156_102 (by decide) (lo' := [(3, hv z54), (2, hv 1), (1, hv z51), (0, .ref 80)]) rfl ?_
          refine jr_iload_n R1 d_156_103 rfl ?_
          refine jr_ifc R1 false d_156_104 (by first | assumption | exact hg _ | exact hS _ | exact hV _ | exact hP _ | exact hT _ | exact ⟨by omega, by omega⟩) (by unfold hcb; first | exact decide_eq_true (by omega) | exact decide_eq_false (by omega)) (by decide) (pc' := 107) rfl ?_
          refine jr_iload_n R1 d_156_107 rfl ?_
          refine jr_iload_n R1 d_156_108 rfl ?_
          by_cases h3 : z51 < z54
          · refine jr_icmp R1 false d_156_109 (by first | assumption | exact hg _ | exact hS _ | exact hV _ | exact hP _ | exact hT _ | exact ⟨by omega, by omega⟩) (by first | assumption | exact hg _ | exact hS _ | exact hV _ | exact hP _ | exact hT _ | exact ⟨by omega, by omega⟩) (by unfold hcb; first | exact decide_eq_true (by omega) | exact decide_eq_false (by omega)) (by decide) (pc' := 112) rfl ?_
            refine jr_goto R1 d_156_112 (by decide) (pc' := 120) rfl ?_
            refine jr_iconst R1 d_156_120 ?_
            refine jr_goto R1 d_156_121 (by decide) (pc' := 125) rfl ?_
            refine jr_reti R3 d_156_125 rfl ?_
            have hsE : (hp_px (hp_tk b n) (hpc b n) (N' + 1) 3 o (k, -1)) = ((hp_px (hp_tk b n) (hpc b n) (N' + 1) 3 o (k, -1)).1, -1) := Prod.ext rfl hS51
            have e := hx_two (tkf := hp_tk b n) (pcf := hpc b n) (N := N') (q := o) (k := (hp_px (hp_tk b n) (hpc b n) (N' + 1) 3 o (k, -1)).1) (by unfold hp_jb; simp; omega)
            rw [← hsE] at e
            rw [hx_lev (by omega) (by omega)]
            show mq C A U Z tc tp fr n b o (hp_px (hp_tk b n) (hpc b n) (N' + 1) 8 o (hp_px (hp_tk b n) (hpc b n) (N' + 1) 3 o (k, -1))) _ _
            rw [e]
            exact mq_any _ hm54 hfa54 hfe54
          · refine jr_icmp R1 true d_156_109 (by first | assumption | exact hg _ | exact hS _ | exact hV _ | exact hP _ | exact hT _ | exact ⟨by omega, by omega⟩) (by first | assumption | exact hg _ | exact hS _ | exact hV _ | exact hP _ | exact hT _ | exact ⟨by omega, by omega⟩) (by unfold hcb; first | exact decide_eq_true (by omega) | exact decide_eq_false (by omega)) (by decide) (pc' := 124) rfl ?_
            refine jr_iconst R1 d_156_124 ?_
            refine jr_reti R3 d_156_125 rfl ?_
            have hsE : (hp_px (hp_tk b n) (hpc b n) (N' + 1) 3 o (k, -1)) = ((hp_px (hp_tk b n) (hpc b n) (N' + 1) 3 o (k, -1)).1, -1) := Prod.ext rfl hS51
            have e := hx_two (tkf := hp_tk b n) (pcf := hpc b n) (N := N') (q := o) (k := (hp_px (hp_tk b n) (hpc b n) (N' + 1) 3 o (k, -1)).1) (by unfold hp_jb; simp; omega)
            rw [← hsE] at e
            rw [hx_lev (by omega) (by omega)]
            show mq C A U Z tc tp fr n b o (hp_px (hp_tk b n) (hpc b n) (N' + 1) 8 o (hp_px (hp_tk b n) (hpc b n) (N' + 1) 3 o (k, -1))) _ _
            rw [e]
            exact mq_any _ hm54 hfa54 hfe54
        · refine jl_if R1 true (by first | assumption | exact ⟨by omega, by omega⟩ | exact hR_hr (by assumption) | exact hR_hr (hg _)) (by first | assumption | exact ⟨by omega, by omega⟩ | exact hR_hr (by assumption) | exact hR_hr (hg _)) d_156_84 d_156_85 (by unfold hcb; first | exact decide_eq_true (by omega) | exact decide_eq_false (by omega)) (by decide) (pc' := 92) rfl ?_
          refine jr_iconst R1 d_156_92 ?_
          refine jr_istore_n R1 d_156_93 (by decide) (lo' := [(2, hv 0), (1, hv z51), (0, .ref 80)]) rfl ?_
          refine jr_aload_n R1 d_156_94 rfl ?_
          refine jr_callv R2 d_156_95 (by decide) rfl (as := [.ref 80]) (rest := []) rfl (by unfold mj_rc; rw [show (_ : List Value).headD _ = .ref 80 from rfl]; simp only [md_80 hC]; decide) (hm_next (d := 2) (x := q51) (p := hp_P b n ((hp_px (hp_tk b n) (hpc b n) (N' + 1) 3 o (k, -1)).1 + 1)) (by omega) hC hTx hg hb hfr hn9 hb0 (mt_qn hm51) (mt_nx hm51 (by omega)) hm51.2.2.2) (by omega) (Nat.le_of_ble_eq_true rfl) ?_
          rintro rv M9 ⟨rfl, he9, to55, wo55, hmp9, hbd9, rfl⟩
          obtain ⟨q55, rfl⟩ := mbd_q hbd9
          have hm55 : mt b n ((hp_px (hp_tk b n) (hpc b n) (N' + 1) 3 o (k, -1)).1 + 1) q55 to55 wo55 := ⟨hmp9, hbd9⟩
          show J 0 0 (md C A U Z tc tp ((fr : Int)) ((n : Int)) ((q55 : Int)) to55 (hpc b n ((hp_px (hp_tk b n) (hpc b n) (N' + 1) 3 o (k, -1)).1 + 1)) wo55 ((o : Int)) 0 fa51) 98 [(2, hv 0), (1, hv z51), (0, .ref 80)] []
          refine jr_aload_n R1 d_156_98 rfl ?_
          have hlt51 := hok51.2.2.1 hS51 (by omega)
          simp only at hlt51
          refine jr_callv R2 d_156_99 (by decide) rfl (as := [.ref 80]) (rest := []) rfl (by unfold mj_rc; rw [show (_ : List Value).headD _ = .ref 80 from rfl]; simp only [md_80 hC]; decide) (hD N' (by omega) (10 - 3 + 7 * (5 - o)) o ((hp_px (hp_tk b n) (hpc b n) (N' + 1) 3 o (k, -1)).1 + 1) _ _ _ _ (by omega) (mt_kT hok51.2.1 (by omega)) hm55 hfa51 (by rw [hx_fu (by omega)]; omega) (Nat.le_refl _)) (by omega) (Nat.le_of_ble_eq_true rfl) ?_
          rintro rv M9 ⟨⟨z56, hz56, rfl⟩, q56, to56, wo56, fa56, hm56, hfa56, hfe56, rfl⟩
          have hok56 := hp_px_ok (tk := hp_tk b n) (pc := hpc b n) (T := hp_T b n) (fun j hj => hp_tk_T hj) hpc_0 N' 3 o (((hp_px (hp_tk b n) (hpc b n) (N' + 1) 3 o (k, -1)).1 + 1), -1) (by omega) (mt_kT hok51.2.1 (by omega)) rfl (by rw [hx_fu (by omega)]; simp only; omega)
          have hwo56_ := hm56.2.2.2
          show J 0 0 (md C A U Z tc tp ((fr : Int)) ((n : Int)) ((q56 : Int)) to56 (hpc b n (hp_px (hp_tk b n) (hpc b n) N' 3 o (((hp_px (hp_tk b n) (hpc b n) (N' + 1) 3 o (k, -1)).1 + 1), -1)).1) wo56 ((o : Int)) (if (hp_px (hp_tk b n) (hpc b n) N' 3 o (((hp_px (hp_tk b n) (hpc b n) (N' + 1) 3 o (k, -1)).1 + 1), -1)).2 = -1 then 0 else 1) fa56) 102 [(2, hv 0), (1, hv z51), (0, .ref 80)] [hv z56]
          refine jr_istore_n R1 d_156_102 (by decide) (lo' := [(3, hv z56), (2, hv 0), (1, hv z51), (0, .ref 80)]) rfl ?_
          refine jr_iload_n R1 d_156_103 rfl ?_
          refine jr_ifc R1 true d_156_104 (by first | assumption | exact hg _ | exact hS _ | exact hV _ | exact hP _ | exact hT _ | exact ⟨by omega, by omega⟩) (by unfold hcb; first | exact decide_eq_true (by omega) | exact decide_eq_false (by omega)) (by decide) (pc' := 115) rfl ?_
          refine jr_iload_n R1 d_156_115 rfl ?_
          refine jr_iload_n R1 d_156_116 rfl ?_
          by_cases h4 : z51 = z56
          · refine jr_icmp R1 false d_156_117 (by first | assumption | exact hg _ | exact hS _ | exact hV _ | exact hP _ | exact hT _ | exact ⟨by omega, by omega⟩) (by first | assumption | exact hg _ | exact hS _ | exact hV _ | exact hP _ | exact hT _ | exact ⟨by omega, by omega⟩) (by unfold hcb; first | exact decide_eq_true (by omega) | exact decide_eq_false (by omega)) (by decide) (pc' := 120) rfl ?_
            refine jr_iconst R1 d_156_120 ?_
            refine jr_goto R1 d_156_121 (by decide) (pc' := 125) rfl ?_
            refine jr_reti R3 d_156_125 rfl ?_
            have hsE : (hp_px (hp_tk b n) (hpc b n) (N' + 1) 3 o (k, -1)) = ((hp_px (hp_tk b n) (hpc b n) (N' + 1) 3 o (k, -1)).1, -1) := Prod.ext rfl hS51
            have e := hx_two (tkf := hp_tk b n) (pcf := hpc b n) (N := N') (q := o) (k := (hp_px (hp_tk b n) (hpc b n) (N' + 1) 3 o (k, -1)).1) (by unfold hp_jb; simp; omega)
            rw [← hsE] at e
            rw [hx_lev (by omega) (by omega)]
            show mq C A U Z tc tp fr n b o (hp_px (hp_tk b n) (hpc b n) (N' + 1) 8 o (hp_px (hp_tk b n) (hpc b n) (N' + 1) 3 o (k, -1))) _ _
            rw [e]
            exact mq_any _ hm56 hfa56 hfe56
          · refine jr_icmp R1 true d_156_117 (by first | assumption | exact hg _ | exact hS _ | exact hV _ | exact hP _ | exact hT _ | exact ⟨by omega, by omega⟩) (by first | assumption | exact hg _ | exact hS _ | exact hV _ | exact hP _ | exact hT _ | exact ⟨by omega, by omega⟩) (by unfold hcb; first | exact decide_eq_true (by omega) | exact decide_eq_false (by omega)) (by decide) (pc' := 124) rfl ?_
            refine jr_iconst R1 d_156_124 ?_
            refine jr_reti R3 d_156_125 rfl ?_
            have hsE : (hp_px (hp_tk b n) (hpc b n) (N' + 1) 3 o (k, -1)) = ((hp_px (hp_tk b n) (hpc b n) (N' + 1) 3 o (k, -1)).1, -1) := Prod.ext rfl hS51
            have e := hx_two (tkf := hp_tk b n) (pcf := hpc b n) (N := N') (q := o) (k := (hp_px (hp_tk b n) (hpc b n) (N' + 1) 3 o (k, -1)).1) (by unfold hp_jb; simp; omega)
            rw [← hsE] at e
            rw [hx_lev (by omega) (by omega)]
            show mq C A U Z tc tp fr n b o (hp_px (hp_tk b n) (hpc b n) (N' + 1) 8 o (hp_px (hp_tk b n) (hpc b n) (N' + 1) 3 o (k, -1))) _ _
            rw [e]
            exact mq_any _ hm56 hfa56 hfe56
      · skip
        refine jr_callv R2 d_156_60 (by decide) rfl (as := [.ref 80, hv 60]) (rest := []) rfl (by unfold mj_rc; rw [show (_ : List Value).headD _ = .ref 80 from rfl]; simp only [md_80 hC]; decide) (hm_isSign (d := 1) (by omega) hC (Or.inl rfl) hm51.2.2.1 hm51.2.2.2 ⟨by omega, by omega⟩) (by omega) (Nat.le_of_ble_eq_true rfl) ?_
        rintro rv M9 ⟨rfl, rfl⟩
        rw [if_neg (fun z => hs52_60 ((mt_sg hm51 rfl).mp z.2))]
        show J 0 0 (md C A U Z tc tp ((fr : Int)) ((n : Int)) ((q51 : Int)) to51 (hpc b n (hp_px (hp_tk b n) (hpc b n) (N' + 1) 3 o (k, -1)).1) wo51 ((o : Int)) 0 fa51) 63 [(1, hv z51), (0, .ref 80)] [hv 0]
        refine jr_ifc R1 false d_156_63 (by first | assumption | exact hg _ | exact hS _ | exact hV _ | exact hP _ | exact hT _ | exact ⟨by omega, by omega⟩) (by unfold hcb; first | exact decide_eq_true (by omega) | exact decide_eq_false (by omega)) (by decide) (pc' := 66) rfl ?_
        refine jr_aload_n R1 d_156_66 rfl ?_
        refine jr_bipush R1 d_156_67 (by decide) ?_
        by_cases hs57_61 : hp_tk b n ((hp_px (hp_tk b n) (hpc b n) (N' + 1) 3 o (k, -1)).1) = 61
        · skip
          refine jr_callv R2 d_156_69 (by decide) rfl (as := [.ref 80, hv 61]) (rest := []) rfl (by unfold mj_rc; rw [show (_ : List Value).headD _ = .ref 80 from rfl]; simp only [md_80 hC]; decide) (hm_isSign (d := 1) (by omega) hC (Or.inl rfl) hm51.2.2.1 hm51.2.2.2 ⟨by omega, by omega⟩) (by omega) (Nat.le_of_ble_eq_true rfl) ?_
          rintro rv M9 ⟨rfl, rfl⟩
          rw [if_pos ⟨rfl, (mt_sg hm51 rfl).mpr hs57_61⟩]
          show J 0 0 (md C A U Z tc tp ((fr : Int)) ((n : Int)) ((q51 : Int)) to51 (hpc b n (hp_px (hp_tk b n) (hpc b n) (N' + 1) 3 o (k, -1)).1) wo51 ((o : Int)) 0 fa51) 72 [(1, hv z51), (0, .ref 80)] [hv 1]
          refine jr_ifc R1 true d_156_72 (by first | assumption | exact hg _ | exact hS _ | exact hV _ | exact hP _ | exact hT _ | exact ⟨by omega, by omega⟩) (by unfold hcb; first | exact decide_eq_true (by omega) | exact decide_eq_false (by omega)) (by decide) (pc' := 77) rfl ?_
          refine jr_aload_n R1 d_156_77 rfl ?_
          refine jr_getf R1 d_156_78 (md_80 hC) (by decide) rfl ?_
          refine jl_ldc (z := 60) R1 d_156_81 (by decide) rfl ?_
          by_cases h5 : wo51 = 60
          · refine jl_if R1 false (by first | assumption | exact ⟨by omega, by omega⟩ | exact hR_hr (by assumption) | exact hR_hr (hg _)) (by first | assumption | exact ⟨by omega, by omega⟩ | exact hR_hr (by assumption) | exact hR_hr (hg _)) d_156_84 d_156_85 (by unfold hcb; first | exact decide_eq_true (by omega) | exact decide_eq_false (by omega)) (by decide) (pc' := 88) rfl ?_
            refine jr_iconst R1 d_156_88 ?_
            refine jr_goto R1 d_156_89 (by decide) (pc' := 93) rfl ?_
            refine jr_istore_n R1 d_156_93 (by decide) (lo' := [(2, hv 1), (1, hv z51), (0, .ref 80)]) rfl ?_
            refine jr_aload_n R1 d_156_94 rfl ?_
            refine jr_callv R2 d_156_95 (by decide) rfl (as := [.ref 80]) (rest := []) rfl (by unfold mj_rc; rw [show (_ : List Value).headD _ = .ref 80 from rfl]; simp only [md_80 hC]; decide) (hm_next (d := 2) (x := q51) (p := hp_P b n ((hp_px (hp_tk b n) (hpc b n) (N' + 1) 3 o (k, -1)).1 + 1)) (by omega) hC hTx hg hb hfr hn9 hb0 (mt_qn hm51) (mt_nx hm51 (by omega)) hm51.2.2.2) (by omega) (Nat.le_of_ble_eq_true rfl) ?_
            rintro rv M9 ⟨rfl, he9, to58, wo58, hmp9, hbd9, rfl⟩
            obtain ⟨q58, rfl⟩ := mbd_q hbd9
            have hm58 : mt b n ((hp_px (hp_tk b n) (hpc b n) (N' + 1) 3 o (k, -1)).1 + 1) q58 to58 wo58 := ⟨hmp9, hbd9⟩
            show J 0 0 (md C A U Z tc tp ((fr : Int)) ((n : Int)) ((q58 : Int)) to58 (hpc b n ((hp_px (hp_tk b n) (hpc b n) (N' + 1) 3 o (k, -1)).1 + 1)) wo58 ((o : Int)) 0 fa51) 98 [(2, hv 1), (1, hv z51), (0, .ref 80)] []
            refine jr_aload_n R1 d_156_98 rfl ?_
            have hlt51 := hok51.2.2.1 hS51 (by omega)
            simp only at hlt51
            refine jr_callv R2 d_156_99 (by decide) rfl (as := [.ref 80]) (rest := []) rfl (by unfold mj_rc; rw [show (_ : List Value).headD _ = .ref 80 from rfl]; simp only [md_80 hC]; decide) (hD N' (by omega) (10 - 3 + 7 * (5 - o)) o ((hp_px (hp_tk b n) (hpc b n) (N' + 1) 3 o (k, -1)).1 + 1) _ _ _ _ (by omega) (mt_kT hok51.2.1 (by omega)) hm58 hfa51 (by rw [hx_fu (by omega)]; omega) (Nat.le_refl _)) (by omega) (Nat.le_of_ble_eq_true rfl) ?_
            rintro rv M9 ⟨⟨z59, hz59, rfl⟩, q59, to59, wo59, fa59, hm59, hfa59, hfe59, rfl⟩
            have hok59 := hp_px_ok (tk := hp_tk b n) (pc := hpc b n) (T := hp_T b n) (fun j hj => hp_tk_T hj) hpc_0 N' 3 o (((hp_px (hp_tk b n) (hpc b n) (N' + 1) 3 o (k, -1)).1 + 1), -1) (by omega) (mt_kT hok51.2.1 (by omega)) rfl (by rw [hx_fu (by omega)]; simp only; omega)
            have hwo59_ := hm59.2.2.2
            show J 0 0 (md C A U Z tc tp ((fr : Int)) ((n : Int)) ((q59 : Int)) to59 (hpc b n (hp_px (hp_tk b n) (hpc b n) N' 3 o (((hp_px (hp_tk b n) (hpc b n) (N' + 1) 3 o (k, -1)).1 + 1), -1)).1) wo59 ((o : Int)) (if (hp_px (hp_tk b n) (hpc b n) N' 3 o (((hp_px (hp_tk b n) (hpc b n) (N' + 1) 3 o (k, -1)).1 + 1), -1)).2 = -1 then 0 else 1) fa59) 102 [(2, hv 1), (1, hv z51), (0, .ref 80)] [hv z59]
            refine jr_istore_n R1 d_156_102 (by decide) (lo' := [(3, hv z59), (2, hv 1), (1, hv z51), (0, .ref 80)]) rfl ?_
            refine jr_iload_n R1 d_156_103 rfl ?_
            refine jr_ifc R1 false d_156_104 (by first | assumption | exact hg _ | exact hS _ | exact hV _ | exact hP _ | exact hT _ | exact ⟨by omega, by omega⟩) (by unfold hcb; first | exact decide_eq_true (by omega) | exact decide_eq_false (by omega)) (by decide) (pc' := 107) rfl ?_
            refine jr_iload_n R1 d_156_107 rfl ?_
            refine jr_iload_n R1 d_156_108 rfl ?_
            by_cases h6 : z51 < z59
            · refine jr_icmp R1 false d_156_109 (by first | assumption | exact hg _ | exact hS _ | exact hV _ | exact hP _ | exact hT _ | exact ⟨by omega, by omega⟩) (by first | assumption | exact hg _ | exact hS _ | exact hV _ | exact hP _ | exact hT _ | exact ⟨by omega, by omega⟩) (by unfold hcb; first | exact decide_eq_true (by omega) | exact decide_eq_false (by omega)) (by decide) (pc' := 112) rfl ?_
              refine jr_goto R1 d_156_112 (by decide) (pc' := 120) rfl ?_
              refine jr_iconst R1 d_156_120 ?_
              refine jr_goto R1 d_156_121 (by decide) (pc' := 125) rfl ?_
              refine jr_reti R3 d_156_125 rfl ?_
              have hsE : (hp_px (hp_tk b n) (hpc b n) (N' + 1) 3 o (k, -1)) = ((hp_px (hp_tk b n) (hpc b n) (N' + 1) 3 o (k, -1)).1, -1) := Prod.ext rfl hS51
              have e := hx_two (tkf := hp_tk b n) (pcf := hpc b n) (N := N') (q := o) (k := (hp_px (hp_tk b n) (hpc b n) (N' + 1) 3 o (k, -1)).1) (by unfold hp_jb; simp; omega)
              rw [← hsE] at e
              rw [hx_lev (by omega) (by omega)]
              show mq C A U Z tc tp fr n b o (hp_px (hp_tk b n) (hpc b n) (N' + 1) 8 o (hp_px (hp_tk b n) (hpc b n) (N' + 1) 3 o (k, -1))) _ _
              rw [e]
              exact mq_any _ hm59 hfa59 hfe59
            · refine jr_icmp R1 true d_156_109 (by first | assumption | exact hg _ | exact hS _ | exact hV _ | exact hP _ | exact hT _ | exact ⟨by omega, by omega⟩) (by first | assumption | exact hg _ | exact hS _ | exact hV _ | exact hP _ | exact hT _ | exact ⟨by omega, by omega⟩) (by unfold hcb; first | exact decide_eq_true (by omega) | exact decide_eq_false (by omega)) (by decide) (pc' := 124) rfl ?_
              refine jr_iconst R1 d_156_124 ?_
              refine jr_reti R3 d_156_125 rfl ?_
              have hsE : (hp_px (hp_tk b n) (hpc b n) (N' + 1) 3 o (k, -1)) = ((hp_px (hp_tk b n) (hpc b n) (N' + 1) 3 o (k, -1)).1, -1) := Prod.ext rfl hS51
              have e := hx_two (tkf := hp_tk b n) (pcf := hpc b n) (N := N') (q := o) (k := (hp_px (hp_tk b n) (hpc b n) (N' + 1) 3 o (k, -1)).1) (by unfold hp_jb; simp; omega)
              rw [← hsE] at e
              rw [hx_lev (by omega) (by omega)]
              show mq C A U Z tc tp fr n b o (hp_px (hp_tk b n) (hpc b n) (N' + 1) 8 o (hp_px (hp_tk b n) (hpc b n) (N' + 1) 3 o (k, -1))) _ _
              rw [e]
              exact mq_any _ hm59 hfa59 hfe59
          · refine jl_if R1 true (by first | assumption | exact ⟨by omega, by omega⟩ | exact hR_hr (by assumption) | exact hR_hr (hg _)) (by first | assumption | exact ⟨by omega, by omega⟩ | exact hR_hr (by assumption) | exact hR_hr (hg _)) d_156_84 d_156_85 (by unfold hcb; first | exact decide_eq_true (by omega) | exact decide_eq_false (by omega)) (by decide) (pc' := 92) rfl ?_
            refine jr_iconst R1 d_156_92 ?_
            refine jr_istore_n R1 d_156_93 (by decide) (lo' := [(2, hv 0), (1, hv z51), (0, .ref 80)]) rfl ?_
            refine jr_aload_n R1 d_156_94 rfl ?_
            refine jr_callv R2 d_156_95 (by decide) rfl (as := [.ref 80]) (rest := []) rfl (by unfold mj_rc; rw [show (_ : List Value).headD _ = .ref 80 from rfl]; simp only [md_80 hC]; decide) (hm_next (d := 2) (x := q51) (p := hp_P b n ((hp_px (hp_tk b n) (hpc b n) (N' + 1) 3 o (k, -1)).1 + 1)) (by omega) hC hTx hg hb hfr hn9 hb0 (mt_qn hm51) (mt_nx hm51 (by omega)) hm51.2.2.2) (by omega) (Nat.le_of_ble_eq_true rfl) ?_
            rintro rv M9 ⟨rfl, he9, to60, wo60, hmp9, hbd9, rfl⟩
            obtain ⟨q60, rfl⟩ := mbd_q hbd9
            have hm60 : mt b n ((hp_px (hp_tk b n) (hpc b n) (N' + 1) 3 o (k, -1)).1 + 1) q60 to60 wo60 := ⟨hmp9, hbd9⟩
            show J 0 0 (md C A U Z tc tp ((fr : Int)) ((n : Int)) ((q60 : Int)) to60 (hpc b n ((hp_px (hp_tk b n) (hpc b n) (N' + 1) 3 o (k, -1)).1 + 1)) wo60 ((o : Int)) 0 fa51) 98 [(2, hv 0), (1, hv z51), (0, .ref 80)] []
            refine jr_aload_n R1 d_156_98 rfl ?_
            have hlt51 := hok51.2.2.1 hS51 (by omega)
            simp only at hlt51
            refine jr_callv R2 d_156_99 (by decide) rfl (as := [.ref 80]) (rest := []) rfl (by unfold mj_rc; rw [show (_ : List Value).headD _ = .ref 80 from rfl]; simp only [md_80 hC]; decide) (hD N' (by omega) (10 - 3 + 7 * (5 - o)) o ((hp_px (hp_tk b n) (hpc b n) (N' + 1) 3 o (k, -1)).1 + 1) _ _ _ _ (by omega) (mt_kT hok51.2.1 (by omega)) hm60 hfa51 (by rw [hx_fu (by omega)]; omega) (Nat.le_refl _)) (by omega) (Nat.le_of_ble_eq_true rfl) ?_
            rintro rv M9 ⟨⟨z61, hz61, rfl⟩, q61, to61, wo61, fa61, hm61, hfa61, hfe61, rfl⟩
            have hok61 := hp_px_ok (tk := hp_tk b n) (pc := hpc b n) (T := hp_T b n) (fun j hj => hp_tk_T hj) hpc_0 N' 3 o (((hp_px (hp_tk b n) (hpc b n) (N' + 1) 3 o (k, -1)).1 + 1), -1) (by omega) (mt_kT hok51.2.1 (by omega)) rfl (by rw [hx_fu (by omega)]; simp only; omega)
            have hwo61_ := hm61.2.2.2
            show J 0 0 (md C A U Z tc tp ((fr : Int)) ((n : Int)) ((q61 : Int)) to61 (hpc b n (hp_px (hp_tk b n) (hpc b n) N' 3 o (((hp_px (hp_tk b n) (hpc b n) (N' + 1) 3 o (k, -1)).1 + 1), -1)).1) wo61 ((o : Int)) (if (hp_px (hp_tk b n) (hpc b n) N' 3 o (((hp_px (hp_tk b n) (hpc b n) (N' + 1) 3 o (k, -1)).1 + 1), -1)).2 = -1 then 0 else 1) fa61) 102 [(2, hv 0), (1, hv z51), (0, .ref 80)] [hv z61]
            refine jr_istore_n R1 d_156_102 (by decide) (lo' := [(3, hv z61), (2, hv 0), (1, hv z51), (0, .ref 80)]) rfl ?_
            refine jr_iload_n R1 d_156_103 rfl ?_
            refine jr_ifc R1 true d_156_104 (by first | assumption | exact hg _ | exact hS _ | exact hV _ | exact hP _ | exact hT _ | exact ⟨by omega, by omega⟩) (by unfold hcb; first | exact decide_eq_true (by omega) | exact decide_eq_false (by omega)) (by decide) (pc' := 115) rfl ?_
            refine jr_iload_n R1 d_156_115 rfl ?_
            refine jr_iload_n R1 d_156_116 rfl ?_
            by_cases h7 : z51 = z61
            · refine jr_icmp R1 false d_156_117 (by first | assumption | exact hg _ | exact hS _ | exact hV _ | exact hP _ | exact hT _ | exact ⟨by omega, by omega⟩) (by first | assumption | exact hg _ | exact hS _ | exact hV _ | exact hP _ | exact hT _ | exact ⟨by omega, by omega⟩) (by unfold hcb; first | exact decide_eq_true (by omega) | exact decide_eq_false (by omega)) (by decide) (pc' := 120) rfl ?_
              refine jr_iconst R1 d_156_120 ?_
              refine jr_goto R1 d_156_121 (by decide) (pc' := 125) rfl ?_
              refine jr_reti R3 d_156_125 rfl ?_
              have hsE : (hp_px (hp_tk b n) (hpc b n) (N' + 1) 3 o (k, -1)) = ((hp_px (hp_tk b n) (hpc b n) (N' + 1) 3 o (k, -1)).1, -1) := Prod.ext rfl hS51
              have e := hx_two (tkf := hp_tk b n) (pcf := hpc b n) (N := N') (q := o) (k := (hp_px (hp_tk b n) (hpc b n) (N' + 1) 3 o (k, -1)).1) (by unfold hp_jb; simp; omega)
              rw [← hsE] at e
              rw [hx_lev (by omega) (by omega)]
              show mq C A U Z tc tp fr n b o (hp_px (hp_tk b n) (hpc b n) (N' + 1) 8 o (hp_px (hp_tk b n) (hpc b n) (N' + 1) 3 o (k, -1))) _ _
              rw [e]
              exact mq_any _ hm61 hfa61 hfe61
            · refine jr_icmp R1 true d_156_117 (by first | assumption | exact hg _ | exact hS _ | exact hV _ | exact hP _ | exact hT _ | exact ⟨by omega, by omega⟩) (by first | assumption | exact hg _ | exact hS _ | exact hV _ | exact hP _ | exact hT _ | exact ⟨by omega, by omega⟩) (by unfold hcb; first | exact decide_eq_true (by omega) | exact decide_eq_false (by omega)) (by decide) (pc' := 124) rfl ?_
              refine jr_iconst R1 d_156_124 ?_
              refine jr_reti R3 d_156_125 rfl ?_
              have hsE : (hp_px (hp_tk b n) (hpc b n) (N' + 1) 3 o (k, -1)) = ((hp_px (hp_tk b n) (hpc b n) (N' + 1) 3 o (k, -1)).1, -1) := Prod.ext rfl hS51
              have e := hx_two (tkf := hp_tk b n) (pcf := hpc b n) (N := N') (q := o) (k := (hp_px (hp_tk b n) (hpc b n) (N' + 1) 3 o (k, -1)).1) (by unfold hp_jb; simp; omega)
              rw [← hsE] at e
              rw [hx_lev (by omega) (by omega)]
              show mq C A U Z tc tp fr n b o (hp_px (hp_tk b n) (hpc b n) (N' + 1) 8 o (hp_px (hp_tk b n) (hpc b n) (N' + 1) 3 o (k, -1))) _ _
              rw [e]
              exact mq_any _ hm61 hfa61 hfe61
        · skip
          refine jr_callv R2 d_156_69 (by decide) rfl (as := [.ref 80, hv 61]) (rest := []) rfl (by unfold mj_rc; rw [show (_ : List Value).headD _ = .ref 80 from rfl]; simp only [md_80 hC]; decide) (hm_isSign (d := 1) (by omega) hC (Or.inl rfl) hm51.2.2.1 hm51.2.2.2 ⟨by omega, by omega⟩) (by omega) (Nat.le_of_ble_eq_true rfl) ?_
          rintro rv M9 ⟨rfl, rfl⟩
          rw [if_neg (fun z => hs57_61 ((mt_sg hm51 rfl).mp z.2))]
          show J 0 0 (md C A U Z tc tp ((fr : Int)) ((n : Int)) ((q51 : Int)) to51 (hpc b n (hp_px (hp_tk b n) (hpc b n) (N' + 1) 3 o (k, -1)).1) wo51 ((o : Int)) 0 fa51) 72 [(1, hv z51), (0, .ref 80)] [hv 0]
          refine jr_ifc R1 false d_156_72 (by first | assumption | exact hg _ | exact hS _ | exact hV _ | exact hP _ | exact hT _ | exact ⟨by omega, by omega⟩) (by unfold hcb; first | exact decide_eq_true (by omega) | exact decide_eq_false (by omega)) (by decide) (pc' := 75) rfl ?_
          refine jr_iload_n R1 d_156_75 rfl ?_
          refine jr_reti R3 d_156_76 rfl ?_
          have hsE : (hp_px (hp_tk b n) (hpc b n) (N' + 1) 3 o (k, -1)) = ((hp_px (hp_tk b n) (hpc b n) (N' + 1) 3 o (k, -1)).1, -1) := Prod.ext rfl hS51
          have e := hx_stop (tkf := hp_tk b n) (pcf := hpc b n) (N := N') (l := 2) (q := o) (k := (hp_px (hp_tk b n) (hpc b n) (N' + 1) 3 o (k, -1)).1) (by omega) (by unfold hp_jb; simp; omega)
          rw [← hsE] at e
          rw [hx_lev (by omega) (by omega), e]
          exact mq_ok _ hm51 hfa51 hS51
    · skip
      refine jr_callv R2 d_156_53 (by decide) rfl (as := [.ref 80]) (rest := []) rfl (by unfold mj_rc; rw [show (_ : List Value).headD _ = .ref 80 from rfl]; simp only [md_80 hC]; decide) (hD (N' + 1) (by omega) (10 - 3 + 7 * (5 - o)) o k _ _ _ _ (by omega) hk hm hfa (by rw [hx_fu (by omega)]; omega) (Nat.le_refl _)) (by omega) (Nat.le_of_ble_eq_true rfl) ?_
      rintro rv M9 ⟨⟨z51, hz51, rfl⟩, q51, to51, wo51, fa51, hm51, hfa51, hfe51, rfl⟩
      have hok51 := hp_px_ok (tk := hp_tk b n) (pc := hpc b n) (T := hp_T b n) (fun j hj => hp_tk_T hj) hpc_0 (N' + 1) 3 o (k, -1) (by omega) hk rfl (by rw [hx_fu (by omega)]; simp only; omega)
      have hwo51_ := hm51.2.2.2
      rw [if_neg hS51]
      show J 0 0 (md C A U Z tc tp ((fr : Int)) ((n : Int)) ((q51 : Int)) to51 (hpc b n (hp_px (hp_tk b n) (hpc b n) (N' + 1) 3 o (k, -1)).1) wo51 ((o : Int)) 1 fa51) 56 [(0, .ref 80)] [hv z51]
      refine jr_istore_n R1 d_156_56 (by decide) (lo' := [(1, hv z51), (0, .ref 80)]) rfl ?_
      refine jr_aload_n R1 d_156_57 rfl ?_
      refine jr_bipush R1 d_156_58 (by decide) ?_
      refine jr_callv R2 d_156_60 (by decide) rfl (as := [.ref 80, hv 60]) (rest := []) rfl (by unfold mj_rc; rw [show (_ : List Value).headD _ = .ref 80 from rfl]; simp only [md_80 hC]; decide) (hm_isSign (d := 1) (by omega) hC (Or.inr rfl) hm51.2.2.1 hm51.2.2.2 ⟨by omega, by omega⟩) (by omega) (Nat.le_of_ble_eq_true rfl) ?_
      rintro rv M9 ⟨rfl, rfl⟩
      rw [if_neg (fun z => absurd z.1 (by decide))]
      show J 0 0 (md C A U Z tc tp ((fr : Int)) ((n : Int)) ((q51 : Int)) to51 (hpc b n (hp_px (hp_tk b n) (hpc b n) (N' + 1) 3 o (k, -1)).1) wo51 ((o : Int)) 1 fa51) 63 [(1, hv z51), (0, .ref 80)] [hv 0]
      refine jr_ifc R1 false d_156_63 (by first | assumption | exact hg _ | exact hS _ | exact hV _ | exact hP _ | exact hT _ | exact ⟨by omega, by omega⟩) (by unfold hcb; first | exact decide_eq_true (by omega) | exact decide_eq_false (by omega)) (by decide) (pc' := 66) rfl ?_
      refine jr_aload_n R1 d_156_66 rfl ?_
      refine jr_bipush R1 d_156_67 (by decide) ?_
      refine jr_callv R2 d_156_69 (by decide) rfl (as := [.ref 80, hv 61]) (rest := []) rfl (by unfold mj_rc; rw [show (_ : List Value).headD _ = .ref 80 from rfl]; simp only [md_80 hC]; decide) (hm_isSign (d := 1) (by omega) hC (Or.inr rfl) hm51.2.2.1 hm51.2.2.2 ⟨by omega, by omega⟩) (by omega) (Nat.le_of_ble_eq_true rfl) ?_
      rintro rv M9 ⟨rfl, rfl⟩
      rw [if_neg (fun z => absurd z.1 (by decide))]
      show J 0 0 (md C A U Z tc tp ((fr : Int)) ((n : Int)) ((q51 : Int)) to51 (hpc b n (hp_px (hp_tk b n) (hpc b n) (N' + 1) 3 o (k, -1)).1) wo51 ((o : Int)) 1 fa51) 72 [(1, hv z51), (0, .ref 80)] [hv 0]
      refine jr_ifc R1 false d_156_72 (by first | assumption | exact hg _ | exact hS _ | exact hV _ | exact hP _ | exact hT _ | exact ⟨by omega, by omega⟩) (by unfold hcb; first | exact decide_eq_true (by omega) | exact decide_eq_false (by omega)) (by decide) (pc' := 75) rfl ?_
      refine jr_iload_n R1 d_156_75 rfl ?_
      refine jr_reti R3 d_156_76 rfl ?_
      rw [hx_lev (by omega) (by omega), hp_px_f hS51]
      exact mq_bad _ hm51 hfa51 hS51 (hfe51 hS51)
theorem mk_par {lch : Launch} {C : mj_M} {A : Nat → Value} {U : Nat → Int} {Z : List Value} {g b : Nat → Int} {fr n : Nat} {tc tp : Int} (hC : 84 ≤ C.length) (hTx : C[81]? = some (hA 0 960 g)) (hg : ∀ j, hr (b j)) (hb : ∀ j, j < n → b j = g (fr + j)) (hfr : fr + n ≤ 960) (hn9 : n ≤ 160) (hb0 : ∀ j, j < n → 0 ≤ b j ∧ b j ≤ 255) : ∀ N : Nat, (mg lch C A U Z tc tp fr n b N 5 107 ∧ mg lch C A U Z tc tp fr n b N 4 172 ∧ mg lch C A U Z tc tp fr n b N 3 105) ∧ (mg lch C A U Z tc tp fr n b N 2 156 ∧ mg lch C A U Z tc tp fr n b N 1 112 ∧ mg lch C A U Z tc tp fr n b N 0 123) := by
  intro N
  induction N using Nat.strongRecOn with
  | ind N ih =>
    cases N with
    | zero =>
      have hno : ∀ m i, m ≤ 5 → mg lch C A U Z tc tp fr n b 0 m i := fun m i hm5 d o k q to wo fa ho hk hm hfa hfu hd => by
        exfalso
        rw [hx_fu hm5] at hfu
        omega
      exact ⟨⟨hno 5 _ (by omega), hno 4 _ (by omega), hno 3 _ (by omega)⟩, hno 2 _ (by omega), hno 1 _ (by omega), hno 0 _ (by omega)⟩
    | succ N =>
      have h := fun N' (h : N' ≤ N) => ih N' (Nat.lt_succ_of_le h)
      exact ⟨⟨mk_atom hC hTx hg hb hfr hn9 hb0 (h N (Nat.le_refl _)).1.1 (h N (Nat.le_refl _)).2.2.2, mk_lev4 hC hTx hg hb hfr hn9 hb0 (fun N' g => (h N' g).1.1), mk_lev3 hC hTx hg hb hfr hn9 hb0 (fun N' g => (h N' g).1.2.1)⟩, mk_lev2 hC hTx hg hb hfr hn9 hb0 (fun N' g => (h N' g).1.2.2) (fun N' g => (h N' g).2.1), mk_lev1 hC hTx hg hb hfr hn9 hb0 (fun N' g => (h N' g).2.1), mk_lev0 hC hTx hg hb hfr hn9 hb0 (fun N' g => (h N' g).2.2.1)⟩
