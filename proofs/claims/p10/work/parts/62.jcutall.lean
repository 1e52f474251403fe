/-! CUT -/
theorem hp_cs_bd {g : Nat → Int} {n p : Nat} : 0 ≤ hp_cs g n p ∧ hp_cs g n p ≤ 303 := by
  unfold hp_cs
  have := hp_wd_le (b := g) (p := p) (q := hp_rn hp_lt g n p)
  split
  · omega
  · split
    · split
      · omega
      · split <;> omega
    · split
      · split <;> omega
      · split
        · rename_i h
          unfold hp_sg at h
          simp only [Bool.or_eq_true, decide_eq_true_eq] at h
          omega
        · omega
theorem hp_cs_end {g : Nat → Int} {n : Nat} : hp_cs g n n = 302 := by
  unfold hp_cs
  rw [if_pos (Nat.le_refl _)]
theorem hp_T_eq {g : Nat → Int} {n k : Nat} (h : ∀ j, j < k → hp_P g n j < n) (h2 : hp_P g n k = n) : hp_T g n = k := by
  have h3 := hp_T_P (b := g) (n := n) (Nat.le_refl (hp_T g n))
  by_cases e : hp_T g n < k
  · have := h _ e
    omega
  · by_cases e2 : k < hp_T g n
    · have := hp_T_lt e2
      omega
    · omega
/-- the tokens so far -/
def hz (g : Nat → Int) (n k : Nat) (S P : Nat → Int) : Prop := (∀ j, j < k → S j = hp_tk g n j) ∧ (∀ j, j < k → P j = (hp_P g n j : Int)) ∧ (∀ j, hr (S j)) ∧ (∀ j, hr (P j)) ∧ ∀ j, j < 161 → 0 ≤ P j ∧ P j ≤ 160
theorem hz_push {g : Nat → Int} {n k i : Nat} {S P : Nat → Int} {x : Int} (h : hz g n k S P) (hi : hp_P g n k = i) (hi2 : i ≤ 160) (hx : x = hp_cs g n i) : hz g n (k + 1) (hu S ((k : Nat) : Int).toNat x) (hu P ((k : Nat) : Int).toNat (i : Int)) := by
  obtain ⟨a, b, c, d, f⟩ := h
  have hb := hp_cs_bd (g := g) (n := n) (p := i)
  refine ⟨fun j hj => ?_, fun j hj => ?_, fun j => ?_, fun j => ?_, fun j hj => ?_⟩
  · unfold hu
    by_cases e : j = k
    · rw [if_pos (by rw [e]; rfl), e, hx, ← hi]; rfl
    · rw [if_neg (show ¬ j = ((k : Nat) : Int).toNat from e)]; exact a j (by omega)
  · unfold hu
    by_cases e : j = k
    · rw [if_pos (by rw [e]; rfl), e, hi]
    · rw [if_neg (show ¬ j = ((k : Nat) : Int).toNat from e)]; exact b j (by omega)
  · unfold hu
    split
    · rw [hx]; exact ⟨by omega, by omega⟩
    · exact c j
  · unfold hu
    split
    · exact ⟨by omega, by omega⟩
    · exact d j
  · unfold hu
    split
    · omega
    · exact f j hj
theorem hp_cs_dg {g : Nat → Int} {n i : Nat} (h : i < n) (hd : hp_dg (g i) = true) : (if 4 < hp_rn hp_dg g n i - i then (303 : Int) else 301) = hp_cs g n i := by
  conv => rhs; unfold hp_cs
  have hl : ¬ hp_lt (g i) = true := by
    unfold hp_dg at hd
    unfold hp_lt
    simp only [Bool.and_eq_true, decide_eq_true_eq] at hd ⊢
    omega
  rw [if_neg (by omega : ¬ n ≤ i), if_neg hl, if_pos hd]
theorem hp_cs_lt {g : Nat → Int} {n i : Nat} (h : i < n) (hd : hp_lt (g i) = true) : (if hp_wd g i (hp_rn hp_lt g n i) = 12 then (303 : Int) else if hp_wd g i (hp_rn hp_lt g n i) < 6 then 300 else 256 + (hp_wd g i (hp_rn hp_lt g n i) : Int)) = hp_cs g n i := by
  conv => rhs; unfold hp_cs
  rw [if_neg (by omega : ¬ n ≤ i), if_pos hd]
theorem hp_cs_sg {g : Nat → Int} {n i : Nat} (h : i < n) (h1 : ¬ hp_lt (g i) = true) (h2 : ¬ hp_dg (g i) = true) (h3 : hp_sg (g i) = true) : g i = hp_cs g n i := by
  unfold hp_cs
  rw [if_neg (by omega), if_neg h1, if_neg h2, if_pos h3]
theorem hp_cs_wr {g : Nat → Int} {n i : Nat} (h : i < n) (h1 : ¬ hp_lt (g i) = true) (h2 : ¬ hp_dg (g i) = true) (h3 : ¬ hp_sg (g i) = true) : (303 : Int) = hp_cs g n i := by
  unfold hp_cs
  rw [if_neg (by omega), if_neg h1, if_neg h2, if_neg h3]
theorem hp_en_dg {g : Nat → Int} {n i : Nat} (h : i < n) (hd : hp_dg (g i) = true) : hp_en g n i = hp_rn hp_dg g n i := by
  unfold hp_en
  have hl : ¬ hp_lt (g i) = true := by
    unfold hp_dg at hd
    unfold hp_lt
    simp only [Bool.and_eq_true, decide_eq_true_eq] at hd ⊢
    omega
  rw [if_neg (by omega), if_neg hl, if_pos hd]
theorem hp_en_lt {g : Nat → Int} {n i : Nat} (h : i < n) (hd : hp_lt (g i) = true) : hp_en g n i = hp_rn hp_lt g n i := by
  unfold hp_en
  rw [if_neg (by omega), if_pos hd]
theorem hp_en_ot {g : Nat → Int} {n i : Nat} (h : i < n) (h1 : ¬ hp_lt (g i) = true) (h2 : ¬ hp_dg (g i) = true) : hp_en g n i = i + 1 := by
  unfold hp_en
  rw [if_neg (by omega), if_neg h1, if_neg h2]
theorem hc_cut {lch : Launch} {d : Nat} {B : mj_M} {nn : Nat} {g : Nat → Int} {tk at' fl sc : Int} {S P V ST E : Nat → Int} (hd : 8 ≤ d) (hB : 25 ≤ B.length) (hTp : B[19]? = some (hA 0 160 g)) (hg : ∀ j, hr (g j)) (hn9 : nn ≤ 160) (hat : 0 ≤ at' ∧ at' ≤ 160) (hfl : -1 ≤ fl ∧ fl ≤ 160) (hS : ∀ j, hr (S j)) (hP : ∀ j, hr (P j)) (hP9 : ∀ j, j < 161 → 0 ≤ P j ∧ P j ≤ 160) : mj_Me lch 26 d 0 0 [.ref 18] (rd B ((nn : Int)) tk at' fl sc S P V ST E) (fun rv M' => rv = none ∧ ∃ S' P' V' : Nat → Int, hz g nn (hp_T g nn + 1) S' P' ∧ M' = rd B (nn : Int) ((hp_T g nn : Int) + 1) at' fl sc S' P' V' ST E) := by
  refine mj_Me_of4 (by decide) (by omega) (Nat.le_of_ble_eq_true rfl) ?_
  intro L xs J R1 R2 R3 R4
  have hl : ∀ (e i k : Nat) (turn : Int) (S P V : Nat → Int), nn - i ≤ e → i ≤ nn → k ≤ i → (0 ≤ turn ∧ turn ≤ i) → (∀ j, j < k → hp_P g nn j < nn) → hp_rn hp_bl g nn (hp_E g nn k) = hp_rn hp_bl g nn i → hz g nn k S P → J 0 0 (rd B ((nn : Int)) ((k : Int)) at' fl sc S P V ST E) 9 [(2, hv turn), (1, hv ((i : Int))), (0, .ref 18)] [] := by
    intro e
    induction e with
    | zero =>
      intro i k turn S P V he hi hki htu hlt9 hE hzz
      refine jr_iload_n R1 d_26_9 rfl ?_
      refine jr_sipush R1 d_26_10 (by decide) ?_
      by_cases h1 : turn < 160
      · refine jr_icmp R1 false d_26_13 (by first | assumption | exact hg _ | exact hS _ | exact hV _ | exact hP _ | exact hT _ | exact ⟨by omega, by omega⟩) (by first | assumption | exact hg _ | exact hS _ | exact hV _ | exact hP _ | exact hT _ | exact ⟨by omega, by omega⟩) (by unfold hcb; first | exact decide_eq_true (by omega) | exact decide_eq_false (by omega)) (by decide) (pc' := 16) rfl ?_
        refine jr_iload_n R1 d_26_16 rfl ?_
        refine jr_aload_n R1 d_26_17 rfl ?_
        refine jr_getf R1 d_26_18 (rd_18 hB) (by decide) rfl ?_
        refine jr_icmp R1 true d_26_21 (by first | assumption | exact hg _ | exact hS _ | exact hV _ | exact hP _ | exact hT _ | exact ⟨by omega, by omega⟩) (by first | assumption | exact hg _ | exact hS _ | exact hV _ | exact hP _ | exact hT _ | exact ⟨by omega, by omega⟩) (by unfold hcb; first | exact decide_eq_true (by omega) | exact decide_eq_false (by omega)) (by decide) (pc' := 110) rfl ?_
        refine jr_aload_n R1 d_26_110 rfl ?_
        refine jr_sipush R1 d_26_111 (by decide) ?_
        refine jr_aload_n R1 d_26_114 rfl ?_
        refine jr_getf R1 d_26_115 (rd_18 hB) (by decide) rfl ?_
        refine jr_iconst R1 d_26_118 ?_
        refine jr_callv R2 d_26_119 (by decide) rfl (as := [.ref 18, hv 302, hv ((nn : Int)), hv 0]) (rest := []) rfl (by unfold mj_rc; rw [show (_ : List Value).headD _ = .ref 18 from rfl]; simp only [rd_18 hB]; decide) (hc_token (d := 1) (by omega) hB (by omega) (by omega) (by omega) (by omega)) (by omega) (Nat.le_of_ble_eq_true rfl) ?_
        rintro rv M9 ⟨rfl, rfl⟩
        show J 0 0 (rd B ((nn : Int)) ((k : Int) + 1) at' fl sc ((hu S ((k : Int)).toNat 302)) ((hu P ((k : Int)).toNat ((nn : Int)))) ((hu V ((k : Int)).toNat 0)) ST E) 122 [(2, hv turn), (1, hv ((i : Int))), (0, .ref 18)] []
        refine jr_ret R3 d_26_122 rfl ?_
        have hPk : hp_P g nn k = nn := hE.trans ((hp_rn_out (by omega : nn ≤ i)).trans (by omega))
        have hTk := hp_T_eq hlt9 hPk
        rw [hTk]
        exact ⟨rfl, _, _, _, hz_push hzz (hPk.trans (by omega : nn = nn)) (by omega) hp_cs_end.symm, rfl⟩
      · refine jr_icmp R1 true d_26_13 (by first | assumption | exact hg _ | exact hS _ | exact hV _ | exact hP _ | exact hT _ | exact ⟨by omega, by omega⟩) (by first | assumption | exact hg _ | exact hS _ | exact hV _ | exact hP _ | exact hT _ | exact ⟨by omega, by omega⟩) (by unfold hcb; first | exact decide_eq_true (by omega) | exact decide_eq_false (by omega)) (by decide) (pc' := 110) rfl ?_
        refine jr_aload_n R1 d_26_110 rfl ?_
        refine jr_sipush R1 d_26_111 (by decide) ?_
        refine jr_aload_n R1 d_26_114 rfl ?_
        refine jr_getf R1 d_26_115 (rd_18 hB) (by decide) rfl ?_
        refine jr_iconst R1 d_26_118 ?_
        refine jr_callv R2 d_26_119 (by decide) rfl (as := [.ref 18, hv 302, hv ((nn : Int)), hv 0]) (rest := []) rfl (by unfold mj_rc; rw [show (_ : List Value).headD _ = .ref 18 from rfl]; simp only [rd_18 hB]; decide) (hc_token (d := 1) (by omega) hB (by omega) (by omega) (by omega) (by omega)) (by omega) (Nat.le_of_ble_eq_true rfl) ?_
        rintro rv M9 ⟨rfl, rfl⟩
        show J 0 0 (rd B ((nn : Int)) ((k : Int) + 1) at' fl sc ((hu S ((k : Int)).toNat 302)) ((hu P ((k : Int)).toNat ((nn : Int)))) ((hu V ((k : Int)).toNat 0)) ST E) 122 [(2, hv turn), (1, hv ((i : Int))), (0, .ref 18)] []
        refine jr_ret R3 d_26_122 rfl ?_
        have hPk : hp_P g nn k = nn := hE.trans ((hp_rn_out (by omega : nn ≤ i)).trans (by omega))
        have hTk := hp_T_eq hlt9 hPk
        rw [hTk]
        exact ⟨rfl, _, _, _, hz_push hzz (hPk.trans (by omega : nn = nn)) (by omega) hp_cs_end.symm, rfl⟩
    | succ e ih =>
      intro i k turn S P V he hi hki htu hlt9 hE hzz
      by_cases hlt : i < nn
      · by_cases hb : hp_bl (g i) = true
        · by_cases hb2 : g ((i : Int)).toNat = 32
          · skip
            refine jr_iload_n R1 d_26_9 rfl ?_
            refine jr_sipush R1 d_26_10 (by decide) ?_
            refine jr_icmp R1 false d_26_13 (by first | assumption | exact hg _ | exact hS _ | exact hV _ | exact hP _ | exact hT _ | exact ⟨by omega, by omega⟩) (by first | assumption | exact hg _ | exact hS _ | exact hV _ | exact hP _ | exact hT _ | exact ⟨by omega, by omega⟩) (by unfold hcb; first | exact decide_eq_true (by omega) | exact decide_eq_false (by omega)) (by decide) (pc' := 16) rfl ?_
            refine jr_iload_n R1 d_26_16 rfl ?_
            refine jr_aload_n R1 d_26_17 rfl ?_
            refine jr_getf R1 d_26_18 (rd_18 hB) (by decide) rfl ?_
            refine jr_icmp R1 false d_26_21 (by first | assumption | exact hg _ | exact hS _ | exact hV _ | exact hP _ | exact hT _ | exact ⟨by omega, by omega⟩) (by first | assumption | exact hg _ | exact hS _ | exact hV _ | exact hP _ | exact hT _ | exact ⟨by omega, by omega⟩) (by unfold hcb; first | exact decide_eq_true (by omega) | exact decide_eq_false (by omega)) (by decide) (pc' := 24) rfl ?_
            refine jr_aload_n R1 d_26_24 rfl ?_
            refine jr_getf R1 d_26_25 (rd_18 hB) (by decide) rfl ?_
            refine jr_iload_n R1 d_26_28 rfl ?_
            refine jr_iald R1 d_26_29 (rd_19 hB hTp) (by omega) (by omega) (by decide) ?_
            refine jr_istore_n R1 d_26_30 (by decide) (lo' := [(3, hv (g ((i : Int)).toNat)), (2, hv turn), (1, hv ((i : Int))), (0, .ref 18)]) rfl ?_
            refine jr_iload_n R1 d_26_31 rfl ?_
            refine jr_bipush R1 d_26_32 (by decide) ?_
            refine jr_icmp R1 true d_26_34 (by first | assumption | exact hg _ | exact hS _ | exact hV _ | exact hP _ | exact hT _ | exact ⟨by omega, by omega⟩) (by first | assumption | exact hg _ | exact hS _ | exact hV _ | exact hP _ | exact hT _ | exact ⟨by omega, by omega⟩) (by unfold hcb; first | exact decide_eq_true (by omega) | exact decide_eq_false (by omega)) (by decide) (pc' := 43) rfl ?_
            refine jr_iinc R1 d_26_43 (by decide) rfl (lo' := [(1, hv ((i : Int) + 1)), (3, hv (g ((i : Int)).toNat)), (2, hv turn), (0, .ref 18)]) rfl ?_
            refine jr_goto R1 d_26_46 (by decide) (pc' := 104) rfl ?_
            refine jr_iinc R1 d_26_104 (by decide) rfl (lo' := [(2, hv (turn + 1)), (1, hv ((i : Int) + 1)), (3, hv (g ((i : Int)).toNat)), (0, .ref 18)]) rfl ?_
            refine jr_goto R1 d_26_107 (by decide) (pc' := 9) rfl ?_
            refine R4 0 0 _ 9 _ [(2, hv (turn + 1)), (1, hv ((i : Int) + 1)), (0, .ref 18)] _ (fun z hz => by simp only [List.mem_cons, List.not_mem_nil, or_false] at hz ⊢; rcases hz with rfl | rfl | rfl <;> simp) ?_
            exact ih (i + 1) k (turn + 1) _ _ _ (by omega) (by omega) (by omega) (by omega) hlt9 (by rw [hE, hp_rn_go (by omega) hb]) hzz
          · have hb3 : g ((i : Int)).toNat = 10 := by
              rw [ha_tn] at hb2 ⊢
              unfold hp_bl at hb
              simp only [Bool.or_eq_true, decide_eq_true_eq] at hb
              omega
            refine jr_iload_n R1 d_26_9 rfl ?_
            refine jr_sipush R1 d_26_10 (by decide) ?_
            refine jr_icmp R1 false d_26_13 (by first | assumption | exact hg _ | exact hS _ | exact hV _ | exact hP _ | exact hT _ | exact ⟨by omega, by omega⟩) (by first | assumption | exact hg _ | exact hS _ | exact hV _ | exact hP _ | exact hT _ | exact ⟨by omega, by omega⟩) (by unfold hcb; first | exact decide_eq_true (by omega) | exact decide_eq_false (by omega)) (by decide) (pc' := 16) rfl ?_
            refine jr_iload_n R1 d_26_16 rfl ?_
            refine jr_aload_n R1 d_26_17 rfl ?_
            refine jr_getf R1 d_26_18 (rd_18 hB) (by decide) rfl ?_
            refine jr_icmp R1 false d_26_21 (by first | assumption | exact hg _ | exact hS _ | exact hV _ | exact hP _ | exact hT _ | exact ⟨by omega, by omega⟩) (by first | assumption | exact hg _ | exact hS _ | exact hV _ | exact hP _ | exact hT _ | exact ⟨by omega, by omega⟩) (by unfold hcb; first | exact decide_eq_true (by omega) | exact decide_eq_false (by omega)) (by decide) (pc' := 24) rfl ?_
            refine jr_aload_n R1 d_26_24 rfl ?_
            refine jr_getf R1 d_26_25 (rd_18 hB) (by decide) rfl ?_
            refine jr_iload_n R1 d_26_28 rfl ?_
            refine jr_iald R1 d_26_29 (rd_19 hB hTp) (by omega) (by omega) (by decide) ?_
            refine jr_istore_n R1 d_26_30 (by decide) (lo' := [(3, hv (g ((i : Int)).toNat)), (2, hv turn), (1, hv ((i : Int))), (0, .ref 18)]) rfl ?_
            refine jr_iload_n R1 d_26_31 rfl ?_
            refine jr_bipush R1 d_26_32 (by decide) ?_
            refine jr_icmp R1 false d_26_34 (by first | assumption | exact hg _ | exact hS _ | exact hV _ | exact hP _ | exact hT _ | exact ⟨by omega, by omega⟩) (by first | assumption | exact hg _ | exact hS _ | exact hV _ | exact hP _ | exact hT _ | exact ⟨by omega, by omega⟩) (by unfold hcb; first | exact decide_eq_true (by omega) | exact decide_eq_false (by omega)) (by decide) (pc' := 37) rfl ?_
            refine jr_iload_n R1 d_26_37 rfl ?_
            refine jr_bipush R1 d_26_38 (by decide) ?_
            refine jr_icmp R1 false d_26_40 (by first | assumption | exact hg _ | exact hS _ | exact hV _ | exact hP _ | exact hT _ | exact ⟨by omega, by omega⟩) (by first | assumption | exact hg _ | exact hS _ | exact hV _ | exact hP _ | exact hT _ | exact ⟨by omega, by omega⟩) (by unfold hcb; first | exact decide_eq_true (by omega) | exact decide_eq_false (by omega)) (by decide) (pc' := 43) rfl ?_
            refine jr_iinc R1 d_26_43 (by decide) rfl (lo' := [(1, hv ((i : Int) + 1)), (3, hv (g ((i : Int)).toNat)), (2, hv turn), (0, .ref 18)]) rfl ?_
            refine jr_goto R1 d_26_46 (by decide) (pc' := 104) rfl ?_
            refine jr_iinc R1 d_26_104 (by decide) rfl (lo' := [(2, hv (turn + 1)), (1, hv ((i : Int) + 1)), (3, hv (g ((i : Int)).toNat)), (0, .ref 18)]) rfl ?_
            refine jr_goto R1 d_26_107 (by decide) (pc' := 9) rfl ?_
            refine R4 0 0 _ 9 _ [(2, hv (turn + 1)), (1, hv ((i : Int) + 1)), (0, .ref 18)] _ (fun z hz => by simp only [List.mem_cons, List.not_mem_nil, or_false] at hz ⊢; rcases hz with rfl | rfl | rfl <;> simp) ?_
            exact ih (i + 1) k (turn + 1) _ _ _ (by omega) (by omega) (by omega) (by omega) hlt9 (by rw [hE, hp_rn_go (by omega) hb]) hzz
        · have hn32 : ¬ g ((i : Int)).toNat = 32 := fun z => hb (by rw [ha_tn] at z; unfold hp_bl; rw [z]; rfl)
          have hn10 : ¬ g ((i : Int)).toNat = 10 := fun z => hb (by rw [ha_tn] at z; unfold hp_bl; rw [z]; rfl)
          have hPi : hp_P g nn k = i := hE.trans (hp_rn_no (by simpa using hb))
          by_cases hj : hp_dg (g i) = true
          · skip
            refine jr_iload_n R1 d_26_9 rfl ?_
            refine jr_sipush R1 d_26_10 (by decide) ?_
            refine jr_icmp R1 false d_26_13 (by first | assumption | exact hg _ | exact hS _ | exact hV _ | exact hP _ | exact hT _ | exact ⟨by omega, by omega⟩) (by first | assumption | exact hg _ | exact hS _ | exact hV _ | exact hP _ | exact hT _ | exact ⟨by omega, by omega⟩) (by unfold hcb; first | exact decide_eq_true (by omega) | exact decide_eq_false (by omega)) (by decide) (pc' := 16) rfl ?_
            refine jr_iload_n R1 d_26_16 rfl ?_
            refine jr_aload_n R1 d_26_17 rfl ?_
            refine jr_getf R1 d_26_18 (rd_18 hB) (by decide) rfl ?_
            refine jr_icmp R1 false d_26_21 (by first | assumption | exact hg _ | exact hS _ | exact hV _ | exact hP _ | exact hT _ | exact ⟨by omega, by omega⟩) (by first | assumption | exact hg _ | exact hS _ | exact hV _ | exact hP _ | exact hT _ | exact ⟨by omega, by omega⟩) (by unfold hcb; first | exact decide_eq_true (by omega) | exact decide_eq_false (by omega)) (by decide) (pc' := 24) rfl ?_
            refine jr_aload_n R1 d_26_24 rfl ?_
            refine jr_getf R1 d_26_25 (rd_18 hB) (by decide) rfl ?_
            refine jr_iload_n R1 d_26_28 rfl ?_
            refine jr_iald R1 d_26_29 (rd_19 hB hTp) (by omega) (by omega) (by decide) ?_
            refine jr_istore_n R1 d_26_30 (by decide) (lo' := [(3, hv (g ((i : Int)).toNat)), (2, hv turn), (1, hv ((i : Int))), (0, .ref 18)]) rfl ?_
            refine jr_iload_n R1 d_26_31 rfl ?_
            refine jr_bipush R1 d_26_32 (by decide) ?_
            refine jr_icmp R1 false d_26_34 (by first | assumption | exact hg _ | exact hS _ | exact hV _ | exact hP _ | exact hT _ | exact ⟨by omega, by omega⟩) (by first | assumption | exact hg _ | exact hS _ | exact hV _ | exact hP _ | exact hT _ | exact ⟨by omega, by omega⟩) (by unfold hcb; first | exact decide_eq_true (by omega) | exact decide_eq_false (by omega)) (by decide) (pc' := 37) rfl ?_
            refine jr_iload_n R1 d_26_37 rfl ?_
            refine jr_bipush R1 d_26_38 (by decide) ?_
            refine jr_icmp R1 true d_26_40 (by first | assumption | exact hg _ | exact hS _ | exact hV _ | exact hP _ | exact hT _ | exact ⟨by omega, by omega⟩) (by first | assumption | exact hg _ | exact hS _ | exact hV _ | exact hP _ | exact hT _ | exact ⟨by omega, by omega⟩) (by unfold hcb; first | exact decide_eq_true (by omega) | exact decide_eq_false (by omega)) (by decide) (pc' := 49) rfl ?_
            refine jr_iload_n R1 d_26_49 rfl ?_
            refine jr_calls R2 d_26_50 (by decide) (by decide) rfl (as := [hv (g ((i : Int)).toNat)]) (rest := []) rfl (hc_isDigit (d := 1) (M := rd B ((nn : Int)) ((k : Int)) at' fl sc S P V ST E) (by omega) (hg _)) (by omega) (Nat.le_of_ble_eq_true rfl) ?_
            rintro rv M9 ⟨rfl, rfl⟩
            rw [ha_tn, if_pos hj]
            show J 0 0 (rd B ((nn : Int)) ((k : Int)) at' fl sc S P V ST E) 53 [(3, hv (g ((i : Int)).toNat)), (2, hv turn), (1, hv ((i : Int))), (0, .ref 18)] [hv 1]
            refine jr_ifc R1 false d_26_53 (by first | assumption | exact hg _ | exact hS _ | exact hV _ | exact hP _ | exact hT _ | exact ⟨by omega, by omega⟩) (by unfold hcb; first | exact decide_eq_true (by omega) | exact decide_eq_false (by omega)) (by decide) (pc' := 56) rfl ?_
            refine jr_aload_n R1 d_26_56 rfl ?_
            refine jr_iload_n R1 d_26_57 rfl ?_
            refine jr_callv R2 d_26_58 (by decide) rfl (as := [.ref 18, hv ((i : Int))]) (rest := []) rfl (by unfold mj_rc; rw [show (_ : List Value).headD _ = .ref 18 from rfl]; simp only [rd_18 hB]; decide) (hc_cutNumber (d := 2) (p := i) (by omega) hB hTp hg hn9 hat hfl (by omega) (by omega)) (by omega) (Nat.le_of_ble_eq_true rfl) ?_
            rintro rv M9 ⟨rfl, z1, rfl⟩
            show J 0 0 (rd B ((nn : Int)) ((k : Int) + 1) at' fl sc ((hu S ((k : Int)).toNat (if 4 < hp_rn hp_dg g nn i - i then 303 else 301))) ((hu P ((k : Int)).toNat (i : Int))) ((hu V ((k : Int)).toNat z1)) ST E) 61 [(3, hv (g ((i : Int)).toNat)), (2, hv turn), (1, hv ((i : Int))), (0, .ref 18)] [hv (((hp_rn hp_dg g nn i : Nat) : Int))]
            refine jr_istore_n R1 d_26_61 (by decide) (lo' := [(1, hv (((hp_rn hp_dg g nn i : Nat) : Int))), (3, hv (g ((i : Int)).toNat)), (2, hv turn), (0, .ref 18)]) rfl ?_
            refine jr_goto R1 d_26_62 (by decide) (pc' := 104) rfl ?_
            refine jr_iinc R1 d_26_104 (by decide) rfl (lo' := [(2, hv (turn + 1)), (1, hv (((hp_rn hp_dg g nn i : Nat) : Int))), (3, hv (g ((i : Int)).toNat)), (0, .ref 18)]) rfl ?_
            refine jr_goto R1 d_26_107 (by decide) (pc' := 9) rfl ?_
            refine R4 0 0 _ 9 _ [(2, hv (turn + 1)), (1, hv (((hp_rn hp_dg g nn i : Nat) : Int))), (0, .ref 18)] _ (fun z hz => by simp only [List.mem_cons, List.not_mem_nil, or_false] at hz ⊢; rcases hz with rfl | rfl | rfl <;> simp) ?_
            have hen := hp_en_dg (by omega) hj
            have hle := hp_en_le (b := g) (n := nn) (p := i) (by omega)
            rw [hen] at hle
            have hgt := hle.2.2 (by omega)
            exact ih (hp_rn hp_dg g nn i) (k + 1) (turn + 1) _ _ _ (by omega) hle.1 (by omega) (by omega) (fun j hj9 => by by_cases ej : j = k; rw [ej, hPi]; omega; exact hlt9 j (by omega)) (by rw [show hp_E g nn (k + 1) = hp_en g nn (hp_P g nn k) from rfl, hPi, hen]) (hz_push hzz hPi (by omega) (hp_cs_dg (by omega) hj))
          · have hnd := hj
            by_cases hj : hp_lt (g i) = true
            · skip
              refine jr_iload_n R1 d_26_9 rfl ?_
              refine jr_sipush R1 d_26_10 (by decide) ?_
              refine jr_icmp R1 false d_26_13 (by first | assumption | exact hg _ | exact hS _ | exact hV _ | exact hP _ | exact hT _ | exact ⟨by omega, by omega⟩) (by first | assumption | exact hg _ | exact hS _ | exact hV _ | exact hP _ | exact hT _ | exact ⟨by omega, by omega⟩) (by unfold hcb; first | exact decide_eq_true (by omega) | exact decide_eq_false (by omega)) (by decide) (pc' := 16) rfl ?_
              refine jr_iload_n R1 d_26_16 rfl ?_
              refine jr_aload_n R1 d_26_17 rfl ?_
              refine jr_getf R1 d_26_18 (rd_18 hB) (by decide) rfl ?_
              refine jr_icmp R1 false d_26_21 (by first | assumption | exact hg _ | exact hS _ | exact hV _ | exact hP _ | exact hT _ | exact ⟨by omega, by omega⟩) (by first | assumption | exact hg _ | exact hS _ | exact hV _ | exact hP _ | exact hT _ | exact ⟨by omega, by omega⟩) (by unfold hcb; first | exact decide_eq_true (by omega) | exact decide_eq_false (by omega)) (by decide) (pc' := 24) rfl ?_
              refine jr_aload_n R1 d_26_24 rfl ?_
              refine jr_getf R1 d_26_25 (rd_18 hB) (by decide) rfl ?_
              refine jr_iload_n R1 d_26_28 rfl ?_
              refine jr_iald R1 d_26_29 (rd_19 hB hTp) (by omega) (by omega) (by decide) ?_
              refine jr_istore_n R1 d_26_30 (by decide) (lo' := [(3, hv (g ((i : Int)).toNat)), (2, hv turn), (1, hv ((i : Int))), (0, .ref 18)]) rfl ?_
              refine jr_iload_n R1 d_26_31 rfl ?_
              refine jr_bipush R1 d_26_32 (by decide) ?_
              refine jr_icmp R1 false d_26_34 (by first | assumption | exact hg _ | exact hS _ | exact hV _ | exact hP _ | exact hT _ | exact ⟨by omega, by omega⟩) (by first | assumption | exact hg _ | exact hS _ | exact hV _ | exact hP _ | exact hT _ | exact ⟨by omega, by omega⟩) (by unfold hcb; first | exact decide_eq_true (by omega) | exact decide_eq_false (by omega)) (by decide) (pc' := 37) rfl ?_
              refine jr_iload_n R1 d_26_37 rfl ?_
              refine jr_bipush R1 d_26_38 (by decide) ?_
              refine jr_icmp R1 true d_26_40 (by first | assumption | exact hg _ | exact hS _ | exact hV _ | exact hP _ | exact hT _ | exact ⟨by omega, by omega⟩) (by first | assumption | exact hg _ | exact hS _ | exact hV _ | exact hP _ | exact hT _ | exact ⟨by omega, by omega⟩) (by unfold hcb; first | exact decide_eq_true (by omega) | exact decide_eq_false (by omega)) (by decide) (pc' := 49) rfl ?_
              refine jr_iload_n R1 d_26_49 rfl ?_
              refine jr_calls R2 d_26_50 (by decide) (by decide) rfl (as := [hv (g ((i : Int)).toNat)]) (rest := []) rfl (hc_isDigit (d := 1) (M := rd B ((nn : Int)) ((k : Int)) at' fl sc S P V ST E) (by omega) (hg _)) (by omega) (Nat.le_of_ble_eq_true rfl) ?_
              rintro rv M9 ⟨rfl, rfl⟩
              rw [ha_tn, if_neg hnd]
              show J 0 0 (rd B ((nn : Int)) ((k : Int)) at' fl sc S P V ST E) 53 [(3, hv (g ((i : Int)).toNat)), (2, hv turn), (1, hv ((i : Int))), (0, .ref 18)] [hv 0]
              refine jr_ifc R1 true d_26_53 (by first | assumption | exact hg _ | exact hS _ | exact hV _ | exact hP _ | exact hT _ | exact ⟨by omega, by omega⟩) (by unfold hcb; first | exact decide_eq_true (by omega) | exact decide_eq_false (by omega)) (by decide) (pc' := 65) rfl ?_
              refine jr_iload_n R1 d_26_65 rfl ?_
              refine jr_calls R2 d_26_66 (by decide) (by decide) rfl (as := [hv (g ((i : Int)).toNat)]) (rest := []) rfl (hc_isLetter (d := 1) (M := rd B ((nn : Int)) ((k : Int)) at' fl sc S P V ST E) (by omega) (hg _)) (by omega) (Nat.le_of_ble_eq_true rfl) ?_
              rintro rv M9 ⟨rfl, rfl⟩
              rw [ha_tn, if_pos hj]
              show J 0 0 (rd B ((nn : Int)) ((k : Int)) at' fl sc S P V ST E) 69 [(3, hv (g ((i : Int)).toNat)), (2, hv turn), (1, hv ((i : Int))), (0, .ref 18)] [hv 1]
              refine jr_ifc R1 false d_26_69 (by first | assumption | exact hg _ | exact hS _ | exact hV _ | exact hP _ | exact hT _ | exact ⟨by omega, by omega⟩) (by unfold hcb; first | exact decide_eq_true (by omega) | exact decide_eq_false (by omega)) (by decide) (pc' := 72) rfl ?_
              refine jr_aload_n R1 d_26_72 rfl ?_
              refine jr_iload_n R1 d_26_73 rfl ?_
              refine jr_callv R2 d_26_74 (by decide) rfl (as := [.ref 18, hv ((i : Int))]) (rest := []) rfl (by unfold mj_rc; rw [show (_ : List Value).headD _ = .ref 18 from rfl]; simp only [rd_18 hB]; decide) (hc_cutWord (d := 7) (p := i) (by omega) hB hTp hg hn9 hat hfl (by omega) (by omega)) (by omega) (Nat.le_of_ble_eq_true rfl) ?_
              rintro rv M9 ⟨rfl, z1, rfl⟩
              show J 0 0 (rd B ((nn : Int)) ((k : Int) + 1) at' fl sc ((hu S ((k : Int)).toNat (if hp_wd g i (hp_rn hp_lt g nn i) = 12 then 303 else if hp_wd g i (hp_rn hp_lt g nn i) < 6 then 300 else 256 + (hp_wd g i (hp_rn hp_lt g nn i) : Int)))) ((hu P ((k : Int)).toNat (i : Int))) ((hu V ((k : Int)).toNat z1)) ST E) 77 [(3, hv (g ((i : Int)).toNat)), (2, hv turn), (1, hv ((i : Int))), (0, .ref 18)] [hv (((hp_rn hp_lt g nn i : Nat) : Int))]
              refine jr_istore_n R1 d_26_77 (by decide) (lo' := [(1, hv (((hp_rn hp_lt g nn i : Nat) : Int))), (3, hv (g ((i : Int)).toNat)), (2, hv turn), (0, .ref 18)]) rfl ?_
              refine jr_goto R1 d_26_78 (by decide) (pc' := 104) rfl ?_
              refine jr_iinc R1 d_26_104 (by decide) rfl (lo' := [(2, hv (turn + 1)), (1, hv (((hp_rn hp_lt g nn i : Nat) : Int))), (3, hv (g ((i : Int)).toNat)), (0, .ref 18)]) rfl ?_
              refine jr_goto R1 d_26_107 (by decide) (pc' := 9) rfl ?_
              refine R4 0 0 _ 9 _ [(2, hv (turn + 1)), (1, hv (((hp_rn hp_lt g nn i : Nat) : Int))), (0, .ref 18)] _ (fun z hz => by simp only [List.mem_cons, List.not_mem_nil, or_false] at hz ⊢; rcases hz with rfl | rfl | rfl <;> simp) ?_
              have hen := hp_en_lt (by omega) hj
              have hle := hp_en_le (b := g) (n := nn) (p := i) (by omega)
              rw [hen] at hle
              have hgt := hle.2.2 (by omega)
              exact ih (hp_rn hp_lt g nn i) (k + 1) (turn + 1) _ _ _ (by omega) hle.1 (by omega) (by omega) (fun j hj9 => by by_cases ej : j = k; rw [ej, hPi]; omega; exact hlt9 j (by omega)) (by rw [show hp_E g nn (k + 1) = hp_en g nn (hp_P g nn k) from rfl, hPi, hen]) (hz_push hzz hPi (by omega) (hp_cs_lt (by omega) hj))
            · have hnl := hj
              by_cases hsg : hp_sg (g i) = true
              · skip
                refine jr_iload_n R1 d_26_9 rfl ?_
                refine jr_sipush R1 d_26_10 (by decide) ?_
                refine jr_icmp R1 false d_26_13 (by first | assumption | exact hg _ | exact hS _ | exact hV _ | exact hP _ | exact hT _ | exact ⟨by omega, by omega⟩) (by first | assumption | exact hg _ | exact hS _ | exact hV _ | exact hP _ | exact hT _ | exact ⟨by omega, by omega⟩) (by unfold hcb; first | exact decide_eq_true (by omega) | exact decide_eq_false (by omega)) (by decide) (pc' := 16) rfl ?_
                refine jr_iload_n R1 d_26_16 rfl ?_
                refine jr_aload_n R1 d_26_17 rfl ?_
                refine jr_getf R1 d_26_18 (rd_18 hB) (by decide) rfl ?_
                refine jr_icmp R1 false d_26_21 (by first | assumption | exact hg _ | exact hS _ | exact hV _ | exact hP _ | exact hT _ | exact ⟨by omega, by omega⟩) (by first | assumption | exact hg _ | exact hS _ | exact hV _ | exact hP _ | exact hT _ | exact ⟨by omega, by omega⟩) (by unfold hcb; first | exact decide_eq_true (by omega) | exact decide_eq_false (by omega)) (by decide) (pc' := 24) rfl ?_
                refine jr_aload_n R1 d_26_24 rfl ?_
                refine jr_getf R1 d_26_25 (rd_18 hB) (by decide) rfl ?_
                refine jr_iload_n R1 d_26_28 rfl ?_
                refine jr_iald R1 d_26_29 (rd_19 hB hTp) (by omega) (by omega) (by decide) ?_
                refine jr_istore_n R1 d_26_30 (by decide) (lo' := [(3, hv (g ((i : Int)).toNat)), (2, hv turn), (1, hv ((i : Int))), (0, .ref 18)]) rfl ?_
                refine jr_iload_n R1 d_26_31 rfl ?_
                refine jr_bipush R1 d_26_32 (by decide) ?_
                refine jr_icmp R1 false d_26_34 (by first | assumption | exact hg _ | exact hS _ | exact hV _ | exact hP _ | exact hT _ | exact ⟨by omega, by omega⟩) (by first | assumption | exact hg _ | exact hS _ | exact hV _ | exact hP _ | exact hT _ | exact ⟨by omega, by omega⟩) (by unfold hcb; first | exact decide_eq_true (by omega) | exact decide_eq_false (by omega)) (by decide) (pc' := 37) rfl ?_
                refine jr_iload_n R1 d_26_37 rfl ?_
                refine jr_bipush R1 d_26_38 (by decide) ?_
                refine jr_icmp R1 true d_26_40 (by first | assumption | exact hg _ | exact hS _ | exact hV _ | exact hP _ | exact hT _ | exact ⟨by omega, by omega⟩) (by first | assumption | exact hg _ | exact hS _ | exact hV _ | exact hP _ | exact hT _ | exact ⟨by omega, by omega⟩) (by unfold hcb; first | exact decide_eq_true (by omega) | exact decide_eq_false (by omega)) (by decide) (pc' := 49) rfl ?_
                refine jr_iload_n R1 d_26_49 rfl ?_
                refine jr_calls R2 d_26_50 (by decide) (by decide) rfl (as := [hv (g ((i : Int)).toNat)]) (rest := []) rfl (hc_isDigit (d := 1) (M := rd B ((nn : Int)) ((k : Int)) at' fl sc S P V ST E) (by omega) (hg _)) (by omega) (Nat.le_of_ble_eq_true rfl) ?_
                rintro rv M9 ⟨rfl, rfl⟩
                rw [ha_tn, if_neg hnd]
                show J 0 0 (rd B ((nn : Int)) ((k : Int)) at' fl sc S P V ST E) 53 [(3, hv (g ((i : Int)).toNat)), (2, hv turn), (1, hv ((i : Int))), (0, .ref 18)] [hv 0]
                refine jr_ifc R1 true d_26_53 (by first | assumption | exact hg _ | exact hS _ | exact hV _ | exact hP _ | exact hT _ | exact ⟨by omega, by omega⟩) (by unfold hcb; first | exact decide_eq_true (by omega) | exact decide_eq_false (by omega)) (by decide) (pc' := 65) rfl ?_
                refine jr_iload_n R1 d_26_65 rfl ?_
                refine jr_calls R2 d_26_66 (by decide) (by decide) rfl (as := [hv (g ((i : Int)).toNat)]) (rest := []) rfl (hc_isLetter (d := 1) (M := rd B ((nn : Int)) ((k : Int)) at' fl sc S P V ST E) (by omega) (hg _)) (by omega) (Nat.le_of_ble_eq_true rfl) ?_
                rintro rv M9 ⟨rfl, rfl⟩
                rw [ha_tn, if_neg hnl]
                show J 0 0 (rd B ((nn : Int)) ((k : Int)) at' fl sc S P V ST E) 69 [(3, hv (g ((i : Int)).toNat)), (2, hv turn), (1, hv ((i : Int))), (0, .ref 18)] [hv 0]
                refine jr_ifc R1 true d_26_69 (by first | assumption | exact hg _ | exact hS _ | exact hV _ | exact hP _ | exact hT _ | exact ⟨by omega, by omega⟩) (by unfold hcb; first | exact decide_eq_true (by omega) | exact decide_eq_false (by omega)) (by decide) (pc' := 81) rfl ?_
                refine jr_aload_n R1 d_26_81 rfl ?_
                refine jr_iload_n R1 d_26_82 rfl ?_
                refine jr_calls R2 d_26_83 (by decide) (by decide) rfl (as := [hv (g ((i : Int)).toNat)]) (rest := [.ref 18]) rfl (hc_isSign (d := 1) (M := rd B ((nn : Int)) ((k : Int)) at' fl sc S P V ST E) (by omega) (hg _)) (by omega) (Nat.le_of_ble_eq_true rfl) ?_
                rintro rv M9 ⟨rfl, rfl⟩
                rw [ha_tn, if_pos hsg]
                show J 0 0 (rd B ((nn : Int)) ((k : Int)) at' fl sc S P V ST E) 86 [(3, hv (g ((i : Int)).toNat)), (2, hv turn), (1, hv ((i : Int))), (0, .ref 18)] [hv 1, .ref 18]
                refine jr_ifc R1 false d_26_86 (by first | assumption | exact hg _ | exact hS _ | exact hV _ | exact hP _ | exact hT _ | exact ⟨by omega, by omega⟩) (by unfold hcb; first | exact decide_eq_true (by omega) | exact decide_eq_false (by omega)) (by decide) (pc' := 89) rfl ?_
                refine jr_iload_n R1 d_26_89 rfl ?_
                refine jr_goto R1 d_26_90 (by decide) (pc' := 96) rfl ?_
                refine jr_iload_n R1 d_26_96 rfl ?_
                refine jr_iconst R1 d_26_97 ?_
                refine jr_callv R2 d_26_98 (by decide) rfl (as := [.ref 18, hv (g ((i : Int)).toNat), hv ((i : Int)), hv 0]) (rest := []) rfl (by unfold mj_rc; rw [show (_ : List Value).headD _ = .ref 18 from rfl]; simp only [rd_18 hB]; decide) (hc_token (d := 1) (by omega) hB (by omega) (by omega) (by omega) (by omega)) (by omega) (Nat.le_of_ble_eq_true rfl) ?_
                rintro rv M9 ⟨rfl, rfl⟩
                show J 0 0 (rd B ((nn : Int)) ((k : Int) + 1) at' fl sc ((hu S ((k : Int)).toNat (g ((i : Int)).toNat))) ((hu P ((k : Int)).toNat ((i : Int)))) ((hu V ((k : Int)).toNat 0)) ST E) 101 [(3, hv (g ((i : Int)).toNat)), (2, hv turn), (1, hv ((i : Int))), (0, .ref 18)] []
                refine jr_iinc R1 d_26_101 (by decide) rfl (lo' := [(1, hv ((i : Int) + 1)), (3, hv (g ((i : Int)).toNat)), (2, hv turn), (0, .ref 18)]) rfl ?_
                refine jr_iinc R1 d_26_104 (by decide) rfl (lo' := [(2, hv (turn + 1)), (1, hv ((i : Int) + 1)), (3, hv (g ((i : Int)).toNat)), (0, .ref 18)]) rfl ?_
                refine jr_goto R1 d_26_107 (by decide) (pc' := 9) rfl ?_
                refine R4 0 0 _ 9 _ [(2, hv (turn + 1)), (1, hv ((i : Int) + 1)), (0, .ref 18)] _ (fun z hz => by simp only [List.mem_cons, List.not_mem_nil, or_false] at hz ⊢; rcases hz with rfl | rfl | rfl <;> simp) ?_
                have hen := hp_en_ot (by omega) hnl hnd
                have hle := hp_en_le (b := g) (n := nn) (p := i) (by omega)
                rw [hen] at hle
                have hgt := hle.2.2 (by omega)
                exact ih (i + 1) (k + 1) (turn + 1) _ _ _ (by omega) hle.1 (by omega) (by omega) (fun j hj9 => by by_cases ej : j = k; rw [ej, hPi]; omega; exact hlt9 j (by omega)) (by rw [show hp_E g nn (k + 1) = hp_en g nn (hp_P g nn k) from rfl, hPi, hen]) (hz_push hzz hPi (by omega) (hp_cs_sg (by omega) hnl hnd hsg))
              · skip
                refine jr_iload_n R1 d_26_9 rfl ?_
                refine jr_sipush R1 d_26_10 (by decide) ?_
                refine jr_icmp R1 false d_26_13 (by first | assumption | exact hg _ | exact hS _ | exact hV _ | exact hP _ | exact hT _ | exact ⟨by omega, by omega⟩) (by first | assumption | exact hg _ | exact hS _ | exact hV _ | exact hP _ | exact hT _ | exact ⟨by omega, by omega⟩) (by unfold hcb; first | exact decide_eq_true (by omega) | exact decide_eq_false (by omega)) (by decide) (pc' := 16) rfl ?_
                refine jr_iload_n R1 d_26_16 rfl ?_
                refine jr_aload_n R1 d_26_17 rfl ?_
                refine jr_getf R1 d_26_18 (rd_18 hB) (by decide) rfl ?_
                refine jr_icmp R1 false d_26_21 (by first | assumption | exact hg _ | exact hS _ | exact hV _ | exact hP _ | exact hT _ | exact ⟨by omega, by omega⟩) (by first | assumption | exact hg _ | exact hS _ | exact hV _ | exact hP _ | exact hT _ | exact ⟨by omega, by omega⟩) (by unfold hcb; first | exact decide_eq_true (by omega) | exact decide_eq_false (by omega)) (by decide) (pc' := 24) rfl ?_
                refine jr_aload_n R1 d_26_24 rfl ?_
                refine jr_getf R1 d_26_25 (rd_18 hB) (by decide) rfl ?_
                refine jr_iload_n R1 d_26_28 rfl ?_
                refine jr_iald R1 d_26_29 (rd_19 hB hTp) (by omega) (by omega) (by decide) ?_
                refine jr_istore_n R1 d_26_30 (by decide) (lo' := [(3, hv (g ((i : Int)).toNat)), (2, hv turn), (1, hv ((i : Int))), (0, .ref 18)]) rfl ?_
                refine jr_iload_n R1 d_26_31 rfl ?_
                refine jr_bipush R1 d_26_32 (by decide) ?_
                refine jr_icmp R1 false d_26_34 (by first | assumption | exact hg _ | exact hS _ | exact hV _ | exact hP _ | exact hT _ | exact ⟨by omega, by omega⟩) (by first | assumption | exact hg _ | exact hS _ | exact hV _ | exact hP _ | exact hT _ | exact ⟨by omega, by omega⟩) (by unfold hcb; first | exact decide_eq_true (by omega) | exact decide_eq_false (by omega)) (by decide) (pc' := 37) rfl ?_
                refine jr_iload_n R1 d_26_37 rfl ?_
                refine jr_bipush R1 d_26_38 (by decide) ?_
                refine jr_icmp R1 true d_26_40 (by first | assumption | exact hg _ | exact hS _ | exact hV _ | exact hP _ | exact hT _ | exact ⟨by omega, by omega⟩) (by first | assumption | exact hg _ | exact hS _ | exact hV _ | exact hP _ | exact hT _ | exact ⟨by omega, by omega⟩) (by unfold hcb; first | exact decide_eq_true (by omega) | exact decide_eq_false (by omega)) (by decide) (pc' := 49) rfl ?_
                refine jr_iload_n R1 d_26_49 rfl ?_
                refine jr_calls R2 d_26_50 (by decide) (by decide) rfl (as := [hv (g ((i : Int)).toNat)]) (rest := []) rfl (hc_isDigit (d := 1) (M := rd B ((nn : Int)) ((k : Int)) at' fl sc S P V ST E) (by omega) (hg _)) (by omega) (Nat.le_of_ble_eq_true rfl) ?_
                rintro rv M9 ⟨rfl, rfl⟩
                rw [ha_tn, if_neg hnd]
                show J 0 0 (rd B ((nn : Int)) ((k : Int)) at' fl sc S P V ST E) 53 [(3, hv (g ((i : Int)).toNat)), (2, hv turn), (1, hv ((i : Int))), (0, .ref 18)] [hv 0]
                refine jr_ifc R1 true d_26_53 (by first | assumption | exact hg _ | exact hS _ | exact hV _ | exact hP _ | exact hT _ | exact ⟨by omega, by omega⟩) (by unfold hcb; first | exact decide_eq_true (by omega) | exact decide_eq_false (by omega)) (by decide) (pc' := 65) rfl ?_
                refine jr_iload_n R1 d_26_65 rfl ?_
                refine jr_calls R2 d_26_66 (by decide) (by decide) rfl (as := [hv (g ((i : Int)).toNat)]) (rest := []) rfl (hc_isLetter (d := 1) (M := rd B ((nn : Int)) ((k : Int)) at' fl sc S P V ST E) (by omega) (hg _)) (by omega) (Nat.le_of_ble_eq_true rfl) ?_
                rintro rv M9 ⟨rfl, rfl⟩
                rw [ha_tn, if_neg hnl]
                show J 0 0 (rd B ((nn : Int)) ((k : Int)) at' fl sc S P V ST E) 69 [(3, hv (g ((i : Int)).toNat)), (2, hv turn), (1, hv ((i : Int))), (0, .ref 18)] [hv 0]
                refine jr_ifc R1 true d_26_69 (by first | assumption | exact hg _ | exact hS _ | exact hV _ | exact hP _ | exact hT _ | exact ⟨by omega, by omega⟩) (by unfold hcb; first | exact decide_eq_true (by omega) | exact decide_eq_false (by omega)) (by decide) (pc' := 81) rfl ?_
                refine jr_aload_n R1 d_26_81 rfl ?_
                refine jr_iload_n R1 d_26_82 rfl ?_
                refine jr_calls R2 d_26_83 (by decide) (by decide) rfl (as := [hv (g ((i : Int)).toNat)]) (rest := [.ref 18]) rfl (hc_isSign (d := 1) (M := rd B ((nn : Int)) ((k : Int)) at' fl sc S P V ST E) (by omega) (hg _)) (by omega) (Nat.le_of_ble_eq_true rfl) ?_
                rintro rv M9 ⟨rfl, rfl⟩
                rw [ha_tn, if_neg hsg]
                show J 0 0 (rd B ((nn : Int)) ((k : Int)) at' fl sc S P V ST E) 86 [(3, hv (g ((i : Int)).toNat)), (2, hv turn), (1, hv ((i : Int))), (0, .ref 18)] [hv 0, .ref 18]
                refine jr_ifc R1 true d_26_86 (by first | assumption | exact hg _ | exact hS _ | exact hV _ | exact hP _ | exact hT _ | exact ⟨by omega, by omega⟩) (by unfold hcb; first | exact decide_eq_true (by omega) | exact decide_eq_false (by omega)) (by decide) (pc' := 93) rfl ?_
                refine jr_sipush R1 d_26_93 (by decide) ?_
                refine jr_iload_n R1 d_26_96 rfl ?_
                refine jr_iconst R1 d_26_97 ?_
                refine jr_callv R2 d_26_98 (by decide) rfl (as := [.ref 18, hv 303, hv ((i : Int)), hv 0]) (rest := []) rfl (by unfold mj_rc; rw [show (_ : List Value).headD _ = .ref 18 from rfl]; simp only [rd_18 hB]; decide) (hc_token (d := 1) (by omega) hB (by omega) (by omega) (by omega) (by omega)) (by omega) (Nat.le_of_ble_eq_true rfl) ?_
                rintro rv M9 ⟨rfl, rfl⟩
                show J 0 0 (rd B ((nn : Int)) ((k : Int) + 1) at' fl sc ((hu S ((k : Int)).toNat 303)) ((hu P ((k : Int)).toNat ((i : Int)))) ((hu V ((k : Int)).toNat 0)) ST E) 101 [(3, hv (g ((i : Int)).toNat)), (2, hv turn), (1, hv ((i : Int))), (0, .ref 18)] []
                refine jr_iinc R1 d_26_101 (by decide) rfl (lo' := [(1, hv ((i : Int) + 1)), (3, hv (g ((i : Int)).toNat)), (2, hv turn), (0, .ref 18)]) rfl ?_
                refine jr_iinc R1 d_26_104 (by decide) rfl (lo' := [(2, hv (turn + 1)), (1, hv ((i : Int) + 1)), (3, hv (g ((i : Int)).toNat)), (0, .ref 18)]) rfl ?_
                refine jr_goto R1 d_26_107 (by decide) (pc' := 9) rfl ?_
                refine R4 0 0 _ 9 _ [(2, hv (turn + 1)), (1, hv ((i : Int) + 1)), (0, .ref 18)] _ (fun z hz => by simp only [List.mem_cons, List.not_mem_nil, or_false] at hz ⊢; rcases hz with rfl | rfl | rfl <;> simp) ?_
                have hen := hp_en_ot (by omega) hnl hnd
                have hle := hp_en_le (b := g) (n := nn) (p := i) (by omega)
                rw [hen] at hle
                have hgt := hle.2.2 (by omega)
                exact ih (i + 1) (k + 1) (turn + 1) _ _ _ (by omega) hle.1 (by omega) (by omega) (fun j hj9 => by by_cases ej : j = k; rw [ej, hPi]; omega; exact hlt9 j (by omega)) (by rw [show hp_E g nn (k + 1) = hp_en g nn (hp_P g nn k) from rfl, hPi, hen]) (hz_push hzz hPi (by omega) (hp_cs_wr (by omega) hnl hnd hsg))
      · skip
        refine jr_iload_n R1 d_26_9 rfl ?_
        refine jr_sipush R1 d_26_10 (by decide) ?_
        by_cases h1 : turn < 160
        · refine jr_icmp R1 false d_26_13 (by first | assumption | exact hg _ | exact hS _ | exact hV _ | exact hP _ | exact hT _ | exact ⟨by omega, by omega⟩) (by first | assumption | exact hg _ | exact hS _ | exact hV _ | exact hP _ | exact hT _ | exact ⟨by omega, by omega⟩) (by unfold hcb; first | exact decide_eq_true (by omega) | exact decide_eq_false (by omega)) (by decide) (pc' := 16) rfl ?_
          refine jr_iload_n R1 d_26_16 rfl ?_
          refine jr_aload_n R1 d_26_17 rfl ?_
          refine jr_getf R1 d_26_18 (rd_18 hB) (by decide) rfl ?_
          refine jr_icmp R1 true d_26_21 (by first | assumption | exact hg _ | exact hS _ | exact hV _ | exact hP _ | exact hT _ | exact ⟨by omega, by omega⟩) (by first | assumption | exact hg _ | exact hS _ | exact hV _ | exact hP _ | exact hT _ | exact ⟨by omega, by omega⟩) (by unfold hcb; first | exact decide_eq_true (by omega) | exact decide_eq_false (by omega)) (by decide) (pc' := 110) rfl ?_
          refine jr_aload_n R1 d_26_110 rfl ?_
          refine jr_sipush R1 d_26_111 (by decide) ?_
          refine jr_aload_n R1 d_26_114 rfl ?_
          refine jr_getf R1 d_26_115 (rd_18 hB) (by decide) rfl ?_
          refine jr_iconst R1 d_26_118 ?_
          refine jr_callv R2 d_26_119 (by decide) rfl (as := [.ref 18, hv 302, hv ((nn : Int)), hv 0]) (rest := []) rfl (by unfold mj_rc; rw [show (_ : List Value).headD _ = .ref 18 from rfl]; simp only [rd_18 hB]; decide) (hc_token (d := 1) (by omega) hB (by omega) (by omega) (by omega) (by omega)) (by omega) (Nat.le_of_ble_eq_true rfl) ?_
          rintro rv M9 ⟨rfl, rfl⟩
          show J 0 0 (rd B ((nn : Int)) ((k : Int) + 1) at' fl sc ((hu S ((k : Int)).toNat 302)) ((hu P ((k : Int)).toNat ((nn : Int)))) ((hu V ((k : Int)).toNat 0)) ST E) 122 [(2, hv turn), (1, hv ((i : Int))), (0, .ref 18)] []
          refine jr_ret R3 d_26_122 rfl ?_
          have hPk : hp_P g nn k = nn := hE.trans ((hp_rn_out (by omega : nn ≤ i)).trans (by omega))
          have hTk := hp_T_eq hlt9 hPk
          rw [hTk]
          exact ⟨rfl, _, _, _, hz_push hzz (hPk.trans (by omega : nn = nn)) (by omega) hp_cs_end.symm, rfl⟩
        · refine jr_icmp R1 true d_26_13 (by first | assumption | exact hg _ | exact hS _ | exact hV _ | exact hP _ | exact hT _ | exact ⟨by omega, by omega⟩) (by first | assumption | exact hg _ | exact hS _ | exact hV _ | exact hP _ | exact hT _ | exact ⟨by omega, by omega⟩) (by unfold hcb; first | exact decide_eq_true (by omega) | exact decide_eq_false (by omega)) (by decide) (pc' := 110) rfl ?_
          refine jr_aload_n R1 d_26_110 rfl ?_
          refine jr_sipush R1 d_26_111 (by decide) ?_
          refine jr_aload_n R1 d_26_114 rfl ?_
          refine jr_getf R1 d_26_115 (rd_18 hB) (by decide) rfl ?_
          refine jr_iconst R1 d_26_118 ?_
          refine jr_callv R2 d_26_119 (by decide) rfl (as := [.ref 18, hv 302, hv ((nn : Int)), hv 0]) (rest := []) rfl (by unfold mj_rc; rw [show (_ : List Value).headD _ = .ref 18 from rfl]; simp only [rd_18 hB]; decide) (hc_token (d := 1) (by omega) hB (by omega) (by omega) (by omega) (by omega)) (by omega) (Nat.le_of_ble_eq_true rfl) ?_
          rintro rv M9 ⟨rfl, rfl⟩
          show J 0 0 (rd B ((nn : Int)) ((k : Int) + 1) at' fl sc ((hu S ((k : Int)).toNat 302)) ((hu P ((k : Int)).toNat ((nn : Int)))) ((hu V ((k : Int)).toNat 0)) ST E) 122 [(2, hv turn), (1, hv ((i : Int))), (0, .ref 18)] []
          refine jr_ret R3 d_26_122 rfl ?_
          have hPk : hp_P g nn k = nn := hE.trans ((hp_rn_out (by omega : nn ≤ i)).trans (by omega))
          have hTk := hp_T_eq hlt9 hPk
          rw [hTk]
          exact ⟨rfl, _, _, _, hz_push hzz (hPk.trans (by omega : nn = nn)) (by omega) hp_cs_end.symm, rfl⟩
  show J 0 0 (rd B ((nn : Int)) tk at' fl sc S P V ST E) 0 [(0, .ref 18)] []
  refine jr_aload_n R1 d_26_0 rfl ?_
  refine jr_iconst R1 d_26_1 ?_
  refine jr_putf R1 d_26_2 (rd_18 hB) (by decide) (by simp) rfl rfl (M' := rd B ((nn : Int)) 0 at' fl sc S P V ST E) (rd_p18 hB) ?_
  refine jr_iconst R1 d_26_5 ?_
  refine jr_istore_n R1 d_26_6 (by decide) (lo' := [(1, hv 0), (0, .ref 18)]) rfl ?_
  refine jr_iconst R1 d_26_7 ?_
  refine jr_istore_n R1 d_26_8 (by decide) (lo' := [(2, hv 0), (1, hv 0), (0, .ref 18)]) rfl ?_
  refine R4 0 0 _ 9 _ [(2, hv 0), (1, hv 0), (0, .ref 18)] _ (fun z hz => by simp only [List.mem_cons, List.not_mem_nil, or_false] at hz ⊢; rcases hz with rfl | rfl | rfl <;> simp) ?_
  exact hl nn 0 0 0 S P V (by omega) (Nat.zero_le _) (Nat.le_refl _) ⟨by omega, by omega⟩ (fun j hj => absurd hj (Nat.not_lt_zero j)) rfl ⟨fun j hj => absurd hj (Nat.not_lt_zero j), fun j hj => absurd hj (Nat.not_lt_zero j), hS, hP, hP9⟩
