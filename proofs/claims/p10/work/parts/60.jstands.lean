/-! STANDS, WORDAT -/
theorem hs_get {k j : Nat} : ((hw_l k).map (fun x => x.toInt)).getD j 0 = (hw_c k j).toInt := by
  unfold hw_c
  rw [List.getD_eq_getElem?_getD, List.getD_eq_getElem?_getD, List.getElem?_map]
  cases (hw_l k)[j]? with
  | none => rfl
  | some x => rfl
theorem hs_yes {g : Nat → Int} {k p q : Nat} (h : q = p + (hw_l k).length) (h2 : ∀ j, j < (hw_l k).length → g (p + j) = (hw_c k j).toInt) : hp_isb g p q ((hw_l k).map (fun x => x.toInt)) = true := by
  rw [hp_isb_ok]
  refine ⟨by rw [List.length_map]; exact h, fun j hj => ?_⟩
  rw [hs_get]
  rw [List.length_map] at hj
  exact h2 j hj
theorem hs_no1 {g : Nat → Int} {k p q : Nat} (h : ¬ q = p + (hw_l k).length) : ¬ hp_isb g p q ((hw_l k).map (fun x => x.toInt)) = true := by
  rw [hp_isb_ok]
  rintro ⟨a, -⟩
  rw [List.length_map] at a
  exact h a
theorem hs_no2 {g : Nat → Int} {k p q j : Nat} (hj : j < (hw_l k).length) (h : ¬ (hw_c k j).toInt = g (p + j)) : ¬ hp_isb g p q ((hw_l k).map (fun x => x.toInt)) = true := by
  rw [hp_isb_ok]
  rintro ⟨-, b⟩
  have := b j (by rw [List.length_map]; exact hj)
  rw [hs_get] at this
  exact h this.symm
theorem hc_stands {lch : Launch} {d : Nat} {B : mj_M} {nn : Nat} {g : Nat → Int} {tk at' fl sc : Int} {S P V ST E : Nat → Int} {k p q : Nat} (hd : 5 ≤ d) (hB : 25 ≤ B.length) (hTp : B[19]? = some (hA 0 160 g)) (hg : ∀ j, hr (g j)) (hn9 : nn ≤ 160) (hat : 0 ≤ at' ∧ at' ≤ 160) (hfl : -1 ≤ fl ∧ fl ≤ 160) (h1 : 10 ≤ k) (h2 : k < 23) (hp : p ≤ q) (hq : q ≤ nn) : mj_Me lch 40 d 0 0 [.ref 18, .retAddr k, hv (p : Int), hv (q : Int)] (rd B ((nn : Int)) tk at' fl sc S P V ST E) (fun rv M' => rv = some (hv (if hp_isb g p q ((hw_l k).map (fun x => x.toInt)) = true then 1 else 0)) ∧ M' = rd B ((nn : Int)) tk at' fl sc S P V ST E) := by
  have hlk := hw_len h1 h2
  refine mj_Me_of4 (by decide) (by omega) (Nat.le_of_ble_eq_true rfl) ?_
  intro L xs J R1 R2 R3 R4
  have hl : q = p + (hw_l k).length → ∀ (e x : Nat), q - x ≤ e → p ≤ x → x ≤ q → (∀ j, j < x - p → g (p + j) = (hw_c k j).toInt) → J 0 0 (rd B ((nn : Int)) tk at' fl sc S P V ST E) 15 [(4, hv ((x : Int))), (3, hv ((q : Int))), (2, hv ((p : Int))), (1, .retAddr k), (0, .ref 18)] [] := by
    intro hqe e
    induction e with
    | zero =>
      intro x he hx1 hx2 hm
      refine jr_iload R1 d_40_15 rfl ?_
      refine jr_iload_n R1 d_40_17 rfl ?_
      refine jr_icmp R1 true d_40_18 (by first | assumption | exact hg _ | exact hS _ | exact hV _ | exact hP _ | exact hT _ | exact ⟨by omega, by omega⟩) (by first | assumption | exact hg _ | exact hS _ | exact hV _ | exact hP _ | exact hT _ | exact ⟨by omega, by omega⟩) (by unfold hcb; first | exact decide_eq_true (by omega) | exact decide_eq_false (by omega)) (by decide) (pc' := 47) rfl ?_
      refine jr_iconst R1 d_40_47 ?_
      refine jr_retb R3 d_40_48 rfl (by first | exact Or.inl rfl | exact Or.inr rfl | omega) ?_
      exact ⟨by rw [if_pos (hs_yes (by omega) (fun j hj => hm j (by omega)))], rfl⟩
    | succ e ih =>
      intro x he hx1 hx2 hm
      by_cases hlt : x < q
      · skip
        refine jr_iload R1 d_40_15 rfl ?_
        refine jr_iload_n R1 d_40_17 rfl ?_
        refine jr_icmp R1 false d_40_18 (by first | assumption | exact hg _ | exact hS _ | exact hV _ | exact hP _ | exact hT _ | exact ⟨by omega, by omega⟩) (by first | assumption | exact hg _ | exact hS _ | exact hV _ | exact hP _ | exact hT _ | exact ⟨by omega, by omega⟩) (by unfold hcb; first | exact decide_eq_true (by omega) | exact decide_eq_false (by omega)) (by decide) (pc' := 21) rfl ?_
        refine jr_aload_x R1 d_40_21 rfl ?_
        refine jr_iload R1 d_40_22 rfl ?_
        refine jr_iload_n R1 d_40_24 rfl ?_
        refine jr_isub R1 d_40_25 ?_
        rw [show (x : Int) - (p : Int) = ((x - p : Nat) : Int) by omega]
        refine jr_callv R2 d_40_26 (by decide) rfl (as := [.retAddr k, hv (((x - p : Nat) : Int))]) (rest := []) rfl (by unfold mj_rc; rw [show (_ : List Value).headD _ = .retAddr k from rfl]; simp [show mj_oc 186 = 99 from rfl, show mj_oc 182 = 99 from rfl, h1, h2]) (hs_charAt (d := 4) (j := x - p) (by omega) h1 h2 (by omega)) (by omega) (Nat.le_of_ble_eq_true rfl) ?_
        rintro rv M9 ⟨rfl, rfl⟩
        have hcr := (hw_ok (j := x - p) h1 h2 (by omega)).2.2
        have hcr2 : hr (hw_c k (x - p)).toInt := ⟨by omega, by omega⟩
        show J 0 0 (rd B ((nn : Int)) tk at' fl sc S P V ST E) 29 [(4, hv ((x : Int))), (3, hv ((q : Int))), (2, hv ((p : Int))), (1, .retAddr k), (0, .ref 18)] [hv ((hw_c k (x - p)).toInt)]
        refine jr_aload_n R1 d_40_29 rfl ?_
        refine jr_getf R1 d_40_30 (rd_18 hB) (by decide) rfl ?_
        refine jr_iload R1 d_40_33 rfl ?_
        refine jr_iald R1 d_40_35 (rd_19 hB hTp) (by omega) (by omega) (by decide) ?_
        by_cases h1 : (hw_c k (x - p)).toInt = g ((x : Int)).toNat
        · refine jr_icmp R1 true d_40_36 (by first | assumption | exact hg _ | exact hS _ | exact hV _ | exact hP _ | exact hT _ | exact ⟨by omega, by omega⟩) (by first | assumption | exact hg _ | exact hS _ | exact hV _ | exact hP _ | exact hT _ | exact ⟨by omega, by omega⟩) (by unfold hcb; first | exact decide_eq_true (by omega) | exact decide_eq_false (by omega)) (by decide) (pc' := 41) rfl ?_
          refine jr_iinc R1 d_40_41 (by decide) rfl (lo' := [(4, hv ((x : Int) + 1)), (3, hv ((q : Int))), (2, hv ((p : Int))), (1, .retAddr k), (0, .ref 18)]) rfl ?_
          refine jr_goto R1 d_40_44 (by decide) (pc' := 15) rfl ?_
          refine R4 0 0 _ 15 _ [(4, hv ((x : Int) + 1)), (3, hv (q : Int)), (2, hv (p : Int)), (1, .retAddr k), (0, .ref 18)] _ (fun z hz => by simp only [List.mem_cons, List.not_mem_nil, or_false] at hz ⊢; rcases hz with rfl | rfl | rfl | rfl | rfl <;> simp) ?_
          refine ih (x + 1) (by omega) (by omega) (by omega) (fun j hj => ?_)
          by_cases ej : j = x - p
          · subst ej
            rw [show p + (x - p) = x by omega, ← ha_tn x]
            exact Eq.symm (by assumption)
          · exact hm j (by omega)
        · refine jr_icmp R1 false d_40_36 (by first | assumption | exact hg _ | exact hS _ | exact hV _ | exact hP _ | exact hT _ | exact ⟨by omega, by omega⟩) (by first | assumption | exact hg _ | exact hS _ | exact hV _ | exact hP _ | exact hT _ | exact ⟨by omega, by omega⟩) (by unfold hcb; first | exact decide_eq_true (by omega) | exact decide_eq_false (by omega)) (by decide) (pc' := 39) rfl ?_
          refine jr_iconst R1 d_40_39 ?_
          refine jr_retb R3 d_40_40 rfl (by first | exact Or.inl rfl | exact Or.inr rfl | omega) ?_
          first | exact ⟨by rw [if_neg (hs_no1 (by omega))], rfl⟩ | exact ⟨by rw [if_neg (hs_no2 (j := x - p) (by omega) (by rw [show p + (x - p) = x by omega, ← ha_tn x]; assumption))], rfl⟩
      · skip
        refine jr_iload R1 d_40_15 rfl ?_
        refine jr_iload_n R1 d_40_17 rfl ?_
        refine jr_icmp R1 true d_40_18 (by first | assumption | exact hg _ | exact hS _ | exact hV _ | exact hP _ | exact hT _ | exact ⟨by omega, by omega⟩) (by first | assumption | exact hg _ | exact hS _ | exact hV _ | exact hP _ | exact hT _ | exact ⟨by omega, by omega⟩) (by unfold hcb; first | exact decide_eq_true (by omega) | exact decide_eq_false (by omega)) (by decide) (pc' := 47) rfl ?_
        refine jr_iconst R1 d_40_47 ?_
        refine jr_retb R3 d_40_48 rfl (by first | exact Or.inl rfl | exact Or.inr rfl | omega) ?_
        exact ⟨by rw [if_pos (hs_yes (by omega) (fun j hj => hm j (by omega)))], rfl⟩
  show J 0 0 (rd B ((nn : Int)) tk at' fl sc S P V ST E) 0 [(0, .ref 18), (1, .retAddr k), (2, hv (p : Int)), (3, hv (q : Int))] []
  refine jr_aload_x R1 d_40_0 rfl ?_
  refine jr_callv R2 d_40_1 (by decide) rfl (as := [.retAddr k]) (rest := []) rfl (by unfold mj_rc; rw [show (_ : List Value).headD _ = .retAddr k from rfl]; simp [show mj_oc 186 = 99 from rfl, show mj_oc 182 = 99 from rfl, h1, h2]) (hs_length (d := 2) (by omega) h1 h2) (by omega) (Nat.le_of_ble_eq_true rfl) ?_
  rintro rv M9 ⟨rfl, rfl⟩
  show J 0 0 (rd B ((nn : Int)) tk at' fl sc S P V ST E) 4 [(0, .ref 18), (1, .retAddr k), (2, hv ((p : Int))), (3, hv ((q : Int)))] [hv (((hw_l k).length : Int))]
  refine jr_iload_n R1 d_40_4 rfl ?_
  refine jr_iload_n R1 d_40_5 rfl ?_
  refine jr_isub R1 d_40_6 ?_
  by_cases h1 : ((hw_l k).length : Int) = ((q : Int)) - ((p : Int))
  · refine jr_icmp R1 true d_40_7 (by first | assumption | exact hg _ | exact hS _ | exact hV _ | exact hP _ | exact hT _ | exact ⟨by omega, by omega⟩) (by first | assumption | exact hg _ | exact hS _ | exact hV _ | exact hP _ | exact hT _ | exact ⟨by omega, by omega⟩) (by unfold hcb; first | exact decide_eq_true (by omega) | exact decide_eq_false (by omega)) (by decide) (pc' := 12) rfl ?_
    refine jr_iload_n R1 d_40_12 rfl ?_
    refine jr_istore R1 d_40_13 (by decide) (lo' := [(4, hv ((p : Int))), (0, .ref 18), (1, .retAddr k), (2, hv ((p : Int))), (3, hv ((q : Int)))]) rfl ?_
    refine R4 0 0 _ 15 _ [(4, hv (p : Int)), (3, hv (q : Int)), (2, hv (p : Int)), (1, .retAddr k), (0, .ref 18)] _ (fun z hz => by simp only [List.mem_cons, List.not_mem_nil, or_false] at hz ⊢; rcases hz with rfl | rfl | rfl | rfl | rfl <;> simp) ?_
    exact hl (by omega) (q - p) p (Nat.le_refl _) (Nat.le_refl _) hp (fun j hj => absurd hj (by omega))
  · refine jr_icmp R1 false d_40_7 (by first | assumption | exact hg _ | exact hS _ | exact hV _ | exact hP _ | exact hT _ | exact ⟨by omega, by omega⟩) (by first | assumption | exact hg _ | exact hS _ | exact hV _ | exact hP _ | exact hT _ | exact ⟨by omega, by omega⟩) (by unfold hcb; first | exact decide_eq_true (by omega) | exact decide_eq_false (by omega)) (by decide) (pc' := 10) rfl ?_
    refine jr_iconst R1 d_40_10 ?_
    refine jr_retb R3 d_40_11 rfl (by first | exact Or.inl rfl | exact Or.inr rfl | omega) ?_
    first | exact ⟨by rw [if_neg (hs_no1 (by omega))], rfl⟩ | exact ⟨by rw [if_neg (hs_no2 (j := x - p) (by omega) (by rw [show p + (x - p) = x by omega, ← ha_tn x]; assumption))], rfl⟩
theorem hw_map {n : Nat} (hn : n < 12) : (hw_l (11 + n)).map (fun x => x.toInt) = hp_w n := of_decide_eq_true (List.all_eq_true.mp hw_wl n (List.mem_range.mpr hn))
theorem hw_first {g : Nat → Int} {p q n : Nat} (hn : n < 12) (h : ∀ j, j < n → ¬ hp_isb g p q (hp_w j) = true) (h2 : hp_isb g p q (hp_w n) = true) : hp_wd g p q = n := by
  obtain ⟨-, a, b, c⟩ := hp_wf_ok (b := g) (p := p) (q := q) 12 0
  have e1 : ¬ n < hp_wd g p q := fun z => c n (Nat.zero_le _) z (hp_isb_ok.mp h2)
  have e2 : ¬ hp_wd g p q < n := fun z => h _ z (hp_isb_ok.mpr (b (by show hp_wd g p q < 0 + 12; omega)))
  omega
theorem hw_none {g : Nat → Int} {p q : Nat} (h : ∀ j, j < 12 → ¬ hp_isb g p q (hp_w j) = true) : hp_wd g p q = 12 := by
  obtain ⟨-, a, b, c⟩ := hp_wf_ok (b := g) (p := p) (q := q) 12 0
  have e2 : ¬ hp_wd g p q < 12 := fun z => h _ z (hp_isb_ok.mpr (b (by show hp_wd g p q < 0 + 12; omega)))
  have := hp_wd_le (b := g) (p := p) (q := q)
  omega
theorem hc_wordAt {lch : Launch} {d : Nat} {B : mj_M} {nn : Nat} {g : Nat → Int} {tk at' fl sc : Int} {S P V ST E : Nat → Int} {p q : Nat} (hd : 6 ≤ d) (hB : 25 ≤ B.length) (hTp : B[19]? = some (hA 0 160 g)) (hg : ∀ j, hr (g j)) (hn9 : nn ≤ 160) (hat : 0 ≤ at' ∧ at' ≤ 160) (hfl : -1 ≤ fl ∧ fl ≤ 160) (hp : p ≤ q) (hq : q ≤ nn) : mj_Me lch 43 d 0 0 [.ref 18, hv (p : Int), hv (q : Int)] (rd B ((nn : Int)) tk at' fl sc S P V ST E) (fun rv M' => rv = some (hv (if hp_wd g p q = 12 then -1 else (hp_wd g p q : Int))) ∧ M' = rd B ((nn : Int)) tk at' fl sc S P V ST E) := by
  refine mj_Me_of (by decide) (by omega) (Nat.le_of_ble_eq_true rfl) ?_
  intro L xs J R1 R2 R3
  show J 0 0 (rd B ((nn : Int)) tk at' fl sc S P V ST E) 0 [(0, .ref 18), (1, hv (p : Int)), (2, hv (q : Int))] []
  refine jr_iconst R1 d_43_0 ?_
  refine jr_istore_n R1 d_43_1 (by decide) (lo' := [(3, hv 0), (0, .ref 18), (1, hv ((p : Int))), (2, hv ((q : Int)))]) rfl ?_
  refine jr_iload_n R1 d_43_2 rfl ?_
  refine jr_bipush R1 d_43_3 (by decide) ?_
  refine jr_icmp R1 false d_43_5 (by first | assumption | exact hg _ | exact hS _ | exact hV _ | exact hP _ | exact hT _ | exact ⟨by omega, by omega⟩) (by first | assumption | exact hg _ | exact hS _ | exact hV _ | exact hP _ | exact hT _ | exact ⟨by omega, by omega⟩) (by unfold hcb; first | exact decide_eq_true (by omega) | exact decide_eq_false (by omega)) (by decide) (pc' := 8) rfl ?_
  refine jr_aload_n R1 d_43_8 rfl ?_
  refine jr_iload_n R1 d_43_9 rfl ?_
  refine jr_calls R2 d_43_10 (by decide) (by decide) rfl (as := [hv 0]) (rest := [.ref 18]) rfl (hs_word0 (d := 1) (M := rd B ((nn : Int)) tk at' fl sc S P V ST E) (by omega)) (by omega) (Nat.le_of_ble_eq_true rfl) ?_
  rintro rv M9 ⟨rfl, rfl⟩
  show J 0 0 (rd B ((nn : Int)) tk at' fl sc S P V ST E) 13 [(3, hv 0), (0, .ref 18), (1, hv ((p : Int))), (2, hv ((q : Int)))] [.retAddr 11, .ref 18]
  refine jr_iload_n R1 d_43_13 rfl ?_
  refine jr_iload_n R1 d_43_14 rfl ?_
  by_cases hw0 : hp_isb g p q (hp_w 0) = true
  · skip
    refine jr_callv R2 d_43_15 (by decide) rfl (as := [.ref 18, .retAddr 11, hv ((p : Int)), hv ((q : Int))]) (rest := []) rfl (by unfold mj_rc; rw [show (_ : List Value).headD _ = .ref 18 from rfl]; simp only [rd_18 hB]; decide) (hc_stands (d := 5) (k := 11) (by omega) hB hTp hg hn9 hat hfl (by omega) (by omega) hp hq) (by omega) (Nat.le_of_ble_eq_true rfl) ?_
    rintro rv M9 ⟨rfl, rfl⟩
    rw [hw_map (n := 0) (by omega), if_pos hw0]
    show J 0 0 (rd B ((nn : Int)) tk at' fl sc S P V ST E) 18 [(3, hv 0), (0, .ref 18), (1, hv ((p : Int))), (2, hv ((q : Int)))] [hv 1]
    refine jr_ifc R1 false d_43_18 (by first | assumption | exact hg _ | exact hS _ | exact hV _ | exact hP _ | exact hT _ | exact ⟨by omega, by omega⟩) (by unfold hcb; first | exact decide_eq_true (by omega) | exact decide_eq_false (by omega)) (by decide) (pc' := 21) rfl ?_
    refine jr_iload_n R1 d_43_21 rfl ?_
    refine jr_reti R3 d_43_22 rfl ?_
    exact ⟨by rw [hw_first (n := 0) (by omega) (fun j hj => absurd hj (by omega)) (by assumption)]; rfl, rfl⟩
  · skip
    refine jr_callv R2 d_43_15 (by decide) rfl (as := [.ref 18, .retAddr 11, hv ((p : Int)), hv ((q : Int))]) (rest := []) rfl (by unfold mj_rc; rw [show (_ : List Value).headD _ = .ref 18 from rfl]; simp only [rd_18 hB]; decide) (hc_stands (d := 5) (k := 11) (by omega) hB hTp hg hn9 hat hfl (by omega) (by omega) hp hq) (by omega) (Nat.le_of_ble_eq_true rfl) ?_
    rintro rv M9 ⟨rfl, rfl⟩
    rw [hw_map (n := 0) (by omega), if_neg hw0]
    show J 0 0 (rd B ((nn : Int)) tk at' fl sc S P V ST E) 18 [(3, hv 0), (0, .ref 18), (1, hv ((p : Int))), (2, hv ((q : Int)))] [hv 0]
    refine jr_ifc R1 true d_43_18 (by first | assumption | exact hg _ | exact hS _ | exact hV _ | exact hP _ | exact hT _ | exact ⟨by omega, by omega⟩) (by unfold hcb; first | exact decide_eq_true (by omega) | exact decide_eq_false (by omega)) (by decide) (pc' := 23) rfl ?_
    refine jr_iinc R1 d_43_23 (by decide) rfl (lo' := [(3, hv 1), (0, .ref 18), (1, hv ((p : Int))), (2, hv ((q : Int)))]) rfl ?_
    refine jr_goto R1 d_43_26 (by decide) (pc' := 2) rfl ?_
    refine jr_iload_n R1 d_43_2 rfl ?_
    refine jr_bipush R1 d_43_3 (by decide) ?_
    refine jr_icmp R1 false d_43_5 (by first | assumption | exact hg _ | exact hS _ | exact hV _ | exact hP _ | exact hT _ | exact ⟨by omega, by omega⟩) (by first | assumption | exact hg _ | exact hS _ | exact hV _ | exact hP _ | exact hT _ | exact ⟨by omega, by omega⟩) (by unfold hcb; first | exact decide_eq_true (by omega) | exact decide_eq_false (by omega)) (by decide) (pc' := 8) rfl ?_
    refine jr_aload_n R1 d_43_8 rfl ?_
    refine jr_iload_n R1 d_43_9 rfl ?_
    refine jr_calls R2 d_43_10 (by decide) (by decide) rfl (as := [hv 1]) (rest := [.ref 18]) rfl (hs_word1 (d := 1) (M := rd B ((nn : Int)) tk at' fl sc S P V ST E) (by omega)) (by omega) (Nat.le_of_ble_eq_true rfl) ?_
    rintro rv M9 ⟨rfl, rfl⟩
    show J 0 0 (rd B ((nn : Int)) tk at' fl sc S P V ST E) 13 [(3, hv 1), (0, .ref 18), (1, hv ((p : Int))), (2, hv ((q : Int)))] [.retAddr 12, .ref 18]
    refine jr_iload_n R1 d_43_13 rfl ?_
    refine jr_iload_n R1 d_43_14 rfl ?_
    by_cases hw1 : hp_isb g p q (hp_w 1) = true
    · skip
      refine jr_callv R2 d_43_15 (by decide) rfl (as := [.ref 18, .retAddr 12, hv ((p : Int)), hv ((q : Int))]) (rest := []) rfl (by unfold mj_rc; rw [show (_ : List Value).headD _ = .ref 18 from rfl]; simp only [rd_18 hB]; decide) (hc_stands (d := 5) (k := 12) (by omega) hB hTp hg hn9 hat hfl (by omega) (by omega) hp hq) (by omega) (Nat.le_of_ble_eq_true rfl) ?_
      rintro rv M9 ⟨rfl, rfl⟩
      rw [hw_map (n := 1) (by omega), if_pos hw1]
      show J 0 0 (rd B ((nn : Int)) tk at' fl sc S P V ST E) 18 [(3, hv 1), (0, .ref 18), (1, hv ((p : Int))), (2, hv ((q : Int)))] [hv 1]
      refine jr_ifc R1 false d_43_18 (by first | assumption | exact hg _ | exact hS _ | exact hV _ | exact hP _ | exact hT _ | exact ⟨by omega, by omega⟩) (by unfold hcb; first | exact decide_eq_true (by omega) | exact decide_eq_false (by omega)) (by decide) (pc' := 21) rfl ?_
      refine jr_iload_n R1 d_43_21 rfl ?_
      refine jr_reti R3 d_43_22 rfl ?_
      exact ⟨by rw [hw_first (n := 1) (by omega) (fun j hj => by rw [show j = 0 by omega]; exact hw0) (by assumption)]; rfl, rfl⟩
    · skip
      refine jr_callv R2 d_43_15 (by decide) rfl (as := [.ref 18, .retAddr 12, hv ((p : Int)), hv ((q : Int))]) (rest := []) rfl (by unfold mj_rc; rw [show (_ : List Value).headD _ = .ref 18 from rfl]; simp only [rd_18 hB]; decide) (hc_stands (d := 5) (k := 12) (by omega) hB hTp hg hn9 hat hfl (by omega) (by omega) hp hq) (by omega) (Nat.le_of_ble_eq_true rfl) ?_
      rintro rv M9 ⟨rfl, rfl⟩
      rw [hw_map (n := 1) (by omega), if_neg hw1]
      show J 0 0 (rd B ((nn : Int)) tk at' fl sc S P V ST E) 18 [(3, hv 1), (0, .ref 18), (1, hv ((p : Int))), (2, hv ((q : Int)))] [hv 0]
      refine jr_ifc R1 true d_43_18 (by first | assumption | exact hg _ | exact hS _ | exact hV _ | exact hP _ | exact hT _ | exact ⟨by omega, by omega⟩) (by unfold hcb; first | exact decide_eq_true (by omega) | exact decide_eq_false (by omega)) (by decide) (pc' := 23) rfl ?_
      refine jr_iinc R1 d_43_23 (by decide) rfl (lo' := [(3, hv 2), (0, .ref 18), (1, hv ((p : Int))), (2, hv ((q : Int)))]) rfl ?_
      refine jr_goto R1 d_43_26 (by decide) (pc' := 2) rfl ?_
      refine jr_iload_n R1 d_43_2 rfl ?_
      refine jr_bipush R1 d_43_3 (by decide) ?_
      refine jr_icmp R1 false d_43_5 (by first | assumption | exact hg _ | exact hS _ | exact hV _ | exact hP _ | exact hT _ | exact ⟨by omega, by omega⟩) (by first | assumption | exact hg _ | exact hS _ | exact hV _ | exact hP _ | exact hT _ | exact ⟨by omega, by omega⟩) (by unfold hcb; first | exact decide_eq_true (by omega) | exact decide_eq_false (by omega)) (by decide) (pc' := 8) rfl ?_
      refine jr_aload_n R1 d_43_8 rfl ?_
      refine jr_iload_n R1 d_43_9 rfl ?_
      refine jr_calls R2 d_43_10 (by decide) (by decide) rfl (as := [hv 2]) (rest := [.ref 18]) rfl (hs_word2 (d := 1) (M := rd B ((nn : Int)) tk at' fl sc S P V ST E) (by omega)) (by omega) (Nat.le_of_ble_eq_true rfl) ?_
      rintro rv M9 ⟨rfl, rfl⟩
      show J 0 0 (rd B ((nn : Int)) tk at' fl sc S P V ST E) 13 [(3, hv 2), (0, .ref 18), (1, hv ((p : Int))), (2, hv ((q : Int)))] [.retAddr 13, .ref 18]
      refine jr_iload_n R1 d_43_13 rfl ?_
      refine jr_iload_n R1 d_43_14 rfl ?_
      by_cases hw2 : hp_isb g p q (hp_w 2) = true
      · skip
        refine jr_callv R2 d_43_15 (by decide) rfl (as := [.ref 18, .retAddr 13, hv ((p : Int)), hv ((q : Int))]) (rest := []) rfl (by unfold mj_rc; rw [show (_ : List Value).headD _ = .ref 18 from rfl]; simp only [rd_18 hB]; decide) (hc_stands (d := 5) (k := 13) (by omega) hB hTp hg hn9 hat hfl (by omega) (by omega) hp hq) (by omega) (Nat.le_of_ble_eq_true rfl) ?_
        rintro rv M9 ⟨rfl, rfl⟩
        rw [hw_map (n := 2) (by omega), if_pos hw2]
        show J 0 0 (rd B ((nn : Int)) tk at' fl sc S P V ST E) 18 [(3, hv 2), (0, .ref 18), (1, hv ((p : Int))), (2, hv ((q : Int)))] [hv 1]
        refine jr_ifc R1 false d_43_18 (by first | assumption | exact hg _ | exact hS _ | exact hV _ | exact hP _ | exact hT _ | exact ⟨by omega, by omega⟩) (by unfold hcb; first | exact decide_eq_true (by omega) | exact decide_eq_false (by omega)) (by decide) (pc' := 21) rfl ?_
        refine jr_iload_n R1 d_43_21 rfl ?_
        refine jr_reti R3 d_43_22 rfl ?_
        exact ⟨by rw [hw_first (n := 2) (by omega) (fun j hj => by rcases (by omega : j = 0 ∨ j = 1) with rfl | rfl <;> assumption) (by assumption)]; rfl, rfl⟩
      · skip
        refine jr_callv R2 d_43_15 (by decide) rfl (as := [.ref 18, .retAddr 13, hv ((p : Int)), hv ((q : Int))]) (rest := []) rfl (by unfold mj_rc; rw [show (_ : List Value).headD _ = .ref 18 from rfl]; simp only [rd_18 hB]; decide) (hc_stands (d := 5) (k := 13) (by omega) hB hTp hg hn9 hat hfl (by omega) (by omega) hp hq) (by omega) (Nat.le_of_ble_eq_true rfl) ?_
        rintro rv M9 ⟨rfl, rfl⟩
        rw [hw_map (n := 2) (by omega), if_neg hw2]
        show J 0 0 (rd B ((nn : Int)) tk at' fl sc S P V ST E) 18 [(3, hv 2), (0, .ref 18), (1, hv ((p : Int))), (2, hv ((q : Int)))] [hv 0]
        refine jr_ifc R1 true d_43_18 (by first | assumption | exact hg _ | exact hS _ | exact hV _ | exact hP _ | exact hT _ | exact ⟨by omega, by omega⟩) (by unfold hcb; first | exact decide_eq_true (by omega) | exact decide_eq_false (by omega)) (by decide) (pc' := 23) rfl ?_
        refine jr_iinc R1 d_43_23 (by decide) rfl (lo' := [(3, hv 3), (0, .ref 18), (1, hv ((p : Int))), (2, hv ((q : Int)))]) rfl ?_
        refine jr_goto R1 d_43_26 (by decide) (pc' := 2) rfl ?_
        refine jr_iload_n R1 d_43_2 rfl ?_
        refine jr_bipush R1 d_43_3 (by decide) ?_
        refine jr_icmp R1 false d_43_5 (by first | assumption | exact hg _ | exact hS _ | exact hV _ | exact hP _ | exact hT _ | exact ⟨by omega, by omega⟩) (by first | assumption | exact hg _ | exact hS _ | exact hV _ | exact hP _ | exact hT _ | exact ⟨by omega, by omega⟩) (by unfold hcb; first | exact decide_eq_true (by omega) | exact decide_eq_false (by omega)) (by decide) (pc' := 8) rfl ?_
        refine jr_aload_n R1 d_43_8 rfl ?_
        refine jr_iload_n R1 d_43_9 rfl ?_
        refine jr_calls R2 d_43_10 (by decide) (by decide) rfl (as := [hv 3]) (rest := [.ref 18]) rfl (hs_word3 (d := 1) (M := rd B ((nn : Int)) tk at' fl sc S P V ST E) (by omega)) (by omega) (Nat.le_of_ble_eq_true rfl) ?_
        rintro rv M9 ⟨rfl, rfl⟩
        show J 0 0 (rd B ((nn : Int)) tk at' fl sc S P V ST E) 13 [(3, hv 3), (0, .ref 18), (1, hv ((p : Int))), (2, hv ((q : Int)))] [.retAddr 14, .ref 18]
        refine jr_iload_n R1 d_43_13 rfl ?_
        refine jr_iload_n R1 d_43_14 rfl ?_
        by_cases hw3 : hp_isb g p q (hp_w 3) = true
        · skip
          refine jr_callv R2 d_43_15 (by decide) rfl (as := [.ref 18, .retAddr 14, hv ((p : Int)), hv ((q : Int))]) (rest := []) rfl (by unfold mj_rc; rw [show (_ : List Value).headD _ = .ref 18 from rfl]; simp only [rd_18 hB]; decide) (hc_stands (d := 5) (k := 14) (by omega) hB hTp hg hn9 hat hfl (by omega) (by omega) hp hq) (by omega) (Nat.le_of_ble_eq_true rfl) ?_
          rintro rv M9 ⟨rfl, rfl⟩
          rw [hw_map (n := 3) (by omega), if_pos hw3]
          show J 0 0 (rd B ((nn : Int)) tk at' fl sc S P V ST E) 18 [(3, hv 3), (0, .ref 18), (1, hv ((p : Int))), (2, hv ((q : Int)))] [hv 1]
          refine jr_ifc R1 false d_43_18 (by first | assumption | exact hg _ | exact hS _ | exact hV _ | exact hP _ | exact hT _ | exact ⟨by omega, by omega⟩) (by unfold hcb; first | exact decide_eq_true (by omega) | exact decide_eq_false (by omega)) (by decide) (pc' := 21) rfl ?_
          refine jr_iload_n R1 d_43_21 rfl ?_
          refine jr_reti R3 d_43_22 rfl ?_
          exact ⟨by rw [hw_first (n := 3) (by omega) (fun j hj => by rcases (by omega : j = 0 ∨ j = 1 ∨ j = 2) with rfl | rfl | rfl <;> assumption) (by assumption)]; rfl, rfl⟩
        · skip
          refine jr_callv R2 d_43_15 (by decide) rfl (as := [.ref 18, .retAddr 14, hv ((p : Int)), hv ((q : Int))]) (rest := []) rfl (by unfold mj_rc; rw [show (_ : List Value).headD _ = .ref 18 from rfl]; simp only [rd_18 hB]; decide) (hc_stands (d := 5) (k := 14) (by omega) hB hTp hg hn9 hat hfl (by omega) (by omega) hp hq) (by omega) (Nat.le_of_ble_eq_true rfl) ?_
          rintro rv M9 ⟨rfl, rfl⟩
          rw [hw_map (n := 3) (by omega), if_neg hw3]
          show J 0 0 (rd B ((nn : Int)) tk at' fl sc S P V ST E) 18 [(3, hv 3), (0, .ref 18), (1, hv ((p : Int))), (2, hv ((q : Int)))] [hv 0]
          refine jr_ifc R1 true d_43_18 (by first | assumption | exact hg _ | exact hS _ | exact hV _ | exact hP _ | exact hT _ | exact ⟨by omega, by omega⟩) (by unfold hcb; first | exact decide_eq_true (by omega) | exact decide_eq_false (by omega)) (by decide) (pc' := 23) rfl ?_
          refine jr_iinc R1 d_43_23 (by decide) rfl (lo' := [(3, hv 4), (0, .ref 18), (1, hv ((p : Int))), (2, hv ((q : Int)))]) rfl ?_
          refine jr_goto R1 d_43_26 (by decide) (pc' := 2) rfl ?_
          refine jr_iload_n R1 d_43_2 rfl ?_
          refine jr_bipush R1 d_43_3 (by decide) ?_
          refine jr_icmp R1 false d_43_5 (by first | assumption | exact hg _ | exact hS _ | exact hV _ | exact hP _ | exact hT _ | exact ⟨by omega, by omega⟩) (by first | assumption | exact hg _ | exact hS _ | exact hV _ | exact hP _ | exact hT _ | exact ⟨by omega, by omega⟩) (by unfold hcb; first | exact decide_eq_true (by omega) | exact decide_eq_false (by omega)) (by decide) (pc' := 8) rfl ?_
          refine jr_aload_n R1 d_43_8 rfl ?_
          refine jr_iload_n R1 d_43_9 rfl ?_
          refine jr_calls R2 d_43_10 (by decide) (by decide) rfl (as := [hv 4]) (rest := [.ref 18]) rfl (hs_word4 (d := 1) (M := rd B ((nn : Int)) tk at' fl sc S P V ST E) (by omega)) (by omega) (Nat.le_of_ble_eq_true rfl) ?_
          rintro rv M9 ⟨rfl, rfl⟩
          show J 0 0 (rd B ((nn : Int)) tk at' fl sc S P V ST E) 13 [(3, hv 4), (0, .ref 18), (1, hv ((p : Int))), (2, hv ((q : Int)))] [.retAddr 15, .ref 18]
          refine jr_iload_n R1 d_43_13 rfl ?_
          refine jr_iload_n R1 d_43_14 rfl ?_
          by_cases hw4 : hp_isb g p q (hp_w 4) = true
          · skip
            refine jr_callv R2 d_43_15 (by decide) rfl (as := [.ref 18, .retAddr 15, hv ((p : Int)), hv ((q : Int))]) (rest := []) rfl (by unfold mj_rc; rw [show (_ : List Value).headD _ = .ref 18 from rfl]; simp only [rd_18 hB]; decide) (hc_stands (d := 5) (k := 15) (by omega) hB hTp hg hn9 hat hfl (by omega) (by omega) hp hq) (by omega) (Nat.le_of_ble_eq_true rfl) ?_
            rintro rv M9 ⟨rfl, rfl⟩
            rw [hw_map (n := 4) (by omega), if_pos hw4]
            show J 0 0 (rd B ((nn : Int)) tk at' fl sc S P V ST E) 18 [(3, hv 4), (0, .ref 18), (1, hv ((p : Int))), (2, hv ((q : Int)))] [hv 1]
            refine jr_ifc R1 false d_43_18 (by first | assumption | exact hg _ | exact hS _ | exact hV _ | exact hP _ | exact hT _ | exact ⟨by omega, by omega⟩) (by unfold hcb; first | exact decide_eq_true (by omega) | exact decide_eq_false (by omega)) (by decide) (pc' := 21) rfl ?_
            refine jr_iload_n R1 d_43_21 rfl ?_
            refine jr_reti R3 d_43_22 rfl ?_
            exact ⟨by rw [hw_first (n := 4) (by omega) (fun j hj => by rcases (by omega : j = 0 ∨ j = 1 ∨ j = 2 ∨ j = 3) with rfl | rfl | rfl | rfl <;> assumption) (by assumption)]; rfl, rfl⟩
          · skip
            refine jr_callv R2 d_43_15 (by decide) rfl (as := [.ref 18, .retAddr 15, hv ((p : Int)), hv ((q : Int))]) (rest := []) rfl (by unfold mj_rc; rw [show (_ : List Value).headD _ = .ref 18 from rfl]; simp only [rd_18 hB]; decide) (hc_stands (d := 5) (k := 15) (by omega) hB hTp hg hn9 hat hfl (by omega) (by omega) hp hq) (by omega) (Nat.le_of_ble_eq_true rfl) ?_
            rintro rv M9 ⟨rfl, rfl⟩
            rw [hw_map (n := 4) (by omega), if_neg hw4]
            show J 0 0 (rd B ((nn : Int)) tk at' fl sc S P V ST E) 18 [(3, hv 4), (0, .ref 18), (1, hv ((p : Int))), (2, hv ((q : Int)))] [hv 0]
            refine jr_ifc R1 true d_43_18 (by first | assumption | exact hg _ | exact hS _ | exact hV _ | exact hP _ | exact hT _ | exact ⟨by omega, by omega⟩) (by unfold hcb; first | exact decide_eq_true (by omega) | exact decide_eq_false (by omega)) (by decide) (pc' := 23) rfl ?_
            refine jr_iinc R1 d_43_23 (by decide) rfl (lo' := [(3, hv 5), (0, .ref 18), (1, hv ((p : Int))), (2, hv ((q : Int)))]) rfl ?_
            refine jr_goto R1 d_43_26 (by decide) (pc' := 2) rfl ?_
            refine jr_iload_n R1 d_43_2 rfl ?_
            refine jr_bipush R1 d_43_3 (by decide) ?_
            refine jr_icmp R1 false d_43_5 (by first | assumption | exact hg _ | exact hS _ | exact hV _ | exact hP _ | exact hT _ | exact ⟨by omega, by omega⟩) (by first | assumption | exact hg _ | exact hS _ | exact hV _ | exact hP _ | exact hT _ | exact ⟨by omega, by omega⟩) (by unfold hcb; first | exact decide_eq_true (by omega) | exact decide_eq_false (by omega)) (by decide) (pc' := 8) rfl ?_
            refine jr_aload_n R1 d_43_8 rfl ?_
            refine jr_iload_n R1 d_43_9 rfl ?_
            refine jr_calls R2 d_43_10 (by decide) (by decide) rfl (as := [hv 5]) (rest := [.ref 18]) rfl (hs_word5 (d := 1) (M := rd B ((nn : Int)) tk at' fl sc S P V ST E) (by omega)) (by omega) (Nat.le_of_ble_eq_true rfl) ?_
            rintro rv M9 ⟨rfl, rfl⟩
            show J 0 0 (rd B ((nn : Int)) tk at' fl sc S P V ST E) 13 [(3, hv 5), (0, .ref 18), (1, hv ((p : Int))), (2, hv ((q : Int)))] [.retAddr 16, .ref 18]
            refine jr_iload_n R1 d_43_13 rfl ?_
            refine jr_iload_n R1 d_43_14 rfl ?_
            by_cases hw5 : hp_isb g p q (hp_w 5) = true
            · skip
              refine jr_callv R2 d_43_15 (by decide) rfl (as := [.ref 18, .retAddr 16, hv ((p : Int)), hv ((q : Int))]) (rest := []) rfl (by unfold mj_rc; rw [show (_ : List Value).headD _ = .ref 18 from rfl]; simp only [rd_18 hB]; decide) (hc_stands (d := 5) (k := 16) (by omega) hB hTp hg hn9 hat hfl (by omega) (by omega) hp hq) (by omega) (Nat.le_of_ble_eq_true rfl) ?_
              rintro rv M9 ⟨rfl, rfl⟩
              rw [hw_map (n := 5) (by omega), if_pos hw5]
              show J 0 0 (rd B ((nn : Int)) tk at' fl sc S P V ST E) 18 [(3, hv 5), (0, .ref 18), (1, hv ((p : Int))), (2, hv ((q : Int)))] [hv 1]
              refine jr_ifc R1 false d_43_18 (by first | assumption | exact hg _ | exact hS _ | exact hV _ | exact hP _ | exact hT _ | exact ⟨by omega, by omega⟩) (by unfold hcb; first | exact decide_eq_true (by omega) | exact decide_eq_false (by omega)) (by decide) (pc' := 21) rfl ?_
              refine jr_iload_n R1 d_43_21 rfl ?_
              refine jr_reti R3 d_43_22 rfl ?_
              exact ⟨by rw [hw_first (n := 5) (by omega) (fun j hj => by rcases (by omega : j = 0 ∨ j = 1 ∨ j = 2 ∨ j = 3 ∨ j = 4) with rfl | rfl | rfl | rfl | rfl <;> assumption) (by assumption)]; rfl, rfl⟩
            · skip
              refine jr_callv R2 d_43_15 (by decide) rfl (as := [.ref 18, .retAddr 16, hv ((p : Int)), hv ((q : Int))]) (rest := []) rfl (by unfold mj_rc; rw [show (_ : List Value).headD _ = .ref 18 from rfl]; simp only [rd_18 hB]; decide) (hc_stands (d := 5) (k := 16) (by omega) hB hTp hg hn9 hat hfl (by omega) (by omega) hp hq) (by omega) (Nat.le_of_ble_eq_true rfl) ?_
              rintro rv M9 ⟨rfl, rfl⟩
              rw [hw_map (n := 5) (by omega), if_neg hw5]
              show J 0 0 (rd B ((nn : Int)) tk at' fl sc S P V ST E) 18 [(3, hv 5), (0, .ref 18), (1, hv ((p : Int))), (2, hv ((q : Int)))] [hv 0]
              refine jr_ifc R1 true d_43_18 (by first | assumption | exact hg _ | exact hS _ | exact hV _ | exact hP _ | exact hT _ | exact ⟨by omega, by omega⟩) (by unfold hcb; first | exact decide_eq_true (by omega) | exact decide_eq_false (by omega)) (by decide) (pc' := 23) rfl ?_
              refine jr_iinc R1 d_43_23 (by decide) rfl (lo' := [(3, hv 6), (0, .ref 18), (1, hv ((p : Int))), (2, hv ((q : Int)))]) rfl ?_
              refine jr_goto R1 d_43_26 (by decide) (pc' := 2) rfl ?_
              refine jr_iload_n R1 d_43_2 rfl ?_
              refine jr_bipush R1 d_43_3 (by decide) ?_
              refine jr_icmp R1 false d_43_5 (by first | assumption | exact hg _ | exact hS _ | exact hV _ | exact hP _ | exact hT _ | exact ⟨by omega, by omega⟩) (by first | assumption | exact hg _ | exact hS _ | exact hV _ | exact hP _ | exact hT _ | exact ⟨by omega, by omega⟩) (by unfold hcb; first | exact decide_eq_true (by omega) | exact decide_eq_false (by omega)) (by decide) (pc' := 8) rfl ?_
              refine jr_aload_n R1 d_43_8 rfl ?_
              refine jr_iload_n R1 d_43_9 rfl ?_
              refine jr_calls R2 d_43_10 (by decide) (by decide) rfl (as := [hv 6]) (rest := [.ref 18]) rfl (hs_word6 (d := 1) (M := rd B ((nn : Int)) tk at' fl sc S P V ST E) (by omega)) (by omega) (Nat.le_of_ble_eq_true rfl) ?_
              rintro rv M9 ⟨rfl, rfl⟩
              show J 0 0 (rd B ((nn : Int)) tk at' fl sc S P V ST E) 13 [(3, hv 6), (0, .ref 18), (1, hv ((p : Int))), (2, hv ((q : Int)))] [.retAddr 17, .ref 18]
              refine jr_iload_n R1 d_43_13 rfl ?_
              refine jr_iload_n R1 d_43_14 rfl ?_
              by_cases hw6 : hp_isb g p q (hp_w 6) = true
              · skip
                refine jr_callv R2 d_43_15 (by decide) rfl (as := [.ref 18, .retAddr 17, hv ((p : Int)), hv ((q : Int))]) (rest := []) rfl (by unfold mj_rc; rw [show (_ : List Value).headD _ = .ref 18 from rfl]; simp only [rd_18 hB]; decide) (hc_stands (d := 5) (k := 17) (by omega) hB hTp hg hn9 hat hfl (by omega) (by omega) hp hq) (by omega) (Nat.le_of_ble_eq_true rfl) ?_
                rintro rv M9 ⟨rfl, rfl⟩
                rw [hw_map (n := 6) (by omega), if_pos hw6]
                show J 0 0 (rd B ((nn : Int)) tk at' fl sc S P V ST E) 18 [(3, hv 6), (0, .ref 18), (1, hv ((p : Int))), (2, hv ((q : Int)))] [hv 1]
                refine jr_ifc R1 false d_43_18 (by first | assumption | exact hg _ | exact hS _ | exact hV _ | exact hP _ | exact hT _ | exact ⟨by omega, by omega⟩) (by unfold hcb; first | exact decide_eq_true (by omega) | exact decide_eq_false (by omega)) (by decide) (pc' := 21) rfl ?_
                refine jr_iload_n R1 d_43_21 rfl ?_
                refine jr_reti R3 d_43_22 rfl ?_
                exact ⟨by rw [hw_first (n := 6) (by omega) (fun j hj => by rcases (by omega : j = 0 ∨ j = 1 ∨ j = 2 ∨ j = 3 ∨ j = 4 ∨ j = 5) with rfl | rfl | rfl | rfl | rfl | rfl <;> assumption) (by assumption)]; rfl, rfl⟩
              · skip
                refine jr_callv R2 d_43_15 (by decide) rfl (as := [.ref 18, .retAddr 17, hv ((p : Int)), hv ((q : Int))]) (rest := []) rfl (by unfold mj_rc; rw [show (_ : List Value).headD _ = .ref 18 from rfl]; simp only [rd_18 hB]; decide) (hc_stands (d := 5) (k := 17) (by omega) hB hTp hg hn9 hat hfl (by omega) (by omega) hp hq) (by omega) (Nat.le_of_ble_eq_true rfl) ?_
                rintro rv M9 ⟨rfl, rfl⟩
                rw [hw_map (n := 6) (by omega), if_neg hw6]
                show J 0 0 (rd B ((nn : Int)) tk at' fl sc S P V ST E) 18 [(3, hv 6), (0, .ref 18), (1, hv ((p : Int))), (2, hv ((q : Int)))] [hv 0]
                refine jr_ifc R1 true d_43_18 (by first | assumption | exact hg _ | exact hS _ | exact hV _ | exact hP _ | exact hT _ | exact ⟨by omega, by omega⟩) (by unfold hcb; first | exact decide_eq_true (by omega) | exact decide_eq_false (by omega)) (by decide) (pc' := 23) rfl ?_
                refine jr_iinc R1 d_43_23 (by decide) rfl (lo' := [(3, hv 7), (0, .ref 18), (1, hv ((p : Int))), (2, hv ((q : Int)))]) rfl ?_
                refine jr_goto R1 d_43_26 (by decide) (pc' := 2) rfl ?_
                refine jr_iload_n R1 d_43_2 rfl ?_
                refine jr_bipush R1 d_43_3 (by decide) ?_
                refine jr_icmp R1 false d_43_5 (by first | assumption | exact hg _ | exact hS _ | exact hV _ | exact hP _ | exact hT _ | exact ⟨by omega, by omega⟩) (by first | assumption | exact hg _ | exact hS _ | exact hV _ | exact hP _ | exact hT _ | exact ⟨by omega, by omega⟩) (by unfold hcb; first | exact decide_eq_true (by omega) | exact decide_eq_false (by omega)) (by decide) (pc' := 8) rfl ?_
                refine jr_aload_n R1 d_43_8 rfl ?_
                refine jr_iload_n R1 d_43_9 rfl ?_
                refine jr_calls R2 d_43_10 (by decide) (by decide) rfl (as := [hv 7]) (rest := [.ref 18]) rfl (hs_word7 (d := 1) (M := rd B ((nn : Int)) tk at' fl sc S P V ST E) (by omega)) (by omega) (Nat.le_of_ble_eq_true rfl) ?_
                rintro rv M9 ⟨rfl, rfl⟩
                show J 0 0 (rd B ((nn : Int)) tk at' fl sc S P V ST E) 13 [(3, hv 7), (0, .ref 18), (1, hv ((p : Int))), (2, hv ((q : Int)))] [.retAddr 18, .ref 18]
                refine jr_iload_n R1 d_43_13 rfl ?_
                refine jr_iload_n R1 d_43_14 rfl ?_
                by_cases hw7 : hp_isb g p q (hp_w 7) = true
                · skip
                  refine jr_callv R2 d_43_15 (by decide) rfl (as := [.ref 18, .retAddr 18, hv ((p : Int)), hv ((q : Int))]) (rest := []) rfl (by unfold mj_rc; rw [show (_ : List Value).headD _ = .ref 18 from rfl]; simp only [rd_18 hB]; decide) (hc_stands (d := 5) (k := 18) (by omega) hB hTp hg hn9 hat hfl (by omega) (by omega) hp hq) (by omega) (Nat.le_of_ble_eq_true rfl) ?_
                  rintro rv M9 ⟨rfl, rfl⟩
                  rw [hw_map (n := 7) (by omega), if_pos hw7]
                  show J 0 0 (rd B ((nn : Int)) tk at' fl sc S P V ST E) 18 [(3, hv 7), (0, .ref 18), (1, hv ((p : Int))), (2, hv ((q : Int)))] [hv 1]
                  refine jr_ifc R1 false d_43_18 (by first | assumption | exact hg _ | exact hS _ | exact hV _ | exact hP _ | exact hT _ | exact ⟨by omega, by omega⟩) (by unfold hcb; first | exact decide_eq_true (by omega) | exact decide_eq_false (by omega)) (by decide) (pc' := 21) rfl ?_
                  refine jr_iload_n R1 d_43_21 rfl ?_
                  refine jr_reti R3 d_43_22 rfl ?_
                  exact ⟨by rw [hw_first (n := 7) (by omega) (fun j hj => by rcases (by omega : j = 0 ∨ j = 1 ∨ j = 2 ∨ j = 3 ∨ j = 4 ∨ j = 5 ∨ j = 6) with rfl | rfl | rfl | rfl | rfl | rfl | rfl <;> assumption) (by assumption)]; rfl, rfl⟩
                · skip
                  refine jr_callv R2 d_43_15 (by decide) rfl (as := [.ref 18, .retAddr 18, hv ((p : Int)), hv ((q : Int))]) (rest := []) rfl (by unfold mj_rc; rw [show (_ : List Value).headD _ = .ref 18 from rfl]; simp only [rd_18 hB]; decide) (hc_stands (d := 5) (k := 18) (by omega) hB hTp hg hn9 hat hfl (by omega) (by omega) hp hq) (by omega) (Nat.le_of_ble_eq_true rfl) ?_
                  rintro rv M9 ⟨rfl, rfl⟩
                  rw [hw_map (n := 7) (by omega), if_neg hw7]
                  show J 0 0 (rd B ((nn : Int)) tk at' fl sc S P V ST E) 18 [(3, hv 7), (0, .ref 18), (1, hv ((p : Int))), (2, hv ((q : Int)))] [hv 0]
                  refine jr_ifc R1 true d_43_18 (by first | assumption | exact hg _ | exact hS _ | exact hV _ | exact hP _ | exact hT _ | exact ⟨by omega, by omega⟩) (by unfold hcb; first | exact decide_eq_true (by omega) | exact decide_eq_false (by omega)) (by decide) (pc' := 23) rfl ?_
                  refine jr_iinc R1 d_43_23 (by decide) rfl (lo' := [(3, hv 8), (0, .ref 18), (1, hv ((p : Int))), (2, hv ((q : Int)))]) rfl ?_
                  refine jr_goto R1 d_43_26 (by decide) (pc' := 2) rfl ?_
                  refine jr_iload_n R1 d_43_2 rfl ?_
                  refine jr_bipush R1 d_43_3 (by decide) ?_
                  refine jr_icmp R1 false d_43_5 (by first | assumption | exact hg _ | exact hS _ | exact hV _ | exact hP _ | exact hT _ | exact ⟨by omega, by omega⟩) (by first | assumption | exact hg _ | exact hS _ | exact hV _ | exact hP _ | exact hT _ | exact ⟨by omega, by omega⟩) (by unfold hcb; first | exact decide_eq_true (by omega) | exact decide_eq_false (by omega)) (by decide) (pc' := 8) rfl ?_
                  refine jr_aload_n R1 d_43_8 rfl ?_
                  refine jr_iload_n R1 d_43_9 rfl ?_
                  refine jr_calls R2 d_43_10 (by decide) (by decide) rfl (as := [hv 8]) (rest := [.ref 18]) rfl (hs_word8 (d := 1) (M := rd B ((nn : Int)) tk at' fl sc S P V ST E) (by omega)) (by omega) (Nat.le_of_ble_eq_true rfl) ?_
                  rintro rv M9 ⟨rfl, rfl⟩
                  show J 0 0 (rd B ((nn : Int)) tk at' fl sc S P V ST E) 13 [(3, hv 8), (0, .ref 18), (1, hv ((p : Int))), (2, hv ((q : Int)))] [.retAddr 19, .ref 18]
                  refine jr_iload_n R1 d_43_13 rfl ?_
                  refine jr_iload_n R1 d_43_14 rfl ?_
                  by_cases hw8 : hp_isb g p q (hp_w 8) = true
                  · skip
                    refine jr_callv R2 d_43_15 (by decide) rfl (as := [.ref 18, .retAddr 19, hv ((p : Int)), hv ((q : Int))]) (rest := []) rfl (by unfold mj_rc; rw [show (_ : List Value).headD _ = .ref 18 from rfl]; simp only [rd_18 hB]; decide) (hc_stands (d := 5) (k := 19) (by omega) hB hTp hg hn9 hat hfl (by omega) (by omega) hp hq) (by omega) (Nat.le_of_ble_eq_true rfl) ?_
                    rintro rv M9 ⟨rfl, rfl⟩
                    rw [hw_map (n := 8) (by omega), if_pos hw8]
                    show J 0 0 (rd B ((nn : Int)) tk at' fl sc S P V ST E) 18 [(3, hv 8), (0, .ref 18), (1, hv ((p : Int))), (2, hv ((q : Int)))] [hv 1]
                    refine jr_ifc R1 false d_43_18 (by first | assumption | exact hg _ | exact hS _ | exact hV _ | exact hP _ | exact hT _ | exact ⟨by omega, by omega⟩) (by unfold hcb; first | exact decide_eq_true (by omega) | exact decide_eq_false (by omega)) (by decide) (pc' := 21) rfl ?_
                    refine jr_iload_n R1 d_43_21 rfl ?_
                    refine jr_reti R3 d_43_22 rfl ?_
                    exact ⟨by rw [hw_first (n := 8) (by omega) (fun j hj => by rcases (by omega : j = 0 ∨ j = 1 ∨ j = 2 ∨ j = 3 ∨ j = 4 ∨ j = 5 ∨ j = 6 ∨ j = 7) with rfl | rfl | rfl | rfl | rfl | rfl | rfl | rfl <;> assumption) (by assumption)]; rfl, rfl⟩
                  · skip
                    refine jr_callv R2 d_43_15 (by decide) rfl (as := [.ref 18, .retAddr 19, hv ((p : Int)), hv ((q : Int))]) (rest := []) rfl (by unfold mj_rc; rw [show (_ : List Value).headD _ = .ref 18 from rfl]; simp only [rd_18 hB]; decide) (hc_stands (d := 5) (k := 19) (by omega) hB hTp hg hn9 hat hfl (by omega) (by omega) hp hq) (by omega) (Nat.le_of_ble_eq_true rfl) ?_
                    rintro rv M9 ⟨rfl, rfl⟩
                    rw [hw_map (n := 8) (by omega), if_neg hw8]
                    show J 0 0 (rd B ((nn : Int)) tk at' fl sc S P V ST E) 18 [(3, hv 8), (0, .ref 18), (1, hv ((p : Int))), (2, hv ((q : Int)))] [hv 0]
                    refine jr_ifc R1 true d_43_18 (by first | assumption | exact hg _ | exact hS _ | exact hV _ | exact hP _ | exact hT _ | exact ⟨by omega, by omega⟩) (by unfold hcb; first | exact decide_eq_true (by omega) | exact decide_eq_false (by omega)) (by decide) (pc' := 23) rfl ?_
                    refine jr_iinc R1 d_43_23 (by decide) rfl (lo' := [(3, hv 9), (0, .ref 18), (1, hv ((p : Int))), (2, hv ((q : Int)))]) rfl ?_
                    refine jr_goto R1 d_43_26 (by decide) (pc' := 2) rfl ?_
                    refine jr_iload_n R1 d_43_2 rfl ?_
                    refine jr_bipush R1 d_43_3 (by decide) ?_
                    refine jr_icmp R1 false d_43_5 (by first | assumption | exact hg _ | exact hS _ | exact hV _ | exact hP _ | exact hT _ | exact ⟨by omega, by omega⟩) (by first | assumption | exact hg _ | exact hS _ | exact hV _ | exact hP _ | exact hT _ | exact ⟨by omega, by omega⟩) (by unfold hcb; first | exact decide_eq_true (by omega) | exact decide_eq_false (by omega)) (by decide) (pc' := 8) rfl ?_
                    refine jr_aload_n R1 d_43_8 rfl ?_
                    refine jr_iload_n R1 d_43_9 rfl ?_
                    refine jr_calls R2 d_43_10 (by decide) (by decide) rfl (as := [hv 9]) (rest := [.ref 18]) rfl (hs_word9 (d := 1) (M := rd B ((nn : Int)) tk at' fl sc S P V ST E) (by omega)) (by omega) (Nat.le_of_ble_eq_true rfl) ?_
                    rintro rv M9 ⟨rfl, rfl⟩
                    show J 0 0 (rd B ((nn : Int)) tk at' fl sc S P V ST E) 13 [(3, hv 9), (0, .ref 18), (1, hv ((p : Int))), (2, hv ((q : Int)))] [.retAddr 20, .ref 18]
                    refine jr_iload_n R1 d_43_13 rfl ?_
                    refine jr_iload_n R1 d_43_14 rfl ?_
                    by_cases hw9 : hp_isb g p q (hp_w 9) = true
                    · skip
                      refine jr_callv R2 d_43_15 (by decide) rfl (as := [.ref 18, .retAddr 20, hv ((p : Int)), hv ((q : Int))]) (rest := []) rfl (by unfold mj_rc; rw [show (_ : List Value).headD _ = .ref 18 from rfl]; simp only [rd_18 hB]; decide) (hc_stands (d := 5) (k := 20) (by omega) hB hTp hg hn9 hat hfl (by omega) (by omega) hp hq) (by omega) (Nat.le_of_ble_eq_true rfl) ?_
                      rintro rv M9 ⟨rfl, rfl⟩
                      rw [hw_map (n := 9) (by omega), if_pos hw9]
                      show J 0 0 (rd B ((nn : Int)) tk at' fl sc S P V ST E) 18 [(3, hv 9), (0, .ref 18), (1, hv ((p : Int))), (2, hv ((q : Int)))] [hv 1]
                      refine jr_ifc R1 false d_43_18 (by first | assumption | exact hg _ | exact hS _ | exact hV _ | exact hP _ | exact hT _ | exact ⟨by omega, by omega⟩) (by unfold hcb; first | exact decide_eq_true (by omega) | exact decide_eq_false (by omega)) (by decide) (pc' := 21) rfl ?_
                      refine jr_iload_n R1 d_43_21 rfl ?_
                      refine jr_reti R3 d_43_22 rfl ?_
                      exact ⟨by rw [hw_first (n := 9) (by omega) (fun j hj => by rcases (by omega : j = 0 ∨ j = 1 ∨ j = 2 ∨ j = 3 ∨ j = 4 ∨ j = 5 ∨ j = 6 ∨ j = 7 ∨ j = 8) with rfl | rfl | rfl | rfl | rfl | rfl | rfl | rfl | rfl <;> assumption) (by assumption)]; rfl, rfl⟩
                    · skip
                      refine jr_callv R2 d_43_15 (by decide) rfl (as := [.ref 18, .retAddr 20, hv ((p : Int)), hv ((q : Int))]) (rest := []) rfl (by unfold mj_rc; rw [show (_ : List Value).headD _ = .ref 18 from rfl]; simp only [rd_18 hB]; decide) (hc_stands (d := 5) (k := 20) (by omega) hB hTp hg hn9 hat hfl (by omega) (by omega) hp hq) (by omega) (Nat.le_of_ble_eq_true rfl) ?_
                      rintro rv M9 ⟨rfl, rfl⟩
                      rw [hw_map (n := 9) (by omega), if_neg hw9]
                      show J 0 0 (rd B ((nn : Int)) tk at' fl sc S P V ST E) 18 [(3, hv 9), (0, .ref 18), (1, hv ((p : Int))), (2, hv ((q : Int)))] [hv 0]
                      refine jr_ifc R1 true d_43_18 (by first | assumption | exact hg _ | exact hS _ | exact hV _ | exact hP _ | exact hT _ | exact ⟨by omega, by omega⟩) (by unfold hcb; first | exact decide_eq_true (by omega) | exact decide_eq_false (by omega)) (by decide) (pc' := 23) rfl ?_
                      refine jr_iinc R1 d_43_23 (by decide) rfl (lo' := [(3, hv 10), (0, .ref 18), (1, hv ((p : Int))), (2, hv ((q : Int)))]) rfl ?_
                      refine jr_goto R1 d_43_26 (by decide) (pc' := 2) rfl ?_
                      refine jr_iload_n R1 d_43_2 rfl ?_
                      refine jr_bipush R1 d_43_3 (by decide) ?_
                      refine jr_icmp R1 false d_43_5 (by first | assumption | exact hg _ | exact hS _ | exact hV _ | exact hP _ | exact hT _ | exact ⟨by omega, by omega⟩) (by first | assumption | exact hg _ | exact hS _ | exact hV _ | exact hP _ | exact hT _ | exact ⟨by omega, by omega⟩) (by unfold hcb; first | exact decide_eq_true (by omega) | exact decide_eq_false (by omega)) (by decide) (pc' := 8) rfl ?_
                      refine jr_aload_n R1 d_43_8 rfl ?_
                      refine jr_iload_n R1 d_43_9 rfl ?_
                      refine jr_calls R2 d_43_10 (by decide) (by decide) rfl (as := [hv 10]) (rest := [.ref 18]) rfl (hs_word10 (d := 1) (M := rd B ((nn : Int)) tk at' fl sc S P V ST E) (by omega)) (by omega) (Nat.le_of_ble_eq_true rfl) ?_
                      rintro rv M9 ⟨rfl, rfl⟩
                      show J 0 0 (rd B ((nn : Int)) tk at' fl sc S P V ST E) 13 [(3, hv 10), (0, .ref 18), (1, hv ((p : Int))), (2, hv ((q : Int)))] [.retAddr 21, .ref 18]
                      refine jr_iload_n R1 d_43_13 rfl ?_
                      refine jr_iload_n R1 d_43_14 rfl ?_
                      by_cases hw10 : hp_isb g p q (hp_w 10) = true
                      · skip
                        refine jr_callv R2 d_43_15 (by decide) rfl (as := [.ref 18, .retAddr 21, hv ((p : Int)), hv ((q : Int))]) (rest := []) rfl (by unfold mj_rc; rw [show (_ : List Value).headD _ = .ref 18 from rfl]; simp only [rd_18 hB]; decide) (hc_stands (d := 5) (k := 21) (by omega) hB hTp hg hn9 hat hfl (by omega) (by omega) hp hq) (by omega) (Nat.le_of_ble_eq_true rfl) ?_
                        rintro rv M9 ⟨rfl, rfl⟩
                        rw [hw_map (n := 10) (by omega), if_pos hw10]
                        show J 0 0 (rd B ((nn : Int)) tk at' fl sc S P V ST E) 18 [(3, hv 10), (0, .ref 18), (1, hv ((p : Int))), (2, hv ((q : Int)))] [hv 1]
                        refine jr_ifc R1 false d_43_18 (by first | assumption | exact hg _ | exact hS _ | exact hV _ | exact hP _ | exact hT _ | exact ⟨by omega, by omega⟩) (by unfold hcb; first | exact decide_eq_true (by omega) | exact decide_eq_false (by omega)) (by decide) (pc' := 21) rfl ?_
                        refine jr_iload_n R1 d_43_21 rfl ?_
                        refine jr_reti R3 d_43_22 rfl ?_
                        exact ⟨by rw [hw_first (n := 10) (by omega) (fun j hj => by rcases (by omega : j = 0 ∨ j = 1 ∨ j = 2 ∨ j = 3 ∨ j = 4 ∨ j = 5 ∨ j = 6 ∨ j = 7 ∨ j = 8 ∨ j = 9) with rfl | rfl | rfl | rfl | rfl | rfl | rfl | rfl | rfl | rfl <;> assumption) (by assumption)]; rfl, rfl⟩
                      · skip
                        refine jr_callv R2 d_43_15 (by decide) rfl (as := [.ref 18, .retAddr 21, hv ((p : Int)), hv ((q : Int))]) (rest := []) rfl (by unfold mj_rc; rw [show (_ : List Value).headD _ = .ref 18 from rfl]; simp only [rd_18 hB]; decide) (hc_stands (d := 5) (k := 21) (by omega) hB hTp hg hn9 hat hfl (by omega) (by omega) hp hq) (by omega) (Nat.le_of_ble_eq_true rfl) ?_
                        rintro rv M9 ⟨rfl, rfl⟩
                        rw [hw_map (n := 10) (by omega), if_neg hw10]
                        show J 0 0 (rd B ((nn : Int)) tk at' fl sc S P V ST E) 18 [(3, hv 10), (0, .ref 18), (1, hv ((p : Int))), (2, hv ((q : Int)))] [hv 0]
                        refine jr_ifc R1 true d_43_18 (by first | assumption | exact hg _ | exact hS _ | exact hV _ | exact hP _ | exact hT _ | exact ⟨by omega, by omega⟩) (by unfold hcb; first | exact decide_eq_true (by omega) | exact decide_eq_false (by omega)) (by decide) (pc' := 23) rfl ?_
                        refine jr_iinc R1 d_43_23 (by decide) rfl (lo' := [(3, hv 11), (0, .ref 18), (1, hv ((p : Int))), (2, hv ((q : Int)))]) rfl ?_
                        refine jr_goto R1 d_43_26 (by decide) (pc' := 2) rfl ?_
                        refine jr_iload_n R1 d_43_2 rfl ?_
                        refine jr_bipush R1 d_43_3 (by decide) ?_
                        refine jr_icmp R1 false d_43_5 (by first | assumption | exact hg _ | exact hS _ | exact hV _ | exact hP _ | exact hT _ | exact ⟨by omega, by omega⟩) (by first | assumption | exact hg _ | exact hS _ | exact hV _ | exact hP _ | exact hT _ | exact ⟨by omega, by omega⟩) (by unfold hcb; first | exact decide_eq_true (by omega) | exact decide_eq_false (by omega)) (by decide) (pc' := 8) rfl ?_
                        refine jr_aload_n R1 d_43_8 rfl ?_
                        refine jr_iload_n R1 d_43_9 rfl ?_
                        refine jr_calls R2 d_43_10 (by decide) (by decide) rfl (as := [hv 11]) (rest := [.ref 18]) rfl (hs_word11 (d := 1) (M := rd B ((nn : Int)) tk at' fl sc S P V ST E) (by omega)) (by omega) (Nat.le_of_ble_eq_true rfl) ?_
                        rintro rv M9 ⟨rfl, rfl⟩
                        show J 0 0 (rd B ((nn : Int)) tk at' fl sc S P V ST E) 13 [(3, hv 11), (0, .ref 18), (1, hv ((p : Int))), (2, hv ((q : Int)))] [.retAddr 22, .ref 18]
                        refine jr_iload_n R1 d_43_13 rfl ?_
                        refine jr_iload_n R1 d_43_14 rfl ?_
                        by_cases hw11 : hp_isb g p q (hp_w 11) = true
                        · skip
                          refine jr_callv R2 d_43_15 (by decide) rfl (as := [.ref 18, .retAddr 22, hv ((p : Int)), hv ((q : Int))]) (rest := []) rfl (by unfold mj_rc; rw [show (_ : List Value).headD _ = .ref 18 from rfl]; simp only [rd_18 hB]; decide) (hc_stands (d := 5) (k := 22) (by omega) hB hTp hg hn9 hat hfl (by omega) (by omega) hp hq) (by omega) (Nat.le_of_ble_eq_true rfl) ?_
                          rintro rv M9 ⟨rfl, rfl⟩
                          rw [hw_map (n := 11) (by omega), if_pos hw11]
                          show J 0 0 (rd B ((nn : Int)) tk at' fl sc S P V ST E) 18 [(3, hv 11), (0, .ref 18), (1, hv ((p : Int))), (2, hv ((q : Int)))] [hv 1]
                          refine jr_ifc R1 false d_43_18 (by first | assumption | exact hg _ | exact hS _ | exact hV _ | exact hP _ | exact hT _ | exact ⟨by omega, by omega⟩) (by unfold hcb; first | exact decide_eq_true (by omega) | exact decide_eq_false (by omega)) (by decide) (pc' := 21) rfl ?_
                          refine jr_iload_n R1 d_43_21 rfl ?_
                          refine jr_reti R3 d_43_22 rfl ?_
                          exact ⟨by rw [hw_first (n := 11) (by omega) (fun j hj => by rcases (by omega : j = 0 ∨ j = 1 ∨ j = 2 ∨ j = 3 ∨ j = 4 ∨ j = 5 ∨ j = 6 ∨ j = 7 ∨ j = 8 ∨ j = 9 ∨ j = 10) with rfl | rfl | rfl | rfl | rfl | rfl | rfl | rfl | rfl | rfl | rfl <;> assumption) (by assumption)]; rfl, rfl⟩
                        · skip
                          refine jr_callv R2 d_43_15 (by decide) rfl (as := [.ref 18, .retAddr 22, hv ((p : Int)), hv ((q : Int))]) (rest := []) rfl (by unfold mj_rc; rw [show (_ : List Value).headD _ = .ref 18 from rfl]; simp only [rd_18 hB]; decide) (hc_stands (d := 5) (k := 22) (by omega) hB hTp hg hn9 hat hfl (by omega) (by omega) hp hq) (by omega) (Nat.le_of_ble_eq_true rfl) ?_
                          rintro rv M9 ⟨rfl, rfl⟩
                          rw [hw_map (n := 11) (by omega), if_neg hw11]
                          show J 0 0 (rd B ((nn : Int)) tk at' fl sc S P V ST E) 18 [(3, hv 11), (0, .ref 18), (1, hv ((p : Int))), (2, hv ((q : Int)))] [hv 0]
                          refine jr_ifc R1 true d_43_18 (by first | assumption | exact hg _ | exact hS _ | exact hV _ | exact hP _ | exact hT _ | exact ⟨by omega, by omega⟩) (by unfold hcb; first | exact decide_eq_true (by omega) | exact decide_eq_false (by omega)) (by decide) (pc' := 23) rfl ?_
                          refine jr_iinc R1 d_43_23 (by decide) rfl (lo' := [(3, hv 12), (0, .ref 18), (1, hv ((p : Int))), (2, hv ((q : Int)))]) rfl ?_
                          refine jr_goto R1 d_43_26 (by decide) (pc' := 2) rfl ?_
                          refine jr_iload_n R1 d_43_2 rfl ?_
                          refine jr_bipush R1 d_43_3 (by decide) ?_
                          refine jr_icmp R1 true d_43_5 (by first | assumption | exact hg _ | exact hS _ | exact hV _ | exact hP _ | exact hT _ | exact ⟨by omega, by omega⟩) (by first | assumption | exact hg _ | exact hS _ | exact hV _ | exact hP _ | exact hT _ | exact ⟨by omega, by omega⟩) (by unfold hcb; first | exact decide_eq_true (by omega) | exact decide_eq_false (by omega)) (by decide) (pc' := 29) rfl ?_
                          refine jr_iconst R1 d_43_29 ?_
                          refine jr_reti R3 d_43_30 rfl ?_
                          exact ⟨by rw [hw_none (fun j hj => by rcases (by omega : j = 0 ∨ j = 1 ∨ j = 2 ∨ j = 3 ∨ j = 4 ∨ j = 5 ∨ j = 6 ∨ j = 7 ∨ j = 8 ∨ j = 9 ∨ j = 10 ∨ j = 11) with rfl | rfl | rfl | rfl | rfl | rfl | rfl | rfl | rfl | rfl | rfl | rfl <;> assumption)]; rfl, rfl⟩
