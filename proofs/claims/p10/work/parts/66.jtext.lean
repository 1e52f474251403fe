/-! TEXT -/
def hT2 (B : mj_M) (cnt : Nat) (ST E F G : Nat → Int) : mj_M := ((B.set (3 + cnt) (hA 0 160 (hcp 160 ST F))).set (10 + cnt) (hA 0 3 (hcp 3 E G))).set 1 (tx1 ((cnt : Int) + 1))
def hTp (B : mj_M) (nn : Nat) (g F G : Nat → Int) (cnt : Nat) (M : mj_M) : Option Value → mj_M → Prop := fun rv M' => (cnt = 6 ∧ rv = some (hv (-4)) ∧ M' = M) ∨ (cnt < 6 ∧ ∃ (at2 sc2 : Int) (S2 P2 V2 ST2 E2 : Nat → Int), (0 ≤ at2 ∧ at2 ≤ 160) ∧ (0 ≤ sc2 ∧ sc2 ≤ 160) ∧ (∀ j, j < 161 → 0 ≤ P2 j ∧ P2 j ≤ 160) ∧ (∀ j, hr (S2 j)) ∧ (∀ j, hr (P2 j)) ∧ (∀ j, j < 3 → 0 ≤ E2 j ∧ E2 j ≤ 160) ∧ (-1 ≤ (hp_text g nn).2 ∧ (hp_text g nn).2 ≤ 160) ∧
  (((hp_text g nn).2 = -1 ∧ rv = some (hv (cnt : Int)) ∧ M' = rd (hT2 B cnt ST2 E2 F G) 0 ((hp_T g nn : Int) + 1) at2 (hp_text g nn).2 sc2 S2 P2 V2 ST2 E2) ∨ ((hp_text g nn).2 ≠ -1 ∧ rv = some (hv (-100 - (hp_text g nn).2)) ∧ M' = rd B 0 ((hp_T g nn : Int) + 1) at2 (hp_text g nn).2 sc2 S2 P2 V2 ST2 E2)))
theorem hc_text {lch : Launch} {d : Nat} {B : mj_M} {nn : Nat} {tk at' fl sc : Int} {g S P V ST E F G : Nat → Int} {cnt : Nat} {r2 r9 : Nat → Option Nat} {fs : List Value} (hd : 51 ≤ d) (hB : 25 ≤ B.length) (hTp9 : B[19]? = some (hA 0 160 g)) (hg : ∀ j, hr (g j)) (hn9 : nn ≤ 160) (hat : 0 ≤ at' ∧ at' ≤ 160) (hfl : -1 ≤ fl ∧ fl ≤ 160) (hS : ∀ j, hr (S j)) (hP : ∀ j, hr (P j)) (hP9 : ∀ j, j < 161 → 0 ≤ P j ∧ P j ≤ 160) (hE9 : ∀ j, j < 3 → 0 ≤ E j ∧ E j ≤ 160)
    (hc : cnt ≤ 6) (h0 : B[0]? = some (.inr (5, .ref 1 :: .ref 18 :: fs))) (h1 : B[1]? = some (tx1 cnt)) (h2 : B[2]? = some (txR r2)) (h9 : B[9]? = some (txR r9)) (hr2 : cnt < 6 → r2 cnt = some (3 + cnt)) (hr9 : cnt < 6 → r9 cnt = some (10 + cnt)) (hF : cnt < 6 → B[3 + cnt]? = some (hA 0 160 F)) (hG : cnt < 6 → B[10 + cnt]? = some (hA 0 3 G)) :
    mj_Me lch 100 d 0 0 [.ref 0] (rd B (nn : Int) tk at' fl sc S P V ST E) (hTp B nn g F G cnt (rd B (nn : Int) tk at' fl sc S P V ST E)) := by
  refine mj_Me_of (by decide) (by omega) (Nat.le_of_ble_eq_true rfl) ?_
  intro L xs J R1 R2 R3
  show J 0 0 (rd B (nn : Int) tk at' fl sc S P V ST E) 0 [(0, .ref 0)] []
  refine jr_aload_n R1 d_100_0 rfl ?_
  refine jr_getf R1 d_100_1 ((rd_o hB (by omega)).trans h0) (by decide) rfl ?_
  refine jr_getf R1 d_100_4 ((rd_o hB (by omega)).trans h1) (by decide) rfl ?_
  refine jr_bipush R1 d_100_7 (by decide) ?_
  by_cases h6 : cnt < 6
  · refine jr_icmp R1 true d_100_9 ⟨by omega, by omega⟩ ⟨by omega, by omega⟩ (by unfold hcb; exact decide_eq_true (by omega)) (by decide) (pc' := 15) rfl ?_
    refine jr_aload_n R1 d_100_15 rfl ?_
    refine jr_getf R1 d_100_16 ((rd_o hB (by omega)).trans h0) (by decide) rfl ?_
    refine jr_callv R2 d_100_19 (by decide) rfl (as := [.ref 18]) (rest := []) rfl (by unfold mj_rc; rw [show (_ : List Value).headD _ = .ref 18 from rfl]; simp only [rd_18 hB]; decide) (hr_read (d := 50) (Nat.le_refl _) hB hTp9 hg hn9 hat hfl hS hP hP9 hE9) (by omega) (Nat.le_of_ble_eq_true rfl) ?_
    rintro rv M9 ⟨rfl, hfb, at2, sc2, S2, P2, V2, ST2, E2, b1, b2, b3, b4, b5, b6, rfl⟩
    show J 0 0 (rd B 0 ((hp_T g nn : Int) + 1) at2 (hp_text g nn).2 sc2 S2 P2 V2 ST2 E2) 22 [(0, .ref 0)] [hv (hp_text g nn).2]
    generalize hv9 : (hp_text g nn).2 = v at hfb ⊢
    refine jr_istore_n R1 d_100_22 (by decide) (lo' := [(1, hv v), (0, .ref 0)]) rfl ?_
    refine jr_iload_n R1 d_100_23 rfl ?_
    refine jr_iconst R1 d_100_24 ?_
    by_cases e : v = -1
    · refine jr_icmp R1 false d_100_25 ⟨by omega, by omega⟩ ⟨by omega, by omega⟩ (by unfold hcb; exact decide_eq_false (by omega)) (by decide) (pc' := 28) rfl ?_
      refine jr_aload_n R1 d_100_28 rfl ?_
      refine jr_getf R1 d_100_29 ((rd_o hB (by omega)).trans h0) (by decide) rfl ?_
      refine jr_aload_n R1 d_100_32 rfl ?_
      refine jr_getf R1 d_100_33 ((rd_o hB (by omega)).trans h0) (by decide) rfl ?_
      have e1 : (rd B 0 ((hp_T g nn : Int) + 1) at2 v sc2 S2 P2 V2 ST2 E2)[1]? = some (tx1 cnt) := (rd_o hB (by omega)).trans h1
      refine jr_callv R2 d_100_36 (by decide) rfl (as := [.ref 1, .ref 18]) (rest := []) rfl (by unfold mj_rc; rw [show (_ : List Value).headD _ = .ref 1 from rfl]; simp only [e1]; decide) (hc_add (d := 1) (Nat.le_refl _) hB h6 h1 h2 h9 (hr2 h6) (hr9 h6) (hF h6) (hG h6)) (by omega) (Nat.le_of_ble_eq_true rfl) ?_
      rintro rv M9 ⟨rfl, rfl⟩
      show J 0 0 (rd (hT2 B cnt ST2 E2 F G) 0 ((hp_T g nn : Int) + 1) at2 v sc2 S2 P2 V2 ST2 E2) 39 [(1, hv v), (0, .ref 0)] [hv (cnt : Int)]
      refine jr_goto R1 d_100_39 (by decide) (pc' := 46) rfl ?_
      refine jr_reti R3 d_100_46 rfl ?_
      refine Or.inr ⟨h6, at2, sc2, S2, P2, V2, ST2, E2, b1, b2, b3, b4, b5, b6, ?_, Or.inl ⟨?_, rfl, ?_⟩⟩
      · rw [hv9]; exact hfb
      · rw [hv9]; exact e
      · rw [hv9]
    · refine jr_icmp R1 true d_100_25 ⟨by omega, by omega⟩ ⟨by omega, by omega⟩ (by unfold hcb; exact decide_eq_true (by omega)) (by decide) (pc' := 42) rfl ?_
      refine jr_bipush R1 d_100_42 (by decide) ?_
      refine jr_iload_n R1 d_100_44 rfl ?_
      refine jr_isub R1 d_100_45 ?_
      refine jr_reti R3 d_100_46 rfl ?_
      refine Or.inr ⟨h6, at2, sc2, S2, P2, V2, ST2, E2, b1, b2, b3, b4, b5, b6, ?_, Or.inr ⟨?_, ?_, ?_⟩⟩
      · rw [hv9]; exact hfb
      · rw [hv9]; exact e
      · rw [hv9]
      · rw [hv9]
  · refine jr_icmp R1 false d_100_9 ⟨by omega, by omega⟩ ⟨by omega, by omega⟩ (by unfold hcb; exact decide_eq_false (by omega)) (by decide) (pc' := 12) rfl ?_
    refine jr_bipush R1 d_100_12 (by decide) ?_
    refine jr_reti R3 d_100_14 rfl ?_
    exact Or.inl ⟨by omega, rfl, rfl⟩
