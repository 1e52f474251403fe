/-! FEED -/
section RDC
variable {B : mj_M} {n tk at' fl sc : Int} {S P V ST E : Nat → Int}
theorem rd_s19 {x : va_E} : (rd B n tk at' fl sc S P V ST E).set 19 x = rd (B.set 19 x) n tk at' fl sc S P V ST E := by
  unfold rd
  rw [List.set_comm _ _ (by omega : (18 : Nat) ≠ 19), List.set_comm _ _ (by omega : (24 : Nat) ≠ 19), List.set_comm _ _ (by omega : (23 : Nat) ≠ 19), List.set_comm _ _ (by omega : (22 : Nat) ≠ 19), List.set_comm _ _ (by omega : (21 : Nat) ≠ 19), List.set_comm _ _ (by omega : (20 : Nat) ≠ 19)]
end RDC
def hFd (B : mj_M) (nn : Nat) (g : Nat → Int) (x tk at' fl sc : Int) (S P V ST E : Nat → Int) : Option Value → mj_M → Prop := fun rv M' => (nn = 160 ∧ rv = some (hv (-4)) ∧ M' = rd B (nn : Int) tk at' fl sc S P V ST E) ∨ (nn < 160 ∧ rv = some (hv ((nn : Int) + 1)) ∧ M' = rd (B.set 19 (hA 0 160 (hu g nn x))) ((nn : Int) + 1) tk at' fl sc S P V ST E)
theorem hc_append {lch : Launch} {d : Nat} {B : mj_M} {nn : Nat} {tk at' fl sc x : Int} {g S P V ST E : Nat → Int} (hd : 1 ≤ d) (hB : 25 ≤ B.length) (hTp9 : B[19]? = some (hA 0 160 g)) (hn9 : nn ≤ 160) :
    mj_Me lch 25 d 0 0 [.ref 18, hv x] (rd B (nn : Int) tk at' fl sc S P V ST E) (hFd B nn g x tk at' fl sc S P V ST E) := by
  refine mj_Me_of (by decide) (by omega) (Nat.le_of_ble_eq_true rfl) ?_
  intro L xs J R1 R2 R3
  show J 0 0 (rd B (nn : Int) tk at' fl sc S P V ST E) 0 [(0, .ref 18), (1, hv x)] []
  have hB2 : 25 ≤ (B.set 19 (hA 0 160 (hu g nn x))).length := by rw [List.length_set]; exact hB
  refine jr_aload_n R1 d_25_0 rfl ?_
  refine jr_getf R1 d_25_1 (rd_18 hB) (by decide) rfl ?_
  refine jr_sipush R1 d_25_4 (by decide) ?_
  by_cases h : nn < 160
  · refine jr_icmp R1 true d_25_7 ⟨by omega, by omega⟩ ⟨by omega, by omega⟩ (by unfold hcb; exact decide_eq_true (by omega)) (by decide) (pc' := 13) rfl ?_
    refine jr_aload_n R1 d_25_13 rfl ?_
    refine jr_getf R1 d_25_14 (rd_18 hB) (by decide) rfl ?_
    refine jr_aload_n R1 d_25_17 rfl ?_
    refine jr_getf R1 d_25_18 (rd_18 hB) (by decide) rfl ?_
    refine jr_iload_n R1 d_25_21 rfl ?_
    refine jr_iast R1 d_25_22 (rd_19 hB hTp9) (by omega) (by omega) (by decide) (M' := rd (B.set 19 (hA 0 160 (hu g nn x))) (nn : Int) tk at' fl sc S P V ST E) rd_s19 ?_
    refine jr_aload_n R1 d_25_23 rfl ?_
    refine jr_dup_r R1 d_25_24 ?_
    refine jr_getf R1 d_25_25 (rd_18 hB2) (by decide) rfl ?_
    refine jr_iconst R1 d_25_28 ?_
    refine jr_iadd R1 d_25_29 ?_
    refine jr_putf R1 d_25_30 (rd_18 hB2) (by decide) (by simp) rfl rfl (M' := rd (B.set 19 (hA 0 160 (hu g nn x))) ((nn : Int) + 1) tk at' fl sc S P V ST E) (rd_p18 hB2) ?_
    refine jr_aload_n R1 d_25_33 rfl ?_
    refine jr_getf R1 d_25_34 (rd_18 hB2) (by decide) rfl ?_
    refine jr_reti R3 d_25_37 rfl ?_
    exact Or.inr ⟨h, rfl, rfl⟩
  · refine jr_icmp R1 false d_25_7 ⟨by omega, by omega⟩ ⟨by omega, by omega⟩ (by unfold hcb; exact decide_eq_false (by omega)) (by decide) (pc' := 10) rfl ?_
    refine jr_bipush R1 d_25_10 (by decide) ?_
    refine jr_reti R3 d_25_12 rfl ?_
    exact Or.inl ⟨by omega, rfl, rfl⟩
theorem hc_feed {lch : Launch} {d : Nat} {B : mj_M} {nn : Nat} {tk at' fl sc x : Int} {g S P V ST E : Nat → Int} {fs : List Value} (hd : 2 ≤ d) (hB : 25 ≤ B.length) (hTp9 : B[19]? = some (hA 0 160 g)) (hn9 : nn ≤ 160) (hx : hr x) (h0 : B[0]? = some (.inr (5, .ref 1 :: .ref 18 :: fs))) :
    mj_Me lch 72 d 0 0 [.ref 0, hv x] (rd B (nn : Int) tk at' fl sc S P V ST E) (fun rv M' => ((x < 0 ∨ 255 < x) ∧ rv = some (hv (-2)) ∧ M' = rd B (nn : Int) tk at' fl sc S P V ST E) ∨ ((0 ≤ x ∧ x ≤ 255) ∧ hFd B nn g x tk at' fl sc S P V ST E rv M')) := by
  refine mj_Me_of (by decide) (by omega) (Nat.le_of_ble_eq_true rfl) ?_
  intro L xs J R1 R2 R3
  show J 0 0 (rd B (nn : Int) tk at' fl sc S P V ST E) 0 [(0, .ref 0), (1, hv x)] []
  refine jr_iload_n R1 d_72_0 rfl ?_
  by_cases h1 : x < 0
  · refine jr_ifc R1 true d_72_1 hx (by unfold hcb; exact decide_eq_true (by omega)) (by decide) (pc' := 11) rfl ?_
    refine jr_bipush R1 d_72_11 (by decide) ?_
    refine jr_reti R3 d_72_13 rfl ?_
    exact Or.inl ⟨Or.inl h1, rfl, rfl⟩
  · refine jr_ifc R1 false d_72_1 hx (by unfold hcb; exact decide_eq_false (by omega)) (by decide) (pc' := 4) rfl ?_
    refine jr_iload_n R1 d_72_4 rfl ?_
    refine jr_sipush R1 d_72_5 (by decide) ?_
    by_cases h2 : 255 < x
    · refine jr_icmp R1 false d_72_8 hx ⟨by omega, by omega⟩ (by unfold hcb; exact decide_eq_false (by omega)) (by decide) (pc' := 11) rfl ?_
      refine jr_bipush R1 d_72_11 (by decide) ?_
      refine jr_reti R3 d_72_13 rfl ?_
      exact Or.inl ⟨Or.inr h2, rfl, rfl⟩
    · refine jr_icmp R1 true d_72_8 hx ⟨by omega, by omega⟩ (by unfold hcb; exact decide_eq_true (by omega)) (by decide) (pc' := 14) rfl ?_
      refine jr_aload_n R1 d_72_14 rfl ?_
      refine jr_getf R1 d_72_15 ((rd_o hB (by omega)).trans h0) (by decide) rfl ?_
      refine jr_iload_n R1 d_72_18 rfl ?_
      refine jr_callv R2 d_72_19 (by decide) rfl (as := [.ref 18, hv x]) (rest := []) rfl (by unfold mj_rc; rw [show (_ : List Value).headD _ = .ref 18 from rfl]; simp only [rd_18 hB]; decide) (hc_append (d := 1) (Nat.le_refl _) hB hTp9 hn9) (by omega) (Nat.le_of_ble_eq_true rfl) ?_
      rintro rv M9 (⟨g1, rfl, rfl⟩ | ⟨g1, rfl, rfl⟩)
      · refine jr_reti R3 d_72_22 rfl ?_
        exact Or.inr ⟨⟨by omega, by omega⟩, Or.inl ⟨g1, rfl, rfl⟩⟩
      · refine jr_reti R3 d_72_22 rfl ?_
        exact Or.inr ⟨⟨by omega, by omega⟩, Or.inr ⟨g1, rfl, rfl⟩⟩
