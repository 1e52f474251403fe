/-! THE MODEL'S TEXT AND FEED -/
def mcp (o : Nat) (t9 g : Nat → Int) (j : Nat) : Nat → Int := fun x => if o ≤ x ∧ x < o + j then t9 (x - o) else g x
theorem mcp_step {o j : Nat} {t9 g : Nat → Int} : hu (mcp o t9 g j) (o + j) (t9 j) = mcp o t9 g (j + 1) := by
  funext x
  unfold hu mcp
  by_cases h : x = o + j
  · rw [if_pos h, if_pos ⟨by omega, by omega⟩, show x - o = j by omega]
  · rw [if_neg h]
    by_cases h2 : o ≤ x ∧ x < o + j
    · rw [if_pos h2, if_pos ⟨by omega, by omega⟩]
    · rw [if_neg h2, if_neg (by omega)]
theorem mcp_0 {o : Nat} {t9 g : Nat → Int} : mcp o t9 g 0 = g := by
  funext x
  unfold mcp
  rw [if_neg (by omega)]
theorem mcp_in {o n j : Nat} {t9 g : Nat → Int} (h : j < n) : mcp o t9 g n (o + j) = t9 j := by
  unfold mcp
  rw [if_pos ⟨by omega, by omega⟩, show o + j - o = j by omega]
theorem set_same {α : Type} {C : List α} {k : Nat} {x : α} (h : C[k]? = some x) : C.set k x = C := by
  apply List.ext_getElem?
  intro j
  rw [List.getElem?_set]
  by_cases e : k = j
  · subst e
    have : k < C.length := by
      by_cases g : k < C.length
      · exact g
      · rw [List.getElem?_eq_none (by omega)] at h
        cases h
    rw [if_pos rfl, if_pos this, h]
  · rw [if_neg e]
def hC2 (C : mj_M) (cnt nn : Nat) (t9 g ts : Nat → Int) : mj_M := (C.set 81 (hA 0 960 (mcp (160 * cnt) t9 g nn))).set 82 (hA 0 6 (hu ts cnt (nn : Int)))
def hTm (C : mj_M) (A : Nat → Value) (U : Nat → Int) (Z : List Value) (cnt nn : Nat) (t9 g ts : Nat → Int) (F : Int) (M : mj_M) : Option Value → mj_M → Prop := fun rv M' => (cnt = 6 ∧ rv = some (hv (-4)) ∧ M' = M) ∨ (cnt < 6 ∧ ∃ he to ta wo fa : Int, ((0 ≤ he ∧ he ≤ 160) ∧ (0 ≤ to ∧ to ≤ 4) ∧ (0 ≤ ta ∧ ta ≤ 160) ∧ (-100000 ≤ wo ∧ wo ≤ 10000000) ∧ (0 ≤ fa ∧ fa ≤ 160)) ∧
  ((F = -1 ∧ rv = some (hv (cnt : Int)) ∧ M' = md (hC2 C cnt nn t9 g ts) A U Z ((cnt : Int) + 1) 0 ((160 * cnt : Nat) : Int) (nn : Int) he to ta wo 0 0 fa) ∨ (F ≠ -1 ∧ rv = some (hv (-100 - F)) ∧ M' = md (hC2 C cnt nn t9 g ts) A U Z (cnt : Int) 0 ((160 * cnt : Nat) : Int) (nn : Int) he to ta wo 0 1 F)))
theorem mh_text {lch : Launch} {d : Nat} {C : mj_M} {A : Nat → Value} {U : Nat → Int} {Z : List Value} {g b ts t9 : Nat → Int} {cnt nn : Nat} {fr sz he to ta wo op ba fa : Int} (hd : 48 ≤ d) (hC : 84 ≤ C.length) (hTx : C[81]? = some (hA 0 960 g)) (hTs : C[82]? = some (hA 0 6 ts)) (hTp : C[83]? = some (hA 0 160 t9)) (hg : ∀ j, hr (b j)) (hcn : cnt ≤ 6) (hb : ∀ j, j < nn → b j = t9 j) (hn9 : nn ≤ 160) (hb0 : ∀ j, j < nn → 0 ≤ b j ∧ b j ≤ 255) (hwo : -100000 ≤ wo ∧ wo ≤ 10000000) (hfa : 0 ≤ fa ∧ fa ≤ 160) :
    mj_Me lch 173 d 0 0 [.ref 80] (md C A U Z (cnt : Int) (nn : Int) fr sz he to ta wo op ba fa) (hTm C A U Z cnt nn t9 g ts (hp_text b nn).2 (md C A U Z (cnt : Int) (nn : Int) fr sz he to ta wo op ba fa)) := by
  refine mj_Me_of4 (by decide) (by omega) (Nat.le_of_ble_eq_true rfl) ?_
  intro L xs J R1 R2 R3 R4
  show J 0 0 (md C A U Z (cnt : Int) (nn : Int) fr sz he to ta wo op ba fa) 0 [(0, .ref 80)] []
  refine jr_aload_n R1 d_173_0 rfl ?_
  refine jr_getf R1 d_173_1 (md_80 hC) (by decide) rfl ?_
  refine jr_bipush R1 d_173_4 (by decide) ?_
  by_cases h6 : cnt < 6
  · refine jr_icmp R1 true d_173_6 ⟨by omega, by omega⟩ ⟨by omega, by omega⟩ (by unfold hcb; exact decide_eq_true (by omega)) (by decide) (pc' := 12) rfl ?_
    refine jr_iconst R1 d_173_12 ?_
    refine jr_istore_n R1 d_173_13 (by decide) (lo' := [(1, hv 0), (0, .ref 80)]) rfl ?_
    have hC1 : ∀ j, 84 ≤ (C.set 81 (hA 0 960 (mcp (160 * cnt) t9 g j))).length := fun j => by rw [List.length_set]; exact hC
    have hend : J 0 0 (md (C.set 81 (hA 0 960 (mcp (160 * cnt) t9 g nn))) A U Z (cnt : Int) (nn : Int) fr sz he to ta wo op ba fa) 49 [(1, hv (nn : Int)), (0, .ref 80)] [] := by
      have hC9 : 84 ≤ (hC2 C cnt nn t9 g ts).length := by unfold hC2; rw [List.length_set, List.length_set]; exact hC
      refine jr_aload_n R1 d_173_49 rfl ?_
      refine jr_getf R1 d_173_50 (md_80 (hC1 nn)) (by decide) rfl ?_
      refine jr_aload_n R1 d_173_53 rfl ?_
      refine jr_getf R1 d_173_54 (md_80 (hC1 nn)) (by decide) rfl ?_
      refine jr_aload_n R1 d_173_57 rfl ?_
      refine jr_getf R1 d_173_58 (md_80 (hC1 nn)) (by decide) rfl ?_
      refine jr_iast R1 d_173_61 ((md_o (by decide)).trans ((List.getElem?_set_ne (by decide)).trans hTs)) (by omega) (by omega) (by decide) (M' := md (hC2 C cnt nn t9 g ts) A U Z (cnt : Int) (nn : Int) fr sz he to ta wo op ba fa) (md_so (by decide)) ?_
      refine jr_aload_n R1 d_173_62 rfl ?_
      refine jr_iconst R1 d_173_63 ?_
      refine jr_putf R1 d_173_64 (md_80 hC9) (by decide) (md_pl (by decide)) rfl rfl (M' := md (hC2 C cnt nn t9 g ts) A U Z (cnt : Int) 0 fr sz he to ta wo op ba fa) md_p ?_
      refine jr_aload_n R1 d_173_67 rfl ?_
      refine jr_aload_n R1 d_173_68 rfl ?_
      refine jr_getf R1 d_173_69 (md_80 hC9) (by decide) rfl ?_
      refine jr_iconst R1 d_173_72 ?_
      have t81 : (hC2 C cnt nn t9 g ts)[81]? = some (hA 0 960 (mcp (160 * cnt) t9 g nn)) := by
        unfold hC2
        rw [List.getElem?_set_ne (by decide), List.getElem?_set_self (by omega)]
      have t82 : (hC2 C cnt nn t9 g ts)[82]? = some (hA 0 6 (hu ts cnt (nn : Int))) := by
        unfold hC2
        rw [List.getElem?_set_self (by rw [List.length_set]; omega)]
      refine jr_callv R2 d_173_73 (by decide) rfl (as := [.ref 80, hv (cnt : Int), hv 0]) (rest := []) rfl (by unfold mj_rc; rw [show (_ : List Value).headD _ = .ref 80 from rfl]; simp only [md_80 hC9]; decide) (mk_read (d := 47) (b := b) (i := cnt) (n := nn) (Nat.le_refl _) hC9 t81 t82 hg (by omega) (by unfold hu; rw [if_pos rfl]) (fun j hj => by rw [mcp_in hj]; exact hb j hj) hn9 hb0 hwo hfa) (by omega) (Nat.le_of_ble_eq_true rfl) ?_
      rintro rv M9 ⟨⟨z, hz, rfl⟩, he9, to9, ta9, wo9, fa9, hbd, hfe, rfl⟩
      show J 0 0 (md (hC2 C cnt nn t9 g ts) A U Z (cnt : Int) 0 ((160 * cnt : Nat) : Int) (nn : Int) he9 to9 ta9 wo9 0 (if (hp_text b nn).2 = -1 then 0 else 1) fa9) 76 [(1, hv (nn : Int)), (0, .ref 80)] [hv z]
      generalize (hp_text b nn).2 = F at hfe R3 ⊢
      refine jr_istore_n R1 d_173_76 (by decide) (lo' := [(1, hv z), (0, .ref 80)]) rfl ?_
      refine jr_aload_n R1 d_173_77 rfl ?_
      refine jr_getf R1 d_173_78 (md_80 hC9) (by decide) rfl ?_
      by_cases hF : F = -1
      · rw [if_pos hF]
        refine jr_ifc R1 true d_173_81 ⟨by omega, by omega⟩ (by unfold hcb; exact decide_eq_true (by omega)) (by decide) (pc' := 92) rfl ?_
        refine jr_aload_n R1 d_173_92 rfl ?_
        refine jr_dup_r R1 d_173_93 ?_
        refine jr_getf R1 d_173_94 (md_80 hC9) (by decide) rfl ?_
        refine jr_iconst R1 d_173_97 ?_
        refine jr_iadd R1 d_173_98 ?_
        refine jr_putf R1 d_173_99 (md_80 hC9) (by decide) (md_pl (by decide)) rfl rfl (M' := md (hC2 C cnt nn t9 g ts) A U Z ((cnt : Int) + 1) 0 ((160 * cnt : Nat) : Int) (nn : Int) he9 to9 ta9 wo9 0 0 fa9) md_p ?_
        refine jr_aload_n R1 d_173_102 rfl ?_
        refine jr_getf R1 d_173_103 (md_80 hC9) (by decide) rfl ?_
        refine jr_iconst R1 d_173_106 ?_
        refine jr_isub R1 d_173_107 ?_
        refine jr_reti R3 d_173_108 rfl ?_
        exact Or.inr ⟨h6, he9, to9, ta9, wo9, fa9, hbd, Or.inl ⟨hF, by rw [show (cnt : Int) + 1 - 1 = cnt by omega], rfl⟩⟩
      · rw [if_neg hF]
        refine jr_ifc R1 false d_173_81 ⟨by omega, by omega⟩ (by unfold hcb; exact decide_eq_false (by omega)) (by decide) (pc' := 84) rfl ?_
        refine jr_bipush R1 d_173_84 (by decide) ?_
        refine jr_aload_n R1 d_173_86 rfl ?_
        refine jr_getf R1 d_173_87 (md_80 hC9) (by decide) rfl ?_
        refine jr_isub R1 d_173_90 ?_
        refine jr_reti R3 d_173_91 rfl ?_
        exact Or.inr ⟨h6, he9, to9, ta9, wo9, fa9, hbd, Or.inr ⟨hF, by rw [hfe hF], by rw [hfe hF]⟩⟩
    have hl : ∀ (e j : Nat), nn - j ≤ e → j ≤ nn → J 0 0 (md (C.set 81 (hA 0 960 (mcp (160 * cnt) t9 g j))) A U Z (cnt : Int) (nn : Int) fr sz he to ta wo op ba fa) 14 [(1, hv (j : Int)), (0, .ref 80)] [] := by
      intro e
      induction e with
      | zero =>
        intro j he9 hj
        obtain rfl : j = nn := by omega
        refine jr_iload_n R1 d_173_14 rfl ?_
        refine jr_aload_n R1 d_173_15 rfl ?_
        refine jr_getf R1 d_173_16 (md_80 (hC1 _)) (by decide) rfl ?_
        refine jr_icmp R1 true d_173_19 ⟨by omega, by omega⟩ ⟨by omega, by omega⟩ (by unfold hcb; exact decide_eq_true (by omega)) (by decide) (pc' := 49) rfl ?_
        exact hend
      | succ e ih =>
        intro j he9 hj
        refine jr_iload_n R1 d_173_14 rfl ?_
        refine jr_aload_n R1 d_173_15 rfl ?_
        refine jr_getf R1 d_173_16 (md_80 (hC1 _)) (by decide) rfl ?_
        by_cases hlt : j < nn
        · refine jr_icmp R1 false d_173_19 ⟨by omega, by omega⟩ ⟨by omega, by omega⟩ (by unfold hcb; exact decide_eq_false (by omega)) (by decide) (pc' := 22) rfl ?_
          refine jr_aload_n R1 d_173_22 rfl ?_
          refine jr_getf R1 d_173_23 (md_80 (hC1 _)) (by decide) rfl ?_
          refine jr_sipush R1 d_173_26 (by decide) ?_
          refine jr_aload_n R1 d_173_29 rfl ?_
          refine jr_getf R1 d_173_30 (md_80 (hC1 _)) (by decide) rfl ?_
          refine jr_imul R1 d_173_33 ?_
          refine jr_iload_n R1 d_173_34 rfl ?_
          refine jr_iadd R1 d_173_35 ?_
          refine jr_aload_n R1 d_173_36 rfl ?_
          refine jr_getf R1 d_173_37 (md_80 (hC1 _)) (by decide) rfl ?_
          refine jr_iload_n R1 d_173_40 rfl ?_
          refine jr_iald R1 d_173_41 ((md_o (by decide)).trans ((List.getElem?_set_ne (by decide)).trans hTp)) (by omega) (by omega) (by decide) ?_
          refine jr_iast R1 d_173_42 ((md_o (by decide)).trans (List.getElem?_set_self (by omega))) (by omega) (by omega) (by decide) (M' := md (C.set 81 (hA 0 960 (mcp (160 * cnt) t9 g (j + 1)))) A U Z (cnt : Int) (nn : Int) fr sz he to ta wo op ba fa) (by
            rw [md_so (by decide), List.set_set, show (160 * (cnt : Int) + (j : Int)).toNat = 160 * cnt + j by omega, show ((j : Int)).toNat = j from rfl, mcp_step]) ?_
          refine jr_iinc R1 d_173_43 (by decide) rfl (lo' := [(1, hv ((j : Int) + 1)), (0, .ref 80)]) rfl ?_
          refine jr_goto R1 d_173_46 (by decide) (pc' := 14) rfl ?_
          exact ih (j + 1) (by omega) (by omega)
        · obtain rfl : j = nn := by omega
          refine jr_icmp R1 true d_173_19 ⟨by omega, by omega⟩ ⟨by omega, by omega⟩ (by unfold hcb; exact decide_eq_true (by omega)) (by decide) (pc' := 49) rfl ?_
          exact hend
    have h0 := hl nn 0 (by omega) (Nat.zero_le _)
    rw [mcp_0, set_same hTx] at h0
    exact h0
  · refine jr_icmp R1 false d_173_6 ⟨by omega, by omega⟩ ⟨by omega, by omega⟩ (by unfold hcb; exact decide_eq_false (by omega)) (by decide) (pc' := 9) rfl ?_
    refine jr_bipush R1 d_173_9 (by decide) ?_
    refine jr_reti R3 d_173_11 rfl ?_
    exact Or.inl ⟨by omega, rfl, rfl⟩
def hFm (C : mj_M) (A : Nat → Value) (U : Nat → Int) (Z : List Value) (tc : Int) (nn : Nat) (t9 : Nat → Int) (x fr sz he to ta wo op ba fa : Int) : Option Value → mj_M → Prop := fun rv M' => (nn = 160 ∧ rv = some (hv (-4)) ∧ M' = md C A U Z tc (nn : Int) fr sz he to ta wo op ba fa) ∨ (nn < 160 ∧ rv = some (hv ((nn : Int) + 1)) ∧ M' = md (C.set 83 (hA 0 160 (hu t9 nn x))) A U Z tc ((nn : Int) + 1) fr sz he to ta wo op ba fa)
theorem mh_feed {lch : Launch} {d : Nat} {C : mj_M} {A : Nat → Value} {U : Nat → Int} {Z : List Value} {t9 : Nat → Int} {nn : Nat} {tc fr sz he to ta wo op ba fa x : Int} (hd : 2 ≤ d) (hC : 84 ≤ C.length) (hTp : C[83]? = some (hA 0 160 t9)) (hn9 : nn ≤ 160) (hx : hr x) :
    mj_Me lch 126 d 0 0 [.ref 80, hv x] (md C A U Z tc (nn : Int) fr sz he to ta wo op ba fa) (fun rv M' => ((x < 0 ∨ 255 < x) ∧ rv = some (hv (-2)) ∧ M' = md C A U Z tc (nn : Int) fr sz he to ta wo op ba fa) ∨ ((0 ≤ x ∧ x ≤ 255) ∧ hFm C A U Z tc nn t9 x fr sz he to ta wo op ba fa rv M')) := by
  refine mj_Me_of (by decide) (by omega) (Nat.le_of_ble_eq_true rfl) ?_
  intro L xs J R1 R2 R3
  show J 0 0 (md C A U Z tc (nn : Int) fr sz he to ta wo op ba fa) 0 [(0, .ref 80), (1, hv x)] []
  refine jr_iload_n R1 d_126_0 rfl ?_
  refine jl_i2l R1 hx d_126_1 ?_
  refine jl_const R1 d_126_2 ?_
  refine jl_ldc (z := 255) R1 d_126_3 (by decide) rfl ?_
  refine jr_calls R2 d_126_6 (by decide) (by decide) rfl (as := [hl x, hl 0, hl 255]) (rest := []) rfl (hm_in (d := 1) (M := md C A U Z tc (nn : Int) fr sz he to ta wo op ba fa) (by omega) (hR_hr hx) ⟨by omega, by omega⟩ ⟨by omega, by omega⟩) (by omega) (Nat.le_of_ble_eq_true rfl) ?_
  rintro rv M9 ⟨rfl, rfl⟩
  show J 0 0 (md C A U Z tc (nn : Int) fr sz he to ta wo op ba fa) 9 [(0, .ref 80), (1, hv x)] [hv (if 0 ≤ x ∧ x ≤ 255 then 1 else 0)]
  by_cases h : 0 ≤ x ∧ x ≤ 255
  · rw [if_pos h]
    refine jr_ifc R1 true d_126_9 ⟨by omega, by omega⟩ (by unfold hcb; exact decide_eq_true (by omega)) (by decide) (pc' := 15) rfl ?_
    refine jr_aload_n R1 d_126_15 rfl ?_
    refine jr_getf R1 d_126_16 (md_80 hC) (by decide) rfl ?_
    refine jr_sipush R1 d_126_19 (by decide) ?_
    by_cases h1 : nn = 160
    · refine jr_icmp R1 false d_126_22 ⟨by omega, by omega⟩ ⟨by omega, by omega⟩ (by unfold hcb; exact decide_eq_false (by omega)) (by decide) (pc' := 25) rfl ?_
      refine jr_bipush R1 d_126_25 (by decide) ?_
      refine jr_reti R3 d_126_27 rfl ?_
      exact Or.inr ⟨h, Or.inl ⟨h1, rfl, rfl⟩⟩
    · refine jr_icmp R1 true d_126_22 ⟨by omega, by omega⟩ ⟨by omega, by omega⟩ (by unfold hcb; exact decide_eq_true (by omega)) (by decide) (pc' := 28) rfl ?_
      have hC2 : 84 ≤ (C.set 83 (hA 0 160 (hu t9 nn x))).length := by rw [List.length_set]; exact hC
      refine jr_aload_n R1 d_126_28 rfl ?_
      refine jr_getf R1 d_126_29 (md_80 hC) (by decide) rfl ?_
      refine jr_aload_n R1 d_126_32 rfl ?_
      refine jr_getf R1 d_126_33 (md_80 hC) (by decide) rfl ?_
      refine jr_iload_n R1 d_126_36 rfl ?_
      refine jr_iast R1 d_126_37 ((md_o (by decide)).trans hTp) (by omega) (by omega) (by decide) (M' := md (C.set 83 (hA 0 160 (hu t9 nn x))) A U Z tc (nn : Int) fr sz he to ta wo op ba fa) (md_so (by decide)) ?_
      refine jr_aload_n R1 d_126_38 rfl ?_
      refine jr_dup_r R1 d_126_39 ?_
      refine jr_getf R1 d_126_40 (md_80 hC2) (by decide) rfl ?_
      refine jr_iconst R1 d_126_43 ?_
      refine jr_iadd R1 d_126_44 ?_
      refine jr_putf R1 d_126_45 (md_80 hC2) (by decide) (md_pl (by decide)) rfl rfl (M' := md (C.set 83 (hA 0 160 (hu t9 nn x))) A U Z tc ((nn : Int) + 1) fr sz he to ta wo op ba fa) md_p ?_
      refine jr_aload_n R1 d_126_48 rfl ?_
      refine jr_getf R1 d_126_49 (md_80 hC2) (by decide) rfl ?_
      refine jr_reti R3 d_126_52 rfl ?_
      exact Or.inr ⟨h, Or.inr ⟨by omega, rfl, rfl⟩⟩
  · rw [if_neg h]
    refine jr_ifc R1 false d_126_9 ⟨by omega, by omega⟩ (by unfold hcb; exact decide_eq_false (by omega)) (by decide) (pc' := 12) rfl ?_
    refine jr_bipush R1 d_126_12 (by decide) ?_
    refine jr_reti R3 d_126_14 rfl ?_
    exact Or.inl ⟨by omega, rfl, rfl⟩
