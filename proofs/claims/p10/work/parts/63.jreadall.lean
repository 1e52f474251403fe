/-! READ -/
theorem hr_bd {T : Nat} {pcf : Nat → Int} {s : hp_S} (hT9 : T ≤ 160) (hpc : ∀ j, 0 ≤ pcf j ∧ pcf j ≤ 160) (hk : s.1 ≤ T) (hs : s.2 = -1 ∨ s.2 = pcf s.1) : (0 ≤ ((s.1 : Nat) : Int) ∧ ((s.1 : Nat) : Int) ≤ 160) ∧ (-1 ≤ s.2 ∧ s.2 ≤ 160) := by
  refine ⟨by omega, ?_⟩
  rcases hs with h | h
  · rw [h]; omega
  · rw [h]
    have := hpc s.1
    omega
theorem hr_need {lch : Launch} {d : Nat} {B : mj_M} {n : Int} {T : Nat} {S P V ST E : Nat → Int} {tkf pcf : Nat → Int} {sc : Int} {s : hp_S} (hB : 25 ≤ B.length) (hT9 : T ≤ 160) (hS : ∀ j, hr (S j)) (hP : ∀ j, hr (P j)) (hSk : ∀ j : Nat, j ≤ T → S j = tkf j) (hPk : ∀ j : Nat, j ≤ T → P j = pcf j) (hTk : ∀ j, T ≤ j → tkf j = 302) (hpc : ∀ j, 0 ≤ pcf j ∧ pcf j ≤ 160) (hk : s.1 ≤ T) (hs : s.2 = -1 ∨ s.2 = pcf s.1) {t : Int} (ht : t ≠ 302) (hrt : hr t) (hd : 2 ≤ d) : mj_Me lch 35 d 0 0 [.ref 18, hv t] (rd B n ((T : Int) + 1) ((s.1 : Nat) : Int) s.2 sc S P V ST E) (fun rv M' => rv = none ∧ M' = rd B n ((T : Int) + 1) (((hp_need tkf pcf t s).1 : Nat) : Int) (hp_need tkf pcf t s).2 sc S P V ST E) := by
  have hb := hr_bd hT9 hpc hk hs
  have h := hx_need (t := t) (s := s) hSk hPk hTk ht hk
  have h2 := hc_need (lch := lch) (d := d) (B := B) (n := n) (tk := (T : Int) + 1) (at' := ((s.1 : Nat) : Int)) (fl := s.2) (sc := sc) (S := S) (P := P) (V := V) (ST := ST) (E := E) (x := t) hd hB hb.1 (by omega) hb.2 hS hP hrt
  rw [h.1, h.2] at h2
  exact h2
theorem hr_fl302 {T : Nat} {tkf pcf S P : Nat → Int} {s : hp_S} (hSk : ∀ j : Nat, j ≤ T → S j = tkf j) (hPk : ∀ j : Nat, j ≤ T → P j = pcf j) (hk : s.1 ≤ T) : (if S ((s.1 : Nat) : Int).toNat = 302 then s.2 else (if s.2 = -1 then P ((s.1 : Nat) : Int).toNat else s.2)) = (hp_need tkf pcf 302 s).2 := by
  rw [ha_tn, hSk _ hk, hPk _ hk]
  unfold hp_need
  by_cases h1 : s.2 = -1
  · rw [if_neg (by omega : ¬ s.2 ≠ -1)]
    by_cases h2 : tkf s.1 = 302
    · rw [if_pos h2, if_pos h2]
    · rw [if_neg h2, if_neg h2, if_pos h1]
  · rw [if_pos h1]
    by_cases h2 : tkf s.1 = 302
    · rw [if_pos h2]
    · rw [if_neg h2, if_neg h1]
theorem hr_at302 {T : Nat} {S : Nat → Int} {s : hp_S} (hT9 : T ≤ 160) (hk : s.1 ≤ T) : ∃ a : Int, (0 ≤ a ∧ a ≤ 160) ∧ (if S ((s.1 : Nat) : Int).toNat = 302 then (if s.2 = -1 ∧ ((s.1 : Nat) : Int) + 1 < (T : Int) + 1 then ((s.1 : Nat) : Int) + 1 else ((s.1 : Nat) : Int)) else ((s.1 : Nat) : Int)) = a := by
  refine ⟨_, ?_, rfl⟩
  split
  · split
    · omega
    · omega
  · omega
theorem hr_nb {T : Nat} {tkf pcf : Nat → Int} {t : Int} {s : hp_S} (hpc : ∀ j, 0 ≤ pcf j ∧ pcf j ≤ 160) (hs : s.2 = -1 ∨ s.2 = pcf s.1) : -1 ≤ (hp_need tkf pcf t s).2 ∧ (hp_need tkf pcf t s).2 ≤ 160 := by
  have h := hpc s.1
  unfold hp_need
  split
  · omega
  · split
    · simp only; omega
    · simp only; omega
theorem hr_e {E : Nat → Int} {k : Nat} {z : Int} (h : ∀ j, j < 3 → 0 ≤ E j ∧ E j ≤ 160) (hz : 0 ≤ z ∧ z ≤ 160) : ∀ j, j < 3 → 0 ≤ hu E k z j ∧ hu E k z j ≤ 160 := by
  intro j hj
  unfold hu
  split
  · exact hz
  · exact h j hj
theorem hr_needok {T : Nat} {tkf pcf : Nat → Int} {s : hp_S} (hTk : ∀ j, T ≤ j → tkf j = 302) {t : Int} (ht : t ≠ 302) (hk : s.1 ≤ T) (hs : s.2 = -1 ∨ s.2 = pcf s.1) : (hp_need tkf pcf t s).1 ≤ T ∧ ((hp_need tkf pcf t s).2 = -1 ∨ (hp_need tkf pcf t s).2 = pcf (hp_need tkf pcf t s).1) := (hp_need_ok hTk ht hk hs).2
theorem hr_pxok {T : Nat} {tkf pcf : Nat → Int} {s : hp_S} (hT9 : T ≤ 160) (hTk : ∀ j, T ≤ j → tkf j = 302) (hpc : ∀ j, 0 ≤ pcf j ∧ pcf j ≤ 160) (hk : s.1 ≤ T) (hs : s.2 = -1 ∨ s.2 = pcf s.1) : (hp_px tkf pcf 3000 0 0 s).1 ≤ T ∧ ((hp_px tkf pcf 3000 0 0 s).2 = -1 ∨ (hp_px tkf pcf 3000 0 0 s).2 = pcf (hp_px tkf pcf 3000 0 0 s).1) := by
  by_cases h : s.2 = -1
  · exact (hp_px_ok hTk (fun j => (hpc j).1) 3000 0 0 s (by omega) hk h (by rw [hx_fu (by omega)]; omega)).2.1 |> fun a => ⟨a, (hp_px_ok hTk (fun j => (hpc j).1) 3000 0 0 s (by omega) hk h (by rw [hx_fu (by omega)]; omega)).2.2.2⟩
  · rw [hp_px_f h]
    exact ⟨hk, hs⟩
theorem hr_exp {lch : Launch} {d : Nat} {B : mj_M} {n : Int} {T : Nat} {S P V ST E : Nat → Int} {tkf pcf : Nat → Int} {sc : Int} {s : hp_S} (hB : 25 ≤ B.length) (hT9 : T ≤ 160) (hS : ∀ j, hr (S j)) (hP : ∀ j, hr (P j)) (hSk : ∀ j : Nat, j ≤ T → S j = tkf j) (hPk : ∀ j : Nat, j ≤ T → P j = pcf j) (hTk : ∀ j, T ≤ j → tkf j = 302) (hpc : ∀ j, 0 ≤ pcf j ∧ pcf j ≤ 160) (hk : s.1 ≤ T) (hs : s.2 = -1 ∨ s.2 = pcf s.1) (hsc : 0 ≤ sc ∧ sc ≤ 160) (hd : 49 ≤ d) : mj_Me lch 29 d 0 0 [.ref 18, hv 0, hv 0] (rd B n ((T : Int) + 1) ((s.1 : Nat) : Int) s.2 sc S P V ST E) (hq B n T S P V E (hp_px tkf pcf 3000 0 0 s)) := by
  by_cases h1 : s.2 = -1
  · obtain ⟨k, f⟩ := s
    simp only at h1 hk hs
    subst h1
    exact (ha_par hB hT9 hS hP hSk hPk hTk hpc 3000).1 d 0 0 k sc ST (by omega) (by omega) hk hsc (by rw [hx_fu (by omega)]; omega) (by omega)
  · have hb := hr_bd hT9 hpc hk hs
    have hfl := hb.2
    refine mj_Me_of (by decide) (by omega) (Nat.le_of_ble_eq_true rfl) ?_
    intro L xs J R1 R2 R3
    show J 0 0 (rd B n ((T : Int) + 1) ((s.1 : Nat) : Int) s.2 sc S P V ST E) 0 [(0, .ref 18), (1, hv 0), (2, hv 0)] []
    refine jr_aload_n R1 d_29_0 rfl ?_
    refine jr_getf R1 d_29_1 (rd_18 hB) (by decide) rfl ?_
    refine jr_iconst R1 d_29_4 ?_
    refine jr_icmp R1 false d_29_5 (by first | assumption | exact hg _ | exact hS _ | exact hV _ | exact hP _ | exact hT _ | exact ⟨by omega, by omega⟩) (by first | assumption | exact hg _ | exact hS _ | exact hV _ | exact hP _ | exact hT _ | exact ⟨by omega, by omega⟩) (by unfold hcb; first | exact decide_eq_true (by omega) | exact decide_eq_false (by omega)) (by decide) (pc' := 8) rfl ?_
    refine jr_ret R3 d_29_8 rfl ?_
    exact ⟨rfl, sc, ST, hsc, by rw [hp_px_f h1]⟩
theorem hr_read {lch : Launch} {d : Nat} {B : mj_M} {nn : Nat} {g : Nat → Int} {tk at' fl sc : Int} {S P V ST E : Nat → Int} (hd : 50 ≤ d) (hB : 25 ≤ B.length) (hTp : B[19]? = some (hA 0 160 g)) (hg : ∀ j, hr (g j)) (hn9 : nn ≤ 160) (hat : 0 ≤ at' ∧ at' ≤ 160) (hfl : -1 ≤ fl ∧ fl ≤ 160) (hS : ∀ j, hr (S j)) (hP : ∀ j, hr (P j)) (hP9 : ∀ j, j < 161 → 0 ≤ P j ∧ P j ≤ 160) (hE9 : ∀ j, j < 3 → 0 ≤ E j ∧ E j ≤ 160) : mj_Me lch 39 d 0 0 [.ref 18] (rd B ((nn : Int)) tk at' fl sc S P V ST E) (fun rv M' => rv = some (hv (hp_text g nn).2) ∧ (-1 ≤ (hp_text g nn).2 ∧ (hp_text g nn).2 ≤ 160) ∧ ∃ (at2 sc2 : Int) (S2 P2 V2 ST2 E2 : Nat → Int), (0 ≤ at2 ∧ at2 ≤ 160) ∧ (0 ≤ sc2 ∧ sc2 ≤ 160) ∧ (∀ j, j < 161 → 0 ≤ P2 j ∧ P2 j ≤ 160) ∧ (∀ j, hr (S2 j)) ∧ (∀ j, hr (P2 j)) ∧ (∀ j, j < 3 → 0 ≤ E2 j ∧ E2 j ≤ 160) ∧ M' = rd B 0 ((hp_T g nn : Int) + 1) at2 (hp_text g nn).2 sc2 S2 P2 V2 ST2 E2) := by
  refine mj_Me_of (by decide) (by omega) (Nat.le_of_ble_eq_true rfl) ?_
  intro L xs J R1 R2 R3
  show J 0 0 (rd B ((nn : Int)) tk at' fl sc S P V ST E) 0 [(0, .ref 18)] []
  refine jr_aload_n R1 d_39_0 rfl ?_
  refine jr_callv R2 d_39_1 (by decide) rfl (as := [.ref 18]) (rest := []) rfl (by unfold mj_rc; rw [show (_ : List Value).headD _ = .ref 18 from rfl]; simp only [rd_18 hB]; decide) (hc_cut (d := 8) (by omega) hB hTp hg hn9 hat hfl hS hP hP9) (by omega) (Nat.le_of_ble_eq_true rfl) ?_
  rintro rv M9 ⟨rfl, S', P', V', hz9, rfl⟩
  have hT9 : hp_T g nn ≤ 160 := Nat.le_trans hp_T_le hn9
  obtain ⟨T, hTe⟩ : ∃ x, x = hp_T g nn := ⟨_, rfl⟩
  obtain ⟨tkf, htkf⟩ : ∃ x, x = hp_tk g nn := ⟨_, rfl⟩
  obtain ⟨pcf, hpcf⟩ : ∃ x, x = fun k => ((hp_P g nn k : Nat) : Int) := ⟨_, rfl⟩
  rw [← hTe] at hz9 hT9 ⊢
  have hSk : ∀ j : Nat, j ≤ T → S' j = tkf j := fun j hj => by rw [htkf]; exact hz9.1 j (by omega)
  have hPk : ∀ j : Nat, j ≤ T → P' j = pcf j := fun j hj => by rw [hpcf]; exact hz9.2.1 j (by omega)
  have hTk : ∀ j, T ≤ j → tkf j = 302 := fun j hj => by rw [htkf]; exact hp_tk_T (by omega)
  have hpc : ∀ j, 0 ≤ pcf j ∧ pcf j ≤ 160 := fun j => by rw [hpcf]; have := hp_P_le (b := g) (n := nn) (k := j); simp only; omega
  have hS := hz9.2.2.1
  have hP := hz9.2.2.2.1
  have hP9 := hz9.2.2.2.2
  have hkz : ((0, -1) : hp_S).1 ≤ T ∧ (((0, -1) : hp_S).2 = -1 ∨ ((0, -1) : hp_S).2 = pcf ((0, -1) : hp_S).1) := ⟨Nat.zero_le _, Or.inl rfl⟩
  have hscz : (0 : Int) ≤ 0 ∧ (0 : Int) ≤ 160 := ⟨by omega, by omega⟩
  show J 0 0 (rd B ((nn : Int)) ((T : Int) + 1) at' fl sc S' P' V' ST E) 4 [(0, .ref 18)] []
  refine jr_aload_n R1 d_39_4 rfl ?_
  refine jr_iconst R1 d_39_5 ?_
  refine jr_putf R1 d_39_6 (rd_18 hB) (by decide) (by simp) rfl rfl (M' := rd B ((nn : Int)) ((T : Int) + 1) 0 fl sc S' P' V' ST E) (rd_p18 hB) ?_
  refine jr_aload_n R1 d_39_9 rfl ?_
  refine jr_iconst R1 d_39_10 ?_
  refine jr_putf R1 d_39_11 (rd_18 hB) (by decide) (by simp) rfl rfl (M' := rd B ((nn : Int)) ((T : Int) + 1) 0 ((-1)) sc S' P' V' ST E) (rd_p18 hB) ?_
  refine jr_aload_n R1 d_39_14 rfl ?_
  refine jr_iconst R1 d_39_15 ?_
  refine jr_putf R1 d_39_16 (rd_18 hB) (by decide) (by simp) rfl rfl (M' := rd B ((nn : Int)) ((T : Int) + 1) 0 ((-1)) 0 S' P' V' ST E) (rd_p18 hB) ?_
  refine jr_iconst R1 d_39_19 ?_
  refine jr_istore_n R1 d_39_20 (by decide) (lo' := [(1, hv 0), (0, .ref 18)]) rfl ?_
  refine jr_iload_n R1 d_39_21 rfl ?_
  refine jr_iconst R1 d_39_22 ?_
  refine jr_icmp R1 false d_39_23 (by first | assumption | exact hg _ | exact hS _ | exact hV _ | exact hP _ | exact hT _ | exact ⟨by omega, by omega⟩) (by first | assumption | exact hg _ | exact hS _ | exact hV _ | exact hP _ | exact hT _ | exact ⟨by omega, by omega⟩) (by unfold hcb; first | exact decide_eq_true (by omega) | exact decide_eq_false (by omega)) (by decide) (pc' := 26) rfl ?_
  refine jr_aload_n R1 d_39_26 rfl ?_
  refine jr_sipush R1 d_39_27 (by decide) ?_
  refine jr_iload_n R1 d_39_30 rfl ?_
  refine jr_iadd R1 d_39_31 ?_
  refine jr_callv R2 d_39_32 (by decide) rfl (as := [.ref 18, hv 262]) (rest := []) rfl (by unfold mj_rc; rw [show (_ : List Value).headD _ = .ref 18 from rfl]; simp only [rd_18 hB]; decide) (hr_need (d := 2) hB hT9 hS hP hSk hPk hTk hpc (s := ((0, -1) : hp_S)) hkz.1 hkz.2 (t := 262) (by decide) ⟨by omega, by omega⟩ (by omega)) (by omega) (Nat.le_of_ble_eq_true rfl) ?_
  rintro rv M9 ⟨rfl, rfl⟩
  have hk0 := hr_needok hTk (t := 262) (by decide) hkz.1 hkz.2
  obtain ⟨s0, he0⟩ : ∃ x, x = (hp_need tkf pcf 262 ((0, -1) : hp_S)) := ⟨_, rfl⟩
  rw [← he0] at hk0 ⊢
  show J 0 0 (rd B ((nn : Int)) ((T : Int) + 1) (((s0.1 : Nat) : Int)) s0.2 0 S' P' V' ST E) 35 [(1, hv 0), (0, .ref 18)] []
  refine jr_aload_n R1 d_39_35 rfl ?_
  refine jr_iconst R1 d_39_36 ?_
  refine jr_iconst R1 d_39_37 ?_
  refine jr_calls R2 d_39_38 (by decide) (by decide) rfl (as := [.ref 18, hv 0, hv 0]) (rest := []) rfl (hr_exp (d := 49) hB hT9 hS hP hSk hPk hTk hpc (s := s0) hk0.1 hk0.2 hscz (Nat.le_refl _)) (by omega) (Nat.le_of_ble_eq_true rfl) ?_
  rintro rv M9 ⟨rfl, sc1, ST1, hsc1, rfl⟩
  have hk1 := hr_pxok hT9 hTk hpc hk0.1 hk0.2
  obtain ⟨s1, he1⟩ : ∃ x, x = hp_px tkf pcf 3000 0 0 s0 := ⟨_, rfl⟩
  rw [← he1] at hk1 ⊢
  show J 0 0 (rd B ((nn : Int)) ((T : Int) + 1) (((s1.1 : Nat) : Int)) s1.2 sc1 S' P' V' ST1 E) 41 [(1, hv 0), (0, .ref 18)] []
  refine jr_aload_n R1 d_39_41 rfl ?_
  refine jr_bipush R1 d_39_42 (by decide) ?_
  refine jr_callv R2 d_39_44 (by decide) rfl (as := [.ref 18, hv 59]) (rest := []) rfl (by unfold mj_rc; rw [show (_ : List Value).headD _ = .ref 18 from rfl]; simp only [rd_18 hB]; decide) (hr_need (d := 2) hB hT9 hS hP hSk hPk hTk hpc (s := s1) hk1.1 hk1.2 (t := 59) (by decide) ⟨by omega, by omega⟩ (by omega)) (by omega) (Nat.le_of_ble_eq_true rfl) ?_
  rintro rv M9 ⟨rfl, rfl⟩
  have hk2 := hr_needok hTk (t := 59) (by decide) hk1.1 hk1.2
  obtain ⟨s2, he2⟩ : ∃ x, x = (hp_need tkf pcf 59 s1) := ⟨_, rfl⟩
  rw [← he2] at hk2 ⊢
  show J 0 0 (rd B ((nn : Int)) ((T : Int) + 1) (((s2.1 : Nat) : Int)) s2.2 sc1 S' P' V' ST1 E) 47 [(1, hv 0), (0, .ref 18)] []
  refine jr_aload_n R1 d_39_47 rfl ?_
  refine jr_getf R1 d_39_48 (rd_18 hB) (by decide) rfl ?_
  refine jr_iload_n R1 d_39_51 rfl ?_
  refine jr_aload_n R1 d_39_52 rfl ?_
  refine jr_getf R1 d_39_53 (rd_18 hB) (by decide) rfl ?_
  refine jr_iast R1 d_39_56 (rd_24 hB) (by omega) (by omega) (by decide) (M' := rd B ((nn : Int)) ((T : Int) + 1) (((s2.1 : Nat) : Int)) s2.2 sc1 S' P' V' ST1 ((hu E (0 : Int).toNat sc1))) (rd_p24 hB) ?_
  refine jr_iinc R1 d_39_57 (by decide) rfl (lo' := [(1, hv 1), (0, .ref 18)]) rfl ?_
  refine jr_goto R1 d_39_60 (by decide) (pc' := 21) rfl ?_
  refine jr_iload_n R1 d_39_21 rfl ?_
  refine jr_iconst R1 d_39_22 ?_
  refine jr_icmp R1 false d_39_23 (by first | assumption | exact hg _ | exact hS _ | exact hV _ | exact hP _ | exact hT _ | exact ⟨by omega, by omega⟩) (by first | assumption | exact hg _ | exact hS _ | exact hV _ | exact hP _ | exact hT _ | exact ⟨by omega, by omega⟩) (by unfold hcb; first | exact decide_eq_true (by omega) | exact decide_eq_false (by omega)) (by decide) (pc' := 26) rfl ?_
  refine jr_aload_n R1 d_39_26 rfl ?_
  refine jr_sipush R1 d_39_27 (by decide) ?_
  refine jr_iload_n R1 d_39_30 rfl ?_
  refine jr_iadd R1 d_39_31 ?_
  refine jr_callv R2 d_39_32 (by decide) rfl (as := [.ref 18, hv 263]) (rest := []) rfl (by unfold mj_rc; rw [show (_ : List Value).headD _ = .ref 18 from rfl]; simp only [rd_18 hB]; decide) (hr_need (d := 2) hB hT9 hS hP hSk hPk hTk hpc (s := s2) hk2.1 hk2.2 (t := 263) (by decide) ⟨by omega, by omega⟩ (by omega)) (by omega) (Nat.le_of_ble_eq_true rfl) ?_
  rintro rv M9 ⟨rfl, rfl⟩
  have hk3 := hr_needok hTk (t := 263) (by decide) hk2.1 hk2.2
  obtain ⟨s3, he3⟩ : ∃ x, x = (hp_need tkf pcf 263 s2) := ⟨_, rfl⟩
  rw [← he3] at hk3 ⊢
  show J 0 0 (rd B ((nn : Int)) ((T : Int) + 1) (((s3.1 : Nat) : Int)) s3.2 sc1 S' P' V' ST1 ((hu E (0 : Int).toNat sc1))) 35 [(1, hv 1), (0, .ref 18)] []
  refine jr_aload_n R1 d_39_35 rfl ?_
  refine jr_iconst R1 d_39_36 ?_
  refine jr_iconst R1 d_39_37 ?_
  refine jr_calls R2 d_39_38 (by decide) (by decide) rfl (as := [.ref 18, hv 0, hv 0]) (rest := []) rfl (hr_exp (d := 49) hB hT9 hS hP hSk hPk hTk hpc (s := s3) hk3.1 hk3.2 hsc1 (Nat.le_refl _)) (by omega) (Nat.le_of_ble_eq_true rfl) ?_
  rintro rv M9 ⟨rfl, sc4, ST4, hsc4, rfl⟩
  have hk4 := hr_pxok hT9 hTk hpc hk3.1 hk3.2
  obtain ⟨s4, he4⟩ : ∃ x, x = hp_px tkf pcf 3000 0 0 s3 := ⟨_, rfl⟩
  rw [← he4] at hk4 ⊢
  show J 0 0 (rd B ((nn : Int)) ((T : Int) + 1) (((s4.1 : Nat) : Int)) s4.2 sc4 S' P' V' ST4 ((hu E (0 : Int).toNat sc1))) 41 [(1, hv 1), (0, .ref 18)] []
  refine jr_aload_n R1 d_39_41 rfl ?_
  refine jr_bipush R1 d_39_42 (by decide) ?_
  refine jr_callv R2 d_39_44 (by decide) rfl (as := [.ref 18, hv 59]) (rest := []) rfl (by unfold mj_rc; rw [show (_ : List Value).headD _ = .ref 18 from rfl]; simp only [rd_18 hB]; decide) (hr_need (d := 2) hB hT9 hS hP hSk hPk hTk hpc (s := s4) hk4.1 hk4.2 (t := 59) (by decide) ⟨by omega, by omega⟩ (by omega)) (by omega) (Nat.le_of_ble_eq_true rfl) ?_
  rintro rv M9 ⟨rfl, rfl⟩
  have hk5 := hr_needok hTk (t := 59) (by decide) hk4.1 hk4.2
  obtain ⟨s5, he5⟩ : ∃ x, x = (hp_need tkf pcf 59 s4) := ⟨_, rfl⟩
  rw [← he5] at hk5 ⊢
  show J 0 0 (rd B ((nn : Int)) ((T : Int) + 1) (((s5.1 : Nat) : Int)) s5.2 sc4 S' P' V' ST4 ((hu E (0 : Int).toNat sc1))) 47 [(1, hv 1), (0, .ref 18)] []
  refine jr_aload_n R1 d_39_47 rfl ?_
  refine jr_getf R1 d_39_48 (rd_18 hB) (by decide) rfl ?_
  refine jr_iload_n R1 d_39_51 rfl ?_
  refine jr_aload_n R1 d_39_52 rfl ?_
  refine jr_getf R1 d_39_53 (rd_18 hB) (by decide) rfl ?_
  refine jr_iast R1 d_39_56 (rd_24 hB) (by omega) (by omega) (by decide) (M' := rd B ((nn : Int)) ((T : Int) + 1) (((s5.1 : Nat) : Int)) s5.2 sc4 S' P' V' ST4 ((hu ((hu E (0 : Int).toNat sc1)) (1 : Int).toNat sc4))) (rd_p24 hB) ?_
  refine jr_iinc R1 d_39_57 (by decide) rfl (lo' := [(1, hv 2), (0, .ref 18)]) rfl ?_
  refine jr_goto R1 d_39_60 (by decide) (pc' := 21) rfl ?_
  refine jr_iload_n R1 d_39_21 rfl ?_
  refine jr_iconst R1 d_39_22 ?_
  refine jr_icmp R1 false d_39_23 (by first | assumption | exact hg _ | exact hS _ | exact hV _ | exact hP _ | exact hT _ | exact ⟨by omega, by omega⟩) (by first | assumption | exact hg _ | exact hS _ | exact hV _ | exact hP _ | exact hT _ | exact ⟨by omega, by omega⟩) (by unfold hcb; first | exact decide_eq_true (by omega) | exact decide_eq_false (by omega)) (by decide) (pc' := 26) rfl ?_
  refine jr_aload_n R1 d_39_26 rfl ?_
  refine jr_sipush R1 d_39_27 (by decide) ?_
  refine jr_iload_n R1 d_39_30 rfl ?_
  refine jr_iadd R1 d_39_31 ?_
  refine jr_callv R2 d_39_32 (by decide) rfl (as := [.ref 18, hv 264]) (rest := []) rfl (by unfold mj_rc; rw [show (_ : List Value).headD _ = .ref 18 from rfl]; simp only [rd_18 hB]; decide) (hr_need (d := 2) hB hT9 hS hP hSk hPk hTk hpc (s := s5) hk5.1 hk5.2 (t := 264) (by decide) ⟨by omega, by omega⟩ (by omega)) (by omega) (Nat.le_of_ble_eq_true rfl) ?_
  rintro rv M9 ⟨rfl, rfl⟩
  have hk6 := hr_needok hTk (t := 264) (by decide) hk5.1 hk5.2
  obtain ⟨s6, he6⟩ : ∃ x, x = (hp_need tkf pcf 264 s5) := ⟨_, rfl⟩
  rw [← he6] at hk6 ⊢
  show J 0 0 (rd B ((nn : Int)) ((T : Int) + 1) (((s6.1 : Nat) : Int)) s6.2 sc4 S' P' V' ST4 ((hu ((hu E (0 : Int).toNat sc1)) (1 : Int).toNat sc4))) 35 [(1, hv 2), (0, .ref 18)] []
  refine jr_aload_n R1 d_39_35 rfl ?_
  refine jr_iconst R1 d_39_36 ?_
  refine jr_iconst R1 d_39_37 ?_
  refine jr_calls R2 d_39_38 (by decide) (by decide) rfl (as := [.ref 18, hv 0, hv 0]) (rest := []) rfl (hr_exp (d := 49) hB hT9 hS hP hSk hPk hTk hpc (s := s6) hk6.1 hk6.2 hsc4 (Nat.le_refl _)) (by omega) (Nat.le_of_ble_eq_true rfl) ?_
  rintro rv M9 ⟨rfl, sc7, ST7, hsc7, rfl⟩
  have hk7 := hr_pxok hT9 hTk hpc hk6.1 hk6.2
  obtain ⟨s7, he7⟩ : ∃ x, x = hp_px tkf pcf 3000 0 0 s6 := ⟨_, rfl⟩
  rw [← he7] at hk7 ⊢
  show J 0 0 (rd B ((nn : Int)) ((T : Int) + 1) (((s7.1 : Nat) : Int)) s7.2 sc7 S' P' V' ST7 ((hu ((hu E (0 : Int).toNat sc1)) (1 : Int).toNat sc4))) 41 [(1, hv 2), (0, .ref 18)] []
  refine jr_aload_n R1 d_39_41 rfl ?_
  refine jr_bipush R1 d_39_42 (by decide) ?_
  refine jr_callv R2 d_39_44 (by decide) rfl (as := [.ref 18, hv 59]) (rest := []) rfl (by unfold mj_rc; rw [show (_ : List Value).headD _ = .ref 18 from rfl]; simp only [rd_18 hB]; decide) (hr_need (d := 2) hB hT9 hS hP hSk hPk hTk hpc (s := s7) hk7.1 hk7.2 (t := 59) (by decide) ⟨by omega, by omega⟩ (by omega)) (by omega) (Nat.le_of_ble_eq_true rfl) ?_
  rintro rv M9 ⟨rfl, rfl⟩
  have hk8 := hr_needok hTk (t := 59) (by decide) hk7.1 hk7.2
  obtain ⟨s8, he8⟩ : ∃ x, x = (hp_need tkf pcf 59 s7) := ⟨_, rfl⟩
  rw [← he8] at hk8 ⊢
  show J 0 0 (rd B ((nn : Int)) ((T : Int) + 1) (((s8.1 : Nat) : Int)) s8.2 sc7 S' P' V' ST7 ((hu ((hu E (0 : Int).toNat sc1)) (1 : Int).toNat sc4))) 47 [(1, hv 2), (0, .ref 18)] []
  refine jr_aload_n R1 d_39_47 rfl ?_
  refine jr_getf R1 d_39_48 (rd_18 hB) (by decide) rfl ?_
  refine jr_iload_n R1 d_39_51 rfl ?_
  refine jr_aload_n R1 d_39_52 rfl ?_
  refine jr_getf R1 d_39_53 (rd_18 hB) (by decide) rfl ?_
  refine jr_iast R1 d_39_56 (rd_24 hB) (by omega) (by omega) (by decide) (M' := rd B ((nn : Int)) ((T : Int) + 1) (((s8.1 : Nat) : Int)) s8.2 sc7 S' P' V' ST7 ((hu ((hu ((hu E (0 : Int).toNat sc1)) (1 : Int).toNat sc4)) (2 : Int).toNat sc7))) (rd_p24 hB) ?_
  refine jr_iinc R1 d_39_57 (by decide) rfl (lo' := [(1, hv 3), (0, .ref 18)]) rfl ?_
  refine jr_goto R1 d_39_60 (by decide) (pc' := 21) rfl ?_
  refine jr_iload_n R1 d_39_21 rfl ?_
  refine jr_iconst R1 d_39_22 ?_
  refine jr_icmp R1 true d_39_23 (by first | assumption | exact hg _ | exact hS _ | exact hV _ | exact hP _ | exact hT _ | exact ⟨by omega, by omega⟩) (by first | assumption | exact hg _ | exact hS _ | exact hV _ | exact hP _ | exact hT _ | exact ⟨by omega, by omega⟩) (by unfold hcb; first | exact decide_eq_true (by omega) | exact decide_eq_false (by omega)) (by decide) (pc' := 63) rfl ?_
  refine jr_aload_n R1 d_39_63 rfl ?_
  refine jr_sipush R1 d_39_64 (by decide) ?_
  refine jr_callv R2 d_39_67 (by decide) rfl (as := [.ref 18, hv 302]) (rest := []) rfl (by unfold mj_rc; rw [show (_ : List Value).headD _ = .ref 18 from rfl]; simp only [rd_18 hB]; decide) (hc_need (d := 2) (by omega) hB (hr_bd hT9 hpc hk8.1 hk8.2).1 (by omega) (hr_bd hT9 hpc hk8.1 hk8.2).2 hS hP ⟨by omega, by omega⟩) (by omega) (Nat.le_of_ble_eq_true rfl) ?_
  rintro rv M9 ⟨rfl, rfl⟩
  rw [hr_fl302 hSk hPk hk8.1]
  obtain ⟨at9, hat9, hea9⟩ := hr_at302 (S := S') hT9 hk8.1
  rw [hea9]
  have hfl9 := hr_nb (t := 302) (tkf := tkf) (T := T) hpc hk8.2
  show J 0 0 (rd B ((nn : Int)) ((T : Int) + 1) at9 ((hp_need tkf pcf 302 s8).2) sc7 S' P' V' ST7 ((hu ((hu ((hu E (0 : Int).toNat sc1)) (1 : Int).toNat sc4)) (2 : Int).toNat sc7))) 70 [(1, hv 3), (0, .ref 18)] []
  refine jr_aload_n R1 d_39_70 rfl ?_
  refine jr_iconst R1 d_39_71 ?_
  refine jr_putf R1 d_39_72 (rd_18 hB) (by decide) (by simp) rfl rfl (M' := rd B 0 ((T : Int) + 1) at9 ((hp_need tkf pcf 302 s8).2) sc7 S' P' V' ST7 ((hu ((hu ((hu E (0 : Int).toNat sc1)) (1 : Int).toNat sc4)) (2 : Int).toNat sc7))) (rd_p18 hB) ?_
  refine jr_aload_n R1 d_39_75 rfl ?_
  refine jr_getf R1 d_39_76 (rd_18 hB) (by decide) rfl ?_
  refine jr_reti R3 d_39_79 rfl ?_
  have hpt : (hp_text g nn).2 = (hp_need tkf pcf 302 s8).2 := by
    unfold hp_text hp_part
    rw [← htkf, ← hpcf, ← he0, ← he1, ← he2, ← he3, ← he4, ← he5, ← he6, ← he7, ← he8]
  rw [hpt, ← hTe]
  refine ⟨rfl, hfl9, at9, sc7, _, _, _, _, _, hat9, hsc7, hP9, hS, hP, hr_e (hr_e (hr_e hE9 hsc1) hsc4) hsc7, rfl⟩
