/-! THE MODEL READS A TEXT -/
theorem hp_part_f {tk pc : Nat → Int} {F : Nat} {t : Int} {s : hp_S} (h : s.2 ≠ -1) : hp_part tk pc F t s = s := by
  unfold hp_part
  rw [hp_need_f h, hp_px_f h, hp_need_f h]
theorem mk_partok {b : Nat → Int} {n k : Nat} {t : Int} (hn9 : n ≤ 160) (ht : t ≠ 302) (hk : k ≤ hp_T b n) : (hp_part (hp_tk b n) (hpc b n) 3000 t (k, -1)).1 ≤ hp_T b n := by
  have hT : ∀ j, hp_T b n ≤ j → hp_tk b n j = 302 := fun j hj => hp_tk_T hj
  have hTn := hp_T_le (b := b) (n := n)
  unfold hp_part
  have h1 := hp_need_ok (tk := hp_tk b n) (pc := hpc b n) hT ht (s := (k, -1)) hk (Or.inl rfl)
  generalize hp_need (hp_tk b n) (hpc b n) t (k, -1) = s1 at h1 ⊢
  have h2 : (hp_px (hp_tk b n) (hpc b n) 3000 0 0 s1).1 ≤ hp_T b n ∧ ((hp_px (hp_tk b n) (hpc b n) 3000 0 0 s1).2 = -1 ∨ (hp_px (hp_tk b n) (hpc b n) 3000 0 0 s1).2 = hpc b n (hp_px (hp_tk b n) (hpc b n) 3000 0 0 s1).1) := by
    by_cases e : s1.2 = -1
    · have h := hp_px_ok (tk := hp_tk b n) (pc := hpc b n) hT hpc_0 3000 0 0 s1 (by omega) h1.2.1 e (by rw [hx_fu (by omega)]; omega)
      exact ⟨h.2.1, h.2.2.2⟩
    · rw [hp_px_f e]
      exact ⟨h1.2.1, h1.2.2⟩
  exact (hp_need_ok (tk := hp_tk b n) (pc := hpc b n) hT (by decide) h2.1 h2.2).2.1
/-- what reading a text leaves -/
def mrd (C : mj_M) (A : Nat → Value) (U : Nat → Int) (Z : List Value) (tc tp fr sz F : Int) : Option Value → mj_M → Prop := fun rv M' => (∃ z, hr z ∧ rv = some (hv z)) ∧ ∃ he to ta wo fa : Int, ((0 ≤ he ∧ he ≤ 160) ∧ (0 ≤ to ∧ to ≤ 4) ∧ (0 ≤ ta ∧ ta ≤ 160) ∧ (-100000 ≤ wo ∧ wo ≤ 10000000) ∧ (0 ≤ fa ∧ fa ≤ 160)) ∧ (F ≠ -1 → fa = F) ∧ M' = md C A U Z tc tp fr sz he to ta wo 0 (if F = -1 then 0 else 1) fa
theorem mrd_ok {C : mj_M} {A : Nat → Value} {U : Nat → Int} {Z : List Value} {b : Nat → Int} {n k q : Nat} {tc tp fr F to wo ba fa z : Int} (hn9 : n ≤ 160) (hm : mt b n k q to wo) (hfa : 0 ≤ fa ∧ fa ≤ 160) (he : F ≠ -1 → fa = F) (hba : ba = if F = -1 then 0 else 1) : mrd C A U Z tc tp fr (n : Int) F (some (hv z)) (md C A U Z tc tp fr (n : Int) (q : Int) to (hpc b n k) wo ((0 : Nat) : Int) ba fa) :=
  ⟨hvs_any z, (q : Int), to, hpc b n k, wo, fa, ⟨⟨by omega, by have := mt_qn hm; omega⟩, hm.2.2.1, hpc_bd hn9 k, hm.2.2.2, hfa⟩, he, by rw [hba]; rfl⟩
theorem mk_part_t {lch : Launch} {d : Nat} {C : mj_M} {A : Nat → Value} {U : Nat → Int} {Z : List Value} {g b : Nat → Int} {fr n : Nat} {tc tp : Int} {k q : Nat} {to wo fa t : Int} (hd : 46 ≤ d) (hC : 84 ≤ C.length) (hTx : C[81]? = some (hA 0 960 g)) (hg : ∀ j, hr (b j)) (hb : ∀ j, j < n → b j = g (fr + j)) (hfr : fr + n ≤ 960) (hn9 : n ≤ 160) (hb0 : ∀ j, j < n → 0 ≤ b j ∧ b j ≤ 255) (hk : k ≤ hp_T b n) (hm : mt b n k q to wo) (hfa : 0 ≤ fa ∧ fa ≤ 160) (ht2 : t ≠ 302) (ht3 : t ≠ 303) (htk : hp_tk b n k = t) : mj_Me lch 161 d 0 0 [.ref 80, hv 1] (md C A U Z tc tp ((fr : Int)) ((n : Int)) ((q : Int)) to (hpc b n k) wo (((0 : Nat) : Int)) 0 fa) (mq C A U Z tc tp fr n b 0 (hp_part (hp_tk b n) (hpc b n) 3000 t (k, -1))) := by
  have hTn := hp_T_le (b := b) (n := n)
  refine mj_Me_of (by decide) (by omega) (Nat.le_of_ble_eq_true rfl) ?_
  intro L xs J R1 R2 R3
  show J 0 0 (md C A U Z tc tp ((fr : Int)) ((n : Int)) ((q : Int)) to (hpc b n k) wo (((0 : Nat) : Int)) 0 fa) 0 [(0, .ref 80), (1, hv 1)] []
  refine jr_iload_n R1 d_161_0 rfl ?_
  refine jr_ifc R1 true d_161_1 (by first | assumption | exact hg _ | exact hS _ | exact hV _ | exact hP _ | exact hT _ | exact ⟨by omega, by omega⟩) (by unfold hcb; first | exact decide_eq_true (by omega) | exact decide_eq_false (by omega)) (by decide) (pc' := 8) rfl ?_
  refine jr_aload_n R1 d_161_8 rfl ?_
  refine jr_getf R1 d_161_9 (md_80 hC) (by decide) rfl ?_
  refine jr_ifc R1 false d_161_12 (by first | assumption | exact hg _ | exact hS _ | exact hV _ | exact hP _ | exact hT _ | exact ⟨by omega, by omega⟩) (by unfold hcb; first | exact decide_eq_true (by omega) | exact decide_eq_false (by omega)) (by decide) (pc' := 15) rfl ?_
  refine jr_aload_n R1 d_161_15 rfl ?_
  refine jr_callv R2 d_161_16 (by decide) rfl (as := [.ref 80]) (rest := []) rfl (by unfold mj_rc; rw [show (_ : List Value).headD _ = .ref 80 from rfl]; simp only [md_80 hC]; decide) (hm_next (d := 2) (x := q) (p := hp_P b n (k + 1)) (by omega) hC hTx hg hb hfr hn9 hb0 (mt_qn hm) (mt_nx hm (by omega)) hm.2.2.2) (by omega) (Nat.le_of_ble_eq_true rfl) ?_
  rintro rv M9 ⟨rfl, he9, to62, wo62, hmp9, hbd9, rfl⟩
  obtain ⟨q62, rfl⟩ := mbd_q hbd9
  have hm62 : mt b n (k + 1) q62 to62 wo62 := ⟨hmp9, hbd9⟩
  show J 0 0 (md C A U Z tc tp ((fr : Int)) ((n : Int)) ((q62 : Int)) to62 (hpc b n (k + 1)) wo62 (((0 : Nat) : Int)) 0 fa) 19 [(0, .ref 80), (1, hv 1)] []
  refine jr_aload_n R1 d_161_19 rfl ?_
  refine jr_getf R1 d_161_20 (md_80 hC) (by decide) rfl ?_
  refine jr_ifc R1 true d_161_23 (by first | assumption | exact hg _ | exact hS _ | exact hV _ | exact hP _ | exact hT _ | exact ⟨by omega, by omega⟩) (by unfold hcb; first | exact decide_eq_true (by omega) | exact decide_eq_false (by omega)) (by decide) (pc' := 30) rfl ?_
  refine jr_aload_n R1 d_161_30 rfl ?_
  by_cases hS63 : (hp_px (hp_tk b n) (hpc b n) 3000 0 0 ((k + 1), -1)).2 = -1
  · skip
    refine jr_callv R2 d_161_31 (by decide) rfl (as := [.ref 80]) (rest := []) rfl (by unfold mj_rc; rw [show (_ : List Value).headD _ = .ref 80 from rfl]; simp only [md_80 hC]; decide) ((mk_par hC hTx hg hb hfr hn9 hb0 3000).2.2.2 (10 - 0 + 7 * (5 - 0)) 0 (k + 1) _ _ _ _ (by omega) (mt_kT hk (by omega)) hm62 hfa (by rw [hx_fu (by omega)]; omega) (Nat.le_refl _)) (by omega) (Nat.le_of_ble_eq_true rfl) ?_
    rintro rv M9 ⟨⟨z63, hz63, rfl⟩, q63, to63, wo63, fa63, hm63, hfa63, hfe63, rfl⟩
    have hok63 := hp_px_ok (tk := hp_tk b n) (pc := hpc b n) (T := hp_T b n) (fun j hj => hp_tk_T hj) hpc_0 3000 0 0 ((k + 1), -1) (by omega) (mt_kT hk (by omega)) rfl (by rw [hx_fu (by omega)]; simp only; omega)
    have hwo63_ := hm63.2.2.2
    rw [if_pos hS63]
    show J 0 0 (md C A U Z tc tp ((fr : Int)) ((n : Int)) ((q63 : Int)) to63 (hpc b n (hp_px (hp_tk b n) (hpc b n) 3000 0 0 ((k + 1), -1)).1) wo63 (((0 : Nat) : Int)) 0 fa63) 34 [(0, .ref 80), (1, hv 1)] [hv z63]
    refine jr_istore_n R1 d_161_34 (by decide) (lo' := [(2, hv z63), (0, .ref 80), (1, hv 1)]) rfl ?_
    refine jr_aload_n R1 d_161_35 rfl ?_
    refine jr_bipush R1 d_161_36 (by decide) ?_
    by_cases hs64_59 : hp_tk b n ((hp_px (hp_tk b n) (hpc b n) 3000 0 0 ((k + 1), -1)).1) = 59
    · skip
      refine jr_callv R2 d_161_38 (by decide) rfl (as := [.ref 80, hv 59]) (rest := []) rfl (by unfold mj_rc; rw [show (_ : List Value).headD _ = .ref 80 from rfl]; simp only [md_80 hC]; decide) (hm_isSign (d := 1) (by omega) hC (Or.inl rfl) hm63.2.2.1 hm63.2.2.2 ⟨by omega, by omega⟩) (by omega) (Nat.le_of_ble_eq_true rfl) ?_
      rintro rv M9 ⟨rfl, rfl⟩
      rw [if_pos ⟨rfl, (mt_sg hm63 rfl).mpr hs64_59⟩]
      show J 0 0 (md C A U Z tc tp ((fr : Int)) ((n : Int)) ((q63 : Int)) to63 (hpc b n (hp_px (hp_tk b n) (hpc b n) 3000 0 0 ((k + 1), -1)).1) wo63 (((0 : Nat) : Int)) 0 fa63) 41 [(2, hv z63), (0, .ref 80), (1, hv 1)] [hv 1]
      refine jr_ifc R1 true d_161_41 (by first | assumption | exact hg _ | exact hS _ | exact hV _ | exact hP _ | exact hT _ | exact ⟨by omega, by omega⟩) (by unfold hcb; first | exact decide_eq_true (by omega) | exact decide_eq_false (by omega)) (by decide) (pc' := 48) rfl ?_
      refine jr_aload_n R1 d_161_48 rfl ?_
      refine jr_getf R1 d_161_49 (md_80 hC) (by decide) rfl ?_
      refine jr_ifc R1 false d_161_52 (by first | assumption | exact hg _ | exact hS _ | exact hV _ | exact hP _ | exact hT _ | exact ⟨by omega, by omega⟩) (by unfold hcb; first | exact decide_eq_true (by omega) | exact decide_eq_false (by omega)) (by decide) (pc' := 55) rfl ?_
      refine jr_aload_n R1 d_161_55 rfl ?_
      refine jr_callv R2 d_161_56 (by decide) rfl (as := [.ref 80]) (rest := []) rfl (by unfold mj_rc; rw [show (_ : List Value).headD _ = .ref 80 from rfl]; simp only [md_80 hC]; decide) (hm_next (d := 2) (x := q63) (p := hp_P b n ((hp_px (hp_tk b n) (hpc b n) 3000 0 0 ((k + 1), -1)).1 + 1)) (by omega) hC hTx hg hb hfr hn9 hb0 (mt_qn hm63) (mt_nx hm63 (by omega)) hm63.2.2.2) (by omega) (Nat.le_of_ble_eq_true rfl) ?_
      rintro rv M9 ⟨rfl, he9, to65, wo65, hmp9, hbd9, rfl⟩
      obtain ⟨q65, rfl⟩ := mbd_q hbd9
      have hm65 : mt b n ((hp_px (hp_tk b n) (hpc b n) 3000 0 0 ((k + 1), -1)).1 + 1) q65 to65 wo65 := ⟨hmp9, hbd9⟩
      show J 0 0 (md C A U Z tc tp ((fr : Int)) ((n : Int)) ((q65 : Int)) to65 (hpc b n ((hp_px (hp_tk b n) (hpc b n) 3000 0 0 ((k + 1), -1)).1 + 1)) wo65 (((0 : Nat) : Int)) 0 fa63) 59 [(2, hv z63), (0, .ref 80), (1, hv 1)] []
      refine jr_iload_n R1 d_161_59 rfl ?_
      refine jr_reti R3 d_161_60 rfl ?_
      unfold hp_part
      rw [hx_nd1 (s := (k, -1)) rfl htk]
      rw [hx_nd1 hS63 (by assumption)]
      exact mq_ok (_, -1) hm65 hfa63 rfl
    · skip
      refine jr_callv R2 d_161_38 (by decide) rfl (as := [.ref 80, hv 59]) (rest := []) rfl (by unfold mj_rc; rw [show (_ : List Value).headD _ = .ref 80 from rfl]; simp only [md_80 hC]; decide) (hm_isSign (d := 1) (by omega) hC (Or.inl rfl) hm63.2.2.1 hm63.2.2.2 ⟨by omega, by omega⟩) (by omega) (Nat.le_of_ble_eq_true rfl) ?_
      rintro rv M9 ⟨rfl, rfl⟩
      rw [if_neg (fun z => hs64_59 ((mt_sg hm63 rfl).mp z.2))]
      show J 0 0 (md C A U Z tc tp ((fr : Int)) ((n : Int)) ((q63 : Int)) to63 (hpc b n (hp_px (hp_tk b n) (hpc b n) 3000 0 0 ((k + 1), -1)).1) wo63 (((0 : Nat) : Int)) 0 fa63) 41 [(2, hv z63), (0, .ref 80), (1, hv 1)] [hv 0]
      refine jr_ifc R1 false d_161_41 (by first | assumption | exact hg _ | exact hS _ | exact hV _ | exact hP _ | exact hT _ | exact ⟨by omega, by omega⟩) (by unfold hcb; first | exact decide_eq_true (by omega) | exact decide_eq_false (by omega)) (by decide) (pc' := 44) rfl ?_
      refine jr_aload_n R1 d_161_44 rfl ?_
      refine jr_callv R2 d_161_45 (by decide) rfl (as := [.ref 80]) (rest := []) rfl (by unfold mj_rc; rw [show (_ : List Value).headD _ = .ref 80 from rfl]; simp only [md_80 hC]; decide) (hm_fail (d := 1) (by omega) hC (Or.inl rfl)) (by omega) (Nat.le_of_ble_eq_true rfl) ?_
      rintro rv M9 ⟨rfl, rfl⟩
      rw [if_pos rfl]
      show J 0 0 (md C A U Z tc tp ((fr : Int)) ((n : Int)) ((q63 : Int)) to63 (hpc b n (hp_px (hp_tk b n) (hpc b n) 3000 0 0 ((k + 1), -1)).1) wo63 (((0 : Nat) : Int)) 1 (hpc b n (hp_px (hp_tk b n) (hpc b n) 3000 0 0 ((k + 1), -1)).1)) 48 [(2, hv z63), (0, .ref 80), (1, hv 1)] []
      refine jr_aload_n R1 d_161_48 rfl ?_
      refine jr_getf R1 d_161_49 (md_80 hC) (by decide) rfl ?_
      refine jr_ifc R1 true d_161_52 (by first | assumption | exact hg _ | exact hS _ | exact hV _ | exact hP _ | exact hT _ | exact ⟨by omega, by omega⟩) (by unfold hcb; first | exact decide_eq_true (by omega) | exact decide_eq_false (by omega)) (by decide) (pc' := 59) rfl ?_
      refine jr_iload_n R1 d_161_59 rfl ?_
      refine jr_reti R3 d_161_60 rfl ?_
      unfold hp_part
      rw [hx_nd1 (s := (k, -1)) rfl htk]
      rw [hx_nd2 hS63 (by assumption)]
      exact mq_bad (_, _) hm63 (hpc_bd hn9 (hp_px (hp_tk b n) (hpc b n) 3000 0 0 ((k + 1), -1)).1) hpc_ne rfl
  · skip
    refine jr_callv R2 d_161_31 (by decide) rfl (as := [.ref 80]) (rest := []) rfl (by unfold mj_rc; rw [show (_ : List Value).headD _ = .ref 80 from rfl]; simp only [md_80 hC]; decide) ((mk_par hC hTx hg hb hfr hn9 hb0 3000).2.2.2 (10 - 0 + 7 * (5 - 0)) 0 (k + 1) _ _ _ _ (by omega) (mt_kT hk (by omega)) hm62 hfa (by rw [hx_fu (by omega)]; omega) (Nat.le_refl _)) (by omega) (Nat.le_of_ble_eq_true rfl) ?_
    rintro rv M9 ⟨⟨z63, hz63, rfl⟩, q63, to63, wo63, fa63, hm63, hfa63, hfe63, rfl⟩
    have hok63 := hp_px_ok (tk := hp_tk b n) (pc := hpc b n) (T := hp_T b n) (fun j hj => hp_tk_T hj) hpc_0 3000 0 0 ((k + 1), -1) (by omega) (mt_kT hk (by omega)) rfl (by rw [hx_fu (by omega)]; simp only; omega)
    have hwo63_ := hm63.2.2.2
    rw [if_neg hS63]
    show J 0 0 (md C A U Z tc tp ((fr : Int)) ((n : Int)) ((q63 : Int)) to63 (hpc b n (hp_px (hp_tk b n) (hpc b n) 3000 0 0 ((k + 1), -1)).1) wo63 (((0 : Nat) : Int)) 1 fa63) 34 [(0, .ref 80), (1, hv 1)] [hv z63]
    refine jr_istore_n R1 d_161_34 (by decide) (lo' := [(2, hv z63), (0, .ref 80), (1, hv 1)]) rfl ?_
    refine jr_aload_n R1 d_161_35 rfl ?_
    refine jr_bipush R1 d_161_36 (by decide) ?_
    refine jr_callv R2 d_161_38 (by decide) rfl (as := [.ref 80, hv 59]) (rest := []) rfl (by unfold mj_rc; rw [show (_ : List Value).headD _ = .ref 80 from rfl]; simp only [md_80 hC]; decide) (hm_isSign (d := 1) (by omega) hC (Or.inr rfl) hm63.2.2.1 hm63.2.2.2 ⟨by omega, by omega⟩) (by omega) (Nat.le_of_ble_eq_true rfl) ?_
    rintro rv M9 ⟨rfl, rfl⟩
    rw [if_neg (fun z => absurd z.1 (by decide))]
    show J 0 0 (md C A U Z tc tp ((fr : Int)) ((n : Int)) ((q63 : Int)) to63 (hpc b n (hp_px (hp_tk b n) (hpc b n) 3000 0 0 ((k + 1), -1)).1) wo63 (((0 : Nat) : Int)) 1 fa63) 41 [(2, hv z63), (0, .ref 80), (1, hv 1)] [hv 0]
    refine jr_ifc R1 false d_161_41 (by first | assumption | exact hg _ | exact hS _ | exact hV _ | exact hP _ | exact hT _ | exact ⟨by omega, by omega⟩) (by unfold hcb; first | exact decide_eq_true (by omega) | exact decide_eq_false (by omega)) (by decide) (pc' := 44) rfl ?_
    refine jr_aload_n R1 d_161_44 rfl ?_
    refine jr_callv R2 d_161_45 (by decide) rfl (as := [.ref 80]) (rest := []) rfl (by unfold mj_rc; rw [show (_ : List Value).headD _ = .ref 80 from rfl]; simp only [md_80 hC]; decide) (hm_fail (d := 1) (by omega) hC (Or.inr rfl)) (by omega) (Nat.le_of_ble_eq_true rfl) ?_
    rintro rv M9 ⟨rfl, rfl⟩
    rw [if_neg (by decide)]
    show J 0 0 (md C A U Z tc tp ((fr : Int)) ((n : Int)) ((q63 : Int)) to63 (hpc b n (hp_px (hp_tk b n) (hpc b n) 3000 0 0 ((k + 1), -1)).1) wo63 (((0 : Nat) : Int)) 1 fa63) 48 [(2, hv z63), (0, .ref 80), (1, hv 1)] []
    refine jr_aload_n R1 d_161_48 rfl ?_
    refine jr_getf R1 d_161_49 (md_80 hC) (by decide) rfl ?_
    refine jr_ifc R1 true d_161_52 (by first | assumption | exact hg _ | exact hS _ | exact hV _ | exact hP _ | exact hT _ | exact ⟨by omega, by omega⟩) (by unfold hcb; first | exact decide_eq_true (by omega) | exact decide_eq_false (by omega)) (by decide) (pc' := 59) rfl ?_
    refine jr_iload_n R1 d_161_59 rfl ?_
    refine jr_reti R3 d_161_60 rfl ?_
    unfold hp_part
    rw [hx_nd1 (s := (k, -1)) rfl htk]
    rw [hp_need_f hS63]
    exact mq_bad _ hm63 hfa63 hS63 (hfe63 hS63)
theorem mk_part_f {lch : Launch} {d : Nat} {C : mj_M} {A : Nat → Value} {U : Nat → Int} {Z : List Value} {g b : Nat → Int} {fr n : Nat} {tc tp : Int} {k q : Nat} {to wo fa t : Int} (hd : 46 ≤ d) (hC : 84 ≤ C.length) (hTx : C[81]? = some (hA 0 960 g)) (hg : ∀ j, hr (b j)) (hb : ∀ j, j < n → b j = g (fr + j)) (hfr : fr + n ≤ 960) (hn9 : n ≤ 160) (hb0 : ∀ j, j < n → 0 ≤ b j ∧ b j ≤ 255) (hk : k ≤ hp_T b n) (hm : mt b n k q to wo) (hfa : 0 ≤ fa ∧ fa ≤ 160) (ht2 : t ≠ 302) (ht3 : t ≠ 303) (htk : ¬ hp_tk b n k = t) : mj_Me lch 161 d 0 0 [.ref 80, hv 0] (md C A U Z tc tp ((fr : Int)) ((n : Int)) ((q : Int)) to (hpc b n k) wo (((0 : Nat) : Int)) 0 fa) (mq C A U Z tc tp fr n b 0 (hp_part (hp_tk b n) (hpc b n) 3000 t (k, -1))) := by
  have hTn := hp_T_le (b := b) (n := n)
  refine mj_Me_of (by decide) (by omega) (Nat.le_of_ble_eq_true rfl) ?_
  intro L xs J R1 R2 R3
  show J 0 0 (md C A U Z tc tp ((fr : Int)) ((n : Int)) ((q : Int)) to (hpc b n k) wo (((0 : Nat) : Int)) 0 fa) 0 [(0, .ref 80), (1, hv 0)] []
  refine jr_iload_n R1 d_161_0 rfl ?_
  refine jr_ifc R1 false d_161_1 (by first | assumption | exact hg _ | exact hS _ | exact hV _ | exact hP _ | exact hT _ | exact ⟨by omega, by omega⟩) (by unfold hcb; first | exact decide_eq_true (by omega) | exact decide_eq_false (by omega)) (by decide) (pc' := 4) rfl ?_
  refine jr_aload_n R1 d_161_4 rfl ?_
  refine jr_callv R2 d_161_5 (by decide) rfl (as := [.ref 80]) (rest := []) rfl (by unfold mj_rc; rw [show (_ : List Value).headD _ = .ref 80 from rfl]; simp only [md_80 hC]; decide) (hm_fail (d := 1) (by omega) hC (Or.inl rfl)) (by omega) (Nat.le_of_ble_eq_true rfl) ?_
  rintro rv M9 ⟨rfl, rfl⟩
  rw [if_pos rfl]
  show J 0 0 (md C A U Z tc tp ((fr : Int)) ((n : Int)) ((q : Int)) to (hpc b n k) wo (((0 : Nat) : Int)) 1 (hpc b n k)) 8 [(0, .ref 80), (1, hv 0)] []
  refine jr_aload_n R1 d_161_8 rfl ?_
  refine jr_getf R1 d_161_9 (md_80 hC) (by decide) rfl ?_
  refine jr_ifc R1 true d_161_12 (by first | assumption | exact hg _ | exact hS _ | exact hV _ | exact hP _ | exact hT _ | exact ⟨by omega, by omega⟩) (by unfold hcb; first | exact decide_eq_true (by omega) | exact decide_eq_false (by omega)) (by decide) (pc' := 19) rfl ?_
  refine jr_aload_n R1 d_161_19 rfl ?_
  refine jr_getf R1 d_161_20 (md_80 hC) (by decide) rfl ?_
  refine jr_ifc R1 false d_161_23 (by first | assumption | exact hg _ | exact hS _ | exact hV _ | exact hP _ | exact hT _ | exact ⟨by omega, by omega⟩) (by unfold hcb; first | exact decide_eq_true (by omega) | exact decide_eq_false (by omega)) (by decide) (pc' := 26) rfl ?_
  refine jr_iconst R1 d_161_26 ?_
  refine jr_goto R1 d_161_27 (by decide) (pc' := 34) rfl ?_
  refine jr_istore_n R1 d_161_34 (by decide) (lo' := [(2, hv 0), (0, .ref 80), (1, hv 0)]) rfl ?_
  refine jr_aload_n R1 d_161_35 rfl ?_
  refine jr_bipush R1 d_161_36 (by decide) ?_
  refine jr_callv R2 d_161_38 (by decide) rfl (as := [.ref 80, hv 59]) (rest := []) rfl (by unfold mj_rc; rw [show (_ : List Value).headD _ = .ref 80 from rfl]; simp only [md_80 hC]; decide) (hm_isSign (d := 1) (by omega) hC (Or.inr rfl) hm.2.2.1 hm.2.2.2 ⟨by omega, by omega⟩) (by omega) (Nat.le_of_ble_eq_true rfl) ?_
  rintro rv M9 ⟨rfl, rfl⟩
  rw [if_neg (fun z => absurd z.1 (by decide))]
  show J 0 0 (md C A U Z tc tp ((fr : Int)) ((n : Int)) ((q : Int)) to (hpc b n k) wo (((0 : Nat) : Int)) 1 (hpc b n k)) 41 [(2, hv 0), (0, .ref 80), (1, hv 0)] [hv 0]
  refine jr_ifc R1 false d_161_41 (by first | assumption | exact hg _ | exact hS _ | exact hV _ | exact hP _ | exact hT _ | exact ⟨by omega, by omega⟩) (by unfold hcb; first | exact decide_eq_true (by omega) | exact decide_eq_false (by omega)) (by decide) (pc' := 44) rfl ?_
  refine jr_aload_n R1 d_161_44 rfl ?_
  refine jr_callv R2 d_161_45 (by decide) rfl (as := [.ref 80]) (rest := []) rfl (by unfold mj_rc; rw [show (_ : List Value).headD _ = .ref 80 from rfl]; simp only [md_80 hC]; decide) (hm_fail (d := 1) (by omega) hC (Or.inr rfl)) (by omega) (Nat.le_of_ble_eq_true rfl) ?_
  rintro rv M9 ⟨rfl, rfl⟩
  rw [if_neg (by decide)]
  show J 0 0 (md C A U Z tc tp ((fr : Int)) ((n : Int)) ((q : Int)) to (hpc b n k) wo (((0 : Nat) : Int)) 1 (hpc b n k)) 48 [(2, hv 0), (0, .ref 80), (1, hv 0)] []
  refine jr_aload_n R1 d_161_48 rfl ?_
  refine jr_getf R1 d_161_49 (md_80 hC) (by decide) rfl ?_
  refine jr_ifc R1 true d_161_52 (by first | assumption | exact hg _ | exact hS _ | exact hV _ | exact hP _ | exact hT _ | exact ⟨by omega, by omega⟩) (by unfold hcb; first | exact decide_eq_true (by omega) | exact decide_eq_false (by omega)) (by decide) (pc' := 59) rfl ?_
  refine jr_iload_n R1 d_161_59 rfl ?_
  refine jr_reti R3 d_161_60 rfl ?_
  unfold hp_part
  rw [hx_nd2 (s := (k, -1)) rfl htk, hp_px_f hpc_ne, hp_need_f hpc_ne]
  exact mq_bad (_, _) hm (hpc_bd hn9 k) hpc_ne rfl
theorem mk_read {lch : Launch} {d : Nat} {C : mj_M} {A : Nat → Value} {U : Nat → Int} {Z : List Value} {g b ts : Nat → Int} {i n : Nat} {tc tp fr sz he to ta wo op ba fa : Int} (hd : 47 ≤ d) (hC : 84 ≤ C.length) (hTx : C[81]? = some (hA 0 960 g)) (hTs : C[82]? = some (hA 0 6 ts)) (hg : ∀ j, hr (b j)) (hi : i ≤ 5) (hts : ts i = (n : Int)) (hb : ∀ j, j < n → b j = g (160 * i + j)) (hn9 : n ≤ 160) (hb0 : ∀ j, j < n → 0 ≤ b j ∧ b j ≤ 255) (hwo : -100000 ≤ wo ∧ wo ≤ 10000000) (hfa : 0 ≤ fa ∧ fa ≤ 160) : mj_Me lch 164 d 0 0 [.ref 80, hv ((i : Int)), hv 0] (md C A U Z tc tp fr sz he to ta wo op ba fa) (mrd C A U Z tc tp ((160 * i : Nat) : Int) (n : Int) (hp_text b n).2) := by
  have hfr : 160 * i + n ≤ 960 := by omega
  refine mj_Me_of (by decide) (by omega) (Nat.le_of_ble_eq_true rfl) ?_
  intro L xs J R1 R2 R3
  show J 0 0 (md C A U Z tc tp fr sz he to ta wo op ba fa) 0 [(0, .ref 80), (1, hv ((i : Int))), (2, hv 0)] []
  refine jr_aload_n R1 d_164_0 rfl ?_
  refine jr_sipush R1 d_164_1 (by decide) ?_
  refine jr_iload_n R1 d_164_4 rfl ?_
  refine jr_imul R1 d_164_5 ?_
  refine jr_putf R1 d_164_6 (md_80 hC) (by decide) (md_pl (by decide)) rfl rfl (M' := md C A U Z tc tp (160 * ((i : Int))) sz he to ta wo op ba fa) md_p ?_
  refine jr_aload_n R1 d_164_9 rfl ?_
  refine jr_aload_n R1 d_164_10 rfl ?_
  refine jr_getf R1 d_164_11 (md_80 hC) (by decide) rfl ?_
  refine jr_iload_n R1 d_164_14 rfl ?_
  refine jr_iald R1 d_164_15 ((md_o (by decide)).trans hTs) (by omega) (by omega) (by decide) ?_
  refine jr_putf R1 d_164_16 (md_80 hC) (by decide) (md_pl (by decide)) rfl rfl (M' := md C A U Z tc tp (160 * ((i : Int))) (ts ((i : Int)).toNat) he to ta wo op ba fa) md_p ?_
  refine jr_aload_n R1 d_164_19 rfl ?_
  refine jr_iconst R1 d_164_20 ?_
  refine jr_putf R1 d_164_21 (md_80 hC) (by decide) (md_pl (by decide)) rfl rfl (M' := md C A U Z tc tp (160 * ((i : Int))) (ts ((i : Int)).toNat) 0 to ta wo op ba fa) md_p ?_
  refine jr_aload_n R1 d_164_24 rfl ?_
  refine jr_iconst R1 d_164_25 ?_
  refine jr_putf R1 d_164_26 (md_80 hC) (by decide) (md_pl (by decide)) rfl rfl (M' := md C A U Z tc tp (160 * ((i : Int))) (ts ((i : Int)).toNat) 0 to ta wo 0 ba fa) md_p ?_
  refine jr_aload_n R1 d_164_29 rfl ?_
  refine jr_iconst R1 d_164_30 ?_
  refine jr_putf R1 d_164_31 (md_80 hC) (by decide) (md_pl (by decide)) rfl rfl (M' := md C A U Z tc tp (160 * ((i : Int))) (ts ((i : Int)).toNat) 0 to ta wo 0 0 fa) md_p ?_
  refine jr_aload_n R1 d_164_34 rfl ?_
  rw [show 160 * (i : Int) = ((160 * i : Nat) : Int) by omega, show ts ((i : Int)).toNat = (n : Int) from hts]
  refine jr_callv R2 d_164_35 (by decide) rfl (as := [.ref 80]) (rest := []) rfl (by unfold mj_rc; rw [show (_ : List Value).headD _ = .ref 80 from rfl]; simp only [md_80 hC]; decide) (hm_next (d := 2) (x := 0) (p := hp_P b n 0) (by omega) hC hTx hg hb hfr hn9 hb0 (Nat.zero_le _) rfl hwo) (by omega) (Nat.le_of_ble_eq_true rfl) ?_
  rintro rv M9 ⟨rfl, he9, to66, wo66, hmp9, hbd9, rfl⟩
  obtain ⟨q66, rfl⟩ := mbd_q hbd9
  have hm66 : mt b n 0 q66 to66 wo66 := ⟨hmp9, hbd9⟩
  show J 0 0 (md C A U Z tc tp (((160 * i : Nat) : Int)) ((n : Int)) ((q66 : Int)) to66 (hpc b n 0) wo66 0 0 fa) 38 [(0, .ref 80), (1, hv ((i : Int))), (2, hv 0)] []
  refine jr_aload_n R1 d_164_38 rfl ?_
  refine jr_aload_n R1 d_164_39 rfl ?_
  refine jr_bipush R1 d_164_40 (by decide) ?_
  refine jr_bipush R1 d_164_42 (by decide) ?_
  refine jr_bipush R1 d_164_44 (by decide) ?_
  refine jr_bipush R1 d_164_46 (by decide) ?_
  refine jr_bipush R1 d_164_48 (by decide) ?_
  refine jr_iconst R1 d_164_50 ?_
  refine jr_iconst R1 d_164_51 ?_
  refine jr_iconst R1 d_164_52 ?_
  by_cases hw67_6 : hp_tk b n 0 = 262
  · skip
    refine jr_callv R2 d_164_53 (by decide) rfl (as := [.ref 80, hv 114, hv 101, hv 110, hv 116, hv 115, hv 0, hv 0, hv 0]) (rest := [.ref 80]) rfl (by unfold mj_rc; rw [show (_ : List Value).headD _ = .ref 80 from rfl]; simp only [md_80 hC]; decide) (hm_isWord (d := 3) (p := hp_P b n 0) (by omega) hC hTx hg hb hfr hn9 hb0 (mt_pq hm66) (mt_qn hm66) (Or.inl rfl) hm66.2.2.1 ⟨by omega, by omega⟩ ⟨by omega, by omega⟩ ⟨by omega, by omega⟩ ⟨by omega, by omega⟩ ⟨by omega, by omega⟩ ⟨by omega, by omega⟩ ⟨by omega, by omega⟩ ⟨by omega, by omega⟩) (by omega) (Nat.le_of_ble_eq_true rfl) ?_
    rintro rv M9 ⟨rfl, rfl⟩
    rw [if_pos ⟨rfl, (mv_6 hm66).mpr hw67_6⟩]
    show J 0 0 (md C A U Z tc tp (((160 * i : Nat) : Int)) ((n : Int)) ((q66 : Int)) to66 (hpc b n 0) wo66 0 0 fa) 56 [(0, .ref 80), (1, hv ((i : Int))), (2, hv 0)] [hv 1, .ref 80]
    obtain ⟨k68, f68, hE68⟩ : ∃ k f, hp_part (hp_tk b n) (hpc b n) 3000 262 (0, -1) = (k, f) := ⟨_, _, rfl⟩
    have hc68 := mk_part_t (lch := lch) (d := 46) (A := A) (U := U) (Z := Z) (tc := tc) (tp := tp) (t := 262) (Nat.le_refl _) hC hTx hg hb hfr hn9 hb0 (Nat.zero_le _) hm66 hfa (by decide) (by decide) (by assumption)
    have hpk68 := mk_partok (b := b) (n := n) (t := 262) hn9 (by decide) (Nat.zero_le _)
    rw [hE68] at hc68 hpk68
    by_cases hf68 : f68 = -1
    · skip
      subst hf68
      refine jr_callv R2 d_164_56 (by decide) rfl (as := [.ref 80, hv 1]) (rest := []) rfl (by unfold mj_rc; rw [show (_ : List Value).headD _ = .ref 80 from rfl]; simp only [md_80 hC]; decide) hc68 (by omega) (Nat.le_of_ble_eq_true rfl) ?_
      rintro rv M9 ⟨⟨z68, hz68, rfl⟩, q68, to68, wo68, fa68, hmx, hfa68, hfx, rfl⟩
      have hfe68 : (-1 : Int) ≠ -1 → fa68 = -1 := hfx
      have hm68 : mt b n k68 q68 to68 wo68 := hmx
      have hto68 := hm68.2.2.1
      rw [if_pos rfl]
      show J 0 0 (md C A U Z tc tp (((160 * i : Nat) : Int)) ((n : Int)) ((q68 : Int)) to68 (hpc b n k68) wo68 (((0 : Nat) : Int)) 0 fa68) 59 [(0, .ref 80), (1, hv ((i : Int))), (2, hv 0)] [hv z68]
      refine jr_istore_n R1 d_164_59 (by decide) (lo' := [(3, hv z68), (0, .ref 80), (1, hv ((i : Int))), (2, hv 0)]) rfl ?_
      refine jr_aload_n R1 d_164_60 rfl ?_
      refine jr_getf R1 d_164_61 (md_80 hC) (by decide) rfl ?_
      refine jr_ifc R1 true d_164_64 (by first | assumption | exact hg _ | exact hS _ | exact hV _ | exact hP _ | exact hT _ | exact ⟨by omega, by omega⟩) (by unfold hcb; first | exact decide_eq_true (by omega) | exact decide_eq_false (by omega)) (by decide) (pc' := 71) rfl ?_
      refine jr_aload_n R1 d_164_71 rfl ?_
      refine jr_aload_n R1 d_164_72 rfl ?_
      refine jr_bipush R1 d_164_73 (by decide) ?_
      refine jr_bipush R1 d_164_75 (by decide) ?_
      refine jr_bipush R1 d_164_77 (by decide) ?_
      refine jr_bipush R1 d_164_79 (by decide) ?_
      refine jr_bipush R1 d_164_81 (by decide) ?_
      refine jr_iconst R1 d_164_83 ?_
      refine jr_iconst R1 d_164_84 ?_
      refine jr_iconst R1 d_164_85 ?_
      by_cases hw69_7 : hp_tk b n k68 = 263
      · skip
        refine jr_callv R2 d_164_86 (by decide) rfl (as := [.ref 80, hv 108, hv 101, hv 97, hv 107, hv 115, hv 0, hv 0, hv 0]) (rest := [.ref 80]) rfl (by unfold mj_rc; rw [show (_ : List Value).headD _ = .ref 80 from rfl]; simp only [md_80 hC]; decide) (hm_isWord (d := 3) (p := hp_P b n k68) (by omega) hC hTx hg hb hfr hn9 hb0 (mt_pq hm68) (mt_qn hm68) (Or.inl rfl) hm68.2.2.1 ⟨by omega, by omega⟩ ⟨by omega, by omega⟩ ⟨by omega, by omega⟩ ⟨by omega, by omega⟩ ⟨by omega, by omega⟩ ⟨by omega, by omega⟩ ⟨by omega, by omega⟩ ⟨by omega, by omega⟩) (by omega) (Nat.le_of_ble_eq_true rfl) ?_
        rintro rv M9 ⟨rfl, rfl⟩
        rw [if_pos ⟨rfl, (mv_7 hm68).mpr hw69_7⟩]
        show J 0 0 (md C A U Z tc tp (((160 * i : Nat) : Int)) ((n : Int)) ((q68 : Int)) to68 (hpc b n k68) wo68 (((0 : Nat) : Int)) 0 fa68) 89 [(3, hv z68), (0, .ref 80), (1, hv ((i : Int))), (2, hv 0)] [hv 1, .ref 80]
        obtain ⟨k70, f70, hE70⟩ : ∃ k f, hp_part (hp_tk b n) (hpc b n) 3000 263 (k68, -1) = (k, f) := ⟨_, _, rfl⟩
        have hc70 := mk_part_t (lch := lch) (d := 46) (A := A) (U := U) (Z := Z) (tc := tc) (tp := tp) (t := 263) (Nat.le_refl _) hC hTx hg hb hfr hn9 hb0 hpk68 hm68 hfa68 (by decide) (by decide) (by assumption)
        have hpk70 := mk_partok (b := b) (n := n) (t := 263) hn9 (by decide) hpk68
        rw [hE70] at hc70 hpk70
        by_cases hf70 : f70 = -1
        · skip
          subst hf70
          refine jr_callv R2 d_164_89 (by decide) rfl (as := [.ref 80, hv 1]) (rest := []) rfl (by unfold mj_rc; rw [show (_ : List Value).headD _ = .ref 80 from rfl]; simp only [md_80 hC]; decide) hc70 (by omega) (Nat.le_of_ble_eq_true rfl) ?_
          rintro rv M9 ⟨⟨z70, hz70, rfl⟩, q70, to70, wo70, fa70, hmx, hfa70, hfx, rfl⟩
          have hfe70 : (-1 : Int) ≠ -1 → fa70 = -1 := hfx
          have hm70 : mt b n k70 q70 to70 wo70 := hmx
          have hto70 := hm70.2.2.1
          rw [if_pos rfl]
          show J 0 0 (md C A U Z tc tp (((160 * i : Nat) : Int)) ((n : Int)) ((q70 : Int)) to70 (hpc b n k70) wo70 (((0 : Nat) : Int)) 0 fa70) 92 [(3, hv z68), (0, .ref 80), (1, hv ((i : Int))), (2, hv 0)] [hv z70]
          refine jr_istore R1 d_164_92 (by decide) (lo' := [(4, hv z70), (3, hv z68), (0, .ref 80), (1, hv ((i : Int))), (2, hv 0)]) rfl ?_
          refine jr_aload_n R1 d_164_94 rfl ?_
          refine jr_getf R1 d_164_95 (md_80 hC) (by decide) rfl ?_
          refine jr_ifc R1 true d_164_98 (by first | assumption | exact hg _ | exact hS _ | exact hV _ | exact hP _ | exact hT _ | exact ⟨by omega, by omega⟩) (by unfold hcb; first | exact decide_eq_true (by omega) | exact decide_eq_false (by omega)) (by decide) (pc' := 105) rfl ?_
          refine jr_aload_n R1 d_164_105 rfl ?_
          refine jr_aload_n R1 d_164_106 rfl ?_
          refine jr_bipush R1 d_164_107 (by decide) ?_
          refine jr_bipush R1 d_164_109 (by decide) ?_
          refine jr_bipush R1 d_164_111 (by decide) ?_
          refine jr_bipush R1 d_164_113 (by decide) ?_
          refine jr_bipush R1 d_164_115 (by decide) ?_
          refine jr_iconst R1 d_164_117 ?_
          refine jr_iconst R1 d_164_118 ?_
          refine jr_iconst R1 d_164_119 ?_
          by_cases hw71_8 : hp_tk b n k70 = 264
          · skip
            refine jr_callv R2 d_164_120 (by decide) rfl (as := [.ref 80, hv 109, hv 105, hv 110, hv 100, hv 115, hv 0, hv 0, hv 0]) (rest := [.ref 80]) rfl (by unfold mj_rc; rw [show (_ : List Value).headD _ = .ref 80 from rfl]; simp only [md_80 hC]; decide) (hm_isWord (d := 3) (p := hp_P b n k70) (by omega) hC hTx hg hb hfr hn9 hb0 (mt_pq hm70) (mt_qn hm70) (Or.inl rfl) hm70.2.2.1 ⟨by omega, by omega⟩ ⟨by omega, by omega⟩ ⟨by omega, by omega⟩ ⟨by omega, by omega⟩ ⟨by omega, by omega⟩ ⟨by omega, by omega⟩ ⟨by omega, by omega⟩ ⟨by omega, by omega⟩) (by omega) (Nat.le_of_ble_eq_true rfl) ?_
            rintro rv M9 ⟨rfl, rfl⟩
            rw [if_pos ⟨rfl, (mv_8 hm70).mpr hw71_8⟩]
            show J 0 0 (md C A U Z tc tp (((160 * i : Nat) : Int)) ((n : Int)) ((q70 : Int)) to70 (hpc b n k70) wo70 (((0 : Nat) : Int)) 0 fa70) 123 [(4, hv z70), (3, hv z68), (0, .ref 80), (1, hv ((i : Int))), (2, hv 0)] [hv 1, .ref 80]
            obtain ⟨k72, f72, hE72⟩ : ∃ k f, hp_part (hp_tk b n) (hpc b n) 3000 264 (k70, -1) = (k, f) := ⟨_, _, rfl⟩
            have hc72 := mk_part_t (lch := lch) (d := 46) (A := A) (U := U) (Z := Z) (tc := tc) (tp := tp) (t := 264) (Nat.le_refl _) hC hTx hg hb hfr hn9 hb0 hpk70 hm70 hfa70 (by decide) (by decide) (by assumption)
            have hpk72 := mk_partok (b := b) (n := n) (t := 264) hn9 (by decide) hpk70
            rw [hE72] at hc72 hpk72
            by_cases hf72 : f72 = -1
            · skip
              subst hf72
              refine jr_callv R2 d_164_123 (by decide) rfl (as := [.ref 80, hv 1]) (rest := []) rfl (by unfold mj_rc; rw [show (_ : List Value).headD _ = .ref 80 from rfl]; simp only [md_80 hC]; decide) hc72 (by omega) (Nat.le_of_ble_eq_true rfl) ?_
              rintro rv M9 ⟨⟨z72, hz72, rfl⟩, q72, to72, wo72, fa72, hmx, hfa72, hfx, rfl⟩
              have hfe72 : (-1 : Int) ≠ -1 → fa72 = -1 := hfx
              have hm72 : mt b n k72 q72 to72 wo72 := hmx
              have hto72 := hm72.2.2.1
              rw [if_pos rfl]
              show J 0 0 (md C A U Z tc tp (((160 * i : Nat) : Int)) ((n : Int)) ((q72 : Int)) to72 (hpc b n k72) wo72 (((0 : Nat) : Int)) 0 fa72) 126 [(4, hv z70), (3, hv z68), (0, .ref 80), (1, hv ((i : Int))), (2, hv 0)] [hv z72]
              refine jr_istore R1 d_164_126 (by decide) (lo' := [(5, hv z72), (4, hv z70), (3, hv z68), (0, .ref 80), (1, hv ((i : Int))), (2, hv 0)]) rfl ?_
              refine jr_aload_n R1 d_164_128 rfl ?_
              refine jr_getf R1 d_164_129 (md_80 hC) (by decide) rfl ?_
              refine jr_ifc R1 false d_164_132 (by first | assumption | exact hg _ | exact hS _ | exact hV _ | exact hP _ | exact hT _ | exact ⟨by omega, by omega⟩) (by unfold hcb; first | exact decide_eq_true (by omega) | exact decide_eq_false (by omega)) (by decide) (pc' := 135) rfl ?_
              refine jr_aload_n R1 d_164_135 rfl ?_
              refine jr_getf R1 d_164_136 (md_80 hC) (by decide) rfl ?_
              by_cases h1 : to72 = 0
              · refine jr_ifc R1 true d_164_139 (by first | assumption | exact hg _ | exact hS _ | exact hV _ | exact hP _ | exact hT _ | exact ⟨by omega, by omega⟩) (by unfold hcb; first | exact decide_eq_true (by omega) | exact decide_eq_false (by omega)) (by decide) (pc' := 146) rfl ?_
                refine jr_iload_n R1 d_164_146 rfl ?_
                refine jr_ifc R1 false d_164_147 (by first | assumption | exact hg _ | exact hS _ | exact hV _ | exact hP _ | exact hT _ | exact ⟨by omega, by omega⟩) (by unfold hcb; first | exact decide_eq_true (by omega) | exact decide_eq_false (by omega)) (by decide) (pc' := 150) rfl ?_
                refine jr_iload_n R1 d_164_150 rfl ?_
                refine jr_goto R1 d_164_151 (by decide) (pc' := 166) rfl ?_
                refine jr_reti R3 d_164_166 rfl ?_
                have hF : (hp_text b n).2 = -1 := by
                  show (hp_need (hp_tk b n) (hpc b n) 302 (hp_part (hp_tk b n) (hpc b n) 3000 264 (hp_part (hp_tk b n) (hpc b n) 3000 263 (hp_part (hp_tk b n) (hpc b n) 3000 262 (0, -1))))).2 = _
                  rw [hE68, hE70, hE72, hx_nd1 (s := (k72, -1)) rfl ((mt_end hm72).mp (by assumption))]
                rw [hF]
                exact mrd_ok hn9 hm72 hfa72 (fun z => absurd rfl z) (by rw [if_pos rfl])
              · refine jr_ifc R1 false d_164_139 (by first | assumption | exact hg _ | exact hS _ | exact hV _ | exact hP _ | exact hT _ | exact ⟨by omega, by omega⟩) (by unfold hcb; first | exact decide_eq_true (by omega) | exact decide_eq_false (by omega)) (by decide) (pc' := 142) rfl ?_
                refine jr_aload_n R1 d_164_142 rfl ?_
                refine jr_callv R2 d_164_143 (by decide) rfl (as := [.ref 80]) (rest := []) rfl (by unfold mj_rc; rw [show (_ : List Value).headD _ = .ref 80 from rfl]; simp only [md_80 hC]; decide) (hm_fail (d := 1) (by omega) hC (Or.inl rfl)) (by omega) (Nat.le_of_ble_eq_true rfl) ?_
                rintro rv M9 ⟨rfl, rfl⟩
                rw [if_pos rfl]
                show J 0 0 (md C A U Z tc tp (((160 * i : Nat) : Int)) ((n : Int)) ((q72 : Int)) to72 (hpc b n k72) wo72 (((0 : Nat) : Int)) 1 (hpc b n k72)) 146 [(5, hv z72), (4, hv z70), (3, hv z68), (0, .ref 80), (1, hv ((i : Int))), (2, hv 0)] []
                refine jr_iload_n R1 d_164_146 rfl ?_
                refine jr_ifc R1 false d_164_147 (by first | assumption | exact hg _ | exact hS _ | exact hV _ | exact hP _ | exact hT _ | exact ⟨by omega, by omega⟩) (by unfold hcb; first | exact decide_eq_true (by omega) | exact decide_eq_false (by omega)) (by decide) (pc' := 150) rfl ?_
                refine jr_iload_n R1 d_164_150 rfl ?_
                refine jr_goto R1 d_164_151 (by decide) (pc' := 166) rfl ?_
                refine jr_reti R3 d_164_166 rfl ?_
                have hF : (hp_text b n).2 = hpc b n k72 := by
                  show (hp_need (hp_tk b n) (hpc b n) 302 (hp_part (hp_tk b n) (hpc b n) 3000 264 (hp_part (hp_tk b n) (hpc b n) 3000 263 (hp_part (hp_tk b n) (hpc b n) 3000 262 (0, -1))))).2 = _
                  rw [hE68, hE70, hE72, hx_nd2 (s := (k72, -1)) rfl (fun z => absurd ((mt_end hm72).mpr z) (by assumption))]
                rw [hF]
                exact mrd_ok hn9 hm72 (hpc_bd hn9 k72) (fun _ => rfl) (by rw [if_neg hpc_ne])
            · skip
              refine jr_callv R2 d_164_123 (by decide) rfl (as := [.ref 80, hv 1]) (rest := []) rfl (by unfold mj_rc; rw [show (_ : List Value).headD _ = .ref 80 from rfl]; simp only [md_80 hC]; decide) hc72 (by omega) (Nat.le_of_ble_eq_true rfl) ?_
              rintro rv M9 ⟨⟨z72, hz72, rfl⟩, q72, to72, wo72, fa72, hmx, hfa72, hfx, rfl⟩
              have hfe72 : f72 ≠ -1 → fa72 = f72 := hfx
              have hm72 : mt b n k72 q72 to72 wo72 := hmx
              have hto72 := hm72.2.2.1
              rw [if_neg hf72]
              show J 0 0 (md C A U Z tc tp (((160 * i : Nat) : Int)) ((n : Int)) ((q72 : Int)) to72 (hpc b n k72) wo72 (((0 : Nat) : Int)) 1 fa72) 126 [(4, hv z70), (3, hv z68), (0, .ref 80), (1, hv ((i : Int))), (2, hv 0)] [hv z72]
              refine jr_istore R1 d_164_126 (by decide) (lo' := [(5, hv z72), (4, hv z70), (3, hv z68), (0, .ref 80), (1, hv ((i : Int))), (2, hv 0)]) rfl ?_
              refine jr_aload_n R1 d_164_128 rfl ?_
              refine jr_getf R1 d_164_129 (md_80 hC) (by decide) rfl ?_
              refine jr_ifc R1 true d_164_132 (by first | assumption | exact hg _ | exact hS _ | exact hV _ | exact hP _ | exact hT _ | exact ⟨by omega, by omega⟩) (by unfold hcb; first | exact decide_eq_true (by omega) | exact decide_eq_false (by omega)) (by decide) (pc' := 146) rfl ?_
              refine jr_iload_n R1 d_164_146 rfl ?_
              refine jr_ifc R1 false d_164_147 (by first | assumption | exact hg _ | exact hS _ | exact hV _ | exact hP _ | exact hT _ | exact ⟨by omega, by omega⟩) (by unfold hcb; first | exact decide_eq_true (by omega) | exact decide_eq_false (by omega)) (by decide) (pc' := 150) rfl ?_
              refine jr_iload_n R1 d_164_150 rfl ?_
              refine jr_goto R1 d_164_151 (by decide) (pc' := 166) rfl ?_
              refine jr_reti R3 d_164_166 rfl ?_
              have hF : (hp_text b n).2 = f72 := by
                show (hp_need (hp_tk b n) (hpc b n) 302 (hp_part (hp_tk b n) (hpc b n) 3000 264 (hp_part (hp_tk b n) (hpc b n) 3000 263 (hp_part (hp_tk b n) (hpc b n) 3000 262 (0, -1))))).2 = _
                rw [hE68, hE70, hE72, hp_need_f hf72]
              rw [hF]
              exact mrd_ok hn9 hm72 hfa72 (fun _ => hfe72 hf72) (by rw [if_neg hf72])
          · skip
            refine jr_callv R2 d_164_120 (by decide) rfl (as := [.ref 80, hv 109, hv 105, hv 110, hv 100, hv 115, hv 0, hv 0, hv 0]) (rest := [.ref 80]) rfl (by unfold mj_rc; rw [show (_ : List Value).headD _ = .ref 80 from rfl]; simp only [md_80 hC]; decide) (hm_isWord (d := 3) (p := hp_P b n k70) (by omega) hC hTx hg hb hfr hn9 hb0 (mt_pq hm70) (mt_qn hm70) (Or.inl rfl) hm70.2.2.1 ⟨by omega, by omega⟩ ⟨by omega, by omega⟩ ⟨by omega, by omega⟩ ⟨by omega, by omega⟩ ⟨by omega, by omega⟩ ⟨by omega, by omega⟩ ⟨by omega, by omega⟩ ⟨by omega, by omega⟩) (by omega) (Nat.le_of_ble_eq_true rfl) ?_
            rintro rv M9 ⟨rfl, rfl⟩
            rw [if_neg (fun z => hw71_8 ((mv_8 hm70).mp z.2))]
            show J 0 0 (md C A U Z tc tp (((160 * i : Nat) : Int)) ((n : Int)) ((q70 : Int)) to70 (hpc b n k70) wo70 (((0 : Nat) : Int)) 0 fa70) 123 [(4, hv z70), (3, hv z68), (0, .ref 80), (1, hv ((i : Int))), (2, hv 0)] [hv 0, .ref 80]
            obtain ⟨k73, f73, hE73⟩ : ∃ k f, hp_part (hp_tk b n) (hpc b n) 3000 264 (k70, -1) = (k, f) := ⟨_, _, rfl⟩
            have hc73 := mk_part_f (lch := lch) (d := 46) (A := A) (U := U) (Z := Z) (tc := tc) (tp := tp) (t := 264) (Nat.le_refl _) hC hTx hg hb hfr hn9 hb0 hpk70 hm70 hfa70 (by decide) (by decide) (by assumption)
            have hpk73 := mk_partok (b := b) (n := n) (t := 264) hn9 (by decide) hpk70
            rw [hE73] at hc73 hpk73
            by_cases hf73 : f73 = -1
            · skip
              subst hf73
              refine jr_callv R2 d_164_123 (by decide) rfl (as := [.ref 80, hv 0]) (rest := []) rfl (by unfold mj_rc; rw [show (_ : List Value).headD _ = .ref 80 from rfl]; simp only [md_80 hC]; decide) hc73 (by omega) (Nat.le_of_ble_eq_true rfl) ?_
              rintro rv M9 ⟨⟨z73, hz73, rfl⟩, q73, to73, wo73, fa73, hmx, hfa73, hfx, rfl⟩
              have hfe73 : (-1 : Int) ≠ -1 → fa73 = -1 := hfx
              have hm73 : mt b n k73 q73 to73 wo73 := hmx
              have hto73 := hm73.2.2.1
              rw [if_pos rfl]
              show J 0 0 (md C A U Z tc tp (((160 * i : Nat) : Int)) ((n : Int)) ((q73 : Int)) to73 (hpc b n k73) wo73 (((0 : Nat) : Int)) 0 fa73) 126 [(4, hv z70), (3, hv z68), (0, .ref 80), (1, hv ((i : Int))), (2, hv 0)] [hv z73]
              refine jr_istore R1 d_164_126 (by decide) (lo' := [(5, hv z73), (4, hv z70), (3, hv z68), (0, .ref 80), (1, hv ((i : Int))), (2, hv 0)]) rfl ?_
              refine jr_aload_n R1 d_164_128 rfl ?_
              refine jr_getf R1 d_164_129 (md_80 hC) (by decide) rfl ?_
              refine jr_ifc R1 false d_164_132 (by first | assumption | exact hg _ | exact hS _ | exact hV _ | exact hP _ | exact hT _ | exact ⟨by omega, by omega⟩) (by unfold hcb; first | exact decide_eq_true (by omega) | exact decide_eq_false (by omega)) (by decide) (pc' := 135) rfl ?_
              refine jr_aload_n R1 d_164_135 rfl ?_
              refine jr_getf R1 d_164_136 (md_80 hC) (by decide) rfl ?_
              by_cases h2 : to73 = 0
              · refine jr_ifc R1 true d_164_139 (by first | assumption | exact hg _ | exact hS _ | exact hV _ | exact hP _ | exact hT _ | exact ⟨by omega, by omega⟩) (by unfold hcb; first | exact decide_eq_true (by omega) | exact decide_eq_false (by omega)) (by decide) (pc' := 146) rfl ?_
                refine jr_iload_n R1 d_164_146 rfl ?_
                refine jr_ifc R1 false d_164_147 (by first | assumption | exact hg _ | exact hS _ | exact hV _ | exact hP _ | exact hT _ | exact ⟨by omega, by omega⟩) (by unfold hcb; first | exact decide_eq_true (by omega) | exact decide_eq_false (by omega)) (by decide) (pc' := 150) rfl ?_
                refine jr_iload_n R1 d_164_150 rfl ?_
                refine jr_goto R1 d_164_151 (by decide) (pc' := 166) rfl ?_
                refine jr_reti R3 d_164_166 rfl ?_
                have hF : (hp_text b n).2 = -1 := by
                  show (hp_need (hp_tk b n) (hpc b n) 302 (hp_part (hp_tk b n) (hpc b n) 3000 264 (hp_part (hp_tk b n) (hpc b n) 3000 263 (hp_part (hp_tk b n) (hpc b n) 3000 262 (0, -1))))).2 = _
                  rw [hE68, hE70, hE73, hx_nd1 (s := (k73, -1)) rfl ((mt_end hm73).mp (by assumption))]
                rw [hF]
                exact mrd_ok hn9 hm73 hfa73 (fun z => absurd rfl z) (by rw [if_pos rfl])
              · refine jr_ifc R1 false d_164_139 (by first | assumption | exact hg _ | exact hS _ | exact hV _ | exact hP _ | exact hT _ | exact ⟨by omega, by omega⟩) (by unfold hcb; first | exact decide_eq_true (by omega) | exact decide_eq_false (by omega)) (by decide) (pc' := 142) rfl ?_
                refine jr_aload_n R1 d_164_142 rfl ?_
                refine jr_callv R2 d_164_143 (by decide) rfl (as := [.ref 80]) (rest := []) rfl (by unfold mj_rc; rw [show (_ : List Value).headD _ = .ref 80 from rfl]; simp only [md_80 hC]; decide) (hm_fail (d := 1) (by omega) hC (Or.inl rfl)) (by omega) (Nat.le_of_ble_eq_true rfl) ?_
                rintro rv M9 ⟨rfl, rfl⟩
                rw [if_pos rfl]
                show J 0 0 (md C A U Z tc tp (((160 * i : Nat) : Int)) ((n : Int)) ((q73 : Int)) to73 (hpc b n k73) wo73 (((0 : Nat) : Int)) 1 (hpc b n k73)) 146 [(5, hv z73), (4, hv z70), (3, hv z68), (0, .ref 80), (1, hv ((i : Int))), (2, hv 0)] []
                refine jr_iload_n R1 d_164_146 rfl ?_
                refine jr_ifc R1 false d_164_147 (by first | assumption | exact hg _ | exact hS _ | exact hV _ | exact hP _ | exact hT _ | exact ⟨by omega, by omega⟩) (by unfold hcb; first | exact decide_eq_true (by omega) | exact decide_eq_false (by omega)) (by decide) (pc' := 150) rfl ?_
                refine jr_iload_n R1 d_164_150 rfl ?_
                refine jr_goto R1 d_164_151 (by decide) (pc' := 166) rfl ?_
                refine jr_reti R3 d_164_166 rfl ?_
                have hF : (hp_text b n).2 = hpc b n k73 := by
                  show (hp_need (hp_tk b n) (hpc b n) 302 (hp_part (hp_tk b n) (hpc b n) 3000 264 (hp_part (hp_tk b n) (hpc b n) 3000 263 (hp_part (hp_tk b n) (hpc b n) 3000 262 (0, -1))))).2 = _
                  rw [hE68, hE70, hE73, hx_nd2 (s := (k73, -1)) rfl (fun z => absurd ((mt_end hm73).mpr z) (by assumption))]
                rw [hF]
                exact mrd_ok hn9 hm73 (hpc_bd hn9 k73) (fun _ => rfl) (by rw [if_neg hpc_ne])
            · skip
              refine jr_callv R2 d_164_123 (by decide) rfl (as := [.ref 80, hv 0]) (rest := []) rfl (by unfold mj_rc; rw [show (_ : List Value).headD _ = .ref 80 from rfl]; simp only [md_80 hC]; decide) hc73 (by omega) (Nat.le_of_ble_eq_true rfl) ?_
              rintro rv M9 ⟨⟨z73, hz73, rfl⟩, q73, to73, wo73, fa73, hmx, hfa73, hfx, rfl⟩
              have hfe73 : f73 ≠ -1 → fa73 = f73 := hfx
              have hm73 : mt b n k73 q73 to73 wo73 := hmx
              have hto73 := hm73.2.2.1
              rw [if_neg hf73]
              show J 0 0 (md C A U Z tc tp (((160 * i : Nat) : Int)) ((n : Int)) ((q73 : Int)) to73 (hpc b n k73) wo73 (((0 : Nat) : Int)) 1 fa73) 126 [(4, hv z70), (3, hv z68), (0, .ref 80), (1, hv ((i : Int))), (2, hv 0)] [hv z73]
              refine jr_istore R1 d_164_126 (by decide) (lo' := [(5, hv z73), (4, hv z70), (3, hv z68), (0, .ref 80), (1, hv ((i : Int))), (2, hv 0)]) rfl ?_
              refine jr_aload_n R1 d_164_128 rfl ?_
              refine jr_getf R1 d_164_129 (md_80 hC) (by decide) rfl ?_
              refine jr_ifc R1 true d_164_132 (by first | assumption | exact hg _ | exact hS _ | exact hV _ | exact hP _ | exact hT _ | exact ⟨by omega, by omega⟩) (by unfold hcb; first | exact decide_eq_true (by omega) | exact decide_eq_false (by omega)) (by decide) (pc' := 146) rfl ?_
              refine jr_iload_n R1 d_164_146 rfl ?_
              refine jr_ifc R1 false d_164_147 (by first | assumption | exact hg _ | exact hS _ | exact hV _ | exact hP _ | exact hT _ | exact ⟨by omega, by omega⟩) (by unfold hcb; first | exact decide_eq_true (by omega) | exact decide_eq_false (by omega)) (by decide) (pc' := 150) rfl ?_
              refine jr_iload_n R1 d_164_150 rfl ?_
              refine jr_goto R1 d_164_151 (by decide) (pc' := 166) rfl ?_
              refine jr_reti R3 d_164_166 rfl ?_
              have hF : (hp_text b n).2 = f73 := by
                show (hp_need (hp_tk b n) (hpc b n) 302 (hp_part (hp_tk b n) (hpc b n) 3000 264 (hp_part (hp_tk b n) (hpc b n) 3000 263 (hp_part (hp_tk b n) (hpc b n) 3000 262 (0, -1))))).2 = _
                rw [hE68, hE70, hE73, hp_need_f hf73]
              rw [hF]
              exact mrd_ok hn9 hm73 hfa73 (fun _ => hfe73 hf73) (by rw [if_neg hf73])
        · skip
          refine jr_callv R2 d_164_89 (by decide) rfl (as := [.ref 80, hv 1]) (rest := []) rfl (by unfold mj_rc; rw [show (_ : List Value).headD _ = .ref 80 from rfl]; simp only [md_80 hC]; decide) hc70 (by omega) (Nat.le_of_ble_eq_true rfl) ?_
          rintro rv M9 ⟨⟨z70, hz70, rfl⟩, q70, to70, wo70, fa70, hmx, hfa70, hfx, rfl⟩
          have hfe70 : f70 ≠ -1 → fa70 = f70 := hfx
          have hm70 : mt b n k70 q70 to70 wo70 := hmx
          have hto70 := hm70.2.2.1
          rw [if_neg hf70]
          show J 0 0 (md C A U Z tc tp (((160 * i : Nat) : Int)) ((n : Int)) ((q70 : Int)) to70 (hpc b n k70) wo70 (((0 : Nat) : Int)) 1 fa70) 92 [(3, hv z68), (0, .ref 80), (1, hv ((i : Int))), (2, hv 0)] [hv z70]
          refine jr_istore R1 d_164_92 (by decide) (lo' := [(4, hv z70), (3, hv z68), (0, .ref 80), (1, hv ((i : Int))), (2, hv 0)]) rfl ?_
          refine jr_aload_n R1 d_164_94 rfl ?_
          refine jr_getf R1 d_164_95 (md_80 hC) (by decide) rfl ?_
          refine jr_ifc R1 false d_164_98 (by first | assumption | exact hg _ | exact hS _ | exact hV _ | exact hP _ | exact hT _ | exact ⟨by omega, by omega⟩) (by unfold hcb; first | exact decide_eq_true (by omega) | exact decide_eq_false (by omega)) (by decide) (pc' := 101) rfl ?_
          refine jr_iconst R1 d_164_101 ?_
          refine jr_goto R1 d_164_102 (by decide) (pc' := 126) rfl ?_
          refine jr_istore R1 d_164_126 (by decide) (lo' := [(5, hv 0), (4, hv z70), (3, hv z68), (0, .ref 80), (1, hv ((i : Int))), (2, hv 0)]) rfl ?_
          refine jr_aload_n R1 d_164_128 rfl ?_
          refine jr_getf R1 d_164_129 (md_80 hC) (by decide) rfl ?_
          refine jr_ifc R1 true d_164_132 (by first | assumption | exact hg _ | exact hS _ | exact hV _ | exact hP _ | exact hT _ | exact ⟨by omega, by omega⟩) (by unfold hcb; first | exact decide_eq_true (by omega) | exact decide_eq_false (by omega)) (by decide) (pc' := 146) rfl ?_
          refine jr_iload_n R1 d_164_146 rfl ?_
          refine jr_ifc R1 false d_164_147 (by first | assumption | exact hg _ | exact hS _ | exact hV _ | exact hP _ | exact hT _ | exact ⟨by omega, by omega⟩) (by unfold hcb; first | exact decide_eq_true (by omega) | exact decide_eq_false (by omega)) (by decide) (pc' := 150) rfl ?_
          refine jr_iload_n R1 d_164_150 rfl ?_
          refine jr_goto R1 d_164_151 (by decide) (pc' := 166) rfl ?_
          refine jr_reti R3 d_164_166 rfl ?_
          have hF : (hp_text b n).2 = f70 := by
            show (hp_need (hp_tk b n) (hpc b n) 302 (hp_part (hp_tk b n) (hpc b n) 3000 264 (hp_part (hp_tk b n) (hpc b n) 3000 263 (hp_part (hp_tk b n) (hpc b n) 3000 262 (0, -1))))).2 = _
            rw [hE68, hE70, hp_part_f (s := (k70, f70)) hf70, hp_need_f hf70]
          rw [hF]
          exact mrd_ok hn9 hm70 hfa70 (fun _ => hfe70 hf70) (by rw [if_neg hf70])
      · skip
        refine jr_callv R2 d_164_86 (by decide) rfl (as := [.ref 80, hv 108, hv 101, hv 97, hv 107, hv 115, hv 0, hv 0, hv 0]) (rest := [.ref 80]) rfl (by unfold mj_rc; rw [show (_ : List Value).headD _ = .ref 80 from rfl]; simp only [md_80 hC]; decide) (hm_isWord (d := 3) (p := hp_P b n k68) (by omega) hC hTx hg hb hfr hn9 hb0 (mt_pq hm68) (mt_qn hm68) (Or.inl rfl) hm68.2.2.1 ⟨by omega, by omega⟩ ⟨by omega, by omega⟩ ⟨by omega, by omega⟩ ⟨by omega, by omega⟩ ⟨by omega, by omega⟩ ⟨by omega, by omega⟩ ⟨by omega, by omega⟩ ⟨by omega, by omega⟩) (by omega) (Nat.le_of_ble_eq_true rfl) ?_
        rintro rv M9 ⟨rfl, rfl⟩
        rw [if_neg (fun z => hw69_7 ((mv_7 hm68).mp z.2))]
        show J 0 0 (md C A U Z tc tp (((160 * i : Nat) : Int)) ((n : Int)) ((q68 : Int)) to68 (hpc b n k68) wo68 (((0 : Nat) : Int)) 0 fa68) 89 [(3, hv z68), (0, .ref 80), (1, hv ((i : Int))), (2, hv 0)] [hv 0, .ref 80]
        obtain ⟨k74, f74, hE74⟩ : ∃ k f, hp_part (hp_tk b n) (hpc b n) 3000 263 (k68, -1) = (k, f) := ⟨_, _, rfl⟩
        have hc74 := mk_part_f (lch := lch) (d := 46) (A := A) (U := U) (Z := Z) (tc := tc) (tp := tp) (t := 263) (Nat.le_refl _) hC hTx hg hb hfr hn9 hb0 hpk68 hm68 hfa68 (by decide) (by decide) (by assumption)
        have hpk74 := mk_partok (b := b) (n := n) (t := 263) hn9 (by decide) hpk68
        rw [hE74] at hc74 hpk74
        by_cases hf74 : f74 = -1
        · skip
          subst hf74
          refine jr_callv R2 d_164_89 (by decide) rfl (as := [.ref 80, hv 0]) (rest := []) rfl (by unfold mj_rc; rw [show (_ : List Value).headD _ = .ref 80 from rfl]; simp only [md_80 hC]; decide) hc74 (by omega) (Nat.le_of_ble_eq_true rfl) ?_
          rintro rv M9 ⟨⟨z74, hz74, rfl⟩, q74, to74, wo74, fa74, hmx, hfa74, hfx, rfl⟩
          have hfe74 : (-1 : Int) ≠ -1 → fa74 = -1 := hfx
          have hm74 : mt b n k74 q74 to74 wo74 := hmx
          have hto74 := hm74.2.2.1
          rw [if_pos rfl]
          show J 0 0 (md C A U Z tc tp (((160 * i : Nat) : Int)) ((n : Int)) ((q74 : Int)) to74 (hpc b n k74) wo74 (((0 : Nat) : Int)) 0 fa74) 92 [(3, hv z68), (0, .ref 80), (1, hv ((i : Int))), (2, hv 0)] [hv z74]
          refine jr_istore R1 d_164_92 (by decide) (lo' := [(4, hv z74), (3, hv z68), (0, .ref 80), (1, hv ((i : Int))), (2, hv 0)]) rfl ?_
          refine jr_aload_n R1 d_164_94 rfl ?_
          refine jr_getf R1 d_164_95 (md_80 hC) (by decide) rfl ?_
          refine jr_ifc R1 true d_164_98 (by first | assumption | exact hg _ | exact hS _ | exact hV _ | exact hP _ | exact hT _ | exact ⟨by omega, by omega⟩) (by unfold hcb; first | exact decide_eq_true (by omega) | exact decide_eq_false (by omega)) (by decide) (pc' := 105) rfl ?_
          refine jr_aload_n R1 d_164_105 rfl ?_
          refine jr_aload_n R1 d_164_106 rfl ?_
          refine jr_bipush R1 d_164_107 (by decide) ?_
          refine jr_bipush R1 d_164_109 (by decide) ?_
          refine jr_bipush R1 d_164_111 (by decide) ?_
          refine jr_bipush R1 d_164_113 (by decide) ?_
          refine jr_bipush R1 d_164_115 (by decide) ?_
          refine jr_iconst R1 d_164_117 ?_
          refine jr_iconst R1 d_164_118 ?_
          refine jr_iconst R1 d_164_119 ?_
          by_cases hw75_8 : hp_tk b n k74 = 264
          · skip
            refine jr_callv R2 d_164_120 (by decide) rfl (as := [.ref 80, hv 109, hv 105, hv 110, hv 100, hv 115, hv 0, hv 0, hv 0]) (rest := [.ref 80]) rfl (by unfold mj_rc; rw [show (_ : List Value).headD _ = .ref 80 from rfl]; simp only [md_80 hC]; decide) (hm_isWord (d := 3) (p := hp_P b n k74) (by omega) hC hTx hg hb hfr hn9 hb0 (mt_pq hm74) (mt_qn hm74) (Or.inl rfl) hm74.2.2.1 ⟨by omega, by omega⟩ ⟨by omega, by omega⟩ ⟨by omega, by omega⟩ ⟨by omega, by omega⟩ ⟨by omega, by omega⟩ ⟨by omega, by omega⟩ ⟨by omega, by omega⟩ ⟨by omega, by omega⟩) (by omega) (Nat.le_of_ble_eq_true rfl) ?_
            rintro rv M9 ⟨rfl, rfl⟩
            rw [if_pos ⟨rfl, (mv_8 hm74).mpr hw75_8⟩]
            show J 0 0 (md C A U Z tc tp (((160 * i : Nat) : Int)) ((n : Int)) ((q74 : Int)) to74 (hpc b n k74) wo74 (((0 : Nat) : Int)) 0 fa74) 123 [(4, hv z74), (3, hv z68), (0, .ref 80), (1, hv ((i : Int))), (2, hv 0)] [hv 1, .ref 80]
            obtain ⟨k76, f76, hE76⟩ : ∃ k f, hp_part (hp_tk b n) (hpc b n) 3000 264 (k74, -1) = (k, f) := ⟨_, _, rfl⟩
            have hc76 := mk_part_t (lch := lch) (d := 46) (A := A) (U := U) (Z := Z) (tc := tc) (tp := tp) (t := 264) (Nat.le_refl _) hC hTx hg hb hfr hn9 hb0 hpk74 hm74 hfa74 (by decide) (by decide) (by assumption)
            have hpk76 := mk_partok (b := b) (n := n) (t := 264) hn9 (by decide) hpk74
            rw [hE76] at hc76 hpk76
            by_cases hf76 : f76 = -1
            · skip
              subst hf76
              refine jr_callv R2 d_164_123 (by decide) rfl (as := [.ref 80, hv 1]) (rest := []) rfl (by unfold mj_rc; rw [show (_ : List Value).headD _ = .ref 80 from rfl]; simp only [md_80 hC]; decide) hc76 (by omega) (Nat.le_of_ble_eq_true rfl) ?_
              rintro rv M9 ⟨⟨z76, hz76, rfl⟩, q76, to76, wo76, fa76, hmx, hfa76, hfx, rfl⟩
              have hfe76 : (-1 : Int) ≠ -1 → fa76 = -1 := hfx
              have hm76 : mt b n k76 q76 to76 wo76 := hmx
              have hto76 := hm76.2.2.1
              rw [if_pos rfl]
              show J 0 0 (md C A U Z tc tp (((160 * i : Nat) : Int)) ((n : Int)) ((q76 : Int)) to76 (hpc b n k76) wo76 (((0 : Nat) : Int)) 0 fa76) 126 [(4, hv z74), (3, hv z68), (0, .ref 80), (1, hv ((i : Int))), (2, hv 0)] [hv z76]
              refine jr_istore R1 d_164_126 (by decide) (lo' := [(5, hv z76), (4, hv z74), (3, hv z68), (0, .ref 80), (1, hv ((i : Int))), (2, hv 0)]) rfl ?_
              refine jr_aload_n R1 d_164_128 rfl ?_
              refine jr_getf R1 d_164_129 (md_80 hC) (by decide) rfl ?_
              refine jr_ifc R1 false d_164_132 (by first | assumption | exact hg _ | exact hS _ | exact hV _ | exact hP _ | exact hT _ | exact ⟨by omega, by omega⟩) (by unfold hcb; first | exact decide_eq_true (by omega) | exact decide_eq_false (by omega)) (by decide) (pc' := 135) rfl ?_
              refine jr_aload_n R1 d_164_135 rfl ?_
              refine jr_getf R1 d_164_136 (md_80 hC) (by decide) rfl ?_
              by_cases h3 : to76 = 0
              · refine jr_ifc R1 true d_164_139 (by first | assumption | exact hg _ | exact hS _ | exact hV _ | exact hP _ | exact hT _ | exact ⟨by omega, by omega⟩) (by unfold hcb; first | exact decide_eq_true (by omega) | exact decide_eq_false (by omega)) (by decide) (pc' := 146) rfl ?_
                refine jr_iload_n R1 d_164_146 rfl ?_
                refine jr_ifc R1 false d_164_147 (by first | assumption | exact hg _ | exact hS _ | exact hV _ | exact hP _ | exact hT _ | exact ⟨by omega, by omega⟩) (by unfold hcb; first | exact decide_eq_true (by omega) | exact decide_eq_false (by omega)) (by decide) (pc' := 150) rfl ?_
                refine jr_iload_n R1 d_164_150 rfl ?_
                refine jr_goto R1 d_164_151 (by decide) (pc' := 166) rfl ?_
                refine jr_reti R3 d_164_166 rfl ?_
                have hF : (hp_text b n).2 = -1 := by
                  show (hp_need (hp_tk b n) (hpc b n) 302 (hp_part (hp_tk b n) (hpc b n) 3000 264 (hp_part (hp_tk b n) (hpc b n) 3000 263 (hp_part (hp_tk b n) (hpc b n) 3000 262 (0, -1))))).2 = _
                  rw [hE68, hE74, hE76, hx_nd1 (s := (k76, -1)) rfl ((mt_end hm76).mp (by assumption))]
                rw [hF]
                exact mrd_ok hn9 hm76 hfa76 (fun z => absurd rfl z) (by rw [if_pos rfl])
              · refine jr_ifc R1 false d_164_139 (by first | assumption | exact hg _ | exact hS _ | exact hV _ | exact hP _ | exact hT _ | exact ⟨by omega, by omega⟩) (by unfold hcb; first | exact decide_eq_true (by omega) | exact decide_eq_false (by omega)) (by decide) (pc' := 142) rfl ?_
                refine jr_aload_n R1 d_164_142 rfl ?_
                refine jr_callv R2 d_164_143 (by decide) rfl (as := [.ref 80]) (rest := []) rfl (by unfold mj_rc; rw [show (_ : List Value).headD _ = .ref 80 from rfl]; simp only [md_80 hC]; decide) (hm_fail (d := 1) (by omega) hC (Or.inl rfl)) (by omega) (Nat.le_of_ble_eq_true rfl) ?_
                rintro rv M9 ⟨rfl, rfl⟩
                rw [if_pos rfl]
                show J 0 0 (md C A U Z tc tp (((160 * i : Nat) : Int)) ((n : Int)) ((q76 : Int)) to76 (hpc b n k76) wo76 (((0 : Nat) : Int)) 1 (hpc b n k76)) 146 [(5, hv z76), (4, hv z74), (3, hv z68), (0, .ref 80), (1, hv ((i : Int))), (2, hv 0)] []
                refine jr_iload_n R1 d_164_146 rfl ?_
                refine jr_ifc R1 false d_164_147 (by first | assumption | exact hg _ | exact hS _ | exact hV _ | exact hP _ | exact hT _ | exact ⟨by omega, by omega⟩) (by unfold hcb; first | exact decide_eq_true (by omega) | exact decide_eq_false (by omega)) (by decide) (pc' := 150) rfl ?_
                refine jr_iload_n R1 d_164_150 rfl ?_
                refine jr_goto R1 d_164_151 (by decide) (pc' := 166) rfl ?_
                refine jr_reti R3 d_164_166 rfl ?_
                have hF : (hp_text b n).2 = hpc b n k76 := by
                  show (hp_need (hp_tk b n) (hpc b n) 302 (hp_part (hp_tk b n) (hpc b n) 3000 264 (hp_part (hp_tk b n) (hpc b n) 3000 263 (hp_part (hp_tk b n) (hpc b n) 3000 262 (0, -1))))).2 = _
                  rw [hE68, hE74, hE76, hx_nd2 (s := (k76, -1)) rfl (fun z => absurd ((mt_end hm76).mpr z) (by assumption))]
                rw [hF]
                exact mrd_ok hn9 hm76 (hpc_bd hn9 k76) (fun _ => rfl) (by rw [if_neg hpc_ne])
            · skip
              refine jr_callv R2 d_164_123 (by decide) rfl (as := [.ref 80, hv 1]) (rest := []) rfl (by unfold mj_rc; rw [show (_ : List Value).headD _ = .ref 80 from rfl]; simp only [md_80 hC]; decide) hc76 (by omega) (Nat.le_of_ble_eq_true rfl) ?_
              rintro rv M9 ⟨⟨z76, hz76, rfl⟩, q76, to76, wo76, fa76, hmx, hfa76, hfx, rfl⟩
              have hfe76 : f76 ≠ -1 → fa76 = f76 := hfx
              have hm76 : mt b n k76 q76 to76 wo76 := hmx
              have hto76 := hm76.2.2.1
              rw [if_neg hf76]
              show J 0 0 (md C A U Z tc tp (((160 * i : Nat) : Int)) ((n : Int)) ((q76 : Int)) to76 (hpc b n k76) wo76 (((0 : Nat) : Int)) 1 fa76) 126 [(4, hv z74), (3, hv z68), (0, .ref 80), (1, hv ((i : Int))), (2, hv 0)] [hv z76]
              refine jr_istore R1 d_164_126 (by decide) (lo' := [(5, hv z76), (4, hv z74), (3, hv z68), (0, .ref 80), (1, hv ((i : Int))), (2, hv 0)]) rfl ?_
              refine jr_aload_n R1 d_164_128 rfl ?_
              refine jr_getf R1 d_164_129 (md_80 hC) (by decide) rfl ?_
              refine jr_ifc R1 true d_164_132 (by first | assumption | exact hg _ | exact hS _ | exact hV _ | exact hP _ | exact hT _ | exact ⟨by omega, by omega⟩) (by unfold hcb; first | exact decide_eq_true (by omega) | exact decide_eq_false (by omega)) (by decide) (pc' := 146) rfl ?_
              refine jr_iload_n R1 d_164_146 rfl ?_
              refine jr_ifc R1 false d_164_147 (by first | assumption | exact hg _ | exact hS _ | exact hV _ | exact hP _ | exact hT _ | exact ⟨by omega, by omega⟩) (by unfold hcb; first | exact decide_eq_true (by omega) | exact decide_eq_false (by omega)) (by decide) (pc' := 150) rfl ?_
              refine jr_iload_n R1 d_164_150 rfl ?_
              refine jr_goto R1 d_164_151 (by decide) (pc' := 166) rfl ?_
              refine jr_reti R3 d_164_166 rfl ?_
              have hF : (hp_text b n).2 = f76 := by
                show (hp_need (hp_tk b n) (hpc b n) 302 (hp_part (hp_tk b n) (hpc b n) 3000 264 (hp_part (hp_tk b n) (hpc b n) 3000 263 (hp_part (hp_tk b n) (hpc b n) 3000 262 (0, -1))))).2 = _
                rw [hE68, hE74, hE76, hp_need_f hf76]
              rw [hF]
              exact mrd_ok hn9 hm76 hfa76 (fun _ => hfe76 hf76) (by rw [if_neg hf76])
          · skip
            refine jr_callv R2 d_164_120 (by decide) rfl (as := [.ref 80, hv 109, hv 105, hv 110, hv 100, hv 115, hv 0, hv 0, hv 0]) (rest := [.ref 80]) rfl (by unfold mj_rc; rw [show (_ : List Value).headD _ = .ref 80 from rfl]; simp only [md_80 hC]; decide) (hm_isWord (d := 3) (p := hp_P b n k74) (by omega) hC hTx hg hb hfr hn9 hb0 (mt_pq hm74) (mt_qn hm74) (Or.inl rfl) hm74.2.2.1 ⟨by omega, by omega⟩ ⟨by omega, by omega⟩ ⟨by omega, by omega⟩ ⟨by omega, by omega⟩ ⟨by omega, by omega⟩ ⟨by omega, by omega⟩ ⟨by omega, by omega⟩ ⟨by omega, by omega⟩) (by omega) (Nat.le_of_ble_eq_true rfl) ?_
            rintro rv M9 ⟨rfl, rfl⟩
            rw [if_neg (fun z => hw75_8 ((mv_8 hm74).mp z.2))]
            show J 0 0 (md C A U Z tc tp (((160 * i : Nat) : Int)) ((n : Int)) ((q74 : Int)) to74 (hpc b n k74) wo74 (((0 : Nat) : Int)) 0 fa74) 123 [(4, hv z74), (3, hv z68), (0, .ref 80), (1, hv ((i : Int))), (2, hv 0)] [hv 0, .ref 80]
            obtain ⟨k77, f77, hE77⟩ : ∃ k f, hp_part (hp_tk b n) (hpc b n) 3000 264 (k74, -1) = (k, f) := ⟨_, _, rfl⟩
            have hc77 := mk_part_f (lch := lch) (d := 46) (A := A) (U := U) (Z := Z) (tc := tc) (tp := tp) (t := 264) (Nat.le_refl _) hC hTx hg hb hfr hn9 hb0 hpk74 hm74 hfa74 (by decide) (by decide) (by assumption)
            have hpk77 := mk_partok (b := b) (n := n) (t := 264) hn9 (by decide) hpk74
            rw [hE77] at hc77 hpk77
            by_cases hf77 : f77 = -1
            · skip
              subst hf77
              refine jr_callv R2 d_164_123 (by decide) rfl (as := [.ref 80, hv 0]) (rest := []) rfl (by unfold mj_rc; rw [show (_ : List Value).headD _ = .ref 80 from rfl]; simp only [md_80 hC]; decide) hc77 (by omega) (Nat.le_of_ble_eq_true rfl) ?_
              rintro rv M9 ⟨⟨z77, hz77, rfl⟩, q77, to77, wo77, fa77, hmx, hfa77, hfx, rfl⟩
              have hfe77 : (-1 : Int) ≠ -1 → fa77 = -1 := hfx
              have hm77 : mt b n k77 q77 to77 wo77 := hmx
              have hto77 := hm77.2.2.1
              rw [if_pos rfl]
              show J 0 0 (md C A U Z tc tp (((160 * i : Nat) : Int)) ((n : Int)) ((q77 : Int)) to77 (hpc b n k77) wo77 (((0 : Nat) : Int)) 0 fa77) 126 [(4, hv z74), (3, hv z68), (0, .ref 80), (1, hv ((i : Int))), (2, hv 0)] [hv z77]
              refine jr_istore R1 d_164_126 (by decide) (lo' := [(5, hv z77), (4, hv z74), (3, hv z68), (0, .ref 80), (1, hv ((i : Int))), (2, hv 0)]) rfl ?_
              refine jr_aload_n R1 d_164_128 rfl ?_
              refine jr_getf R1 d_164_129 (md_80 hC) (by decide) rfl ?_
              refine jr_ifc R1 false d_164_132 (by first | assumption | exact hg _ | exact hS _ | exact hV _ | exact hP _ | exact hT _ | exact ⟨by omega, by omega⟩) (by unfold hcb; first | exact decide_eq_true (by omega) | exact decide_eq_false (by omega)) (by decide) (pc' := 135) rfl ?_
              refine jr_aload_n R1 d_164_135 rfl ?_
              refine jr_getf R1 d_164_136 (md_80 hC) (by decide) rfl ?_
              by_cases h4 : to77 = 0
              · refine jr_ifc R1 true d_164_139 (by first | assumption | exact hg _ | exact hS _ | exact hV _ | exact hP _ | exact hT _ | exact ⟨by omega, by omega⟩) (by unfold hcb; first | exact decide_eq_true (by omega) | exact decide_eq_false (by omega)) (by decide) (pc' := 146) rfl ?_
                refine jr_iload_n R1 d_164_146 rfl ?_
                refine jr_ifc R1 false d_164_147 (by first | assumption | exact hg _ | exact hS _ | exact hV _ | exact hP _ | exact hT _ | exact ⟨by omega, by omega⟩) (by unfold hcb; first | exact decide_eq_true (by omega) | exact decide_eq_false (by omega)) (by decide) (pc' := 150) rfl ?_
                refine jr_iload_n R1 d_164_150 rfl ?_
                refine jr_goto R1 d_164_151 (by decide) (pc' := 166) rfl ?_
                refine jr_reti R3 d_164_166 rfl ?_
                have hF : (hp_text b n).2 = -1 := by
                  show (hp_need (hp_tk b n) (hpc b n) 302 (hp_part (hp_tk b n) (hpc b n) 3000 264 (hp_part (hp_tk b n) (hpc b n) 3000 263 (hp_part (hp_tk b n) (hpc b n) 3000 262 (0, -1))))).2 = _
                  rw [hE68, hE74, hE77, hx_nd1 (s := (k77, -1)) rfl ((mt_end hm77).mp (by assumption))]
                rw [hF]
                exact mrd_ok hn9 hm77 hfa77 (fun z => absurd rfl z) (by rw [if_pos rfl])
              · refine jr_ifc R1 false d_164_139 (by first | assumption | exact hg _ | exact hS _ | exact hV _ | exact hP _ | exact hT _ | exact ⟨by omega, by omega⟩) (by unfold hcb; first | exact decide_eq_true (by omega) | exact decide_eq_false (by omega)) (by decide) (pc' := 142) rfl ?_
                refine jr_aload_n R1 d_164_142 rfl ?_
                refine jr_callv R2 d_164_143 (by decide) rfl (as := [.ref 80]) (rest := []) rfl (by unfold mj_rc; rw [show (_ : List Value).headD _ = .ref 80 from rfl]; simp only [md_80 hC]; decide) (hm_fail (d := 1) (by omega) hC (Or.inl rfl)) (by omega) (Nat.le_of_ble_eq_true rfl) ?_
                rintro rv M9 ⟨rfl, rfl⟩
                rw [if_pos rfl]
                show J 0 0 (md C A U Z tc tp (((160 * i : Nat) : Int)) ((n : Int)) ((q77 : Int)) to77 (hpc b n k77) wo77 (((0 : Nat) : Int)) 1 (hpc b n k77)) 146 [(5, hv z77), (4, hv z74), (3, hv z68), (0, .ref 80), (1, hv ((i : Int))), (2, hv 0)] []
                refine jr_iload_n R1 d_164_146 rfl ?_
                refine jr_ifc R1 false d_164_147 (by first | assumption | exact hg _ | exact hS _ | exact hV _ | exact hP _ | exact hT _ | exact ⟨by omega, by omega⟩) (by unfold hcb; first | exact decide_eq_true (by omega) | exact decide_eq_false (by omega)) (by decide) (pc' := 150) rfl ?_
                refine jr_iload_n R1 d_164_150 rfl ?_
                refine jr_goto R1 d_164_151 (by decide) (pc' := 166) rfl ?_
                refine jr_reti R3 d_164_166 rfl ?_
                have hF : (hp_text b n).2 = hpc b n k77 := by
                  show (hp_need (hp_tk b n) (hpc b n) 302 (hp_part (hp_tk b n) (hpc b n) 3000 264 (hp_part (hp_tk b n) (hpc b n) 3000 263 (hp_part (hp_tk b n) (hpc b n) 3000 262 (0, -1))))).2 = _
                  rw [hE68, hE74, hE77, hx_nd2 (s := (k77, -1)) rfl (fun z => absurd ((mt_end hm77).mpr z) (by assumption))]
                rw [hF]
                exact mrd_ok hn9 hm77 (hpc_bd hn9 k77) (fun _ => rfl) (by rw [if_neg hpc_ne])
            · skip
              refine jr_callv R2 d_164_123 (by decide) rfl (as := [.ref 80, hv 0]) (rest := []) rfl (by unfold mj_rc; rw [show (_ : List Value).headD _ = .ref 80 from rfl]; simp only [md_80 hC]; decide) hc77 (by omega) (Nat.le_of_ble_eq_true rfl) ?_
              rintro rv M9 ⟨⟨z77, hz77, rfl⟩, q77, to77, wo77, fa77, hmx, hfa77, hfx, rfl⟩
              have hfe77 : f77 ≠ -1 → fa77 = f77 := hfx
              have hm77 : mt b n k77 q77 to77 wo77 := hmx
              have hto77 := hm77.2.2.1
              rw [if_neg hf77]
              show J 0 0 (md C A U Z tc tp (((160 * i : Nat) : Int)) ((n : Int)) ((q77 : Int)) to77 (hpc b n k77) wo77 (((0 : Nat) : Int)) 1 fa77) 126 [(4, hv z74), (3, hv z68), (0, .ref 80), (1, hv ((i : Int))), (2, hv 0)] [hv z77]
              refine jr_istore R1 d_164_126 (by decide) (lo' := [(5, hv z77), (4, hv z74), (3, hv z68), (0, .ref 80), (1, hv ((i : Int))), (2, hv 0)]) rfl ?_
              refine jr_aload_n R1 d_164_128 rfl ?_
              refine jr_getf R1 d_164_129 (md_80 hC) (by decide) rfl ?_
              refine jr_ifc R1 true d_164_132 (by first | assumption | exact hg _ | exact hS _ | exact hV _ | exact hP _ | exact hT _ | exact ⟨by omega, by omega⟩) (by unfold hcb; first | exact decide_eq_true (by omega) | exact decide_eq_false (by omega)) (by decide) (pc' := 146) rfl ?_
              refine jr_iload_n R1 d_164_146 rfl ?_
              refine jr_ifc R1 false d_164_147 (by first | assumption | exact hg _ | exact hS _ | exact hV _ | exact hP _ | exact hT _ | exact ⟨by omega, by omega⟩) (by unfold hcb; first | exact decide_eq_true (by omega) | exact decide_eq_false (by omega)) (by decide) (pc' := 150) rfl ?_
              refine jr_iload_n R1 d_164_150 rfl ?_
              refine jr_goto R1 d_164_151 (by decide) (pc' := 166) rfl ?_
              refine jr_reti R3 d_164_166 rfl ?_
              have hF : (hp_text b n).2 = f77 := by
                show (hp_need (hp_tk b n) (hpc b n) 302 (hp_part (hp_tk b n) (hpc b n) 3000 264 (hp_part (hp_tk b n) (hpc b n) 3000 263 (hp_part (hp_tk b n) (hpc b n) 3000 262 (0, -1))))).2 = _
                rw [hE68, hE74, hE77, hp_need_f hf77]
              rw [hF]
              exact mrd_ok hn9 hm77 hfa77 (fun _ => hfe77 hf77) (by rw [if_neg hf77])
        · skip
          refine jr_callv R2 d_164_89 (by decide) rfl (as := [.ref 80, hv 0]) (rest := []) rfl (by unfold mj_rc; rw [show (_ : List Value).headD _ = .ref 80 from rfl]; simp only [md_80 hC]; decide) hc74 (by omega) (Nat.le_of_ble_eq_true rfl) ?_
          rintro rv M9 ⟨⟨z74, hz74, rfl⟩, q74, to74, wo74, fa74, hmx, hfa74, hfx, rfl⟩
          have hfe74 : f74 ≠ -1 → fa74 = f74 := hfx
          have hm74 : mt b n k74 q74 to74 wo74 := hmx
          have hto74 := hm74.2.2.1
          rw [if_neg hf74]
          show J 0 0 (md C A U Z tc tp (((160 * i : Nat) : Int)) ((n : Int)) ((q74 : Int)) to74 (hpc b n k74) wo74 (((0 : Nat) : Int)) 1 fa74) 92 [(3, hv z68), (0, .ref 80), (1, hv ((i : Int))), (2, hv 0)] [hv z74]
          refine jr_istore R1 d_164_92 (by decide) (lo' := [(4, hv z74), (3, hv z68), (0, .ref 80), (1, hv ((i : Int))), (2, hv 0)]) rfl ?_
          refine jr_aload_n R1 d_164_94 rfl ?_
          refine jr_getf R1 d_164_95 (md_80 hC) (by decide) rfl ?_
          refine jr_ifc R1 false d_164_98 (by first | assumption | exact hg _ | exact hS _ | exact hV _ | exact hP _ | exact hT _ | exact ⟨by omega, by omega⟩) (by unfold hcb; first | exact decide_eq_true (by omega) | exact decide_eq_false (by omega)) (by decide) (pc' := 101) rfl ?_
          refine jr_iconst R1 d_164_101 ?_
          refine jr_goto R1 d_164_102 (by decide) (pc' := 126) rfl ?_
          refine jr_istore R1 d_164_126 (by decide) (lo' := [(5, hv 0), (4, hv z74), (3, hv z68), (0, .ref 80), (1, hv ((i : Int))), (2, hv 0)]) rfl ?_
          refine jr_aload_n R1 d_164_128 rfl ?_
          refine jr_getf R1 d_164_129 (md_80 hC) (by decide) rfl ?_
          refine jr_ifc R1 true d_164_132 (by first | assumption | exact hg _ | exact hS _ | exact hV _ | exact hP _ | exact hT _ | exact ⟨by omega, by omega⟩) (by unfold hcb; first | exact decide_eq_true (by omega) | exact decide_eq_false (by omega)) (by decide) (pc' := 146) rfl ?_
          refine jr_iload_n R1 d_164_146 rfl ?_
          refine jr_ifc R1 false d_164_147 (by first | assumption | exact hg _ | exact hS _ | exact hV _ | exact hP _ | exact hT _ | exact ⟨by omega, by omega⟩) (by unfold hcb; first | exact decide_eq_true (by omega) | exact decide_eq_false (by omega)) (by decide) (pc' := 150) rfl ?_
          refine jr_iload_n R1 d_164_150 rfl ?_
          refine jr_goto R1 d_164_151 (by decide) (pc' := 166) rfl ?_
          refine jr_reti R3 d_164_166 rfl ?_
          have hF : (hp_text b n).2 = f74 := by
            show (hp_need (hp_tk b n) (hpc b n) 302 (hp_part (hp_tk b n) (hpc b n) 3000 264 (hp_part (hp_tk b n) (hpc b n) 3000 263 (hp_part (hp_tk b n) (hpc b n) 3000 262 (0, -1))))).2 = _
            rw [hE68, hE74, hp_part_f (s := (k74, f74)) hf74, hp_need_f hf74]
          rw [hF]
          exact mrd_ok hn9 hm74 hfa74 (fun _ => hfe74 hf74) (by rw [if_neg hf74])
    · skip
      refine jr_callv R2 d_164_56 (by decide) rfl (as := [.ref 80, hv 1]) (rest := []) rfl (by unfold mj_rc; rw [show (_ : List Value).headD _ = .ref 80 from rfl]; simp only [md_80 hC]; decide) hc68 (by omega) (Nat.le_of_ble_eq_true rfl) ?_
      rintro rv M9 ⟨⟨z68, hz68, rfl⟩, q68, to68, wo68, fa68, hmx, hfa68, hfx, rfl⟩
      have hfe68 : f68 ≠ -1 → fa68 = f68 := hfx
      have hm68 : mt b n k68 q68 to68 wo68 := hmx
      have hto68 := hm68.2.2.1
      rw [if_neg hf68]
      show J 0 0 (md C A U Z tc tp (((160 * i : Nat) : Int)) ((n : Int)) ((q68 : Int)) to68 (hpc b n k68) wo68 (((0 : Nat) : Int)) 1 fa68) 59 [(0, .ref 80), (1, hv ((i : Int))), (2, hv 0)] [hv z68]
      refine jr_istore_n R1 d_164_59 (by decide) (lo' := [(3, hv z68), (0, .ref 80), (1, hv ((i : Int))), (2, hv 0)]) rfl ?_
      refine jr_aload_n R1 d_164_60 rfl ?_
      refine jr_getf R1 d_164_61 (md_80 hC) (by decide) rfl ?_
      refine jr_ifc R1 false d_164_64 (by first | assumption | exact hg _ | exact hS _ | exact hV _ | exact hP _ | exact hT _ | exact ⟨by omega, by omega⟩) (by unfold hcb; first | exact decide_eq_true (by omega) | exact decide_eq_false (by omega)) (by decide) (pc' := 67) rfl ?_
      refine jr_iconst R1 d_164_67 ?_
      refine jr_goto R1 d_164_68 (by decide) (pc' := 92) rfl ?_
      refine jr_istore R1 d_164_92 (by decide) (lo' := [(4, hv 0), (3, hv z68), (0, .ref 80), (1, hv ((i : Int))), (2, hv 0)]) rfl ?_
      refine jr_aload_n R1 d_164_94 rfl ?_
      refine jr_getf R1 d_164_95 (md_80 hC) (by decide) rfl ?_
      refine jr_ifc R1 false d_164_98 (by first | assumption | exact hg _ | exact hS _ | exact hV _ | exact hP _ | exact hT _ | exact ⟨by omega, by omega⟩) (by unfold hcb; first | exact decide_eq_true (by omega) | exact decide_eq_false (by omega)) (by decide) (pc' := 101) rfl ?_
      refine jr_iconst R1 d_164_101 ?_
      refine jr_goto R1 d_164_102 (by decide) (pc' := 126) rfl ?_
      refine jr_istore R1 d_164_126 (by decide) (lo' := [(5, hv 0), (4, hv 0), (3, hv z68), (0, .ref 80), (1, hv ((i : Int))), (2, hv 0)]) rfl ?_
      refine jr_aload_n R1 d_164_128 rfl ?_
      refine jr_getf R1 d_164_129 (md_80 hC) (by decide) rfl ?_
      refine jr_ifc R1 true d_164_132 (by first | assumption | exact hg _ | exact hS _ | exact hV _ | exact hP _ | exact hT _ | exact ⟨by omega, by omega⟩) (by unfold hcb; first | exact decide_eq_true (by omega) | exact decide_eq_false (by omega)) (by decide) (pc' := 146) rfl ?_
      refine jr_iload_n R1 d_164_146 rfl ?_
      refine jr_ifc R1 false d_164_147 (by first | assumption | exact hg _ | exact hS _ | exact hV _ | exact hP _ | exact hT _ | exact ⟨by omega, by omega⟩) (by unfold hcb; first | exact decide_eq_true (by omega) | exact decide_eq_false (by omega)) (by decide) (pc' := 150) rfl ?_
      refine jr_iload_n R1 d_164_150 rfl ?_
      refine jr_goto R1 d_164_151 (by decide) (pc' := 166) rfl ?_
      refine jr_reti R3 d_164_166 rfl ?_
      have hF : (hp_text b n).2 = f68 := by
        show (hp_need (hp_tk b n) (hpc b n) 302 (hp_part (hp_tk b n) (hpc b n) 3000 264 (hp_part (hp_tk b n) (hpc b n) 3000 263 (hp_part (hp_tk b n) (hpc b n) 3000 262 (0, -1))))).2 = _
        rw [hE68, hp_part_f (s := (k68, f68)) hf68, hp_part_f (s := (k68, f68)) hf68, hp_need_f hf68]
      rw [hF]
      exact mrd_ok hn9 hm68 hfa68 (fun _ => hfe68 hf68) (by rw [if_neg hf68])
  · skip
    refine jr_callv R2 d_164_53 (by decide) rfl (as := [.ref 80, hv 114, hv 101, hv 110, hv 116, hv 115, hv 0, hv 0, hv 0]) (rest := [.ref 80]) rfl (by unfold mj_rc; rw [show (_ : List Value).headD _ = .ref 80 from rfl]; simp only [md_80 hC]; decide) (hm_isWord (d := 3) (p := hp_P b n 0) (by omega) hC hTx hg hb hfr hn9 hb0 (mt_pq hm66) (mt_qn hm66) (Or.inl rfl) hm66.2.2.1 ⟨by omega, by omega⟩ ⟨by omega, by omega⟩ ⟨by omega, by omega⟩ ⟨by omega, by omega⟩ ⟨by omega, by omega⟩ ⟨by omega, by omega⟩ ⟨by omega, by omega⟩ ⟨by omega, by omega⟩) (by omega) (Nat.le_of_ble_eq_true rfl) ?_
    rintro rv M9 ⟨rfl, rfl⟩
    rw [if_neg (fun z => hw67_6 ((mv_6 hm66).mp z.2))]
    show J 0 0 (md C A U Z tc tp (((160 * i : Nat) : Int)) ((n : Int)) ((q66 : Int)) to66 (hpc b n 0) wo66 0 0 fa) 56 [(0, .ref 80), (1, hv ((i : Int))), (2, hv 0)] [hv 0, .ref 80]
    obtain ⟨k78, f78, hE78⟩ : ∃ k f, hp_part (hp_tk b n) (hpc b n) 3000 262 (0, -1) = (k, f) := ⟨_, _, rfl⟩
    have hc78 := mk_part_f (lch := lch) (d := 46) (A := A) (U := U) (Z := Z) (tc := tc) (tp := tp) (t := 262) (Nat.le_refl _) hC hTx hg hb hfr hn9 hb0 (Nat.zero_le _) hm66 hfa (by decide) (by decide) (by assumption)
    have hpk78 := mk_partok (b := b) (n := n) (t := 262) hn9 (by decide) (Nat.zero_le _)
    rw [hE78] at hc78 hpk78
    by_cases hf78 : f78 = -1
    · skip
      subst hf78
      refine jr_callv R2 d_164_56 (by decide) rfl (as := [.ref 80, hv 0]) (rest := []) rfl (by unfold mj_rc; rw [show (_ : List Value).headD _ = .ref 80 from rfl]; simp only [md_80 hC]; decide) hc78 (by omega) (Nat.le_of_ble_eq_true rfl) ?_
      rintro rv M9 ⟨⟨z78, hz78, rfl⟩, q78, to78, wo78, fa78, hmx, hfa78, hfx, rfl⟩
      have hfe78 : (-1 : Int) ≠ -1 → fa78 = -1 := hfx
      have hm78 : mt b n k78 q78 to78 wo78 := hmx
      have hto78 := hm78.2.2.1
      rw [if_pos rfl]
      show J 0 0 (md C A U Z tc tp (((160 * i : Nat) : Int)) ((n : Int)) ((q78 : Int)) to78 (hpc b n k78) wo78 (((0 : Nat) : Int)) 0 fa78) 59 [(0, .ref 80), (1, hv ((i : Int))), (2, hv 0)] [hv z78]
      refine jr_istore_n R1 d_164_59 (by decide) (lo' := [(3, hv z78), (0, .ref 80), (1, hv ((i : Int))), (2, hv 0)]) rfl ?_
      refine jr_aload_n R1 d_164_60 rfl ?_
      refine jr_getf R1 d_164_61 (md_80 hC) (by decide) rfl ?_
      refine jr_ifc R1 true d_164_64 (by first | assumption | exact hg _ | exact hS _ | exact hV _ | exact hP _ | exact hT _ | exact ⟨by omega, by omega⟩) (by unfold hcb; first | exact decide_eq_true (by omega) | exact decide_eq_false (by omega)) (by decide) (pc' := 71) rfl ?_
      refine jr_aload_n R1 d_164_71 rfl ?_
      refine jr_aload_n R1 d_164_72 rfl ?_
      refine jr_bipush R1 d_164_73 (by decide) ?_
      refine jr_bipush R1 d_164_75 (by decide) ?_
      refine jr_bipush R1 d_164_77 (by decide) ?_
      refine jr_bipush R1 d_164_79 (by decide) ?_
      refine jr_bipush R1 d_164_81 (by decide) ?_
      refine jr_iconst R1 d_164_83 ?_
      refine jr_iconst R1 d_164_84 ?_
      refine jr_iconst R1 d_164_85 ?_
      by_cases hw79_7 : hp_tk b n k78 = 263
      · skip
        refine jr_callv R2 d_164_86 (by decide) rfl (as := [.ref 80, hv 108, hv 101, hv 97, hv 107, hv 115, hv 0, hv 0, hv 0]) (rest := [.ref 80]) rfl (by unfold mj_rc; rw [show (_ : List Value).headD _ = .ref 80 from rfl]; simp only [md_80 hC]; decide) (hm_isWord (d := 3) (p := hp_P b n k78) (by omega) hC hTx hg hb hfr hn9 hb0 (mt_pq hm78) (mt_qn hm78) (Or.inl rfl) hm78.2.2.1 ⟨by omega, by omega⟩ ⟨by omega, by omega⟩ ⟨by omega, by omega⟩ ⟨by omega, by omega⟩ ⟨by omega, by omega⟩ ⟨by omega, by omega⟩ ⟨by omega, by omega⟩ ⟨by omega, by omega⟩) (by omega) (Nat.le_of_ble_eq_true rfl) ?_
        rintro rv M9 ⟨rfl, rfl⟩
        rw [if_pos ⟨rfl, (mv_7 hm78).mpr hw79_7⟩]
        show J 0 0 (md C A U Z tc tp (((160 * i : Nat) : Int)) ((n : Int)) ((q78 : Int)) to78 (hpc b n k78) wo78 (((0 : Nat) : Int)) 0 fa78) 89 [(3, hv z78), (0, .ref 80), (1, hv ((i : Int))), (2, hv 0)] [hv 1, .ref 80]
        obtain ⟨k80, f80, hE80⟩ : ∃ k f, hp_part (hp_tk b n) (hpc b n) 3000 263 (k78, -1) = (k, f) := ⟨_, _, rfl⟩
        have hc80 := mk_part_t (lch := lch) (d := 46) (A := A) (U := U) (Z := Z) (tc := tc) (tp := tp) (t := 263) (Nat.le_refl _) hC hTx hg hb hfr hn9 hb0 hpk78 hm78 hfa78 (by decide) (by decide) (by assumption)
        have hpk80 := mk_partok (b := b) (n := n) (t := 263) hn9 (by decide) hpk78
        rw [hE80] at hc80 hpk80
        by_cases hf80 : f80 = -1
        · skip
          subst hf80
          refine jr_callv R2 d_164_89 (by decide) rfl (as := [.ref 80, hv 1]) (rest := []) rfl (by unfold mj_rc; rw [show (_ : List Value).headD _ = .ref 80 from rfl]; simp only [md_80 hC]; decide) hc80 (by omega) (Nat.le_of_ble_eq_true rfl) ?_
          rintro rv M9 ⟨⟨z80, hz80, rfl⟩, q80, to80, wo80, fa80, hmx, hfa80, hfx, rfl⟩
          have hfe80 : (-1 : Int) ≠ -1 → fa80 = -1 := hfx
          have hm80 : mt b n k80 q80 to80 wo80 := hmx
          have hto80 := hm80.2.2.1
          rw [if_pos rfl]
          show J 0 0 (md C A U Z tc tp (((160 * i : Nat) : Int)) ((n : Int)) ((q80 : Int)) to80 (hpc b n k80) wo80 (((0 : Nat) : Int)) 0 fa80) 92 [(3, hv z78), (0, .ref 80), (1, hv ((i : Int))), (2, hv 0)] [hv z80]
          refine jr_istore R1 d_164_92 (by decide) (lo' := [(4, hv z80), (3, hv z78), (0, .ref 80), (1, hv ((i : Int))), (2, hv 0)]) rfl ?_
          refine jr_aload_n R1 d_164_94 rfl ?_
          refine jr_getf R1 d_164_95 (md_80 hC) (by decide) rfl ?_
          refine jr_ifc R1 true d_164_98 (by first | assumption | exact hg _ | exact hS _ | exact hV _ | exact hP _ | exact hT _ | exact ⟨by omega, by omega⟩) (by unfold hcb; first | exact decide_eq_true (by omega) | exact decide_eq_false (by omega)) (by decide) (pc' := 105) rfl ?_
          refine jr_aload_n R1 d_164_105 rfl ?_
          refine jr_aload_n R1 d_164_106 rfl ?_
          refine jr_bipush R1 d_164_107 (by decide) ?_
          refine jr_bipush R1 d_164_109 (by decide) ?_
          refine jr_bipush R1 d_164_111 (by decide) ?_
          refine jr_bipush R1 d_164_113 (by decide) ?_
          refine jr_bipush R1 d_164_115 (by decide) ?_
          refine jr_iconst R1 d_164_117 ?_
          refine jr_iconst R1 d_164_118 ?_
          refine jr_iconst R1 d_164_119 ?_
          by_cases hw81_8 : hp_tk b n k80 = 264
          · skip
            refine jr_callv R2 d_164_120 (by decide) rfl (as := [.ref 80, hv 109, hv 105, hv 110, hv 100, hv 115, hv 0, hv 0, hv 0]) (rest := [.ref 80]) rfl (by unfold mj_rc; rw [show (_ : List Value).headD _ = .ref 80 from rfl]; simp only [md_80 hC]; decide) (hm_isWord (d := 3) (p := hp_P b n k80) (by omega) hC hTx hg hb hfr hn9 hb0 (mt_pq hm80) (mt_qn hm80) (Or.inl rfl) hm80.2.2.1 ⟨by omega, by omega⟩ ⟨by omega, by omega⟩ ⟨by omega, by omega⟩ ⟨by omega, by omega⟩ ⟨by omega, by omega⟩ ⟨by omega, by omega⟩ ⟨by omega, by omega⟩ ⟨by omega, by omega⟩) (by omega) (Nat.le_of_ble_eq_true rfl) ?_
            rintro rv M9 ⟨rfl, rfl⟩
            rw [if_pos ⟨rfl, (mv_8 hm80).mpr hw81_8⟩]
            show J 0 0 (md C A U Z tc tp (((160 * i : Nat) : Int)) ((n : Int)) ((q80 : Int)) to80 (hpc b n k80) wo80 (((0 : Nat) : Int)) 0 fa80) 123 [(4, hv z80), (3, hv z78), (0, .ref 80), (1, hv ((i : Int))), (2, hv 0)] [hv 1, .ref 80]
            obtain ⟨k82, f82, hE82⟩ : ∃ k f, hp_part (hp_tk b n) (hpc b n) 3000 264 (k80, -1) = (k, f) := ⟨_, _, rfl⟩
            have hc82 := mk_part_t (lch := lch) (d := 46) (A := A) (U := U) (Z := Z) (tc := tc) (tp := tp) (t := 264) (Nat.le_refl _) hC hTx hg hb hfr hn9 hb0 hpk80 hm80 hfa80 (by decide) (by decide) (by assumption)
            have hpk82 := mk_partok (b := b) (n := n) (t := 264) hn9 (by decide) hpk80
            rw [hE82] at hc82 hpk82
            by_cases hf82 : f82 = -1
            · skip
              subst hf82
              refine jr_callv R2 d_164_123 (by decide) rfl (as := [.ref 80, hv 1]) (rest := []) rfl (by unfold mj_rc; rw [show (_ : List Value).headD _ = .ref 80 from rfl]; simp only [md_80 hC]; decide) hc82 (by omega) (Nat.le_of_ble_eq_true rfl) ?_
              rintro rv M9 ⟨⟨z82, hz82, rfl⟩, q82, to82, wo82, fa82, hmx, hfa82, hfx, rfl⟩
              have hfe82 : (-1 : Int) ≠ -1 → fa82 = -1 := hfx
              have hm82 : mt b n k82 q82 to82 wo82 := hmx
              have hto82 := hm82.2.2.1
              rw [if_pos rfl]
              show J 0 0 (md C A U Z tc tp (((160 * i : Nat) : Int)) ((n : Int)) ((q82 : Int)) to82 (hpc b n k82) wo82 (((0 : Nat) : Int)) 0 fa82) 126 [(4, hv z80), (3, hv z78), (0, .ref 80), (1, hv ((i : Int))), (2, hv 0)] [hv z82]
              refine jr_istore R1 d_164_126 (by decide) (lo' := [(5, hv z82), (4, hv z80), (3, hv z78), (0, .ref 80), (1, hv ((i : Int))), (2, hv 0)]) rfl ?_
              refine jr_aload_n R1 d_164_128 rfl ?_
              refine jr_getf R1 d_164_129 (md_80 hC) (by decide) rfl ?_
              refine jr_ifc R1 false d_164_132 (by first | assumption | exact hg _ | exact hS _ | exact hV _ | exact hP _ | exact hT _ | exact ⟨by omega, by omega⟩) (by unfold hcb; first | exact decide_eq_true (by omega) | exact decide_eq_false (by omega)) (by decide) (pc' := 135) rfl ?_
              refine jr_aload_n R1 d_164_135 rfl ?_
              refine jr_getf R1 d_164_136 (md_80 hC) (by decide) rfl ?_
              by_cases h5 : to82 = 0
              · refine jr_ifc R1 true d_164_139 (by first | assumption | exact hg _ | exact hS _ | exact hV _ | exact hP _ | exact hT _ | exact ⟨by omega, by omega⟩) (by unfold hcb; first | exact decide_eq_true (by omega) | exact decide_eq_false (by omega)) (by decide) (pc' := 146) rfl ?_
                refine jr_iload_n R1 d_164_146 rfl ?_
                refine jr_ifc R1 false d_164_147 (by first | assumption | exact hg _ | exact hS _ | exact hV _ | exact hP _ | exact hT _ | exact ⟨by omega, by omega⟩) (by unfold hcb; first | exact decide_eq_true (by omega) | exact decide_eq_false (by omega)) (by decide) (pc' := 150) rfl ?_
                refine jr_iload_n R1 d_164_150 rfl ?_
                refine jr_goto R1 d_164_151 (by decide) (pc' := 166) rfl ?_
                refine jr_reti R3 d_164_166 rfl ?_
                have hF : (hp_text b n).2 = -1 := by
                  show (hp_need (hp_tk b n) (hpc b n) 302 (hp_part (hp_tk b n) (hpc b n) 3000 264 (hp_part (hp_tk b n) (hpc b n) 3000 263 (hp_part (hp_tk b n) (hpc b n) 3000 262 (0, -1))))).2 = _
                  rw [hE78, hE80, hE82, hx_nd1 (s := (k82, -1)) rfl ((mt_end hm82).mp (by assumption))]
                rw [hF]
                exact mrd_ok hn9 hm82 hfa82 (fun z => absurd rfl z) (by rw [if_pos rfl])
              · refine jr_ifc R1 false d_164_139 (by first | assumption | exact hg _ | exact hS _ | exact hV _ | exact hP _ | exact hT _ | exact ⟨by omega, by omega⟩) (by unfold hcb; first | exact decide_eq_true (by omega) | exact decide_eq_false (by omega)) (by decide) (pc' := 142) rfl ?_
                refine jr_aload_n R1 d_164_142 rfl ?_
                refine jr_callv R2 d_164_143 (by decide) rfl (as := [.ref 80]) (rest := []) rfl (by unfold mj_rc; rw [show (_ : List Value).headD _ = .ref 80 from rfl]; simp only [md_80 hC]; decide) (hm_fail (d := 1) (by omega) hC (Or.inl rfl)) (by omega) (Nat.le_of_ble_eq_true rfl) ?_
                rintro rv M9 ⟨rfl, rfl⟩
                rw [if_pos rfl]
                show J 0 0 (md C A U Z tc tp (((160 * i : Nat) : Int)) ((n : Int)) ((q82 : Int)) to82 (hpc b n k82) wo82 (((0 : Nat) : Int)) 1 (hpc b n k82)) 146 [(5, hv z82), (4, hv z80), (3, hv z78), (0, .ref 80), (1, hv ((i : Int))), (2, hv 0)] []
                refine jr_iload_n R1 d_164_146 rfl ?_
                refine jr_ifc R1 false d_164_147 (by first | assumption | exact hg _ | exact hS _ | exact hV _ | exact hP _ | exact hT _ | exact ⟨by omega, by omega⟩) (by unfold hcb; first | exact decide_eq_true (by omega) | exact decide_eq_false (by omega)) (by decide) (pc' := 150) rfl ?_
                refine jr_iload_n R1 d_164_150 rfl ?_
                refine jr_goto R1 d_164_151 (by decide) (pc' := 166) rfl ?_
                refine jr_reti R3 d_164_166 rfl ?_
                have hF : (hp_text b n).2 = hpc b n k82 := by
                  show (hp_need (hp_tk b n) (hpc b n) 302 (hp_part (hp_tk b n) (hpc b n) 3000 264 (hp_part (hp_tk b n) (hpc b n) 3000 263 (hp_part (hp_tk b n) (hpc b n) 3000 262 (0, -1))))).2 = _
                  rw [hE78, hE80, hE82, hx_nd2 (s := (k82, -1)) rfl (fun z => absurd ((mt_end hm82).mpr z) (by assumption))]
                rw [hF]
                exact mrd_ok hn9 hm82 (hpc_bd hn9 k82) (fun _ => rfl) (by rw [if_neg hpc_ne])
            · skip
              refine jr_callv R2 d_164_123 (by decide) rfl (as := [.ref 80, hv 1]) (rest := []) rfl (by unfold mj_rc; rw [show (_ : List Value).headD _ = .ref 80 from rfl]; simp only [md_80 hC]; decide) hc82 (by omega) (Nat.le_of_ble_eq_true rfl) ?_
              rintro rv M9 ⟨⟨z82, hz82, rfl⟩, q82, to82, wo82, fa82, hmx, hfa82, hfx, rfl⟩
              have hfe82 : f82 ≠ -1 → fa82 = f82 := hfx
              have hm82 : mt b n k82 q82 to82 wo82 := hmx
              have hto82 := hm82.2.2.1
              rw [if_neg hf82]
              show J 0 0 (md C A U Z tc tp (((160 * i : Nat) : Int)) ((n : Int)) ((q82 : Int)) to82 (hpc b n k82) wo82 (((0 : Nat) : Int)) 1 fa82) 126 [(4, hv z80), (3, hv z78), (0, .ref 80), (1, hv ((i : Int))), (2, hv 0)] [hv z82]
              refine jr_istore R1 d_164_126 (by decide) (lo' := [(5, hv z82), (4, hv z80), (3, hv z78), (0, .ref 80), (1, hv ((i : Int))), (2, hv 0)]) rfl ?_
              refine jr_aload_n R1 d_164_128 rfl ?_
              refine jr_getf R1 d_164_129 (md_80 hC) (by decide) rfl ?_
              refine jr_ifc R1 true d_164_132 (by first | assumption | exact hg _ | exact hS _ | exact hV _ | exact hP _ | exact hT _ | exact ⟨by omega, by omega⟩) (by unfold hcb; first | exact decide_eq_true (by omega) | exact decide_eq_false (by omega)) (by decide) (pc' := 146) rfl ?_
              refine jr_iload_n R1 d_164_146 rfl ?_
              refine jr_ifc R1 false d_164_147 (by first | assumption | exact hg _ | exact hS _ | exact hV _ | exact hP _ | exact hT _ | exact ⟨by omega, by omega⟩) (by unfold hcb; first | exact decide_eq_true (by omega) | exact decide_eq_false (by omega)) (by decide) (pc' := 150) rfl ?_
              refine jr_iload_n R1 d_164_150 rfl ?_
              refine jr_goto R1 d_164_151 (by decide) (pc' := 166) rfl ?_
              refine jr_reti R3 d_164_166 rfl ?_
              have hF : (hp_text b n).2 = f82 := by
                show (hp_need (hp_tk b n) (hpc b n) 302 (hp_part (hp_tk b n) (hpc b n) 3000 264 (hp_part (hp_tk b n) (hpc b n) 3000 263 (hp_part (hp_tk b n) (hpc b n) 3000 262 (0, -1))))).2 = _
                rw [hE78, hE80, hE82, hp_need_f hf82]
              rw [hF]
              exact mrd_ok hn9 hm82 hfa82 (fun _ => hfe82 hf82) (by rw [if_neg hf82])
          · skip
            refine jr_callv R2 d_164_120 (by decide) rfl (as := [.ref 80, hv 109, hv 105, hv 110, hv 100, hv 115, hv 0, hv 0, hv 0]) (rest := [.ref 80]) rfl (by unfold mj_rc; rw [show (_ : List Value).headD _ = .ref 80 from rfl]; simp only [md_80 hC]; decide) (hm_isWord (d := 3) (p := hp_P b n k80) (by omega) hC hTx hg hb hfr hn9 hb0 (mt_pq hm80) (mt_qn hm80) (Or.inl rfl) hm80.2.2.1 ⟨by omega, by omega⟩ ⟨by omega, by omega⟩ ⟨by omega, by omega⟩ ⟨by omega, by omega⟩ ⟨by omega, by omega⟩ ⟨by omega, by omega⟩ ⟨by omega, by omega⟩ ⟨by omega, by omega⟩) (by omega) (Nat.le_of_ble_eq_true rfl) ?_
            rintro rv M9 ⟨rfl, rfl⟩
            rw [if_neg (fun z => hw81_8 ((mv_8 hm80).mp z.2))]
            show J 0 0 (md C A U Z tc tp (((160 * i : Nat) : Int)) ((n : Int)) ((q80 : Int)) to80 (hpc b n k80) wo80 (((0 : Nat) : Int)) 0 fa80) 123 [(4, hv z80), (3, hv z78), (0, .ref 80), (1, hv ((i : Int))), (2, hv 0)] [hv 0, .ref 80]
            obtain ⟨k83, f83, hE83⟩ : ∃ k f, hp_part (hp_tk b n) (hpc b n) 3000 264 (k80, -1) = (k, f) := ⟨_, _, rfl⟩
            have hc83 := mk_part_f (lch := lch) (d := 46) (A := A) (U := U) (Z := Z) (tc := tc) (tp := tp) (t := 264) (Nat.le_refl _) hC hTx hg hb hfr hn9 hb0 hpk80 hm80 hfa80 (by decide) (by decide) (by assumption)
            have hpk83 := mk_partok (b := b) (n := n) (t := 264) hn9 (by decide) hpk80
            rw [hE83] at hc83 hpk83
            by_cases hf83 : f83 = -1
            · skip
              subst hf83
              refine jr_callv R2 d_164_123 (by decide) rfl (as := [.ref 80, hv 0]) (rest := []) rfl (by unfold mj_rc; rw [show (_ : List Value).headD _ = .ref 80 from rfl]; simp only [md_80 hC]; decide) hc83 (by omega) (Nat.le_of_ble_eq_true rfl) ?_
              rintro rv M9 ⟨⟨z83, hz83, rfl⟩, q83, to83, wo83, fa83, hmx, hfa83, hfx, rfl⟩
              have hfe83 : (-1 : Int) ≠ -1 → fa83 = -1 := hfx
              have hm83 : mt b n k83 q83 to83 wo83 := hmx
              have hto83 := hm83.2.2.1
              rw [if_pos rfl]
              show J 0 0 (md C A U Z tc tp (((160 * i : Nat) : Int)) ((n : Int)) ((q83 : Int)) to83 (hpc b n k83) wo83 (((0 : Nat) : Int)) 0 fa83) 126 [(4, hv z80), (3, hv z78), (0, .ref 80), (1, hv ((i : Int))), (2, hv 0)] [hv z83]
              refine jr_istore R1 d_164_126 (by decide) (lo' := [(5, hv z83), (4, hv z80), (3, hv z78), (0, .ref 80), (1, hv ((i : Int))), (2, hv 0)]) rfl ?_
              refine jr_aload_n R1 d_164_128 rfl ?_
              refine jr_getf R1 d_164_129 (md_80 hC) (by decide) rfl ?_
              refine jr_ifc R1 false d_164_132 (by first | assumption | exact hg _ | exact hS _ | exact hV _ | exact hP _ | exact hT _ | exact ⟨by omega, by omega⟩) (by unfold hcb; first | exact decide_eq_true (by omega) | exact decide_eq_false (by omega)) (by decide) (pc' := 135) rfl ?_
              refine jr_aload_n R1 d_164_135 rfl ?_
              refine jr_getf R1 d_164_136 (md_80 hC) (by decide) rfl ?_
              by_cases h6 : to83 = 0
              · refine jr_ifc R1 true d_164_139 (by first | assumption | exact hg _ | exact hS _ | exact hV _ | exact hP _ | exact hT _ | exact ⟨by omega, by omega⟩) (by unfold hcb; first | exact decide_eq_true (by omega) | exact decide_eq_false (by omega)) (by decide) (pc' := 146) rfl ?_
                refine jr_iload_n R1 d_164_146 rfl ?_
                refine jr_ifc R1 false d_164_147 (by first | assumption | exact hg _ | exact hS _ | exact hV _ | exact hP _ | exact hT _ | exact ⟨by omega, by omega⟩) (by unfold hcb; first | exact decide_eq_true (by omega) | exact decide_eq_false (by omega)) (by decide) (pc' := 150) rfl ?_
                refine jr_iload_n R1 d_164_150 rfl ?_
                refine jr_goto R1 d_164_151 (by decide) (pc' := 166) rfl ?_
                refine jr_reti R3 d_164_166 rfl ?_
                have hF : (hp_text b n).2 = -1 := by
                  show (hp_need (hp_tk b n) (hpc b n) 302 (hp_part (hp_tk b n) (hpc b n) 3000 264 (hp_part (hp_tk b n) (hpc b n) 3000 263 (hp_part (hp_tk b n) (hpc b n) 3000 262 (0, -1))))).2 = _
                  rw [hE78, hE80, hE83, hx_nd1 (s := (k83, -1)) rfl ((mt_end hm83).mp (by assumption))]
                rw [hF]
                exact mrd_ok hn9 hm83 hfa83 (fun z => absurd rfl z) (by rw [if_pos rfl])
              · refine jr_ifc R1 false d_164_139 (by first | assumption | exact hg _ | exact hS _ | exact hV _ | exact hP _ | exact hT _ | exact ⟨by omega, by omega⟩) (by unfold hcb; first | exact decide_eq_true (by omega) | exact decide_eq_false (by omega)) (by decide) (pc' := 142) rfl ?_
                refine jr_aload_n R1 d_164_142 rfl ?_
                refine jr_callv R2 d_164_143 (by decide) rfl (as := [.ref 80]) (rest := []) rfl (by unfold mj_rc; rw [show (_ : List Value).headD _ = .ref 80 from rfl]; simp only [md_80 hC]; decide) (hm_fail (d := 1) (by omega) hC (Or.inl rfl)) (by omega) (Nat.le_of_ble_eq_true rfl) ?_
                rintro rv M9 ⟨rfl, rfl⟩
                rw [if_pos rfl]
                show J 0 0 (md C A U Z tc tp (((160 * i : Nat) : Int)) ((n : Int)) ((q83 : Int)) to83 (hpc b n k83) wo83 (((0 : Nat) : Int)) 1 (hpc b n k83)) 146 [(5, hv z83), (4, hv z80), (3, hv z78), (0, .ref 80), (1, hv ((i : Int))), (2, hv 0)] []
                refine jr_iload_n R1 d_164_146 rfl ?_
                refine jr_ifc R1 false d_164_147 (by first | assumption | exact hg _ | exact hS _ | exact hV _ | exact hP _ | exact hT _ | exact ⟨by omega, by omega⟩) (by unfold hcb; first | exact decide_eq_true (by omega) | exact decide_eq_false (by omega)) (by decide) (pc' := 150) rfl ?_
                refine jr_iload_n R1 d_164_150 rfl ?_
                refine jr_goto R1 d_164_151 (by decide) (pc' := 166) rfl ?_
                refine jr_reti R3 d_164_166 rfl ?_
                have hF : (hp_text b n).2 = hpc b n k83 := by
                  show (hp_need (hp_tk b n) (hpc b n) 302 (hp_part (hp_tk b n) (hpc b n) 3000 264 (hp_part (hp_tk b n) (hpc b n) 3000 263 (hp_part (hp_tk b n) (hpc b n) 3000 262 (0, -1))))).2 = _
                  rw [hE78, hE80, hE83, hx_nd2 (s := (k83, -1)) rfl (fun z => absurd ((mt_end hm83).mpr z) (by assumption))]
                rw [hF]
                exact mrd_ok hn9 hm83 (hpc_bd hn9 k83) (fun _ => rfl) (by rw [if_neg hpc_ne])
            · skip
              refine jr_callv R2 d_164_123 (by decide) rfl (as := [.ref 80, hv 0]) (rest := []) rfl (by unfold mj_rc; rw [show (_ : List Value).headD _ = .ref 80 from rfl]; simp only [md_80 hC]; decide) hc83 (by omega) (Nat.le_of_ble_eq_true rfl) ?_
              rintro rv M9 ⟨⟨z83, hz83, rfl⟩, q83, to83, wo83, fa83, hmx, hfa83, hfx, rfl⟩
              have hfe83 : f83 ≠ -1 → fa83 = f83 := hfx
              have hm83 : mt b n k83 q83 to83 wo83 := hmx
              have hto83 := hm83.2.2.1
              rw [if_neg hf83]
              show J 0 0 (md C A U Z tc tp (((160 * i : Nat) : Int)) ((n : Int)) ((q83 : Int)) to83 (hpc b n k83) wo83 (((0 : Nat) : Int)) 1 fa83) 126 [(4, hv z80), (3, hv z78), (0, .ref 80), (1, hv ((i : Int))), (2, hv 0)] [hv z83]
              refine jr_istore R1 d_164_126 (by decide) (lo' := [(5, hv z83), (4, hv z80), (3, hv z78), (0, .ref 80), (1, hv ((i : Int))), (2, hv 0)]) rfl ?_
              refine jr_aload_n R1 d_164_128 rfl ?_
              refine jr_getf R1 d_164_129 (md_80 hC) (by decide) rfl ?_
              refine jr_ifc R1 true d_164_132 (by first | assumption | exact hg _ | exact hS _ | exact hV _ | exact hP _ | exact hT _ | exact ⟨by omega, by omega⟩) (by unfold hcb; first | exact decide_eq_true (by omega) | exact decide_eq_false (by omega)) (by decide) (pc' := 146) rfl ?_
              refine jr_iload_n R1 d_164_146 rfl ?_
              refine jr_ifc R1 false d_164_147 (by first | assumption | exact hg _ | exact hS _ | exact hV _ | exact hP _ | exact hT _ | exact ⟨by omega, by omega⟩) (by unfold hcb; first | exact decide_eq_true (by omega) | exact decide_eq_false (by omega)) (by decide) (pc' := 150) rfl ?_
              refine jr_iload_n R1 d_164_150 rfl ?_
              refine jr_goto R1 d_164_151 (by decide) (pc' := 166) rfl ?_
              refine jr_reti R3 d_164_166 rfl ?_
              have hF : (hp_text b n).2 = f83 := by
                show (hp_need (hp_tk b n) (hpc b n) 302 (hp_part (hp_tk b n) (hpc b n) 3000 264 (hp_part (hp_tk b n) (hpc b n) 3000 263 (hp_part (hp_tk b n) (hpc b n) 3000 262 (0, -1))))).2 = _
                rw [hE78, hE80, hE83, hp_need_f hf83]
              rw [hF]
              exact mrd_ok hn9 hm83 hfa83 (fun _ => hfe83 hf83) (by rw [if_neg hf83])
        · skip
          refine jr_callv R2 d_164_89 (by decide) rfl (as := [.ref 80, hv 1]) (rest := []) rfl (by unfold mj_rc; rw [show (_ : List Value).headD _ = .ref 80 from rfl]; simp only [md_80 hC]; decide) hc80 (by omega) (Nat.le_of_ble_eq_true rfl) ?_
          rintro rv M9 ⟨⟨z80, hz80, rfl⟩, q80, to80, wo80, fa80, hmx, hfa80, hfx, rfl⟩
          have hfe80 : f80 ≠ -1 → fa80 = f80 := hfx
          have hm80 : mt b n k80 q80 to80 wo80 := hmx
          have hto80 := hm80.2.2.1
          rw [if_neg hf80]
          show J 0 0 (md C A U Z tc tp (((160 * i : Nat) : Int)) ((n : Int)) ((q80 : Int)) to80 (hpc b n k80) wo80 (((0 : Nat) : Int)) 1 fa80) 92 [(3, hv z78), (0, .ref 80), (1, hv ((i : Int))), (2, hv 0)] [hv z80]
          refine jr_istore R1 d_164_92 (by decide) (lo' := [(4, hv z80), (3, hv z78), (0, .ref 80), (1, hv ((i : Int))), (2, hv 0)]) rfl ?_
          refine jr_aload_n R1 d_164_94 rfl ?_
          refine jr_getf R1 d_164_95 (md_80 hC) (by decide) rfl ?_
          refine jr_ifc R1 false d_164_98 (by first | assumption | exact hg _ | exact hS _ | exact hV _ | exact hP _ | exact hT _ | exact ⟨by omega, by omega⟩) (by unfold hcb; first | exact decide_eq_true (by omega) | exact decide_eq_false (by omega)) (by decide) (pc' := 101) rfl ?_
          refine jr_iconst R1 d_164_101 ?_
          refine jr_goto R1 d_164_102 (by decide) (pc' := 126) rfl ?_
          refine jr_istore R1 d_164_126 (by decide) (lo' := [(5, hv 0), (4, hv z80), (3, hv z78), (0, .ref 80), (1, hv ((i : Int))), (2, hv 0)]) rfl ?_
          refine jr_aload_n R1 d_164_128 rfl ?_
          refine jr_getf R1 d_164_129 (md_80 hC) (by decide) rfl ?_
          refine jr_ifc R1 true d_164_132 (by first | assumption | exact hg _ | exact hS _ | exact hV _ | exact hP _ | exact hT _ | exact ⟨by omega, by omega⟩) (by unfold hcb; first | exact decide_eq_true (by omega) | exact decide_eq_false (by omega)) (by decide) (pc' := 146) rfl ?_
          refine jr_iload_n R1 d_164_146 rfl ?_
          refine jr_ifc R1 false d_164_147 (by first | assumption | exact hg _ | exact hS _ | exact hV _ | exact hP _ | exact hT _ | exact ⟨by omega, by omega⟩) (by unfold hcb; first | exact decide_eq_true (by omega) | exact decide_eq_false (by omega)) (by decide) (pc' := 150) rfl ?_
          refine jr_iload_n R1 d_164_150 rfl ?_
          refine jr_goto R1 d_164_151 (by decide) (pc' := 166) rfl ?_
          refine jr_reti R3 d_164_166 rfl ?_
          have hF : (hp_text b n).2 = f80 := by
            show (hp_need (hp_tk b n) (hpc b n) 302 (hp_part (hp_tk b n) (hpc b n) 3000 264 (hp_part (hp_tk b n) (hpc b n) 3000 263 (hp_part (hp_tk b n) (hpc b n) 3000 262 (0, -1))))).2 = _
            rw [hE78, hE80, hp_part_f (s := (k80, f80)) hf80, hp_need_f hf80]
          rw [hF]
          exact mrd_ok hn9 hm80 hfa80 (fun _ => hfe80 hf80) (by rw [if_neg hf80])
      · skip
        refine jr_callv R2 d_164_86 (by decide) rfl (as := [.ref 80, hv 108, hv 101, hv 97, hv 107, hv 115, hv 0, hv 0, hv 0]) (rest := [.ref 80]) rfl (by unfold mj_rc; rw [show (_ : List Value).headD _ = .ref 80 from rfl]; simp only [md_80 hC]; decide) (hm_isWord (d := 3) (p := hp_P b n k78) (by omega) hC hTx hg hb hfr hn9 hb0 (mt_pq hm78) (mt_qn hm78) (Or.inl rfl) hm78.2.2.1 ⟨by omega, by omega⟩ ⟨by omega, by omega⟩ ⟨by omega, by omega⟩ ⟨by omega, by omega⟩ ⟨by omega, by omega⟩ ⟨by omega, by omega⟩ ⟨by omega, by omega⟩ ⟨by omega, by omega⟩) (by omega) (Nat.le_of_ble_eq_true rfl) ?_
        rintro rv M9 ⟨rfl, rfl⟩
        rw [if_neg (fun z => hw79_7 ((mv_7 hm78).mp z.2))]
        show J 0 0 (md C A U Z tc tp (((160 * i : Nat) : Int)) ((n : Int)) ((q78 : Int)) to78 (hpc b n k78) wo78 (((0 : Nat) : Int)) 0 fa78) 89 [(3, hv z78), (0, .ref 80), (1, hv ((i : Int))), (2, hv 0)] [hv 0, .ref 80]
        obtain ⟨k84, f84, hE84⟩ : ∃ k f, hp_part (hp_tk b n) (hpc b n) 3000 263 (k78, -1) = (k, f) := ⟨_, _, rfl⟩
        have hc84 := mk_part_f (lch := lch) (d := 46) (A := A) (U := U) (Z := Z) (tc := tc) (tp := tp) (t := 263) (Nat.le_refl _) hC hTx hg hb hfr hn9 hb0 hpk78 hm78 hfa78 (by decide) (by decide) (by assumption)
        have hpk84 := mk_partok (b := b) (n := n) (t := 263) hn9 (by decide) hpk78
        rw [hE84] at hc84 hpk84
        by_cases hf84 : f84 = -1
        · skip
          subst hf84
          refine jr_callv R2 d_164_89 (by decide) rfl (as := [.ref 80, hv 0]) (rest := []) rfl (by unfold mj_rc; rw [show (_ : List Value).headD _ = .ref 80 from rfl]; simp only [md_80 hC]; decide) hc84 (by omega) (Nat.le_of_ble_eq_true rfl) ?_
          rintro rv M9 ⟨⟨z84, hz84, rfl⟩, q84, to84, wo84, fa84, hmx, hfa84, hfx, rfl⟩
          have hfe84 : (-1 : Int) ≠ -1 → fa84 = -1 := hfx
          have hm84 : mt b n k84 q84 to84 wo84 := hmx
          have hto84 := hm84.2.2.1
          rw [if_pos rfl]
          show J 0 0 (md C A U Z tc tp (((160 * i : Nat) : Int)) ((n : Int)) ((q84 : Int)) to84 (hpc b n k84) wo84 (((0 : Nat) : Int)) 0 fa84) 92 [(3, hv z78), (0, .ref 80), (1, hv ((i : Int))), (2, hv 0)] [hv z84]
          refine jr_istore R1 d_164_92 (by decide) (lo' := [(4, hv z84), (3, hv z78), (0, .ref 80), (1, hv ((i : Int))), (2, hv 0)]) rfl ?_
          refine jr_aload_n R1 d_164_94 rfl ?_
          refine jr_getf R1 d_164_95 (md_80 hC) (by decide) rfl ?_
          refine jr_ifc R1 true d_164_98 (by first | assumption | exact hg _ | exact hS _ | exact hV _ | exact hP _ | exact hT _ | exact ⟨by omega, by omega⟩) (by unfold hcb; first | exact decide_eq_true (by omega) | exact decide_eq_false (by omega)) (by decide) (pc' := 105) rfl ?_
          refine jr_aload_n R1 d_164_105 rfl ?_
          refine jr_aload_n R1 d_164_106 rfl ?_
          refine jr_bipush R1 d_164_107 (by decide) ?_
          refine jr_bipush R1 d_164_109 (by decide) ?_
          refine jr_bipush R1 d_164_111 (by decide) ?_
          refine jr_bipush R1 d_164_113 (by decide) ?_
          refine jr_bipush R1 d_164_115 (by decide) ?_
          refine jr_iconst R1 d_164_117 ?_
          refine jr_iconst R1 d_164_118 ?_
          refine jr_iconst R1 d_164_119 ?_
          by_cases hw85_8 : hp_tk b n k84 = 264
          · skip
            refine jr_callv R2 d_164_120 (by decide) rfl (as := [.ref 80, hv 109, hv 105, hv 110, hv 100, hv 115, hv 0, hv 0, hv 0]) (rest := [.ref 80]) rfl (by unfold mj_rc; rw [show (_ : List Value).headD _ = .ref 80 from rfl]; simp only [md_80 hC]; decide) (hm_isWord (d := 3) (p := hp_P b n k84) (by omega) hC hTx hg hb hfr hn9 hb0 (mt_pq hm84) (mt_qn hm84) (Or.inl rfl) hm84.2.2.1 ⟨by omega, by omega⟩ ⟨by omega, by omega⟩ ⟨by omega, by omega⟩ ⟨by omega, by omega⟩ ⟨by omega, by omega⟩ ⟨by omega, by omega⟩ ⟨by omega, by omega⟩ ⟨by omega, by omega⟩) (by omega) (Nat.le_of_ble_eq_true rfl) ?_
            rintro rv M9 ⟨rfl, rfl⟩
            rw [if_pos ⟨rfl, (mv_8 hm84).mpr hw85_8⟩]
            show J 0 0 (md C A U Z tc tp (((160 * i : Nat) : Int)) ((n : Int)) ((q84 : Int)) to84 (hpc b n k84) wo84 (((0 : Nat) : Int)) 0 fa84) 123 [(4, hv z84), (3, hv z78), (0, .ref 80), (1, hv ((i : Int))), (2, hv 0)] [hv 1, .ref 80]
            obtain ⟨k86, f86, hE86⟩ : ∃ k f, hp_part (hp_tk b n) (hpc b n) 3000 264 (k84, -1) = (k, f) := ⟨_, _, rfl⟩
            have hc86 := mk_part_t (lch := lch) (d := 46) (A := A) (U := U) (Z := Z) (tc := tc) (tp := tp) (t := 264) (Nat.le_refl _) hC hTx hg hb hfr hn9 hb0 hpk84 hm84 hfa84 (by decide) (by decide) (by assumption)
            have hpk86 := mk_partok (b := b) (n := n) (t := 264) hn9 (by decide) hpk84
            rw [hE86] at hc86 hpk86
            by_cases hf86 : f86 = -1
            · skip
              subst hf86
              refine jr_callv R2 d_164_123 (by decide) rfl (as := [.ref 80, hv 1]) (rest := []) rfl (by unfold mj_rc; rw [show (_ : List Value).headD _ = .ref 80 from rfl]; simp only [md_80 hC]; decide) hc86 (by omega) (Nat.le_of_ble_eq_true rfl) ?_
              rintro rv M9 ⟨⟨z86, hz86, rfl⟩, q86, to86, wo86, fa86, hmx, hfa86, hfx, rfl⟩
              have hfe86 : (-1 : Int) ≠ -1 → fa86 = -1 := hfx
              have hm86 : mt b n k86 q86 to86 wo86 := hmx
              have hto86 := hm86.2.2.1
              rw [if_pos rfl]
              show J 0 0 (md C A U Z tc tp (((160 * i : Nat) : Int)) ((n : Int)) ((q86 : Int)) to86 (hpc b n k86) wo86 (((0 : Nat) : Int)) 0 fa86) 126 [(4, hv z84), (3, hv z78), (0, .ref 80), (1, hv ((i : Int))), (2, hv 0)] [hv z86]
              refine jr_istore R1 d_164_126 (by decide) (lo' := [(5, hv z86), (4, hv z84), (3, hv z78), (0, .ref 80), (1, hv ((i : Int))), (2, hv 0)]) rfl ?_
              refine jr_aload_n R1 d_164_128 rfl ?_
              refine jr_getf R1 d_164_129 (md_80 hC) (by decide) rfl ?_
              refine jr_ifc R1 false d_164_132 (by first | assumption | exact hg _ | exact hS _ | exact hV _ | exact hP _ | exact hT _ | exact ⟨by omega, by omega⟩) (by unfold hcb; first | exact decide_eq_true (by omega) | exact decide_eq_false (by omega)) (by decide) (pc' := 135) rfl ?_
              refine jr_aload_n R1 d_164_135 rfl ?_
              refine jr_getf R1 d_164_136 (md_80 hC) (by decide) rfl ?_
              by_cases h7 : to86 = 0
              · refine jr_ifc R1 true d_164_139 (by first | assumption | exact hg _ | exact hS _ | exact hV _ | exact hP _ | exact hT _ | exact ⟨by omega, by omega⟩) (by unfold hcb; first | exact decide_eq_true (by omega) | exact decide_eq_false (by omega)) (by decide) (pc' := 146) rfl ?_
                refine jr_iload_n R1 d_164_146 rfl ?_
                refine jr_ifc R1 false d_164_147 (by first | assumption | exact hg _ | exact hS _ | exact hV _ | exact hP _ | exact hT _ | exact ⟨by omega, by omega⟩) (by unfold hcb; first | exact decide_eq_true (by omega) | exact decide_eq_false (by omega)) (by decide) (pc' := 150) rfl ?_
                refine jr_iload_n R1 d_164_150 rfl ?_
                refine jr_goto R1 d_164_151 (by decide) (pc' := 166) rfl ?_
                refine jr_reti R3 d_164_166 rfl ?_
                have hF : (hp_text b n).2 = -1 := by
                  show (hp_need (hp_tk b n) (hpc b n) 302 (hp_part (hp_tk b n) (hpc b n) 3000 264 (hp_part (hp_tk b n) (hpc b n) 3000 263 (hp_part (hp_tk b n) (hpc b n) 3000 262 (0, -1))))).2 = _
                  rw [hE78, hE84, hE86, hx_nd1 (s := (k86, -1)) rfl ((mt_end hm86).mp (by assumption))]
                rw [hF]
                exact mrd_ok hn9 hm86 hfa86 (fun z => absurd rfl z) (by rw [if_pos rfl])
              · refine jr_ifc R1 false d_164_139 (by first | assumption | exact hg _ | exact hS _ | exact hV _ | exact hP _ | exact hT _ | exact ⟨by omega, by omega⟩) (by unfold hcb; first | exact decide_eq_true (by omega) | exact decide_eq_false (by omega)) (by decide) (pc' := 142) rfl ?_
                refine jr_aload_n R1 d_164_142 rfl ?_
                refine jr_callv R2 d_164_143 (by decide) rfl (as := [.ref 80]) (rest := []) rfl (by unfold mj_rc; rw [show (_ : List Value).headD _ = .ref 80 from rfl]; simp only [md_80 hC]; decide) (hm_fail (d := 1) (by omega) hC (Or.inl rfl)) (by omega) (Nat.le_of_ble_eq_true rfl) ?_
                rintro rv M9 ⟨rfl, rfl⟩
                rw [if_pos rfl]
                show J 0 0 (md C A U Z tc tp (((160 * i : Nat) : Int)) ((n : Int)) ((q86 : Int)) to86 (hpc b n k86) wo86 (((0 : Nat) : Int)) 1 (hpc b n k86)) 146 [(5, hv z86), (4, hv z84), (3, hv z78), (0, .ref 80), (1, hv ((i : Int))), (2, hv 0)] []
                refine jr_iload_n R1 d_164_146 rfl ?_
                refine jr_ifc R1 false d_164_147 (by first | assumption | exact hg _ | exact hS _ | exact hV _ | exact hP _ | exact hT _ | exact ⟨by omega, by omega⟩) (by unfold hcb; first | exact decide_eq_true (by omega) | exact decide_eq_false (by omega)) (by decide) (pc' := 150) rfl ?_
                refine jr_iload_n R1 d_164_150 rfl ?_
                refine jr_goto R1 d_164_151 (by decide) (pc' := 166) rfl ?_
                refine jr_reti R3 d_164_166 rfl ?_
                have hF : (hp_text b n).2 = hpc b n k86 := by
                  show (hp_need (hp_tk b n) (hpc b n) 302 (hp_part (hp_tk b n) (hpc b n) 3000 264 (hp_part (hp_tk b n) (hpc b n) 3000 263 (hp_part (hp_tk b n) (hpc b n) 3000 262 (0, -1))))).2 = _
                  rw [hE78, hE84, hE86, hx_nd2 (s := (k86, -1)) rfl (fun z => absurd ((mt_end hm86).mpr z) (by assumption))]
                rw [hF]
                exact mrd_ok hn9 hm86 (hpc_bd hn9 k86) (fun _ => rfl) (by rw [if_neg hpc_ne])
            · skip
              refine jr_callv R2 d_164_123 (by decide) rfl (as := [.ref 80, hv 1]) (rest := []) rfl (by unfold mj_rc; rw [show (_ : List Value).headD _ = .ref 80 from rfl]; simp only [md_80 hC]; decide) hc86 (by omega) (Nat.le_of_ble_eq_true rfl) ?_
              rintro rv M9 ⟨⟨z86, hz86, rfl⟩, q86, to86, wo86, fa86, hmx, hfa86, hfx, rfl⟩
              have hfe86 : f86 ≠ -1 → fa86 = f86 := hfx
              have hm86 : mt b n k86 q86 to86 wo86 := hmx
              have hto86 := hm86.2.2.1
              rw [if_neg hf86]
              show J 0 0 (md C A U Z tc tp (((160 * i : Nat) : Int)) ((n : Int)) ((q86 : Int)) to86 (hpc b n k86) wo86 (((0 : Nat) : Int)) 1 fa86) 126 [(4, hv z84), (3, hv z78), (0, .ref 80), (1, hv ((i : Int))), (2, hv 0)] [hv z86]
              refine jr_istore R1 d_164_126 (by decide) (lo' := [(5, hv z86), (4, hv z84), (3, hv z78), (0, .ref 80), (1, hv ((i : Int))), (2, hv 0)]) rfl ?_
              refine jr_aload_n R1 d_164_128 rfl ?_
              refine jr_getf R1 d_164_129 (md_80 hC) (by decide) rfl ?_
              refine jr_ifc R1 true d_164_132 (by first | assumption | exact hg _ | exact hS _ | exact hV _ | exact hP _ | exact hT _ | exact ⟨by omega, by omega⟩) (by unfold hcb; first | exact decide_eq_true (by omega) | exact decide_eq_false (by omega)) (by decide) (pc' := 146) rfl ?_
              refine jr_iload_n R1 d_164_146 rfl ?_
              refine jr_ifc R1 false d_164_147 (by first | assumption | exact hg _ | exact hS _ | exact hV _ | exact hP _ | exact hT _ | exact ⟨by omega, by omega⟩) (by unfold hcb; first | exact decide_eq_true (by omega) | exact decide_eq_false (by omega)) (by decide) (pc' := 150) rfl ?_
              refine jr_iload_n R1 d_164_150 rfl ?_
              refine jr_goto R1 d_164_151 (by decide) (pc' := 166) rfl ?_
              refine jr_reti R3 d_164_166 rfl ?_
              have hF : (hp_text b n).2 = f86 := by
                show (hp_need (hp_tk b n) (hpc b n) 302 (hp_part (hp_tk b n) (hpc b n) 3000 264 (hp_part (hp_tk b n) (hpc b n) 3000 263 (hp_part (hp_tk b n) (hpc b n) 3000 262 (0, -1))))).2 = _
                rw [hE78, hE84, hE86, hp_need_f hf86]
              rw [hF]
              exact mrd_ok hn9 hm86 hfa86 (fun _ => hfe86 hf86) (by rw [if_neg hf86])
          · skip
            refine jr_callv R2 d_164_120 (by decide) rfl (as := [.ref 80, hv 109, hv 105, hv 110, hv 100, hv 115, hv 0, hv 0, hv 0]) (rest := [.ref 80]) rfl (by unfold mj_rc; rw [show (_ : List Value).headD _ = .ref 80 from rfl]; simp only [md_80 hC]; decide) (hm_isWord (d := 3) (p := hp_P b n k84) (by omega) hC hTx hg hb hfr hn9 hb0 (mt_pq hm84) (mt_qn hm84) (Or.inl rfl) hm84.2.2.1 ⟨by omega, by omega⟩ ⟨by omega, by omega⟩ ⟨by omega, by omega⟩ ⟨by omega, by omega⟩ ⟨by omega, by omega⟩ ⟨by omega, by omega⟩ ⟨by omega, by omega⟩ ⟨by omega, by omega⟩) (by omega) (Nat.le_of_ble_eq_true rfl) ?_
            rintro rv M9 ⟨rfl, rfl⟩
            rw [if_neg (fun z => hw85_8 ((mv_8 hm84).mp z.2))]
            show J 0 0 (md C A U Z tc tp (((160 * i : Nat) : Int)) ((n : Int)) ((q84 : Int)) to84 (hpc b n k84) wo84 (((0 : Nat) : Int)) 0 fa84) 123 [(4, hv z84), (3, hv z78), (0, .ref 80), (1, hv ((i : Int))), (2, hv 0)] [hv 0, .ref 80]
            obtain ⟨k87, f87, hE87⟩ : ∃ k f, hp_part (hp_tk b n) (hpc b n) 3000 264 (k84, -1) = (k, f) := ⟨_, _, rfl⟩
            have hc87 := mk_part_f (lch := lch) (d := 46) (A := A) (U := U) (Z := Z) (tc := tc) (tp := tp) (t := 264) (Nat.le_refl _) hC hTx hg hb hfr hn9 hb0 hpk84 hm84 hfa84 (by decide) (by decide) (by assumption)
            have hpk87 := mk_partok (b := b) (n := n) (t := 264) hn9 (by decide) hpk84
            rw [hE87] at hc87 hpk87
            by_cases hf87 : f87 = -1
            · skip
              subst hf87
              refine jr_callv R2 d_164_123 (by decide) rfl (as := [.ref 80, hv 0]) (rest := []) rfl (by unfold mj_rc; rw [show (_ : List Value).headD _ = .ref 80 from rfl]; simp only [md_80 hC]; decide) hc87 (by omega) (Nat.le_of_ble_eq_true rfl) ?_
              rintro rv M9 ⟨⟨z87, hz87, rfl⟩, q87, to87, wo87, fa87, hmx, hfa87, hfx, rfl⟩
              have hfe87 : (-1 : Int) ≠ -1 → fa87 = -1 := hfx
              have hm87 : mt b n k87 q87 to87 wo87 := hmx
              have hto87 := hm87.2.2.1
              rw [if_pos rfl]
              show J 0 0 (md C A U Z tc tp (((160 * i : Nat) : Int)) ((n : Int)) ((q87 : Int)) to87 (hpc b n k87) wo87 (((0 : Nat) : Int)) 0 fa87) 126 [(4, hv z84), (3, hv z78), (0, .ref 80), (1, hv ((i : Int))), (2, hv 0)] [hv z87]
              refine jr_istore R1 d_164_126 (by decide) (lo' := [(5, hv z87), (4, hv z84), (3, hv z78), (0, .ref 80), (1, hv ((i : Int))), (2, hv 0)]) rfl ?_
              refine jr_aload_n R1 d_164_128 rfl ?_
              refine jr_getf R1 d_164_129 (md_80 hC) (by decide) rfl ?_
              refine jr_ifc R1 false d_164_132 (by first | assumption | exact hg _ | exact hS _ | exact hV _ | exact hP _ | exact hT _ | exact ⟨by omega, by omega⟩) (by unfold hcb; first | exact decide_eq_true (by omega) | exact decide_eq_false (by omega)) (by decide) (pc' := 135) rfl ?_
              refine jr_aload_n R1 d_164_135 rfl ?_
              refine jr_getf R1 d_164_136 (md_80 hC) (by decide) rfl ?_
              by_cases h8 : to87 = 0
              · refine jr_ifc R1 true d_164_139 (by first | assumption | exact hg _ | exact hS _ | exact hV _ | exact hP _ | exact hT _ | exact ⟨by omega, by omega⟩) (by unfold hcb; first | exact decide_eq_true (by omega) | exact decide_eq_false (by omega)) (by decide) (pc' := 146) rfl ?_
                refine jr_iload_n R1 d_164_146 rfl ?_
                refine jr_ifc R1 false d_164_147 (by first | assumption | exact hg _ | exact hS _ | exact hV _ | exact hP _ | exact hT _ | exact ⟨by omega, by omega⟩) (by unfold hcb; first | exact decide_eq_true (by omega) | exact decide_eq_false (by omega)) (by decide) (pc' := 150) rfl ?_
                refine jr_iload_n R1 d_164_150 rfl ?_
                refine jr_goto R1 d_164_151 (by decide) (pc' := 166) rfl ?_
                refine jr_reti R3 d_164_166 rfl ?_
                have hF : (hp_text b n).2 = -1 := by
                  show (hp_need (hp_tk b n) (hpc b n) 302 (hp_part (hp_tk b n) (hpc b n) 3000 264 (hp_part (hp_tk b n) (hpc b n) 3000 263 (hp_part (hp_tk b n) (hpc b n) 3000 262 (0, -1))))).2 = _
                  rw [hE78, hE84, hE87, hx_nd1 (s := (k87, -1)) rfl ((mt_end hm87).mp (by assumption))]
                rw [hF]
                exact mrd_ok hn9 hm87 hfa87 (fun z => absurd rfl z) (by rw [if_pos rfl])
              · refine jr_ifc R1 false d_164_139 (by first | assumption | exact hg _ | exact hS _ | exact hV _ | exact hP _ | exact hT _ | exact ⟨by omega, by omega⟩) (by unfold hcb; first | exact decide_eq_true (by omega) | exact decide_eq_false (by omega)) (by decide) (pc' := 142) rfl ?_
                refine jr_aload_n R1 d_164_142 rfl ?_
                refine jr_callv R2 d_164_143 (by decide) rfl (as := [.ref 80]) (rest := []) rfl (by unfold mj_rc; rw [show (_ : List Value).headD _ = .ref 80 from rfl]; simp only [md_80 hC]; decide) (hm_fail (d := 1) (by omega) hC (Or.inl rfl)) (by omega) (Nat.le_of_ble_eq_true rfl) ?_
                rintro rv M9 ⟨rfl, rfl⟩
                rw [if_pos rfl]
                show J 0 0 (md C A U Z tc tp (((160 * i : Nat) : Int)) ((n : Int)) ((q87 : Int)) to87 (hpc b n k87) wo87 (((0 : Nat) : Int)) 1 (hpc b n k87)) 146 [(5, hv z87), (4, hv z84), (3, hv z78), (0, .ref 80), (1, hv ((i : Int))), (2, hv 0)] []
                refine jr_iload_n R1 d_164_146 rfl ?_
                refine jr_ifc R1 false d_164_147 (by first | assumption | exact hg _ | exact hS _ | exact hV _ | exact hP _ | exact hT _ | exact ⟨by omega, by omega⟩) (by unfold hcb; first | exact decide_eq_true (by omega) | exact decide_eq_false (by omega)) (by decide) (pc' := 150) rfl ?_
                refine jr_iload_n R1 d_164_150 rfl ?_
                refine jr_goto R1 d_164_151 (by decide) (pc' := 166) rfl ?_
                refine jr_reti R3 d_164_166 rfl ?_
                have hF : (hp_text b n).2 = hpc b n k87 := by
                  show (hp_need (hp_tk b n) (hpc b n) 302 (hp_part (hp_tk b n) (hpc b n) 3000 264 (hp_part (hp_tk b n) (hpc b n) 3000 263 (hp_part (hp_tk b n) (hpc b n) 3000 262 (0, -1))))).2 = _
                  rw [hE78, hE84, hE87, hx_nd2 (s := (k87, -1)) rfl (fun z => absurd ((mt_end hm87).mpr z) (by assumption))]
                rw [hF]
                exact mrd_ok hn9 hm87 (hpc_bd hn9 k87) (fun _ => rfl) (by rw [if_neg hpc_ne])
            · skip
              refine jr_callv R2 d_164_123 (by decide) rfl (as := [.ref 80, hv 0]) (rest := []) rfl (by unfold mj_rc; rw [show (_ : List Value).headD _ = .ref 80 from rfl]; simp only [md_80 hC]; decide) hc87 (by omega) (Nat.le_of_ble_eq_true rfl) ?_
              rintro rv M9 ⟨⟨z87, hz87, rfl⟩, q87, to87, wo87, fa87, hmx, hfa87, hfx, rfl⟩
              have hfe87 : f87 ≠ -1 → fa87 = f87 := hfx
              have hm87 : mt b n k87 q87 to87 wo87 := hmx
              have hto87 := hm87.2.2.1
              rw [if_neg hf87]
              show J 0 0 (md C A U Z tc tp (((160 * i : Nat) : Int)) ((n : Int)) ((q87 : Int)) to87 (hpc b n k87) wo87 (((0 : Nat) : Int)) 1 fa87) 126 [(4, hv z84), (3, hv z78), (0, .ref 80), (1, hv ((i : Int))), (2, hv 0)] [hv z87]
              refine jr_istore R1 d_164_126 (by decide) (lo' := [(5, hv z87), (4, hv z84), (3, hv z78), (0, .ref 80), (1, hv ((i : Int))), (2, hv 0)]) rfl ?_
              refine jr_aload_n R1 d_164_128 rfl ?_
              refine jr_getf R1 d_164_129 (md_80 hC) (by decide) rfl ?_
              refine jr_ifc R1 true d_164_132 (by first | assumption | exact hg _ | exact hS _ | exact hV _ | exact hP _ | exact hT _ | exact ⟨by omega, by omega⟩) (by unfold hcb; first | exact decide_eq_true (by omega) | exact decide_eq_false (by omega)) (by decide) (pc' := 146) rfl ?_
              refine jr_iload_n R1 d_164_146 rfl ?_
              refine jr_ifc R1 false d_164_147 (by first | assumption | exact hg _ | exact hS _ | exact hV _ | exact hP _ | exact hT _ | exact ⟨by omega, by omega⟩) (by unfold hcb; first | exact decide_eq_true (by omega) | exact decide_eq_false (by omega)) (by decide) (pc' := 150) rfl ?_
              refine jr_iload_n R1 d_164_150 rfl ?_
              refine jr_goto R1 d_164_151 (by decide) (pc' := 166) rfl ?_
              refine jr_reti R3 d_164_166 rfl ?_
              have hF : (hp_text b n).2 = f87 := by
                show (hp_need (hp_tk b n) (hpc b n) 302 (hp_part (hp_tk b n) (hpc b n) 3000 264 (hp_part (hp_tk b n) (hpc b n) 3000 263 (hp_part (hp_tk b n) (hpc b n) 3000 262 (0, -1))))).2 = _
                rw [hE78, hE84, hE87, hp_need_f hf87]
              rw [hF]
              exact mrd_ok hn9 hm87 hfa87 (fun _ => hfe87 hf87) (by rw [if_neg hf87])
        · skip
          refine jr_callv R2 d_164_89 (by decide) rfl (as := [.ref 80, hv 0]) (rest := []) rfl (by unfold mj_rc; rw [show (_ : List Value).headD _ = .ref 80 from rfl]; simp only [md_80 hC]; decide) hc84 (by omega) (Nat.le_of_ble_eq_true rfl) ?_
          rintro rv M9 ⟨⟨z84, hz84, rfl⟩, q84, to84, wo84, fa84, hmx, hfa84, hfx, rfl⟩
          have hfe84 : f84 ≠ -1 → fa84 = f84 := hfx
          have hm84 : mt b n k84 q84 to84 wo84 := hmx
          have hto84 := hm84.2.2.1
          rw [if_neg hf84]
          show J 0 0 (md C A U Z tc tp (((160 * i : Nat) : Int)) ((n : Int)) ((q84 : Int)) to84 (hpc b n k84) wo84 (((0 : Nat) : Int)) 1 fa84) 92 [(3, hv z78), (0, .ref 80), (1, hv ((i : Int))), (2, hv 0)] [hv z84]
          refine jr_istore R1 d_164_92 (by decide) (lo' := [(4, hv z84), (3, hv z78), (0, .ref 80), (1, hv ((i : Int))), (2, hv 0)]) rfl ?_
          refine jr_aload_n R1 d_164_94 rfl ?_
          refine jr_getf R1 d_164_95 (md_80 hC) (by decide) rfl ?_
          refine jr_ifc R1 false d_164_98 (by first | assumption | exact hg _ | exact hS _ | exact hV _ | exact hP _ | exact hT _ | exact ⟨by omega, by omega⟩) (by unfold hcb; first | exact decide_eq_true (by omega) | exact decide_eq_false (by omega)) (by decide) (pc' := 101) rfl ?_
          refine jr_iconst R1 d_164_101 ?_
          refine jr_goto R1 d_164_102 (by decide) (pc' := 126) rfl ?_
          refine jr_istore R1 d_164_126 (by decide) (lo' := [(5, hv 0), (4, hv z84), (3, hv z78), (0, .ref 80), (1, hv ((i : Int))), (2, hv 0)]) rfl ?_
          refine jr_aload_n R1 d_164_128 rfl ?_
          refine jr_getf R1 d_164_129 (md_80 hC) (by decide) rfl ?_
          refine jr_ifc R1 true d_164_132 (by first | assumption | exact hg _ | exact hS _ | exact hV _ | exact hP _ | exact hT _ | exact ⟨by omega, by omega⟩) (by unfold hcb; first | exact decide_eq_true (by omega) | exact decide_eq_false (by omega)) (by decide) (pc' := 146) rfl ?_
          refine jr_iload_n R1 d_164_146 rfl ?_
          refine jr_ifc R1 false d_164_147 (by first | assumption | exact hg _ | exact hS _ | exact hV _ | exact hP _ | exact hT _ | exact ⟨by omega, by omega⟩) (by unfold hcb; first | exact decide_eq_true (by omega) | exact decide_eq_false (by omega)) (by decide) (pc' := 150) rfl ?_
          refine jr_iload_n R1 d_164_150 rfl ?_
          refine jr_goto R1 d_164_151 (by decide) (pc' := 166) rfl ?_
          refine jr_reti R3 d_164_166 rfl ?_
          have hF : (hp_text b n).2 = f84 := by
            show (hp_need (hp_tk b n) (hpc b n) 302 (hp_part (hp_tk b n) (hpc b n) 3000 264 (hp_part (hp_tk b n) (hpc b n) 3000 263 (hp_part (hp_tk b n) (hpc b n) 3000 262 (0, -1))))).2 = _
            rw [hE78, hE84, hp_part_f (s := (k84, f84)) hf84, hp_need_f hf84]
          rw [hF]
          exact mrd_ok hn9 hm84 hfa84 (fun _ => hfe84 hf84) (by rw [if_neg hf84])
    · skip
      refine jr_callv R2 d_164_56 (by decide) rfl (as := [.ref 80, hv 0]) (rest := []) rfl (by unfold mj_rc; rw [show (_ : List Value).headD _ = .ref 80 from rfl]; simp only [md_80 hC]; decide) hc78 (by omega) (Nat.le_of_ble_eq_true rfl) ?_
      rintro rv M9 ⟨⟨z78, hz78, rfl⟩, q78, to78, wo78, fa78, hmx, hfa78, hfx, rfl⟩
      have hfe78 : f78 ≠ -1 → fa78 = f78 := hfx
      have hm78 : mt b n k78 q78 to78 wo78 := hmx
      have hto78 := hm78.2.2.1
      rw [if_neg hf78]
      show J 0 0 (md C A U Z tc tp (((160 * i : Nat) : Int)) ((n : Int)) ((q78 : Int)) to78 (hpc b n k78) wo78 (((0 : Nat) : Int)) 1 fa78) 59 [(0, .ref 80), (1, hv ((i : Int))), (2, hv 0)] [hv z78]
      refine jr_istore_n R1 d_164_59 (by decide) (lo' := [(3, hv z78), (0, .ref 80), (1, hv ((i : Int))), (2, hv 0)]) rfl ?_
      refine jr_aload_n R1 d_164_60 rfl ?_
      refine jr_getf R1 d_164_61 (md_80 hC) (by decide) rfl ?_
      refine jr_ifc R1 false d_164_64 (by first | assumption | exact hg _ | exact hS _ | exact hV _ | exact hP _ | exact hT _ | exact ⟨by omega, by omega⟩) (by unfold hcb; first | exact decide_eq_true (by omega) | exact decide_eq_false (by omega)) (by decide) (pc' := 67) rfl ?_
      refine jr_iconst R1 d_164_67 ?_
      refine jr_goto R1 d_164_68 (by decide) (pc' := 92) rfl ?_
      refine jr_istore R1 d_164_92 (by decide) (lo' := [(4, hv 0), (3, hv z78), (0, .ref 80), (1, hv ((i : Int))), (2, hv 0)]) rfl ?_
      refine jr_aload_n R1 d_164_94 rfl ?_
      refine jr_getf R1 d_164_95 (md_80 hC) (by decide) rfl ?_
      refine jr_ifc R1 false d_164_98 (by first | assumption | exact hg _ | exact hS _ | exact hV _ | exact hP _ | exact hT _ | exact ⟨by omega, by omega⟩) (by unfold hcb; first | exact decide_eq_true (by omega) | exact decide_eq_false (by omega)) (by decide) (pc' := 101) rfl ?_
      refine jr_iconst R1 d_164_101 ?_
      refine jr_goto R1 d_164_102 (by decide) (pc' := 126) rfl ?_
      refine jr_istore R1 d_164_126 (by decide) (lo' := [(5, hv 0), (4, hv 0), (3, hv z78), (0, .ref 80), (1, hv ((i : Int))), (2, hv 0)]) rfl ?_
      refine jr_aload_n R1 d_164_128 rfl ?_
      refine jr_getf R1 d_164_129 (md_80 hC) (by decide) rfl ?_
      refine jr_ifc R1 true d_164_132 (by first | assumption | exact hg _ | exact hS _ | exact hV _ | exact hP _ | exact hT _ | exact ⟨by omega, by omega⟩) (by unfold hcb; first | exact decide_eq_true (by omega) | exact decide_eq_false (by omega)) (by decide) (pc' := 146) rfl ?_
      refine jr_iload_n R1 d_164_146 rfl ?_
      refine jr_ifc R1 false d_164_147 (by first | assumption | exact hg _ | exact hS _ | exact hV _ | exact hP _ | exact hT _ | exact ⟨by omega, by omega⟩) (by unfold hcb; first | exact decide_eq_true (by omega) | exact decide_eq_false (by omega)) (by decide) (pc' := 150) rfl ?_
      refine jr_iload_n R1 d_164_150 rfl ?_
      refine jr_goto R1 d_164_151 (by decide) (pc' := 166) rfl ?_
      refine jr_reti R3 d_164_166 rfl ?_
      have hF : (hp_text b n).2 = f78 := by
        show (hp_need (hp_tk b n) (hpc b n) 302 (hp_part (hp_tk b n) (hpc b n) 3000 264 (hp_part (hp_tk b n) (hpc b n) 3000 263 (hp_part (hp_tk b n) (hpc b n) 3000 262 (0, -1))))).2 = _
        rw [hE78, hp_part_f (s := (k78, f78)) hf78, hp_part_f (s := (k78, f78)) hf78, hp_need_f hf78]
      rw [hF]
      exact mrd_ok hn9 hm78 hfa78 (fun _ => hfe78 hf78) (by rw [if_neg hf78])
