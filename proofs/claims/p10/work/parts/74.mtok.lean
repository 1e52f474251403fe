/-! THE MODEL'S PARSER: opens, name -/
abbrev hpc (b : Nat → Int) (n : Nat) : Nat → Int := fun k => ((hp_P b n k : Nat) : Int)
theorem hpc_bd {b : Nat → Int} {n : Nat} (hn9 : n ≤ 160) (k : Nat) : 0 ≤ hpc b n k ∧ hpc b n k ≤ 160 := by
  have : hp_P b n k ≤ n := hp_P_le
  show 0 ≤ ((hp_P b n k : Nat) : Int) ∧ ((hp_P b n k : Nat) : Int) ≤ 160
  omega
theorem hpc_ne {b : Nat → Int} {n k : Nat} : hpc b n k ≠ -1 := by
  show ((hp_P b n k : Nat) : Int) ≠ -1
  omega
theorem hvs_any (z : Int) : ∃ z', hr z' ∧ some (hv z) = some (hv z') := by
  obtain ⟨z', h1, h2⟩ := hv_any z
  exact ⟨z', h1, by rw [h2]⟩
/-- what a part of the parser leaves -/
def mq (C : mj_M) (A : Nat → Value) (U : Nat → Int) (Z : List Value) (tc tp : Int) (fr n : Nat) (b : Nat → Int) (o : Nat) (s : hp_S) : Option Value → mj_M → Prop := fun rv M' => (∃ z, hr z ∧ rv = some (hv z)) ∧ ∃ (q : Nat) (to wo fa : Int), mt b n s.1 q to wo ∧ (0 ≤ fa ∧ fa ≤ 160) ∧ (s.2 ≠ -1 → fa = s.2) ∧ M' = md C A U Z tc tp (fr : Int) (n : Int) (q : Int) to (hpc b n s.1) wo (o : Int) (if s.2 = -1 then 0 else 1) fa
section MQ
variable {C : mj_M} {A : Nat → Value} {U : Nat → Int} {Z : List Value} {b : Nat → Int} {fr n : Nat} {tc tp : Int} {o q : Nat} {to wo fa : Int}
theorem mq_ok (s : hp_S) {z : Int} (hm : mt b n s.1 q to wo) (hfa : 0 ≤ fa ∧ fa ≤ 160) (h : s.2 = -1) : mq C A U Z tc tp fr n b o s (some (hv z)) (md C A U Z tc tp (fr : Int) (n : Int) (q : Int) to (hpc b n s.1) wo (o : Int) 0 fa) :=
  ⟨hvs_any z, q, to, wo, fa, hm, hfa, fun g => absurd h g, by rw [if_pos h]⟩
theorem mq_bad (s : hp_S) {z : Int} (hm : mt b n s.1 q to wo) (hfa : 0 ≤ fa ∧ fa ≤ 160) (h : s.2 ≠ -1) (he : fa = s.2) : mq C A U Z tc tp fr n b o s (some (hv z)) (md C A U Z tc tp (fr : Int) (n : Int) (q : Int) to (hpc b n s.1) wo (o : Int) 1 fa) :=
  ⟨hvs_any z, q, to, wo, fa, hm, hfa, fun _ => he, by rw [if_neg h]⟩
theorem mq_any (s : hp_S) {z : Int} (hm : mt b n s.1 q to wo) (hfa : 0 ≤ fa ∧ fa ≤ 160) (he : s.2 ≠ -1 → fa = s.2) : mq C A U Z tc tp fr n b o s (some (hv z)) (md C A U Z tc tp (fr : Int) (n : Int) (q : Int) to (hpc b n s.1) wo (o : Int) (if s.2 = -1 then 0 else 1) fa) :=
  ⟨hvs_any z, q, to, wo, fa, hm, hfa, he, rfl⟩
end MQ
/-- a level's contract: method i, mode m, depth D -/
def mg (lch : Launch) (C : mj_M) (A : Nat → Value) (U : Nat → Int) (Z : List Value) (tc tp : Int) (fr n : Nat) (b : Nat → Int) (N m i : Nat) : Prop := ∀ (d o k q : Nat) (to wo fa : Int), o ≤ 5 → k ≤ hp_T b n → mt b n k q to wo → (0 ≤ fa ∧ fa ≤ 160) → hp_fu (hp_T b n) m k ≤ N → 10 - m + 7 * (5 - o) ≤ d → mj_Me lch i d 0 0 [.ref 80] (md C A U Z tc tp (fr : Int) (n : Int) (q : Int) to (hpc b n k) wo (o : Int) 0 fa) (mq C A U Z tc tp fr n b o (hp_px (hp_tk b n) (hpc b n) N m o (k, -1)))
theorem mt_kT {b : Nat → Int} {n k : Nat} (hk : k ≤ hp_T b n) (h : hp_tk b n k ≠ 302) : k < hp_T b n := by
  by_cases e : k = hp_T b n
  · exact absurd (hp_tk_T (by omega)) h
  · omega
theorem hx_nd1 {tkf pcf : Nat → Int} {t : Int} {s : hp_S} (h1 : s.2 = -1) (h2 : tkf s.1 = t) : hp_need tkf pcf t s = (s.1 + 1, -1) := by
  unfold hp_need
  rw [if_neg (by omega), if_pos h2, h1]
theorem hx_nd2 {tkf pcf : Nat → Int} {t : Int} {s : hp_S} (h1 : s.2 = -1) (h2 : ¬ tkf s.1 = t) : hp_need tkf pcf t s = (s.1, pcf s.1) := by
  unfold hp_need
  rw [if_neg (by omega), if_neg h2]
theorem mt_okb {b : Nat → Int} {n m : Nat} {s s' : hp_S} (h : hp_ok (hpc b n) (hp_T b n) m s s') : s'.1 ≤ hp_T b n := h.2.1
theorem hpc_0 {b : Nat → Int} {n : Nat} : ∀ j, 0 ≤ hpc b n j := fun j => by
  show 0 ≤ ((hp_P b n j : Nat) : Int)
  omega
theorem mk_opens_t {lch : Launch} {d : Nat} {C : mj_M} {A : Nat → Value} {U : Nat → Int} {Z : List Value} {g b : Nat → Int} {fr n : Nat} {tc tp : Int} {o k q : Nat} {to wo fa : Int} (hd : 3 ≤ d) (hC : 84 ≤ C.length) (hTx : C[81]? = some (hA 0 960 g)) (hg : ∀ j, hr (b j)) (hb : ∀ j, j < n → b j = g (fr + j)) (hfr : fr + n ≤ 960) (hn9 : n ≤ 160) (hb0 : ∀ j, j < n → 0 ≤ b j ∧ b j ≤ 255) (hm : mt b n k q to wo) (h303 : hp_tk b n k ≠ 303) (ho : o < 5) : mj_Me lch 158 d 0 0 [.ref 80] (md C A U Z tc tp ((fr : Int)) ((n : Int)) ((q : Int)) to (hpc b n k) wo ((o : Int)) 0 fa) (fun rv M' => rv = some (hv 1) ∧ ∃ (q' : Nat) (to' wo' : Int), mt b n (k + 1) q' to' wo' ∧ M' = md C A U Z tc tp (fr : Int) (n : Int) (q' : Int) to' (hpc b n (k + 1)) wo' ((o : Int) + 1) 0 fa) := by
  refine mj_Me_of (by decide) (by omega) (Nat.le_of_ble_eq_true rfl) ?_
  intro L xs J R1 R2 R3
  show J 0 0 (md C A U Z tc tp ((fr : Int)) ((n : Int)) ((q : Int)) to (hpc b n k) wo ((o : Int)) 0 fa) 0 [(0, .ref 80)] []
  refine jr_aload_n R1 d_158_0 rfl ?_
  refine jr_getf R1 d_158_1 (md_80 hC) (by decide) rfl ?_
  refine jr_iconst R1 d_158_4 ?_
  refine jr_icmp R1 true d_158_5 (by first | assumption | exact hg _ | exact hS _ | exact hV _ | exact hP _ | exact hT _ | exact ⟨by omega, by omega⟩) (by first | assumption | exact hg _ | exact hS _ | exact hV _ | exact hP _ | exact hT _ | exact ⟨by omega, by omega⟩) (by unfold hcb; first | exact decide_eq_true (by omega) | exact decide_eq_false (by omega)) (by decide) (pc' := 14) rfl ?_
  refine jr_aload_n R1 d_158_14 rfl ?_
  refine jr_dup_r R1 d_158_15 ?_
  refine jr_getf R1 d_158_16 (md_80 hC) (by decide) rfl ?_
  refine jr_iconst R1 d_158_19 ?_
  refine jr_iadd R1 d_158_20 ?_
  refine jr_putf R1 d_158_21 (md_80 hC) (by decide) (md_pl (by decide)) rfl rfl (M' := md C A U Z tc tp ((fr : Int)) ((n : Int)) ((q : Int)) to (hpc b n k) wo ((o : Int) + 1) 0 fa) md_p ?_
  refine jr_aload_n R1 d_158_24 rfl ?_
  refine jr_callv R2 d_158_25 (by decide) rfl (as := [.ref 80]) (rest := []) rfl (by unfold mj_rc; rw [show (_ : List Value).headD _ = .ref 80 from rfl]; simp only [md_80 hC]; decide) (hm_next (d := 2) (x := q) (p := hp_P b n (k + 1)) (by omega) hC hTx hg hb hfr hn9 hb0 (mt_qn hm) (mt_nx hm (by omega)) hm.2.2.2) (by omega) (Nat.le_of_ble_eq_true rfl) ?_
  rintro rv M9 ⟨rfl, he9, to1, wo1, hmp9, hbd9, rfl⟩
  obtain ⟨q1, rfl⟩ := mbd_q hbd9
  have hm1 : mt b n (k + 1) q1 to1 wo1 := ⟨hmp9, hbd9⟩
  show J 0 0 (md C A U Z tc tp ((fr : Int)) ((n : Int)) ((q1 : Int)) to1 (hpc b n (k + 1)) wo1 ((o : Int) + 1) 0 fa) 28 [(0, .ref 80)] []
  refine jr_iconst R1 d_158_28 ?_
  refine jr_retb R3 d_158_29 rfl (by first | exact Or.inl rfl | exact Or.inr rfl | omega) ?_
  exact ⟨rfl, _, _, _, hm1, rfl⟩
theorem mk_opens_f {lch : Launch} {d : Nat} {C : mj_M} {A : Nat → Value} {U : Nat → Int} {Z : List Value} {g b : Nat → Int} {fr n : Nat} {tc tp : Int} {o k q : Nat} {to wo fa : Int} (hd : 3 ≤ d) (hC : 84 ≤ C.length) (hTx : C[81]? = some (hA 0 960 g)) (hg : ∀ j, hr (b j)) (hb : ∀ j, j < n → b j = g (fr + j)) (hfr : fr + n ≤ 960) (hn9 : n ≤ 160) (hb0 : ∀ j, j < n → 0 ≤ b j ∧ b j ≤ 255) (hm : mt b n k q to wo) (ho : o = 5) : mj_Me lch 158 d 0 0 [.ref 80] (md C A U Z tc tp ((fr : Int)) ((n : Int)) ((q : Int)) to (hpc b n k) wo ((o : Int)) 0 fa) (fun rv M' => rv = some (hv 0) ∧ M' = md C A U Z tc tp ((fr : Int)) ((n : Int)) ((q : Int)) to (hpc b n k) wo ((o : Int)) 1 (hpc b n k)) := by
  refine mj_Me_of (by decide) (by omega) (Nat.le_of_ble_eq_true rfl) ?_
  intro L xs J R1 R2 R3
  show J 0 0 (md C A U Z tc tp ((fr : Int)) ((n : Int)) ((q : Int)) to (hpc b n k) wo ((o : Int)) 0 fa) 0 [(0, .ref 80)] []
  refine jr_aload_n R1 d_158_0 rfl ?_
  refine jr_getf R1 d_158_1 (md_80 hC) (by decide) rfl ?_
  refine jr_iconst R1 d_158_4 ?_
  refine jr_icmp R1 false d_158_5 (by first | assumption | exact hg _ | exact hS _ | exact hV _ | exact hP _ | exact hT _ | exact ⟨by omega, by omega⟩) (by first | assumption | exact hg _ | exact hS _ | exact hV _ | exact hP _ | exact hT _ | exact ⟨by omega, by omega⟩) (by unfold hcb; first | exact decide_eq_true (by omega) | exact decide_eq_false (by omega)) (by decide) (pc' := 8) rfl ?_
  refine jr_aload_n R1 d_158_8 rfl ?_
  refine jr_callv R2 d_158_9 (by decide) rfl (as := [.ref 80]) (rest := []) rfl (by unfold mj_rc; rw [show (_ : List Value).headD _ = .ref 80 from rfl]; simp only [md_80 hC]; decide) (hm_fail (d := 1) (by omega) hC (Or.inl rfl)) (by omega) (Nat.le_of_ble_eq_true rfl) ?_
  rintro rv M9 ⟨rfl, rfl⟩
  rw [if_pos rfl]
  show J 0 0 (md C A U Z tc tp ((fr : Int)) ((n : Int)) ((q : Int)) to (hpc b n k) wo ((o : Int)) 1 (hpc b n k)) 12 [(0, .ref 80)] []
  refine jr_iconst R1 d_158_12 ?_
  refine jr_retb R3 d_158_13 rfl (by first | exact Or.inl rfl | exact Or.inr rfl | omega) ?_
  exact ⟨rfl, rfl⟩
theorem mk_name_t {lch : Launch} {d : Nat} {C : mj_M} {A : Nat → Value} {U : Nat → Int} {Z : List Value} {g b : Nat → Int} {fr n : Nat} {tc tp : Int} {o k q : Nat} {to wo fa : Int} (hd : 4 ≤ d) (hC : 84 ≤ C.length) (hTx : C[81]? = some (hA 0 960 g)) (hg : ∀ j, hr (b j)) (hb : ∀ j, j < n → b j = g (fr + j)) (hfr : fr + n ≤ 960) (hn9 : n ≤ 160) (hb0 : ∀ j, j < n → 0 ≤ b j ∧ b j ≤ 255) (hm : mt b n k q to wo) (hto1 : to = 1) (h3 : hp_tk b n k = 300) : mj_Me lch 152 d 0 0 [.ref 80] (md C A U Z tc tp ((fr : Int)) ((n : Int)) ((q : Int)) to (hpc b n k) wo ((o : Int)) 0 fa) (fun rv M' => (∃ z, hr z ∧ rv = some (hv z)) ∧ M' = md C A U Z tc tp ((fr : Int)) ((n : Int)) ((q : Int)) to (hpc b n k) wo ((o : Int)) 0 fa) := by
  refine mj_Me_of (by decide) (by omega) (Nat.le_of_ble_eq_true rfl) ?_
  intro L xs J R1 R2 R3
  show J 0 0 (md C A U Z tc tp ((fr : Int)) ((n : Int)) ((q : Int)) to (hpc b n k) wo ((o : Int)) 0 fa) 0 [(0, .ref 80)] []
  refine jr_aload_n R1 d_152_0 rfl ?_
  refine jr_bipush R1 d_152_1 (by decide) ?_
  refine jr_bipush R1 d_152_3 (by decide) ?_
  refine jr_bipush R1 d_152_5 (by decide) ?_
  refine jr_bipush R1 d_152_7 (by decide) ?_
  refine jr_iconst R1 d_152_9 ?_
  refine jr_iconst R1 d_152_10 ?_
  refine jr_iconst R1 d_152_11 ?_
  refine jr_iconst R1 d_152_12 ?_
  by_cases hw2_0 : hp_wd b (hp_P b n k) q = 0
  · skip
    refine jr_callv R2 d_152_13 (by decide) rfl (as := [.ref 80, hv 115, hv 105, hv 122, hv 101, hv 0, hv 0, hv 0, hv 0]) (rest := []) rfl (by unfold mj_rc; rw [show (_ : List Value).headD _ = .ref 80 from rfl]; simp only [md_80 hC]; decide) (hm_isWord (d := 3) (p := hp_P b n k) (by omega) hC hTx hg hb hfr hn9 hb0 (mt_pq hm) (mt_qn hm) (Or.inl rfl) hm.2.2.1 ⟨by omega, by omega⟩ ⟨by omega, by omega⟩ ⟨by omega, by omega⟩ ⟨by omega, by omega⟩ ⟨by omega, by omega⟩ ⟨by omega, by omega⟩ ⟨by omega, by omega⟩ ⟨by omega, by omega⟩) (by omega) (Nat.le_of_ble_eq_true rfl) ?_
    rintro rv M9 ⟨rfl, rfl⟩
    rw [if_pos ⟨rfl, (mv_0 hm hto1).mpr hw2_0⟩]
    show J 0 0 (md C A U Z tc tp ((fr : Int)) ((n : Int)) ((q : Int)) to (hpc b n k) wo ((o : Int)) 0 fa) 16 [(0, .ref 80)] [hv 1]
    refine jr_ifc R1 false d_152_16 (by first | assumption | exact hg _ | exact hS _ | exact hV _ | exact hP _ | exact hT _ | exact ⟨by omega, by omega⟩) (by unfold hcb; first | exact decide_eq_true (by omega) | exact decide_eq_false (by omega)) (by decide) (pc' := 19) rfl ?_
    refine jr_aload_n R1 d_152_19 rfl ?_
    refine jr_getf R1 d_152_20 (md_80 hC) (by decide) rfl ?_
    refine jr_reti R3 d_152_23 rfl ?_
    exact ⟨hvs_any _, rfl⟩
  · skip
    refine jr_callv R2 d_152_13 (by decide) rfl (as := [.ref 80, hv 115, hv 105, hv 122, hv 101, hv 0, hv 0, hv 0, hv 0]) (rest := []) rfl (by unfold mj_rc; rw [show (_ : List Value).headD _ = .ref 80 from rfl]; simp only [md_80 hC]; decide) (hm_isWord (d := 3) (p := hp_P b n k) (by omega) hC hTx hg hb hfr hn9 hb0 (mt_pq hm) (mt_qn hm) (Or.inl rfl) hm.2.2.1 ⟨by omega, by omega⟩ ⟨by omega, by omega⟩ ⟨by omega, by omega⟩ ⟨by omega, by omega⟩ ⟨by omega, by omega⟩ ⟨by omega, by omega⟩ ⟨by omega, by omega⟩ ⟨by omega, by omega⟩) (by omega) (Nat.le_of_ble_eq_true rfl) ?_
    rintro rv M9 ⟨rfl, rfl⟩
    rw [if_neg (fun z => hw2_0 ((mv_0 hm hto1).mp z.2))]
    show J 0 0 (md C A U Z tc tp ((fr : Int)) ((n : Int)) ((q : Int)) to (hpc b n k) wo ((o : Int)) 0 fa) 16 [(0, .ref 80)] [hv 0]
    refine jr_ifc R1 true d_152_16 (by first | assumption | exact hg _ | exact hS _ | exact hV _ | exact hP _ | exact hT _ | exact ⟨by omega, by omega⟩) (by unfold hcb; first | exact decide_eq_true (by omega) | exact decide_eq_false (by omega)) (by decide) (pc' := 24) rfl ?_
    refine jr_aload_n R1 d_152_24 rfl ?_
    refine jr_bipush R1 d_152_25 (by decide) ?_
    refine jr_bipush R1 d_152_27 (by decide) ?_
    refine jr_bipush R1 d_152_29 (by decide) ?_
    refine jr_bipush R1 d_152_31 (by decide) ?_
    refine jr_bipush R1 d_152_33 (by decide) ?_
    refine jr_iconst R1 d_152_35 ?_
    refine jr_iconst R1 d_152_36 ?_
    refine jr_iconst R1 d_152_37 ?_
    by_cases hw3_1 : hp_wd b (hp_P b n k) q = 1
    · skip
      refine jr_callv R2 d_152_38 (by decide) rfl (as := [.ref 80, hv 102, hv 108, hv 111, hv 111, hv 114, hv 0, hv 0, hv 0]) (rest := []) rfl (by unfold mj_rc; rw [show (_ : List Value).headD _ = .ref 80 from rfl]; simp only [md_80 hC]; decide) (hm_isWord (d := 3) (p := hp_P b n k) (by omega) hC hTx hg hb hfr hn9 hb0 (mt_pq hm) (mt_qn hm) (Or.inl rfl) hm.2.2.1 ⟨by omega, by omega⟩ ⟨by omega, by omega⟩ ⟨by omega, by omega⟩ ⟨by omega, by omega⟩ ⟨by omega, by omega⟩ ⟨by omega, by omega⟩ ⟨by omega, by omega⟩ ⟨by omega, by omega⟩) (by omega) (Nat.le_of_ble_eq_true rfl) ?_
      rintro rv M9 ⟨rfl, rfl⟩
      rw [if_pos ⟨rfl, (mv_1 hm hto1).mpr hw3_1⟩]
      show J 0 0 (md C A U Z tc tp ((fr : Int)) ((n : Int)) ((q : Int)) to (hpc b n k) wo ((o : Int)) 0 fa) 41 [(0, .ref 80)] [hv 1]
      refine jr_ifc R1 false d_152_41 (by first | assumption | exact hg _ | exact hS _ | exact hV _ | exact hP _ | exact hT _ | exact ⟨by omega, by omega⟩) (by unfold hcb; first | exact decide_eq_true (by omega) | exact decide_eq_false (by omega)) (by decide) (pc' := 44) rfl ?_
      refine jr_aload_n R1 d_152_44 rfl ?_
      refine jr_getf R1 d_152_45 (md_80 hC) (by decide) rfl ?_
      refine jr_reti R3 d_152_48 rfl ?_
      exact ⟨hvs_any _, rfl⟩
    · skip
      refine jr_callv R2 d_152_38 (by decide) rfl (as := [.ref 80, hv 102, hv 108, hv 111, hv 111, hv 114, hv 0, hv 0, hv 0]) (rest := []) rfl (by unfold mj_rc; rw [show (_ : List Value).headD _ = .ref 80 from rfl]; simp only [md_80 hC]; decide) (hm_isWord (d := 3) (p := hp_P b n k) (by omega) hC hTx hg hb hfr hn9 hb0 (mt_pq hm) (mt_qn hm) (Or.inl rfl) hm.2.2.1 ⟨by omega, by omega⟩ ⟨by omega, by omega⟩ ⟨by omega, by omega⟩ ⟨by omega, by omega⟩ ⟨by omega, by omega⟩ ⟨by omega, by omega⟩ ⟨by omega, by omega⟩ ⟨by omega, by omega⟩) (by omega) (Nat.le_of_ble_eq_true rfl) ?_
      rintro rv M9 ⟨rfl, rfl⟩
      rw [if_neg (fun z => hw3_1 ((mv_1 hm hto1).mp z.2))]
      show J 0 0 (md C A U Z tc tp ((fr : Int)) ((n : Int)) ((q : Int)) to (hpc b n k) wo ((o : Int)) 0 fa) 41 [(0, .ref 80)] [hv 0]
      refine jr_ifc R1 true d_152_41 (by first | assumption | exact hg _ | exact hS _ | exact hV _ | exact hP _ | exact hT _ | exact ⟨by omega, by omega⟩) (by unfold hcb; first | exact decide_eq_true (by omega) | exact decide_eq_false (by omega)) (by decide) (pc' := 49) rfl ?_
      refine jr_aload_n R1 d_152_49 rfl ?_
      refine jr_bipush R1 d_152_50 (by decide) ?_
      refine jr_bipush R1 d_152_52 (by decide) ?_
      refine jr_bipush R1 d_152_54 (by decide) ?_
      refine jr_bipush R1 d_152_56 (by decide) ?_
      refine jr_bipush R1 d_152_58 (by decide) ?_
      refine jr_iconst R1 d_152_60 ?_
      refine jr_iconst R1 d_152_61 ?_
      refine jr_iconst R1 d_152_62 ?_
      by_cases hw4_2 : hp_wd b (hp_P b n k) q = 2
      · skip
        refine jr_callv R2 d_152_63 (by decide) rfl (as := [.ref 80, hv 110, hv 105, hv 103, hv 104, hv 116, hv 0, hv 0, hv 0]) (rest := []) rfl (by unfold mj_rc; rw [show (_ : List Value).headD _ = .ref 80 from rfl]; simp only [md_80 hC]; decide) (hm_isWord (d := 3) (p := hp_P b n k) (by omega) hC hTx hg hb hfr hn9 hb0 (mt_pq hm) (mt_qn hm) (Or.inl rfl) hm.2.2.1 ⟨by omega, by omega⟩ ⟨by omega, by omega⟩ ⟨by omega, by omega⟩ ⟨by omega, by omega⟩ ⟨by omega, by omega⟩ ⟨by omega, by omega⟩ ⟨by omega, by omega⟩ ⟨by omega, by omega⟩) (by omega) (Nat.le_of_ble_eq_true rfl) ?_
        rintro rv M9 ⟨rfl, rfl⟩
        rw [if_pos ⟨rfl, (mv_2 hm hto1).mpr hw4_2⟩]
        show J 0 0 (md C A U Z tc tp ((fr : Int)) ((n : Int)) ((q : Int)) to (hpc b n k) wo ((o : Int)) 0 fa) 66 [(0, .ref 80)] [hv 1]
        refine jr_ifc R1 false d_152_66 (by first | assumption | exact hg _ | exact hS _ | exact hV _ | exact hP _ | exact hT _ | exact ⟨by omega, by omega⟩) (by unfold hcb; first | exact decide_eq_true (by omega) | exact decide_eq_false (by omega)) (by decide) (pc' := 69) rfl ?_
        refine jr_aload_n R1 d_152_69 rfl ?_
        refine jr_getf R1 d_152_70 (md_80 hC) (by decide) rfl ?_
        refine jr_reti R3 d_152_73 rfl ?_
        exact ⟨hvs_any _, rfl⟩
      · skip
        refine jr_callv R2 d_152_63 (by decide) rfl (as := [.ref 80, hv 110, hv 105, hv 103, hv 104, hv 116, hv 0, hv 0, hv 0]) (rest := []) rfl (by unfold mj_rc; rw [show (_ : List Value).headD _ = .ref 80 from rfl]; simp only [md_80 hC]; decide) (hm_isWord (d := 3) (p := hp_P b n k) (by omega) hC hTx hg hb hfr hn9 hb0 (mt_pq hm) (mt_qn hm) (Or.inl rfl) hm.2.2.1 ⟨by omega, by omega⟩ ⟨by omega, by omega⟩ ⟨by omega, by omega⟩ ⟨by omega, by omega⟩ ⟨by omega, by omega⟩ ⟨by omega, by omega⟩ ⟨by omega, by omega⟩ ⟨by omega, by omega⟩) (by omega) (Nat.le_of_ble_eq_true rfl) ?_
        rintro rv M9 ⟨rfl, rfl⟩
        rw [if_neg (fun z => hw4_2 ((mv_2 hm hto1).mp z.2))]
        show J 0 0 (md C A U Z tc tp ((fr : Int)) ((n : Int)) ((q : Int)) to (hpc b n k) wo ((o : Int)) 0 fa) 66 [(0, .ref 80)] [hv 0]
        refine jr_ifc R1 true d_152_66 (by first | assumption | exact hg _ | exact hS _ | exact hV _ | exact hP _ | exact hT _ | exact ⟨by omega, by omega⟩) (by unfold hcb; first | exact decide_eq_true (by omega) | exact decide_eq_false (by omega)) (by decide) (pc' := 74) rfl ?_
        refine jr_aload_n R1 d_152_74 rfl ?_
        refine jr_bipush R1 d_152_75 (by decide) ?_
        refine jr_bipush R1 d_152_77 (by decide) ?_
        refine jr_bipush R1 d_152_79 (by decide) ?_
        refine jr_bipush R1 d_152_81 (by decide) ?_
        refine jr_bipush R1 d_152_83 (by decide) ?_
        refine jr_bipush R1 d_152_85 (by decide) ?_
        refine jr_iconst R1 d_152_87 ?_
        refine jr_iconst R1 d_152_88 ?_
        by_cases hw5_3 : hp_wd b (hp_P b n k) q = 3
        · skip
          refine jr_callv R2 d_152_89 (by decide) rfl (as := [.ref 80, hv 110, hv 117, hv 109, hv 98, hv 101, hv 114, hv 0, hv 0]) (rest := []) rfl (by unfold mj_rc; rw [show (_ : List Value).headD _ = .ref 80 from rfl]; simp only [md_80 hC]; decide) (hm_isWord (d := 3) (p := hp_P b n k) (by omega) hC hTx hg hb hfr hn9 hb0 (mt_pq hm) (mt_qn hm) (Or.inl rfl) hm.2.2.1 ⟨by omega, by omega⟩ ⟨by omega, by omega⟩ ⟨by omega, by omega⟩ ⟨by omega, by omega⟩ ⟨by omega, by omega⟩ ⟨by omega, by omega⟩ ⟨by omega, by omega⟩ ⟨by omega, by omega⟩) (by omega) (Nat.le_of_ble_eq_true rfl) ?_
          rintro rv M9 ⟨rfl, rfl⟩
          rw [if_pos ⟨rfl, (mv_3 hm hto1).mpr hw5_3⟩]
          show J 0 0 (md C A U Z tc tp ((fr : Int)) ((n : Int)) ((q : Int)) to (hpc b n k) wo ((o : Int)) 0 fa) 92 [(0, .ref 80)] [hv 1]
          refine jr_ifc R1 false d_152_92 (by first | assumption | exact hg _ | exact hS _ | exact hV _ | exact hP _ | exact hT _ | exact ⟨by omega, by omega⟩) (by unfold hcb; first | exact decide_eq_true (by omega) | exact decide_eq_false (by omega)) (by decide) (pc' := 95) rfl ?_
          refine jr_aload_n R1 d_152_95 rfl ?_
          refine jr_getf R1 d_152_96 (md_80 hC) (by decide) rfl ?_
          refine jr_reti R3 d_152_99 rfl ?_
          exact ⟨hvs_any _, rfl⟩
        · skip
          refine jr_callv R2 d_152_89 (by decide) rfl (as := [.ref 80, hv 110, hv 117, hv 109, hv 98, hv 101, hv 114, hv 0, hv 0]) (rest := []) rfl (by unfold mj_rc; rw [show (_ : List Value).headD _ = .ref 80 from rfl]; simp only [md_80 hC]; decide) (hm_isWord (d := 3) (p := hp_P b n k) (by omega) hC hTx hg hb hfr hn9 hb0 (mt_pq hm) (mt_qn hm) (Or.inl rfl) hm.2.2.1 ⟨by omega, by omega⟩ ⟨by omega, by omega⟩ ⟨by omega, by omega⟩ ⟨by omega, by omega⟩ ⟨by omega, by omega⟩ ⟨by omega, by omega⟩ ⟨by omega, by omega⟩ ⟨by omega, by omega⟩) (by omega) (Nat.le_of_ble_eq_true rfl) ?_
          rintro rv M9 ⟨rfl, rfl⟩
          rw [if_neg (fun z => hw5_3 ((mv_3 hm hto1).mp z.2))]
          show J 0 0 (md C A U Z tc tp ((fr : Int)) ((n : Int)) ((q : Int)) to (hpc b n k) wo ((o : Int)) 0 fa) 92 [(0, .ref 80)] [hv 0]
          refine jr_ifc R1 true d_152_92 (by first | assumption | exact hg _ | exact hS _ | exact hV _ | exact hP _ | exact hT _ | exact ⟨by omega, by omega⟩) (by unfold hcb; first | exact decide_eq_true (by omega) | exact decide_eq_false (by omega)) (by decide) (pc' := 100) rfl ?_
          refine jr_aload_n R1 d_152_100 rfl ?_
          refine jr_bipush R1 d_152_101 (by decide) ?_
          refine jr_bipush R1 d_152_103 (by decide) ?_
          refine jr_bipush R1 d_152_105 (by decide) ?_
          refine jr_bipush R1 d_152_107 (by decide) ?_
          refine jr_iconst R1 d_152_109 ?_
          refine jr_iconst R1 d_152_110 ?_
          refine jr_iconst R1 d_152_111 ?_
          refine jr_iconst R1 d_152_112 ?_
          by_cases hw6_4 : hp_wd b (hp_P b n k) q = 4
          · skip
            refine jr_callv R2 d_152_113 (by decide) rfl (as := [.ref 80, hv 111, hv 119, hv 101, hv 115, hv 0, hv 0, hv 0, hv 0]) (rest := []) rfl (by unfold mj_rc; rw [show (_ : List Value).headD _ = .ref 80 from rfl]; simp only [md_80 hC]; decide) (hm_isWord (d := 3) (p := hp_P b n k) (by omega) hC hTx hg hb hfr hn9 hb0 (mt_pq hm) (mt_qn hm) (Or.inl rfl) hm.2.2.1 ⟨by omega, by omega⟩ ⟨by omega, by omega⟩ ⟨by omega, by omega⟩ ⟨by omega, by omega⟩ ⟨by omega, by omega⟩ ⟨by omega, by omega⟩ ⟨by omega, by omega⟩ ⟨by omega, by omega⟩) (by omega) (Nat.le_of_ble_eq_true rfl) ?_
            rintro rv M9 ⟨rfl, rfl⟩
            rw [if_pos ⟨rfl, (mv_4 hm hto1).mpr hw6_4⟩]
            show J 0 0 (md C A U Z tc tp ((fr : Int)) ((n : Int)) ((q : Int)) to (hpc b n k) wo ((o : Int)) 0 fa) 116 [(0, .ref 80)] [hv 1]
            refine jr_ifc R1 false d_152_116 (by first | assumption | exact hg _ | exact hS _ | exact hV _ | exact hP _ | exact hT _ | exact ⟨by omega, by omega⟩) (by unfold hcb; first | exact decide_eq_true (by omega) | exact decide_eq_false (by omega)) (by decide) (pc' := 119) rfl ?_
            refine jr_aload_n R1 d_152_119 rfl ?_
            refine jr_getf R1 d_152_120 (md_80 hC) (by decide) rfl ?_
            refine jr_reti R3 d_152_123 rfl ?_
            exact ⟨hvs_any _, rfl⟩
          · skip
            refine jr_callv R2 d_152_113 (by decide) rfl (as := [.ref 80, hv 111, hv 119, hv 101, hv 115, hv 0, hv 0, hv 0, hv 0]) (rest := []) rfl (by unfold mj_rc; rw [show (_ : List Value).headD _ = .ref 80 from rfl]; simp only [md_80 hC]; decide) (hm_isWord (d := 3) (p := hp_P b n k) (by omega) hC hTx hg hb hfr hn9 hb0 (mt_pq hm) (mt_qn hm) (Or.inl rfl) hm.2.2.1 ⟨by omega, by omega⟩ ⟨by omega, by omega⟩ ⟨by omega, by omega⟩ ⟨by omega, by omega⟩ ⟨by omega, by omega⟩ ⟨by omega, by omega⟩ ⟨by omega, by omega⟩ ⟨by omega, by omega⟩) (by omega) (Nat.le_of_ble_eq_true rfl) ?_
            rintro rv M9 ⟨rfl, rfl⟩
            rw [if_neg (fun z => hw6_4 ((mv_4 hm hto1).mp z.2))]
            show J 0 0 (md C A U Z tc tp ((fr : Int)) ((n : Int)) ((q : Int)) to (hpc b n k) wo ((o : Int)) 0 fa) 116 [(0, .ref 80)] [hv 0]
            refine jr_ifc R1 true d_152_116 (by first | assumption | exact hg _ | exact hS _ | exact hV _ | exact hP _ | exact hT _ | exact ⟨by omega, by omega⟩) (by unfold hcb; first | exact decide_eq_true (by omega) | exact decide_eq_false (by omega)) (by decide) (pc' := 124) rfl ?_
            refine jr_aload_n R1 d_152_124 rfl ?_
            refine jr_bipush R1 d_152_125 (by decide) ?_
            refine jr_bipush R1 d_152_127 (by decide) ?_
            refine jr_bipush R1 d_152_129 (by decide) ?_
            refine jr_bipush R1 d_152_131 (by decide) ?_
            refine jr_bipush R1 d_152_133 (by decide) ?_
            refine jr_iconst R1 d_152_135 ?_
            refine jr_iconst R1 d_152_136 ?_
            refine jr_iconst R1 d_152_137 ?_
            by_cases hw7_5 : hp_wd b (hp_P b n k) q = 5
            · skip
              refine jr_callv R2 d_152_138 (by decide) rfl (as := [.ref 80, hv 115, hv 112, hv 97, hv 99, hv 101, hv 0, hv 0, hv 0]) (rest := []) rfl (by unfold mj_rc; rw [show (_ : List Value).headD _ = .ref 80 from rfl]; simp only [md_80 hC]; decide) (hm_isWord (d := 3) (p := hp_P b n k) (by omega) hC hTx hg hb hfr hn9 hb0 (mt_pq hm) (mt_qn hm) (Or.inl rfl) hm.2.2.1 ⟨by omega, by omega⟩ ⟨by omega, by omega⟩ ⟨by omega, by omega⟩ ⟨by omega, by omega⟩ ⟨by omega, by omega⟩ ⟨by omega, by omega⟩ ⟨by omega, by omega⟩ ⟨by omega, by omega⟩) (by omega) (Nat.le_of_ble_eq_true rfl) ?_
              rintro rv M9 ⟨rfl, rfl⟩
              rw [if_pos ⟨rfl, (mv_5 hm hto1).mpr hw7_5⟩]
              show J 0 0 (md C A U Z tc tp ((fr : Int)) ((n : Int)) ((q : Int)) to (hpc b n k) wo ((o : Int)) 0 fa) 141 [(0, .ref 80)] [hv 1]
              refine jr_ifc R1 false d_152_141 (by first | assumption | exact hg _ | exact hS _ | exact hV _ | exact hP _ | exact hT _ | exact ⟨by omega, by omega⟩) (by unfold hcb; first | exact decide_eq_true (by omega) | exact decide_eq_false (by omega)) (by decide) (pc' := 144) rfl ?_
              refine jr_aload_n R1 d_152_144 rfl ?_
              refine jr_getf R1 d_152_145 (md_80 hC) (by decide) rfl ?_
              refine jr_reti R3 d_152_148 rfl ?_
              exact ⟨hvs_any _, rfl⟩
            · skip
              refine jr_callv R2 d_152_138 (by decide) rfl (as := [.ref 80, hv 115, hv 112, hv 97, hv 99, hv 101, hv 0, hv 0, hv 0]) (rest := []) rfl (by unfold mj_rc; rw [show (_ : List Value).headD _ = .ref 80 from rfl]; simp only [md_80 hC]; decide) (hm_isWord (d := 3) (p := hp_P b n k) (by omega) hC hTx hg hb hfr hn9 hb0 (mt_pq hm) (mt_qn hm) (Or.inl rfl) hm.2.2.1 ⟨by omega, by omega⟩ ⟨by omega, by omega⟩ ⟨by omega, by omega⟩ ⟨by omega, by omega⟩ ⟨by omega, by omega⟩ ⟨by omega, by omega⟩ ⟨by omega, by omega⟩ ⟨by omega, by omega⟩) (by omega) (Nat.le_of_ble_eq_true rfl) ?_
              rintro rv M9 ⟨rfl, rfl⟩
              rw [if_neg (fun z => hw7_5 ((mv_5 hm hto1).mp z.2))]
              show J 0 0 (md C A U Z tc tp ((fr : Int)) ((n : Int)) ((q : Int)) to (hpc b n k) wo ((o : Int)) 0 fa) 141 [(0, .ref 80)] [hv 0]
              refine jr_ifc R1 true d_152_141 (by first | assumption | exact hg _ | exact hS _ | exact hV _ | exact hP _ | exact hT _ | exact ⟨by omega, by omega⟩) (by unfold hcb; first | exact decide_eq_true (by omega) | exact decide_eq_false (by omega)) (by decide) (pc' := 149) rfl ?_
              refine jr_aload_n R1 d_152_149 rfl ?_
              refine jr_callv R2 d_152_150 (by decide) rfl (as := [.ref 80]) (rest := []) rfl (by unfold mj_rc; rw [show (_ : List Value).headD _ = .ref 80 from rfl]; simp only [md_80 hC]; decide) (hm_fail (d := 1) (by omega) hC (Or.inl rfl)) (by omega) (Nat.le_of_ble_eq_true rfl) ?_
              rintro rv M9 ⟨rfl, rfl⟩
              rw [if_pos rfl]
              show J 0 0 (md C A U Z tc tp ((fr : Int)) ((n : Int)) ((q : Int)) to (hpc b n k) wo ((o : Int)) 1 (hpc b n k)) 153 [(0, .ref 80)] []
              refine jr_iconst R1 d_152_153 ?_
              refine jr_reti R3 d_152_154 rfl ?_
              exfalso
              have := (mt_300 hm hto1).mp h3
              omega
theorem mk_name_f {lch : Launch} {d : Nat} {C : mj_M} {A : Nat → Value} {U : Nat → Int} {Z : List Value} {g b : Nat → Int} {fr n : Nat} {tc tp : Int} {o k q : Nat} {to wo fa : Int} (hd : 4 ≤ d) (hC : 84 ≤ C.length) (hTx : C[81]? = some (hA 0 960 g)) (hg : ∀ j, hr (b j)) (hb : ∀ j, j < n → b j = g (fr + j)) (hfr : fr + n ≤ 960) (hn9 : n ≤ 160) (hb0 : ∀ j, j < n → 0 ≤ b j ∧ b j ≤ 255) (hm : mt b n k q to wo) (hto1 : to = 1) (h3 : ¬ hp_tk b n k = 300) : mj_Me lch 152 d 0 0 [.ref 80] (md C A U Z tc tp ((fr : Int)) ((n : Int)) ((q : Int)) to (hpc b n k) wo ((o : Int)) 0 fa) (fun rv M' => rv = some (hv 0) ∧ M' = md C A U Z tc tp ((fr : Int)) ((n : Int)) ((q : Int)) to (hpc b n k) wo ((o : Int)) 1 (hpc b n k)) := by
  refine mj_Me_of (by decide) (by omega) (Nat.le_of_ble_eq_true rfl) ?_
  intro L xs J R1 R2 R3
  show J 0 0 (md C A U Z tc tp ((fr : Int)) ((n : Int)) ((q : Int)) to (hpc b n k) wo ((o : Int)) 0 fa) 0 [(0, .ref 80)] []
  refine jr_aload_n R1 d_152_0 rfl ?_
  refine jr_bipush R1 d_152_1 (by decide) ?_
  refine jr_bipush R1 d_152_3 (by decide) ?_
  refine jr_bipush R1 d_152_5 (by decide) ?_
  refine jr_bipush R1 d_152_7 (by decide) ?_
  refine jr_iconst R1 d_152_9 ?_
  refine jr_iconst R1 d_152_10 ?_
  refine jr_iconst R1 d_152_11 ?_
  refine jr_iconst R1 d_152_12 ?_
  by_cases hw8_0 : hp_wd b (hp_P b n k) q = 0
  · skip
    refine jr_callv R2 d_152_13 (by decide) rfl (as := [.ref 80, hv 115, hv 105, hv 122, hv 101, hv 0, hv 0, hv 0, hv 0]) (rest := []) rfl (by unfold mj_rc; rw [show (_ : List Value).headD _ = .ref 80 from rfl]; simp only [md_80 hC]; decide) (hm_isWord (d := 3) (p := hp_P b n k) (by omega) hC hTx hg hb hfr hn9 hb0 (mt_pq hm) (mt_qn hm) (Or.inl rfl) hm.2.2.1 ⟨by omega, by omega⟩ ⟨by omega, by omega⟩ ⟨by omega, by omega⟩ ⟨by omega, by omega⟩ ⟨by omega, by omega⟩ ⟨by omega, by omega⟩ ⟨by omega, by omega⟩ ⟨by omega, by omega⟩) (by omega) (Nat.le_of_ble_eq_true rfl) ?_
    rintro rv M9 ⟨rfl, rfl⟩
    rw [if_pos ⟨rfl, (mv_0 hm hto1).mpr hw8_0⟩]
    show J 0 0 (md C A U Z tc tp ((fr : Int)) ((n : Int)) ((q : Int)) to (hpc b n k) wo ((o : Int)) 0 fa) 16 [(0, .ref 80)] [hv 1]
    refine jr_ifc R1 false d_152_16 (by first | assumption | exact hg _ | exact hS _ | exact hV _ | exact hP _ | exact hT _ | exact ⟨by omega, by omega⟩) (by unfold hcb; first | exact decide_eq_true (by omega) | exact decide_eq_false (by omega)) (by decide) (pc' := 19) rfl ?_
    refine jr_aload_n R1 d_152_19 rfl ?_
    refine jr_getf R1 d_152_20 (md_80 hC) (by decide) rfl ?_
    refine jr_reti R3 d_152_23 rfl ?_
    exact absurd ((mt_300 hm hto1).mpr (by omega)) h3
  · skip
    refine jr_callv R2 d_152_13 (by decide) rfl (as := [.ref 80, hv 115, hv 105, hv 122, hv 101, hv 0, hv 0, hv 0, hv 0]) (rest := []) rfl (by unfold mj_rc; rw [show (_ : List Value).headD _ = .ref 80 from rfl]; simp only [md_80 hC]; decide) (hm_isWord (d := 3) (p := hp_P b n k) (by omega) hC hTx hg hb hfr hn9 hb0 (mt_pq hm) (mt_qn hm) (Or.inl rfl) hm.2.2.1 ⟨by omega, by omega⟩ ⟨by omega, by omega⟩ ⟨by omega, by omega⟩ ⟨by omega, by omega⟩ ⟨by omega, by omega⟩ ⟨by omega, by omega⟩ ⟨by omega, by omega⟩ ⟨by omega, by omega⟩) (by omega) (Nat.le_of_ble_eq_true rfl) ?_
    rintro rv M9 ⟨rfl, rfl⟩
    rw [if_neg (fun z => hw8_0 ((mv_0 hm hto1).mp z.2))]
    show J 0 0 (md C A U Z tc tp ((fr : Int)) ((n : Int)) ((q : Int)) to (hpc b n k) wo ((o : Int)) 0 fa) 16 [(0, .ref 80)] [hv 0]
    refine jr_ifc R1 true d_152_16 (by first | assumption | exact hg _ | exact hS _ | exact hV _ | exact hP _ | exact hT _ | exact ⟨by omega, by omega⟩) (by unfold hcb; first | exact decide_eq_true (by omega) | exact decide_eq_false (by omega)) (by decide) (pc' := 24) rfl ?_
    refine jr_aload_n R1 d_152_24 rfl ?_
    refine jr_bipush R1 d_152_25 (by decide) ?_
    refine jr_bipush R1 d_152_27 (by decide) ?_
    refine jr_bipush R1 d_152_29 (by decide) ?_
    refine jr_bipush R1 d_152_31 (by decide) ?_
    refine jr_bipush R1 d_152_33 (by decide) ?_
    refine jr_iconst R1 d_152_35 ?_
    refine jr_iconst R1 d_152_36 ?_
    refine jr_iconst R1 d_152_37 ?_
    by_cases hw9_1 : hp_wd b (hp_P b n k) q = 1
    · skip
      refine jr_callv R2 d_152_38 (by decide) rfl (as := [.ref 80, hv 102, hv 108, hv 111, hv 111, hv 114, hv 0, hv 0, hv 0]) (rest := []) rfl (by unfold mj_rc; rw [show (_ : List Value).headD _ = .ref 80 from rfl]; simp only [md_80 hC]; decide) (hm_isWord (d := 3) (p := hp_P b n k) (by omega) hC hTx hg hb hfr hn9 hb0 (mt_pq hm) (mt_qn hm) (Or.inl rfl) hm.2.2.1 ⟨by omega, by omega⟩ ⟨by omega, by omega⟩ ⟨by omega, by omega⟩ ⟨by omega, by omega⟩ ⟨by omega, by omega⟩ ⟨by omega, by omega⟩ ⟨by omega, by omega⟩ ⟨by omega, by omega⟩) (by omega) (Nat.le_of_ble_eq_true rfl) ?_
      rintro rv M9 ⟨rfl, rfl⟩
      rw [if_pos ⟨rfl, (mv_1 hm hto1).mpr hw9_1⟩]
      show J 0 0 (md C A U Z tc tp ((fr : Int)) ((n : Int)) ((q : Int)) to (hpc b n k) wo ((o : Int)) 0 fa) 41 [(0, .ref 80)] [hv 1]
      refine jr_ifc R1 false d_152_41 (by first | assumption | exact hg _ | exact hS _ | exact hV _ | exact hP _ | exact hT _ | exact ⟨by omega, by omega⟩) (by unfold hcb; first | exact decide_eq_true (by omega) | exact decide_eq_false (by omega)) (by decide) (pc' := 44) rfl ?_
      refine jr_aload_n R1 d_152_44 rfl ?_
      refine jr_getf R1 d_152_45 (md_80 hC) (by decide) rfl ?_
      refine jr_reti R3 d_152_48 rfl ?_
      exact absurd ((mt_300 hm hto1).mpr (by omega)) h3
    · skip
      refine jr_callv R2 d_152_38 (by decide) rfl (as := [.ref 80, hv 102, hv 108, hv 111, hv 111, hv 114, hv 0, hv 0, hv 0]) (rest := []) rfl (by unfold mj_rc; rw [show (_ : List Value).headD _ = .ref 80 from rfl]; simp only [md_80 hC]; decide) (hm_isWord (d := 3) (p := hp_P b n k) (by omega) hC hTx hg hb hfr hn9 hb0 (mt_pq hm) (mt_qn hm) (Or.inl rfl) hm.2.2.1 ⟨by omega, by omega⟩ ⟨by omega, by omega⟩ ⟨by omega, by omega⟩ ⟨by omega, by omega⟩ ⟨by omega, by omega⟩ ⟨by omega, by omega⟩ ⟨by omega, by omega⟩ ⟨by omega, by omega⟩) (by omega) (Nat.le_of_ble_eq_true rfl) ?_
      rintro rv M9 ⟨rfl, rfl⟩
      rw [if_neg (fun z => hw9_1 ((mv_1 hm hto1).mp z.2))]
      show J 0 0 (md C A U Z tc tp ((fr : Int)) ((n : Int)) ((q : Int)) to (hpc b n k) wo ((o : Int)) 0 fa) 41 [(0, .ref 80)] [hv 0]
      refine jr_ifc R1 true d_152_41 (by first | assumption | exact hg _ | exact hS _ | exact hV _ | exact hP _ | exact hT _ | exact ⟨by omega, by omega⟩) (by unfold hcb; first | exact decide_eq_true (by omega) | exact decide_eq_false (by omega)) (by decide) (pc' := 49) rfl ?_
      refine jr_aload_n R1 d_152_49 rfl ?_
      refine jr_bipush R1 d_152_50 (by decide) ?_
      refine jr_bipush R1 d_152_52 (by decide) ?_
      refine jr_bipush R1 d_152_54 (by decide) ?_
      refine jr_bipush R1 d_152_56 (by decide) ?_
      refine jr_bipush R1 d_152_58 (by decide) ?_
      refine jr_iconst R1 d_152_60 ?_
      refine jr_iconst R1 d_152_61 ?_
      refine jr_iconst R1 d_152_62 ?_
      by_cases hw10_2 : hp_wd b (hp_P b n k) q = 2
      · skip
        refine jr_callv R2 d_152_63 (by decide) rfl (as := [.ref 80, hv 110, hv 105, hv 103, hv 104, hv 116, hv 0, hv 0, hv 0]) (rest := []) rfl (by unfold mj_rc; rw [show (_ : List Value).headD _ = .ref 80 from rfl]; simp only [md_80 hC]; decide) (hm_isWord (d := 3) (p := hp_P b n k) (by omega) hC hTx hg hb hfr hn9 hb0 (mt_pq hm) (mt_qn hm) (Or.inl rfl) hm.2.2.1 ⟨by omega, by omega⟩ ⟨by omega, by omega⟩ ⟨by omega, by omega⟩ ⟨by omega, by omega⟩ ⟨by omega, by omega⟩ ⟨by omega, by omega⟩ ⟨by omega, by omega⟩ ⟨by omega, by omega⟩) (by omega) (Nat.le_of_ble_eq_true rfl) ?_
        rintro rv M9 ⟨rfl, rfl⟩
        rw [if_pos ⟨rfl, (mv_2 hm hto1).mpr hw10_2⟩]
        show J 0 0 (md C A U Z tc tp ((fr : Int)) ((n : Int)) ((q : Int)) to (hpc b n k) wo ((o : Int)) 0 fa) 66 [(0, .ref 80)] [hv 1]
        refine jr_ifc R1 false d_152_66 (by first | assumption | exact hg _ | exact hS _ | exact hV _ | exact hP _ | exact hT _ | exact ⟨by omega, by omega⟩) (by unfold hcb; first | exact decide_eq_true (by omega) | exact decide_eq_false (by omega)) (by decide) (pc' := 69) rfl ?_
        refine jr_aload_n R1 d_152_69 rfl ?_
        refine jr_getf R1 d_152_70 (md_80 hC) (by decide) rfl ?_
        refine jr_reti R3 d_152_73 rfl ?_
        exact absurd ((mt_300 hm hto1).mpr (by omega)) h3
      · skip
        refine jr_callv R2 d_152_63 (by decide) rfl (as := [.ref 80, hv 110, hv 105, hv 103, hv 104, hv 116, hv 0, hv 0, hv 0]) (rest := []) rfl (by unfold mj_rc; rw [show (_ : List Value).headD _ = .ref 80 from rfl]; simp only [md_80 hC]; decide) (hm_isWord (d := 3) (p := hp_P b n k) (by omega) hC hTx hg hb hfr hn9 hb0 (mt_pq hm) (mt_qn hm) (Or.inl rfl) hm.2.2.1 ⟨by omega, by omega⟩ ⟨by omega, by omega⟩ ⟨by omega, by omega⟩ ⟨by omega, by omega⟩ ⟨by omega, by omega⟩ ⟨by omega, by omega⟩ ⟨by omega, by omega⟩ ⟨by omega, by omega⟩) (by omega) (Nat.le_of_ble_eq_true rfl) ?_
        rintro rv M9 ⟨rfl, rfl⟩
        rw [if_neg (fun z => hw10_2 ((mv_2 hm hto1).mp z.2))]
        show J 0 0 (md C A U Z tc tp ((fr : Int)) ((n : Int)) ((q : Int)) to (hpc b n k) wo ((o : Int)) 0 fa) 66 [(0, .ref 80)] [hv 0]
        refine jr_ifc R1 true d_152_66 (by first | assumption | exact hg _ | exact hS _ | exact hV _ | exact hP _ | exact hT _ | exact ⟨by omega, by omega⟩) (by unfold hcb; first | exact decide_eq_true (by omega) | exact decide_eq_false (by omega)) (by decide) (pc' := 74) rfl ?_
        refine jr_aload_n R1 d_152_74 rfl ?_
        refine jr_bipush R1 d_152_75 (by decide) ?_
        refine jr_bipush R1 d_152_77 (by decide) ?_
        refine jr_bipush R1 d_152_79 (by decide) ?_
        refine jr_bipush R1 d_152_81 (by decide) ?_
        refine jr_bipush R1 d_152_83 (by decide) ?_
        refine jr_bipush R1 d_152_85 (by decide) ?_
        refine jr_iconst R1 d_152_87 ?_
        refine jr_iconst R1 d_152_88 ?_
        by_cases hw11_3 : hp_wd b (hp_P b n k) q = 3
        · skip
          refine jr_callv R2 d_152_89 (by decide) rfl (as := [.ref 80, hv 110, hv 117, hv 109, hv 98, hv 101, hv 114, hv 0, hv 0]) (rest := []) rfl (by unfold mj_rc; rw [show (_ : List Value).headD _ = .ref 80 from rfl]; simp only [md_80 hC]; decide) (hm_isWord (d := 3) (p := hp_P b n k) (by omega) hC hTx hg hb hfr hn9 hb0 (mt_pq hm) (mt_qn hm) (Or.inl rfl) hm.2.2.1 ⟨by omega, by omega⟩ ⟨by omega, by omega⟩ ⟨by omega, by omega⟩ ⟨by omega, by omega⟩ ⟨by omega, by omega⟩ ⟨by omega, by omega⟩ ⟨by omega, by omega⟩ ⟨by omega, by omega⟩) (by omega) (Nat.le_of_ble_eq_true rfl) ?_
          rintro rv M9 ⟨rfl, rfl⟩
          rw [if_pos ⟨rfl, (mv_3 hm hto1).mpr hw11_3⟩]
          show J 0 0 (md C A U Z tc tp ((fr : Int)) ((n : Int)) ((q : Int)) to (hpc b n k) wo ((o : Int)) 0 fa) 92 [(0, .ref 80)] [hv 1]
          refine jr_ifc R1 false d_152_92 (by first | assumption | exact hg _ | exact hS _ | exact hV _ | exact hP _ | exact hT _ | exact ⟨by omega, by omega⟩) (by unfold hcb; first | exact decide_eq_true (by omega) | exact decide_eq_false (by omega)) (by decide) (pc' := 95) rfl ?_
          refine jr_aload_n R1 d_152_95 rfl ?_
          refine jr_getf R1 d_152_96 (md_80 hC) (by decide) rfl ?_
          refine jr_reti R3 d_152_99 rfl ?_
          exact absurd ((mt_300 hm hto1).mpr (by omega)) h3
        · skip
          refine jr_callv R2 d_152_89 (by decide) rfl (as := [.ref 80, hv 110, hv 117, hv 109, hv 98, hv 101, hv 114, hv 0, hv 0]) (rest := []) rfl (by unfold mj_rc; rw [show (_ : List Value).headD _ = .ref 80 from rfl]; simp only [md_80 hC]; decide) (hm_isWord (d := 3) (p := hp_P b n k) (by omega) hC hTx hg hb hfr hn9 hb0 (mt_pq hm) (mt_qn hm) (Or.inl rfl) hm.2.2.1 ⟨by omega, by omega⟩ ⟨by omega, by omega⟩ ⟨by omega, by omega⟩ ⟨by omega, by omega⟩ ⟨by omega, by omega⟩ ⟨by omega, by omega⟩ ⟨by omega, by omega⟩ ⟨by omega, by omega⟩) (by omega) (Nat.le_of_ble_eq_true rfl) ?_
          rintro rv M9 ⟨rfl, rfl⟩
          rw [if_neg (fun z => hw11_3 ((mv_3 hm hto1).mp z.2))]
          show J 0 0 (md C A U Z tc tp ((fr : Int)) ((n : Int)) ((q : Int)) to (hpc b n k) wo ((o : Int)) 0 fa) 92 [(0, .ref 80)] [hv 0]
          refine jr_ifc R1 true d_152_92 (by first | assumption | exact hg _ | exact hS _ | exact hV _ | exact hP _ | exact hT _ | exact ⟨by omega, by omega⟩) (by unfold hcb; first | exact decide_eq_true (by omega) | exact decide_eq_false (by omega)) (by decide) (pc' := 100) rfl ?_
          refine jr_aload_n R1 d_152_100 rfl ?_
          refine jr_bipush R1 d_152_101 (by decide) ?_
          refine jr_bipush R1 d_152_103 (by decide) ?_
          refine jr_bipush R1 d_152_105 (by decide) ?_
          refine jr_bipush R1 d_152_107 (by decide) ?_
          refine jr_iconst R1 d_152_109 ?_
          refine jr_iconst R1 d_152_110 ?_
          refine jr_iconst R1 d_152_111 ?_
          refine jr_iconst R1 d_152_112 ?_
          by_cases hw12_4 : hp_wd b (hp_P b n k) q = 4
          · skip
            refine jr_callv R2 d_152_113 (by decide) rfl (as := [.ref 80, hv 111, hv 119, hv 101, hv 115, hv 0, hv 0, hv 0, hv 0]) (rest := []) rfl (by unfold mj_rc; rw [show (_ : List Value).headD _ = .ref 80 from rfl]; simp only [md_80 hC]; decide) (hm_isWord (d := 3) (p := hp_P b n k) (by omega) hC hTx hg hb hfr hn9 hb0 (mt_pq hm) (mt_qn hm) (Or.inl rfl) hm.2.2.1 ⟨by omega, by omega⟩ ⟨by omega, by omega⟩ ⟨by omega, by omega⟩ ⟨by omega, by omega⟩ ⟨by omega, by omega⟩ ⟨by omega, by omega⟩ ⟨by omega, by omega⟩ ⟨by omega, by omega⟩) (by omega) (Nat.le_of_ble_eq_true rfl) ?_
            rintro rv M9 ⟨rfl, rfl⟩
            rw [if_pos ⟨rfl, (mv_4 hm hto1).mpr hw12_4⟩]
            show J 0 0 (md C A U Z tc tp ((fr : Int)) ((n : Int)) ((q : Int)) to (hpc b n k) wo ((o : Int)) 0 fa) 116 [(0, .ref 80)] [hv 1]
            refine jr_ifc R1 false d_152_116 (by first | assumption | exact hg _ | exact hS _ | exact hV _ | exact hP _ | exact hT _ | exact ⟨by omega, by omega⟩) (by unfold hcb; first | exact decide_eq_true (by omega) | exact decide_eq_false (by omega)) (by decide) (pc' := 119) rfl ?_
            refine jr_aload_n R1 d_152_119 rfl ?_
            refine jr_getf R1 d_152_120 (md_80 hC) (by decide) rfl ?_
            refine jr_reti R3 d_152_123 rfl ?_
            exact absurd ((mt_300 hm hto1).mpr (by omega)) h3
          · skip
            refine jr_callv R2 d_152_113 (by decide) rfl (as := [.ref 80, hv 111, hv 119, hv 101, hv 115, hv 0, hv 0, hv 0, hv 0]) (rest := []) rfl (by unfold mj_rc; rw [show (_ : List Value).headD _ = .ref 80 from rfl]; simp only [md_80 hC]; decide) (hm_isWord (d := 3) (p := hp_P b n k) (by omega) hC hTx hg hb hfr hn9 hb0 (mt_pq hm) (mt_qn hm) (Or.inl rfl) hm.2.2.1 ⟨by omega, by omega⟩ ⟨by omega, by omega⟩ ⟨by omega, by omega⟩ ⟨by omega, by omega⟩ ⟨by omega, by omega⟩ ⟨by omega, by omega⟩ ⟨by omega, by omega⟩ ⟨by omega, by omega⟩) (by omega) (Nat.le_of_ble_eq_true rfl) ?_
            rintro rv M9 ⟨rfl, rfl⟩
            rw [if_neg (fun z => hw12_4 ((mv_4 hm hto1).mp z.2))]
            show J 0 0 (md C A U Z tc tp ((fr : Int)) ((n : Int)) ((q : Int)) to (hpc b n k) wo ((o : Int)) 0 fa) 116 [(0, .ref 80)] [hv 0]
            refine jr_ifc R1 true d_152_116 (by first | assumption | exact hg _ | exact hS _ | exact hV _ | exact hP _ | exact hT _ | exact ⟨by omega, by omega⟩) (by unfold hcb; first | exact decide_eq_true (by omega) | exact decide_eq_false (by omega)) (by decide) (pc' := 124) rfl ?_
            refine jr_aload_n R1 d_152_124 rfl ?_
            refine jr_bipush R1 d_152_125 (by decide) ?_
            refine jr_bipush R1 d_152_127 (by decide) ?_
            refine jr_bipush R1 d_152_129 (by decide) ?_
            refine jr_bipush R1 d_152_131 (by decide) ?_
            refine jr_bipush R1 d_152_133 (by decide) ?_
            refine jr_iconst R1 d_152_135 ?_
            refine jr_iconst R1 d_152_136 ?_
            refine jr_iconst R1 d_152_137 ?_
            by_cases hw13_5 : hp_wd b (hp_P b n k) q = 5
            · skip
              refine jr_callv R2 d_152_138 (by decide) rfl (as := [.ref 80, hv 115, hv 112, hv 97, hv 99, hv 101, hv 0, hv 0, hv 0]) (rest := []) rfl (by unfold mj_rc; rw [show (_ : List Value).headD _ = .ref 80 from rfl]; simp only [md_80 hC]; decide) (hm_isWord (d := 3) (p := hp_P b n k) (by omega) hC hTx hg hb hfr hn9 hb0 (mt_pq hm) (mt_qn hm) (Or.inl rfl) hm.2.2.1 ⟨by omega, by omega⟩ ⟨by omega, by omega⟩ ⟨by omega, by omega⟩ ⟨by omega, by omega⟩ ⟨by omega, by omega⟩ ⟨by omega, by omega⟩ ⟨by omega, by omega⟩ ⟨by omega, by omega⟩) (by omega) (Nat.le_of_ble_eq_true rfl) ?_
              rintro rv M9 ⟨rfl, rfl⟩
              rw [if_pos ⟨rfl, (mv_5 hm hto1).mpr hw13_5⟩]
              show J 0 0 (md C A U Z tc tp ((fr : Int)) ((n : Int)) ((q : Int)) to (hpc b n k) wo ((o : Int)) 0 fa) 141 [(0, .ref 80)] [hv 1]
              refine jr_ifc R1 false d_152_141 (by first | assumption | exact hg _ | exact hS _ | exact hV _ | exact hP _ | exact hT _ | exact ⟨by omega, by omega⟩) (by unfold hcb; first | exact decide_eq_true (by omega) | exact decide_eq_false (by omega)) (by decide) (pc' := 144) rfl ?_
              refine jr_aload_n R1 d_152_144 rfl ?_
              refine jr_getf R1 d_152_145 (md_80 hC) (by decide) rfl ?_
              refine jr_reti R3 d_152_148 rfl ?_
              exact absurd ((mt_300 hm hto1).mpr (by omega)) h3
            · skip
              refine jr_callv R2 d_152_138 (by decide) rfl (as := [.ref 80, hv 115, hv 112, hv 97, hv 99, hv 101, hv 0, hv 0, hv 0]) (rest := []) rfl (by unfold mj_rc; rw [show (_ : List Value).headD _ = .ref 80 from rfl]; simp only [md_80 hC]; decide) (hm_isWord (d := 3) (p := hp_P b n k) (by omega) hC hTx hg hb hfr hn9 hb0 (mt_pq hm) (mt_qn hm) (Or.inl rfl) hm.2.2.1 ⟨by omega, by omega⟩ ⟨by omega, by omega⟩ ⟨by omega, by omega⟩ ⟨by omega, by omega⟩ ⟨by omega, by omega⟩ ⟨by omega, by omega⟩ ⟨by omega, by omega⟩ ⟨by omega, by omega⟩) (by omega) (Nat.le_of_ble_eq_true rfl) ?_
              rintro rv M9 ⟨rfl, rfl⟩
              rw [if_neg (fun z => hw13_5 ((mv_5 hm hto1).mp z.2))]
              show J 0 0 (md C A U Z tc tp ((fr : Int)) ((n : Int)) ((q : Int)) to (hpc b n k) wo ((o : Int)) 0 fa) 141 [(0, .ref 80)] [hv 0]
              refine jr_ifc R1 true d_152_141 (by first | assumption | exact hg _ | exact hS _ | exact hV _ | exact hP _ | exact hT _ | exact ⟨by omega, by omega⟩) (by unfold hcb; first | exact decide_eq_true (by omega) | exact decide_eq_false (by omega)) (by decide) (pc' := 149) rfl ?_
              refine jr_aload_n R1 d_152_149 rfl ?_
              refine jr_callv R2 d_152_150 (by decide) rfl (as := [.ref 80]) (rest := []) rfl (by unfold mj_rc; rw [show (_ : List Value).headD _ = .ref 80 from rfl]; simp only [md_80 hC]; decide) (hm_fail (d := 1) (by omega) hC (Or.inl rfl)) (by omega) (Nat.le_of_ble_eq_true rfl) ?_
              rintro rv M9 ⟨rfl, rfl⟩
              rw [if_pos rfl]
              show J 0 0 (md C A U Z tc tp ((fr : Int)) ((n : Int)) ((q : Int)) to (hpc b n k) wo ((o : Int)) 1 (hpc b n k)) 153 [(0, .ref 80)] []
              refine jr_iconst R1 d_152_153 ?_
              refine jr_reti R3 d_152_154 rfl ?_
              exact ⟨rfl, rfl⟩
