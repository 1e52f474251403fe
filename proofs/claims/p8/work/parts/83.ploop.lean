/-! THE LOOP, WITH THE TAPES -/
/-- the cells that a round may write: all but the two tapes -/
def bl_W : List Nat := [0, 1, 2, 3, 4, 5, 6, 7, 8, 9, 10, 11, 12, 13, 14, 15, 16, 17, 18, 20, 21, 22, 23, 24, 25, 26, 27, 28, 29, 30, 31, 32, 33, 34, 35, 36, 37, 38, 39, 40, 41, 42, 43, 44, 45, 46, 47, 48, 49, 50, 51, 52, 53, 54, 55, 56, 57, 58, 59, 60, 61, 62, 63, 64, 65, 66, 67, 68, 69, 70, 71, 72, 73, 74, 75, 76, 77, 78, 79, 80, 81, 82, 84, 85, 86, 87, 88, 89, 90, 91, 92, 93, 94, 95, 96, 97, 98, 99, 100, 101]
def bl_cu : ak_En := (([], [], []), 1206, 0, 0, (0, 0), (0, 0), 0, bl_W)
noncomputable def bl_kp (σ : List ai_V) (a b c d : ai_V) : Bool := match ai_at _ σ 1, ai_at _ σ 49, ai_at _ σ 2, ai_at _ σ 51 with
  | some v1, some v49, some v2, some v51 => (ak_veq v1 a && ak_veq v49 b) && (ak_veq v2 c && ak_veq v51 d)
  | _, _, _, _ => false
theorem bl_kp_ok {ρ : List Int} {σ : List ai_V} {ρc : List Int} {a b c d : ai_V} {za zb zc zd : Int} (hr : ak_rel ρ σ ρc) (h : bl_kp σ a b c d = true) (ha : ai_z ρ a = some za) (hb : ai_z ρ b = some zb) (hc : ai_z ρ c = some zc) (hd : ai_z ρ d = some zd) : ρc[1]? = some za ∧ ρc[49]? = some zb ∧ ρc[2]? = some zc ∧ ρc[51]? = some zd := by
  unfold bl_kp at h
  simp only [ai_at_eq] at h
  split at h
  · rename_i v1 v49 v2 v51 e1 e49 e2 e51
    simp only [Bool.and_eq_true] at h
    obtain ⟨⟨h1, h2⟩, h3, h4⟩ := h
    rw [ak_veq_ok h1] at e1
    rw [ak_veq_ok h2] at e49
    rw [ak_veq_ok h3] at e2
    rw [ak_veq_ok h4] at e51
    obtain ⟨-, y1, p1, q1⟩ := hr.2 _ _ e1
    obtain ⟨-, y2, p2, q2⟩ := hr.2 _ _ e49
    obtain ⟨-, y3, p3, q3⟩ := hr.2 _ _ e2
    obtain ⟨-, y4, p4, q4⟩ := hr.2 _ _ e51
    cases q1.symm.trans ha
    cases q2.symm.trans hb
    cases q3.symm.trans hc
    cases q4.symm.trans hd
    exact ⟨p1, p2, p3, p4⟩
  · cases h
noncomputable def bl_g (T : ai_T) (X : ak_X) (σ : List ai_V) : Bool := (match ai_at _ σ 108 with
  | some w => ak_veq w (1, 108)
  | none => false) && ak_le T X (1, 108, 0) (1, 109, 0) 6
noncomputable def bl_f1 (T : ai_T) (X : ak_X) (σ : List ai_V) : Bool := al_f T X σ && bl_kp σ (1, 1) (1, 49) (1, 2) (1, 51)
noncomputable def bl_f2 (T : ai_T) (X : ak_X) (σ : List ai_V) : Bool := al_f T X σ && bl_kp σ (1, 116) (1, 116) (1, 117) (1, 117)
noncomputable def bl_f3 (T : ai_T) (X : ak_X) (σ : List ai_V) : Bool := bl_g T X σ && bl_kp σ (1, 1) (1, 49) (1, 2) (1, 51)
noncomputable def bl_ct : ak_Z := fun pc T M l st X => bif Nat.beq pc 18 then al_ar (bl_f1 T X) T M l st X else bif Nat.beq pc 382 || Nat.beq pc 405 then al_ar (bl_f3 T X) T M l st X else false
noncomputable def bl_ct2 : ak_Z := fun pc T M l st X => bif Nat.beq pc 18 then al_ar (bl_f2 T X) T M l st X else false
def bl_Tb : ai_T := [(0, 1), (0, 6), (0, 160), (0, 161), (0, 160), (-1, 160), (0, 160), (0, 5), (-2147483648, 2147483647), (-2147483648, 2147483647), (-2147483648, 2147483647), (0, 5), (-1, 7), (-1, 7), (-1, 7), (-1, 7), (-1, 7), (0, 5), (-2147483648, 2147483647), (-2147483648, 2147483647), (-2147483648, 2147483647), (0, 5), (-1, 7), (-1, 7), (-1, 7), (-1, 7), (-1, 7), (0, 5), (-2147483648, 2147483647), (-2147483648, 2147483647), (-2147483648, 2147483647), (0, 5), (-1, 7), (-1, 7), (-1, 7), (-1, 7), (-1, 7), (-2147483648, 2147483647), (0, 5), (-2147483648, 2147483647), (-1, 4), (-1, 4), (-1, 4), (-1, 4), (-1, 4), (-1, 4), (-1, 4), (-1, 4), (-2147483648, 2147483647), (0, 6), (0, 5), (0, 160), (-2147483648, 2147483647), (-2147483648, 2147483647), (-2147483648, 2147483647), (0, 5), (-2147483648, 2147483647), (-2147483648, 2147483647), (-2147483648, 2147483647), (-2147483648, 2147483647), (-2147483648, 2147483647), (-2147483648, 2147483647), (0, 800), (0, 160), (0, 160), (0, 4), (0, 160), (-100000, 10000000), (0, 5), (0, 1), (0, 160), (-2147483648, 2147483647), (-2147483648, 2147483647), (-2147483648, 2147483647), (-2147483648, 2147483647), (-2147483648, 2147483647), (-2147483648, 2147483647), (-2147483648, 2147483647), (0, 1), (-2147483648, 2147483647), (-1, 5), (-2147483648, 2147483647), (-2147483648, 2147483647), (-2147483648, 2147483647), (0, 5), (-1, 7), (-1, 7), (-1, 7), (-1, 7), (-1, 7), (-1, 7), (-1, 7), (-1, 7), (-1, 7), (-1, 7), (-1, 7), (-1, 7), (-1, 7), (-1, 7), (-1, 7), (0, 1), (0, 1), (0, 1), (0, 1), (-2147483648, 2147483647), (-2147483648, 2147483647), (-2147483648, 2147483647), (-2147483648, 2147483647), (0, 3066), (0, 3072), al_tp, al_tp, al_tp, al_tp, al_tp, al_tp, (0, 6), (0, 160), (0, 161), (0, 160), (-1, 160), (0, 160), (0, 800), (0, 160), (0, 160), (0, 4), (0, 160), (-100000, 10000000), (0, 5), (0, 1), (0, 160)]
theorem bl_Tb_eq : bl_Tb = al_T0.set 108 (0, 3066) ++ bl_T15 := by decide +kernel
theorem bl_satset {ρ : List Int} {T : ai_T} {k : Nat} {z : Int} {q : Int × Int} (h : ai_sat ρ T) (hz : ρ[k]? = some z) (h1 : q.1 ≤ z) (h2 : z ≤ q.2) : ai_sat ρ (T.set k q) := by
  refine ⟨by rw [List.length_set]; exact h.1, fun j y p a b => ?_⟩
  rw [List.getElem?_set] at b
  split at b
  · rename_i e
    subst e
    split at b
    · cases b
      cases a.symm.trans hz
      exact ⟨h1, h2⟩
    · cases b
  · exact h.2 j y p a b
theorem bl_tpfr {A B : mj_M} {n : Nat} (h : bl_tp A n) (hf : ak_fr bl_W A B) : bl_tp B n := by
  obtain ⟨f19, f83, a, b, c, d, e⟩ := h
  exact ⟨f19, f83, by rw [hf.2 19 (by decide)]; exact a, by rw [hf.2 83 (by decide)]; exact b, c, d, e⟩
/-- further on: by how much -/
theorem bl_lt {ρ' ρc σn : List Int} {σ : List ai_V} {T : ai_T} {M : ai_M} {l : ai_L} {st : List ai_V} {X : ak_X} {cM cM' : mj_M} {cl : mj_L} {cst : List Value} {x' : Int32} {z : Int} (hG : ai_G ρ' T M l st cM cl cst) (hx : ak_sx ρ' X) (hr : ak_rel ρ' σ ρc) (hh : al_hd ρc cM' x') (hz : ρ'[108]? = some z) (hf : al_f T X σ = true) : z + 1 ≤ x'.toInt := by
  unfold al_f at hf
  simp only [ai_at_eq] at hf
  split at hf
  · rename_i w hw
    obtain ⟨-, y, b, c⟩ := hr.2 _ _ hw
    cases b.symm.trans hh.2.2.2
    exact ak_lt1_ok hG.1 hx (show ai_z ρ' (1, 108) = some z from hz) c hf
  · cases hf
theorem bl_zi {ρ : List Int} {k : Nat} {z : Int} (h : ρ[k]? = some z) : ai_z ρ (1, (k : Int)) = some z := h
/-- behind a feed or a text: to the head -/
theorem bl_tail_ok {lch : Launch} {cf : ak_CF} {D L : Nat} {xs : Nat → Int32} {J : mj_JT} (hL : L ≤ 3072) (hC : ak_hC lch cf bl_W D [])
    (R1 : mj_R1 L xs 193 (ai_ow 193) (ai_nl 193) (Nat.beq (mj_ki 193) 2) 600000 7302250 J) (R2 : mj_R2 lch 193 D 600000 7302250 J)
    (R3 : ∀ (ce sl : Nat) (M : mj_M) (pc : Nat) (lo : mj_L) (st : List Value) (ins : Instr) (len r1 r2 : Nat), mj_cd 193 pc = some (ins, len, r1, r2) → mj_rtn (some .boolean) ins len st = some (some (.int 1)) → ce ≤ 600000 → sl ≤ 7302250 → J ce sl M pc lo st)
    (R4 : mj_R4 J) {nt : Nat} (hk : bl_kl cf bl_ct2 nt 1041 bl_Tb bl_Ma al_l0 [] al_X0 = true) {ρ : List Int} {cM cM2 : mj_M} {x : Int32} (hh : al_hd ρ cM x) (hx6 : x.toInt + 6 ≤ (L : Int)) (haft : bl_aft ρ L xs x cM2)
    (K : ∀ (ρc : List Int) (cM' : mj_M) (x' : Int32), al_hd ρc cM' x' → bl_rel ρc cM' → x.toInt + 1 ≤ x'.toInt → J 102 3945 cM' 18 (al_lc x') []) : J 102 3945 cM2 1041 (al_lc x) [] := by
  obtain ⟨h1, h2, h3⟩ := al_hd_G (L := L) (xs := xs) hL hh
  obtain ⟨νs, s1, m1, cnt, n, c1, c2, htp⟩ := haft
  have hle : ai_le (al_rho ρ L xs x) (al_rho ρ L xs x ++ νs) := ai_le_app _
  have hsat : ai_sat (al_rho ρ L xs x ++ νs) bl_Tb := by
    rw [bl_Tb_eq]
    exact ak_sat_app (bl_satset h2.1 h1.2.2.1 h1.1 (by show x.toInt ≤ 3066; omega)) s1
  have e116 := bl_num (L := L) (xs := xs) (νs := νs) hh 0 rfl c1
  have e117 := bl_num (L := L) (xs := xs) (νs := νs) hh 1 rfl c2
  refine bl_kl_ok (cM0 := cM2) (ρ0 := al_rho ρ L xs x ++ νs) hL hC R1 R2 R3 ?_ nt 1041 _ _ _ _ _ (al_rho ρ L xs x ++ νs) cM2 _ _ hk ⟨al_sc_mono hle h1, ai_le_rf⟩ ⟨hsat, m1, ai_sl_mono hle h2.2.2.1, trivial⟩ (ak_sx_mono hle h3) ak_fr_rf
  intro pc T M l st X ρ' cM' cl' cst' h hsc hG hx hfr
  unfold bl_ct2 at h
  have hbh := bl_bb h
  clear h
  obtain ⟨h9, h⟩ := hbh
  obtain rfl := ai_bq h9
  obtain ⟨x', σ, ρc, rfl, hsub, hf, hr, hh'⟩ := al_ar_ok h hG hx
  unfold bl_f2 at hf
  rw [Bool.and_eq_true] at hf
  have hlt := bl_lt (σn := []) hG hx hr hh' hsc.1.2.2.1 hf.1
  obtain ⟨p1, p49, p2, p51⟩ := bl_kp_ok hr hf.2 (bl_zi (hsc.2 _ _ e116)) (bl_zi (hsc.2 _ _ e116)) (bl_zi (hsc.2 _ _ e117)) (bl_zi (hsc.2 _ _ e117))
  exact R4 102 3945 cM' 18 cl' (al_lc x') [] hsub (K ρc cM' x' hh' ⟨cnt, n, p1, p49, p2, p51, bl_tpfr htp hfr⟩ hlt)
/-- from every state at the head -/
theorem bl_loop {lch : Launch} {cf : ak_CF} {D L : Nat} {xs : Nat → Int32} {J : mj_JT} (hL : L ≤ 3072) (hD : 60 ≤ D) (hC : ak_hC lch cf bl_W D [])
    (R1 : mj_R1 L xs 193 (ai_ow 193) (ai_nl 193) (Nat.beq (mj_ki 193) 2) 600000 7302250 J) (R2 : mj_R2 lch 193 D 600000 7302250 J)
    (R3 : ∀ (ce sl : Nat) (M : mj_M) (pc : Nat) (lo : mj_L) (st : List Value) (ins : Instr) (len r1 r2 : Nat), mj_cd 193 pc = some (ins, len, r1, r2) → mj_rtn (some .boolean) ins len st = some (some (.int 1)) → ce ≤ 600000 → sl ≤ 7302250 → J ce sl M pc lo st)
    (R4 : mj_R4 J) {n nt : Nat} (hk : bl_kl cf bl_ct n 18 al_T0 kz_M al_l0 [] al_X0 = true) (hkt : bl_kl cf bl_ct2 nt 1041 bl_Tb bl_Ma al_l0 [] al_X0 = true) : ∀ (m : Nat) (ρ : List Int) (cM : mj_M) (x : Int32), al_hd ρ cM x → bl_rel ρ cM → (3072 - x.toInt).toNat < m → J 102 3945 cM 18 (al_lc x) []
  | 0, _, _, _, _, _, h => absurd h (Nat.not_lt_zero _)
  | m + 1, ρ, cM, x, hh, hrl, hm => by
    obtain ⟨h1, h2, h3⟩ := al_hd_G (L := L) (xs := xs) hL hh
    have hle0 : ai_le ρ (al_rho ρ L xs x) := ai_le_app _
    obtain ⟨cnt, nn, n1, n49, n2, n51, htp⟩ := hrl
    refine bl_kl_ok (cM0 := cM) (ρ0 := al_rho ρ L xs x) hL hC R1 R2 R3 ?_ n 18 _ _ _ _ _ (al_rho ρ L xs x) cM _ _ hk ⟨h1, ai_le_rf⟩ h2 h3 ak_fr_rf
    intro pc T M l st X ρ' cM' cl' cst' h hsc hG hx hfr
    have hle := ai_le_tr hle0 hsc.2
    have hz8 := hsc.1.2.2.1
    have keep : ∀ {σ : List ai_V} {ρc : List Int}, ak_rel ρ' σ ρc → bl_kp σ (1, 1) (1, 49) (1, 2) (1, 51) = true → bl_rel ρc cM' := fun hr hf => by
      obtain ⟨p1, p49, p2, p51⟩ := bl_kp_ok hr hf (bl_zi (hle _ _ n1)) (bl_zi (hle _ _ n49)) (bl_zi (hle _ _ n2)) (bl_zi (hle _ _ n51))
      exact ⟨cnt, nn, p1, p49, p2, p51, bl_tpfr htp hfr⟩
    unfold bl_ct at h
    cases hp : Nat.beq pc 18 with
    | true =>
      rw [hp, cond_true] at h
      obtain rfl := ai_bq hp
      obtain ⟨x', σ, ρc, rfl, hsub, hf, hr, hh'⟩ := al_ar_ok h hG hx
      unfold bl_f1 at hf
      rw [Bool.and_eq_true] at hf
      have hlt := bl_lt (σn := []) hG hx hr hh' hz8 hf.1
      have hz := hh'.1.2 108 _ _ hh'.2.2.2 (show (kz_TI ++ [((0 : Int), (3072 : Int))])[108]? = some (0, 3072) by
        rw [List.getElem?_append_right (by rw [al_TIn]; exact Nat.le_refl _), al_TIn]
        rfl)
      simp only at hz
      exact R4 102 3945 cM' 18 cl' (al_lc x') [] hsub (bl_loop hL hD hC R1 R2 R3 R4 hk hkt m ρc cM' x' hh' (keep hr hf.2) (by omega))
    | false =>
      rw [hp, cond_false] at h
      have hbh := bl_bb h
      clear h
      obtain ⟨h9, h⟩ := hbh
      obtain ⟨x', σ, ρc, rfl, hsub, hf, hr, hh'⟩ := al_ar_ok h hG hx
      unfold bl_f3 bl_g at hf
      rw [Bool.and_eq_true, Bool.and_eq_true] at hf
      obtain ⟨⟨hf1, hf2⟩, hf3⟩ := hf
      have hxx : x'.toInt = x.toInt := by
        simp only [ai_at_eq] at hf1
        split at hf1
        · rename_i w hw
          rw [ak_veq_ok hf1] at hw
          obtain ⟨-, y, b, c⟩ := hr.2 _ _ hw
          have c : ρ'[108]? = some y := c
          cases c.symm.trans hz8
          exact Option.some.inj (hh'.2.2.2.symm.trans b)
        · cases hf1
      have hx6 : x'.toInt + 6 ≤ (L : Int) := by
        rw [hxx]
        refine ak_le_ok hG.1 hx (?_ : ak_v ρ' (1, 108, 0) = some x.toInt) (?_ : ak_v ρ' (1, 109, 0) = some (L : Int)) hf2
        · show (ρ'[108]?).map _ = _
          rw [hz8]
          simp
        · show (ρ'[109]?).map _ = _
          rw [hsc.1.2.2.2.1]
          simp
      have hrl' := keep hr hf3
      have K : ∀ cM2, bl_aft ρc L xs x' cM2 → J 102 3945 cM2 1041 (al_lc x') [] := fun cM2 haft => bl_tail_ok hL hC R1 R2 R3 R4 hkt hh' hx6 haft (fun ρd cM3 x3 a b c => bl_loop hL hD hC R1 R2 R3 R4 hk hkt m ρd cM3 x3 a b (by omega))
      simp only [Bool.or_eq_true] at h9
      rcases h9 with h9 | h9
      · obtain rfl := ai_bq h9
        exact R4 102 3945 cM' 382 cl' (al_lc x') [] hsub (bl_feed hL hD R1 R2 hh' hrl' hx6 K)
      · obtain rfl := ai_bq h9
        exact R4 102 3945 cM' 405 cl' (al_lc x') [] hsub (bl_text hL hD R1 R2 hh' hrl' hx6 K)
/-- the first state -/
theorem bl_init {ρ ρc : List Int} {σ : List ai_V} {cM : mj_M} {x : Int32} (hf : bl_kp σ (0, 1) (0, 1) (0, 0) (0, 0) = true) (hr : ak_rel ρ σ ρc) (hh : al_hd ρc cM x) : bl_rel ρc cM := by
  obtain ⟨p1, p49, p2, p51⟩ := bl_kp_ok (za := 1) (zb := 1) (zc := 0) (zd := 0) hr hf rfl rfl rfl rfl
  obtain ⟨f19, a1, a2, a3⟩ := bx_row (c := 19) hh.2.2.1 rfl
  obtain ⟨f83, b1, b2, b3⟩ := bx_row (c := 83) hh.2.2.1 rfl
  exact ⟨1, 0, p1, p49, p2, p51, f19, f83, a1, b1, a2, b3, fun j hj => absurd hj (Nat.not_lt_zero j)⟩
