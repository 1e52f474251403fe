/-! THE LAW'S OWN RUN, WITH FACTS AND CONTRACTS: number 108 is i, 109 the script's length, 110 .. 115 what stands at i .. i + 5 -/
def al_q (ins : Instr) : Nat := match ins with
  | .iaload => 1
  | .arraylength => 2
  | _ => 0
def al_sc (L : Nat) (xs : Nat → Int32) (z : Int) (ρ : List Int) : Prop := 0 ≤ z ∧ z ≤ 3072 ∧ ρ[108]? = some z ∧ ρ[109]? = some (L : Int) ∧ ∀ k, k < 6 → ρ[110 + k]? = some (xs (z.toNat + k)).toInt
theorem al_sc_mono {L : Nat} {xs : Nat → Int32} {z : Int} {ρ ρ' : List Int} (h : ai_le ρ ρ') (q : al_sc L xs z ρ) : al_sc L xs z ρ' := by
  obtain ⟨a, b, c, d, e⟩ := q
  exact ⟨a, b, h _ _ c, h _ _ d, fun k hk => h _ _ (e k hk)⟩
/-- what a place of the script holds, by its index -/
noncomputable def al_sy (T : ai_T) (X : ak_X) (i : ai_V) : Option ai_V := bif Nat.beq i.1 1 then (match ai_at _ T i.2.toNat with
  | some p => bif (Nat.beq (ak_rt X.1 i.2.toNat).1 108 && (!(ai_ltb (ak_rt X.1 i.2.toNat).2 0) && ai_ltb (ak_rt X.1 i.2.toNat).2 6)) && (!(ai_ltb p.1 0) && ak_le T X (1, ak_rt X.1 i.2.toNat) (1, 109, 0) 1) then some (1, 110 + (ak_rt X.1 i.2.toNat).2) else none
  | none => none) else none
theorem al_sy_ok {L : Nat} {xs : Nat → Int32} {z : Int} {ρ : List Int} {T : ai_T} {X : ak_X} {i a : ai_V} {v : Value} (hL : L ≤ 3072) (hs : ai_sat ρ T) (hx : ak_sx ρ X) (hsc : al_sc L xs z ρ) (hi : ai_c ρ i = some v) (h : al_sy T X i = some a) :
    ∃ x : Int32, v = .int x ∧ mj_vi x L = true ∧ ai_c ρ a = some (.int (xs x.toNatClampNeg)) := by
  obtain ⟨t, k⟩ := i
  obtain ⟨z0, z1, e1, e2, e3⟩ := hsc
  unfold al_sy at h
  have hbh := ai_bt h
  clear h
  obtain ⟨hb, h⟩ := hbh
  obtain rfl := ai_bq hb
  simp only [ai_at_eq] at h
  split at h
  · rename_i p hp
    have hbh := ai_bt h
    clear h
    obtain ⟨hb, h⟩ := hbh
    simp only [Bool.and_eq_true, Nat.beq_eq, ai_ltb_eq, Bool.not_eq_true', decide_eq_false_iff_not, decide_eq_true_eq] at hb
    obtain ⟨⟨b1, b2, b3⟩, b4, b5⟩ := hb
    cases h
    have hi : (ρ[k.toNat]?).map (fun w => Value.int (Int32.ofInt w)) = some v := hi
    cases hw : ρ[k.toNat]? with
    | none => rw [hw] at hi; cases hi
    | some w =>
      rw [hw] at hi
      cases hi
      obtain ⟨w0, g1, g2⟩ := ak_rt_ok hx.1 hw
      rw [b1] at g1
      cases g1.symm.trans e1
      obtain ⟨p1, p2⟩ := hs.2 _ _ _ hw hp
      have ha : ak_v ρ (1, ak_rt X.1 k.toNat) = some w := by
        show (ρ[(ak_rt X.1 k.toNat).1]?).map _ = _
        rw [b1, e1, g2]
        rfl
      have hbv : ak_v ρ (1, 109, 0) = some (L : Int) := by
        show (ρ[109]?).map _ = _
        rw [e2]
        simp
      have hle := ak_le_ok hs hx ha hbv b5
      have et : (Int32.ofInt w).toInt = w := Int32.toInt_ofInt_of_le (by omega) (by omega)
      refine ⟨Int32.ofInt w, rfl, ai_vi (by omega) (by omega), ?_⟩
      have en : (Int32.ofInt w).toNatClampNeg = z.toNat + (ak_rt X.1 k.toNat).2.toNat := by
        show (Int32.ofInt w).toInt.toNat = _
        omega
      show (ρ[(110 + (ak_rt X.1 k.toNat).2).toNat]?).map _ = _
      rw [show (110 + (ak_rt X.1 k.toNat).2).toNat = 110 + (ak_rt X.1 k.toNat).2.toNat by omega, e3 _ (by omega), en]
      show some (Value.int (Int32.ofInt (xs _).toInt)) = _
      rw [Int32.ofInt_toInt]
  · cases h
/-- a step of the law: the script is read by its numbers -/
noncomputable def al_u5 (r : ak_Z) (pc : Nat) (T : ai_T) (M : ai_M) (l : ai_L) (st : List ai_V) (X : ak_X) (ins : Instr) (len r1 r2 : Nat) : Bool :=
  bif Nat.beq (al_q ins) 1 then (match st with
    | i :: (5, 0) :: st => (match al_sy T X i with
      | some a => Nat.beq len 1 && r (pc + 1) T M l (a :: st) X
      | none => false)
    | _ => false) else
  bif Nat.beq (al_q ins) 2 then (match st with
    | (5, 0) :: st => Nat.beq len 1 && r (pc + 1) T M l ((1, 109) :: st) X
    | _ => false) else
  ak_u3 r ((ak_hw ins).1 (ai_ow 193) (ai_nl 193) (Nat.beq (mj_ki 193) 2) 0 0 len r1 r2 pc 0 0 T M l st X)
noncomputable def al_u9 (cf : ak_CF) (r : ak_Z) (pc : Nat) (T : ai_T) (M : ai_M) (l : ai_L) (X : ak_X) (as rest : List ai_V) (r1 : Nat) : Bool := match cf r1 T X M as with
  | some o => ak_u10 r (pc + 3) l rest o
  | none => false
noncomputable def al_u8 (cf : ak_CF) (r : ak_Z) (pc : Nat) (T : ai_T) (M : ai_M) (l : ai_L) (st : List ai_V) (X : ak_X) (ins : Instr) (len r1 r2 : Nat) (o : Option (List ai_V × List ai_V)) : Bool := match o with
  | some q => bif Nat.beq (mj_al r1).1 0 && Nat.beq (mj_al r1).2 0 then al_u9 cf r pc T M l X q.1 q.2 r1 else false
  | none => al_u5 r pc T M l st X ins len r1 r2
def al_gd (o : Option (Option ai_V)) : Bool := match o with
  | some (some v) => ak_veq v (0, 1)
  | _ => false
noncomputable def al_u2 (cf : ak_CF) (r : ak_Z) (pc : Nat) (T : ai_T) (M : ai_M) (l : ai_L) (st : List ai_V) (X : ak_X) (ins : Instr) (len r1 r2 : Nat) : Bool :=
  bif Nat.beq (ai_cq ins) 0 then al_u5 r pc T M l st X ins len r1 r2 else
  bif Nat.beq (ai_cq ins) 1 then al_gd (ai_ret (some .boolean) ins len T st) else al_u8 cf r pc T M l st X ins len r1 r2 (ai_call ins len r1 r2 M st)
noncomputable def al_u1 (cf : ak_CF) (r : ak_Z) (pc : Nat) (T : ai_T) (M : ai_M) (l : ai_L) (st : List ai_V) (X : ak_X) (o : Option (Instr × Nat × Nat × Nat)) : Bool := match o with
  | none => false
  | some (ins, len, r1, r2) => al_u2 cf r pc T M l st X ins len r1 r2
noncomputable def al_u0 (cf : ak_CF) (ct : ak_Z) (r : ak_Z) (pc : Nat) (T : ai_T) (M : ai_M) (l : ai_L) (st : List ai_V) (X : ak_X) : Bool := bif ct pc T M l st X then true else al_u1 cf r pc T M l st X (mj_cd 193 pc)
noncomputable def al_kl (cf : ak_CF) (ct : ak_Z) (n : Nat) : ak_Z := Nat.rec (motive := fun _ => ak_Z) (fun _ _ _ _ _ _ => false) (fun _ ih => al_u0 cf ct ih) n
set_option maxHeartbeats 2000000 in
theorem al_kl_ok {lch : Launch} {cf : ak_CF} {Wl : List Nat} {D L : Nat} {xs : Nat → Int32} {z : Int} {J : mj_JT} (hL : L ≤ 3072) (hC : ak_hC lch cf Wl D []) {ct : ak_Z}
    (R1 : mj_R1 L xs 193 (ai_ow 193) (ai_nl 193) (Nat.beq (mj_ki 193) 2) 600000 7302250 J) (R2 : mj_R2 lch 193 D 600000 7302250 J)
    (R3 : ∀ (ce sl : Nat) (M : mj_M) (pc : Nat) (lo : mj_L) (st : List Value) (ins : Instr) (len r1 r2 : Nat), mj_cd 193 pc = some (ins, len, r1, r2) → mj_rtn (some .boolean) ins len st = some (some (.int 1)) → ce ≤ 600000 → sl ≤ 7302250 → J ce sl M pc lo st)
    (hct : ∀ (pc : Nat) (T : ai_T) (M : ai_M) (l : ai_L) (st : List ai_V) (X : ak_X) (ρ : List Int) (cM : mj_M) (cl : mj_L) (cst : List Value), ct pc T M l st X = true → al_sc L xs z ρ → ai_G ρ T M l st cM cl cst → ak_sx ρ X → J 102 3945 cM pc cl cst) :
    ∀ (n pc : Nat) (T : ai_T) (M : ai_M) (l : ai_L) (st : List ai_V) (X : ak_X) (ρ : List Int) (cM : mj_M) (cl : mj_L) (cst : List Value), al_kl cf ct n pc T M l st X = true → al_sc L xs z ρ → ai_G ρ T M l st cM cl cst → ak_sx ρ X → J 102 3945 cM pc cl cst
  | 0, _, _, _, _, _, _, _, _, _, _, h, _, _, _ => by cases h
  | n + 1, pc, T, M, l, st, X, ρ, cM, cl, cst, h, hsc, hG, hx => by
    obtain ⟨hs, hm, hl, hst⟩ := id hG
    have ih := al_kl_ok hL hC R1 R2 R3 hct n
    change (bif ct pc T M l st X then true else al_u1 cf (al_kl cf ct n) pc T M l st X (mj_cd 193 pc)) = true at h
    cases hc0 : ct pc T M l st X with
    | true => exact hct pc T M l st X ρ cM cl cst hc0 hsc hG hx
    | false =>
    rw [hc0, cond_false] at h
    unfold al_u1 at h
    split at h
    · cases h
    · rename_i ins len r1 r2 hcd
      have step : al_u5 (al_kl cf ct n) pc T M l st X ins len r1 r2 = true → J 102 3945 cM pc cl cst := by
        intro h5
        clear h
        have h := h5
        clear h5
        unfold al_u5 at h
        cases q1 : Nat.beq (al_q ins) 1 with
        | true =>
          rw [q1, cond_true] at h
          have e1 : ins = .iaload := by
            have := ai_bq q1
            unfold al_q at this
            split at this
            · rfl
            · cases this
            · cases this
          subst e1
          split at h
          · rename_i i st2
            split at h
            · rename_i a ha
              rw [Bool.and_eq_true] at h
              obtain ⟨h1, h⟩ := h
              obtain rfl := ai_bq h1
              obtain ⟨w, cst2, rfl, hc, hs2⟩ := ai_ss_cons hst
              obtain ⟨w2, cst3, rfl, hc2, hs3⟩ := ai_ss_cons hs2
              obtain rfl := ai_c5 hc2
              obtain ⟨x, rfl, hv, hca⟩ := al_sy_ok hL hs hx hsc hc ha
              exact R1 102 3945 cM pc cl _ _ _ r1 r2 0 0 cM (pc + 1) cl (.int (xs x.toNatClampNeg) :: cst3) hcd (by simp [mj_st, mj_pu, mj_me, mj_xa0, hv, mj_go]) (by omega) (by omega) (ih (pc + 1) T M l (a :: st2) X ρ cM cl _ h hsc ⟨hs, hm, hl, hca, hs3⟩ hx)
            · cases h
          · cases h
        | false =>
          rw [q1, cond_false] at h
          cases q2 : Nat.beq (al_q ins) 2 with
          | true =>
            rw [q2, cond_true] at h
            have e1 : ins = .arraylength := by
              have := ai_bq q2
              unfold al_q at this
              split at this
              · cases this
              · rfl
              · cases this
            subst e1
            split at h
            · rename_i st2
              rw [Bool.and_eq_true] at h
              obtain ⟨h1, h⟩ := h
              obtain rfl := ai_bq h1
              obtain ⟨w, cst2, rfl, hc, hs2⟩ := ai_ss_cons hst
              obtain rfl := ai_c5 hc
              obtain ⟨z0, z1, e1, e2, e3⟩ := id hsc
              have hca : ai_c ρ (1, 109) = some (.int (Int32.ofNat L)) := by
                show (ρ[109]?).map _ = _
                rw [e2]
                rfl
              exact R1 102 3945 cM pc cl _ _ _ r1 r2 0 0 cM (pc + 1) cl (.int (Int32.ofNat L) :: cst2) hcd (by simp [mj_st, mj_pu, mj_me, mj_xa0, mj_go]) (by omega) (by omega) (ih (pc + 1) T M l ((1, 109) :: st2) X ρ cM cl _ h hsc ⟨hs, hm, hl, hca, hs2⟩ hx)
            · cases h
          | false =>
            rw [q2, cond_false] at h
            unfold ak_u3 at h
            split at h
            · cases h
            · rename_i succs hstep
              obtain ⟨dc, ds, cM', pc', cl', cst', T', M', l', st', X', ρ', hr, hmem, hle, hG', hx', h1, h2⟩ := ak_step_ok (xs := xs) (L := L) hG hx (Nat.le_refl 0) (Nat.le_refl 0) hstep
              have hy := List.all_eq_true.mp h _ hmem
              have e1 : dc = 0 := by omega
              have e2 : ds = 0 := by omega
              subst e1
              subst e2
              exact R1 102 3945 cM pc cl cst ins len r1 r2 0 0 cM' pc' cl' cst' hcd hr (by omega) (by omega) (ih pc' T' M' l' st' X' ρ' cM' cl' cst' hy (al_sc_mono hle hsc) hG' hx')
      unfold al_u2 at h
      cases hA : Nat.beq (ai_cq ins) 0 with
      | true =>
        rw [hA, cond_true] at h
        exact step h
      | false =>
        rw [hA, cond_false] at h
        cases hB : Nat.beq (ai_cq ins) 1 with
        | true =>
          rw [hB, cond_true] at h
          unfold al_gd at h
          split at h
          · rename_i v hrv
            obtain ⟨w, hw, hk⟩ := ai_ret_ok hs hst hrv
            obtain rfl := ak_veq_ok h
            cases w with
            | none => exact hk.elim
            | some w =>
              cases hk
              exact R3 102 3945 cM pc cl cst ins len r1 r2 hcd hw (by omega) (by omega)
          · cases h
        | false =>
          rw [hB, cond_false] at h
          unfold al_u8 at h
          split at h
          · rename_i asr hcall
            obtain ⟨as, rest⟩ := asr
            cases hal : Nat.beq (mj_al r1).1 0 && Nat.beq (mj_al r1).2 0 with
            | false => rw [hal, cond_false] at h; cases h
            | true =>
            rw [hal, cond_true] at h
            obtain ⟨idx, vas, vrest, rfl, c1, c2, c3, c4, c5, c6, c7, c8, c9, c10, c11⟩ := ai_call_ok hm hst hcall
            unfold al_u9 at h
            split at h
            · rename_i o ho
              unfold ak_u10 at h
              split at h
              · cases h
              · rename_i outs2
                obtain ⟨d', h1, h2⟩ := hC r1 T X M as outs2 ρ cM vas ho (fun k z q => by simp at q) hs hx hm c10
                refine R2 102 3945 cM pc cl cst ins idx r1 r2 vas vrest d' 0 0 (fun rv cM' => ak_on ρ outs2 rv cM' ∧ ak_fr Wl cM cM') hcd c1 c2 c3 c4 c5 c6 c7 h2 (by omega) (by omega) (by omega) c8 ?_
                rintro rv cM' ⟨⟨o, ho, ρ', q1, q2, q3, q4, q5⟩, -⟩ -
                have hy := List.all_eq_true.mp h o ho
                exact ih (pc + 3) o.1 o.2.2.1 l _ o.2.1 ρ' cM' cl _ hy (al_sc_mono q1 hsc) ⟨q2, q4, ai_sl_mono q1 hl, ai_rk_ss q5 (ai_ss_mono q1 c11)⟩ q3
            · cases h
          · exact step h
/-! THE LOOP -/
/-- the numbers that the loop begins with: those of the memory and i -/
def al_c0 : ak_Cn := ([none], kz_TI ++ [(0, 3072)], [])
def al_tp : Int × Int := (-2147483648, 2147483647)
def al_T0 : ai_T := kz_TI ++ [(0, 3072), (0, 3072), al_tp, al_tp, al_tp, al_tp, al_tp, al_tp]
def al_l0 : ai_L := [(3, (1, 108)), (2, (4, 80)), (1, (4, 0)), (0, (5, 0))]
def al_X0 : ak_X := ([], [], kz_CF, [(108, 108, 6144)])
noncomputable def al_f (T : ai_T) (X : ak_X) (σ : List ai_V) : Bool := match ai_at _ σ 108 with
  | some w => ak_lt1 T X (1, 108) w 1
  | none => false
noncomputable def al_ar (f : List ai_V → Bool) (T : ai_T) (M : ai_M) (l : ai_L) (st : List ai_V) (X : ak_X) : Bool := match st, ai_lk l 0, ai_lk l 1, ai_lk l 2, ai_lk l 3 with
  | [], some a0, some a1, some a2, some v => (ak_veq a0 (5, 0) && (ak_veq a1 (4, 0) && ak_veq a2 (4, 80))) && (ak_ap f kz_M kz_CF kz_K T X M [v] al_c0).isSome
  | _, _, _, _, _ => false
noncomputable def al_ct : ak_Z := fun pc T M l st X => Nat.beq pc 18 && al_ar (al_f T X) T M l st X
def al_lc (x : Int32) : mj_L := [(3, .int x), (2, .ref 80), (1, .ref 0), (0, .retAddr 0)]
/-- a state at the head -/
def al_hd (ρ : List Int) (cM : mj_M) (x : Int32) : Prop := ai_sat ρ (kz_TI ++ [(0, 3072)]) ∧ (∀ f ∈ kz_CF, ak_sC ρ f) ∧ ai_mm ρ kz_M cM ∧ ρ[108]? = some x.toInt
theorem al_TIn : kz_TI.length = 108 := by decide +kernel
theorem al_kn : kz_K = 108 := rfl
theorem al_ar_ok {f : List ai_V → Bool} {T : ai_T} {M : ai_M} {l : ai_L} {st : List ai_V} {X : ak_X} {ρ : List Int} {cM : mj_M} {cl : mj_L} {cst : List Value} (h : al_ar f T M l st X = true) (hG : ai_G ρ T M l st cM cl cst) (hx : ak_sx ρ X) :
    ∃ (x : Int32) (σ : List ai_V) (ρc : List Int), cst = [] ∧ (∀ q ∈ al_lc x, q ∈ cl) ∧ f σ = true ∧ ak_rel ρ σ ρc ∧ al_hd ρc cM x := by
  obtain ⟨hs, hm, hl, hst⟩ := hG
  unfold al_ar at h
  split at h
  · rename_i a0 a1 a2 v h0 h1 h2 h3
    simp only [Bool.and_eq_true] at h
    obtain ⟨⟨e0, e1, e2⟩, h⟩ := h
    rw [ak_veq_ok e0] at h0
    rw [ak_veq_ok e1] at h1
    rw [ak_veq_ok e2] at h2
    obtain ⟨v0, m0, c0⟩ := ai_sl_lk hl h0
    obtain ⟨v1, m1, c1⟩ := ai_sl_lk hl h1
    obtain ⟨v2, m2, c2⟩ := ai_sl_lk hl h2
    obtain ⟨v3, m3, c3⟩ := ai_sl_lk hl h3
    cases c0
    cases c1
    cases c2
    obtain ⟨rs, hrs⟩ := Option.isSome_iff_exists.mp h
    obtain ⟨σ, ρc, g1, g2, -, -, ⟨g3, g4, g5, g6⟩, -⟩ := ak_ap_ok (as := [v]) (vas := [v3]) hs hx hm ⟨c3, trivial⟩ hrs
    have g6 : ai_ss ρc [(1, ((108 : Nat) : Int))] [v3] := g6
    have g6 : (ρc[108]?).map (fun z => Value.int (Int32.ofInt z)) = some v3 := g6.1
    cases hz : ρc[108]? with
    | none => rw [hz] at g6; cases g6
    | some z =>
      rw [hz] at g6
      cases g6
      have g3' : ai_sat ρc (kz_TI ++ [(0, 3072)]) := g3
      have hq : (kz_TI ++ [((0 : Int), (3072 : Int))])[108]? = some (0, 3072) := by
        rw [List.getElem?_append_right (by rw [al_TIn]; exact Nat.le_refl _), al_TIn]
        rfl
      obtain ⟨z0, z1⟩ := g3'.2 108 z _ hz hq
      simp only at z0 z1
      refine ⟨Int32.ofInt z, σ, ρc, ?_, ?_, g1, g2, g3', g4, g5, ?_⟩
      · cases cst with
        | nil => rfl
        | cons a b => exact hst.elim
      · intro q hq
        unfold al_lc at hq
        simp only [List.mem_cons, List.not_mem_nil, or_false] at hq
        rcases hq with rfl | rfl | rfl | rfl
        · exact mj_lk_mem m3
        · exact mj_lk_mem m2
        · exact mj_lk_mem m1
        · exact mj_lk_mem m0
      · rw [hz, Int32.toInt_ofInt_of_le (by omega) (by omega)]
  · cases h
/-- the numbers of a round: those of the head, the script's length, six of its ints -/
def al_rho (ρ : List Int) (L : Nat) (xs : Nat → Int32) (x : Int32) : List Int := ρ ++ (L : Int) :: (List.range 6).map (fun k => (xs (x.toInt.toNat + k)).toInt)
theorem al_hd_G {ρ : List Int} {cM : mj_M} {x : Int32} {L : Nat} {xs : Nat → Int32} (hL : L ≤ 3072) (h : al_hd ρ cM x) : al_sc L xs x.toInt (al_rho ρ L xs x) ∧ ai_G (al_rho ρ L xs x) al_T0 kz_M al_l0 [] cM (al_lc x) [] ∧ ak_sx (al_rho ρ L xs x) al_X0 := by
  obtain ⟨g3, g4, g5, g6⟩ := h
  have hle : ai_le ρ (al_rho ρ L xs x) := ai_le_app _
  have hn : ρ.length = 109 := by
    rw [g3.1, List.length_append, al_TIn]
    rfl
  have hq : (kz_TI ++ [((0 : Int), (3072 : Int))])[108]? = some (0, 3072) := by
    rw [List.getElem?_append_right (by rw [al_TIn]; exact Nat.le_refl _), al_TIn]
    rfl
  obtain ⟨z0, z1⟩ := g3.2 108 _ _ g6 hq
  simp only at z0 z1
  have hz := hle _ _ g6
  have hmore : ai_sat ((L : Int) :: (List.range 6).map (fun k => (xs (x.toInt.toNat + k)).toInt)) [(0, 3072), al_tp, al_tp, al_tp, al_tp, al_tp, al_tp] := by
    refine ⟨rfl, fun k z q a b => ?_⟩
    have hb : ∀ w : Int32, al_tp.1 ≤ w.toInt ∧ w.toInt ≤ al_tp.2 := fun w => ai_b32 w
    match k, a, b with
    | 0, a, b =>
      cases a
      cases b
      exact ⟨by omega, by show (L : Int) ≤ 3072; omega⟩
    | 1, a, b => cases a; cases b; exact hb _
    | 2, a, b => cases a; cases b; exact hb _
    | 3, a, b => cases a; cases b; exact hb _
    | 4, a, b => cases a; cases b; exact hb _
    | 5, a, b => cases a; cases b; exact hb _
    | 6, a, b => cases a; cases b; exact hb _
    | n + 7, a, b => cases b
  have hsat : ai_sat (al_rho ρ L xs x) al_T0 := by
    have h9 := ak_sat_app g3 hmore
    rw [List.append_assoc] at h9
    exact h9
  refine ⟨⟨z0, z1, hz, ?_, fun k hk => ?_⟩, ⟨hsat, ai_mm_mono hle g5, ⟨rfl, ?_, rfl, rfl, rfl, rfl, rfl, rfl, trivial⟩, trivial⟩, (fun e he => by cases he), (fun f hf => by cases hf), (fun f hf => ak_sC_mono hle (g4 f hf)), fun s hs => ?_⟩
  · unfold al_rho
    rw [List.getElem?_append_right (by omega), hn]
    rfl
  · unfold al_rho
    rw [List.getElem?_append_right (by omega), hn, show 110 + k - 109 = k + 1 by omega, List.getElem?_cons_succ, List.getElem?_map, List.getElem?_range hk]
    rfl
  · show ((al_rho ρ L xs x)[108]?).map _ = _
    rw [hz]
    show some (Value.int (Int32.ofInt x.toInt)) = _
    rw [Int32.ofInt_toInt]
  · have hs : s = (108, 108, 6144) := by
      rcases List.mem_cons.mp hs with h | h
      · exact h
      · cases h
    subst hs
    exact ⟨_, _, hz, hz, by simp only; omega⟩
/-- from every state at the head -/
theorem al_loop {lch : Launch} {cf : ak_CF} {Wl : List Nat} {D L : Nat} {xs : Nat → Int32} {J : mj_JT} (hL : L ≤ 3072) (hC : ak_hC lch cf Wl D [])
    (R1 : mj_R1 L xs 193 (ai_ow 193) (ai_nl 193) (Nat.beq (mj_ki 193) 2) 600000 7302250 J) (R2 : mj_R2 lch 193 D 600000 7302250 J)
    (R3 : ∀ (ce sl : Nat) (M : mj_M) (pc : Nat) (lo : mj_L) (st : List Value) (ins : Instr) (len r1 r2 : Nat), mj_cd 193 pc = some (ins, len, r1, r2) → mj_rtn (some .boolean) ins len st = some (some (.int 1)) → ce ≤ 600000 → sl ≤ 7302250 → J ce sl M pc lo st)
    (R4 : mj_R4 J) {n : Nat} (hk : al_kl cf al_ct n 18 al_T0 kz_M al_l0 [] al_X0 = true) : ∀ (m : Nat) (ρ : List Int) (cM : mj_M) (x : Int32), al_hd ρ cM x → (3072 - x.toInt).toNat < m → J 102 3945 cM 18 (al_lc x) []
  | 0, _, _, _, _, h => absurd h (Nat.not_lt_zero _)
  | m + 1, ρ, cM, x, hh, hm => by
    obtain ⟨h1, h2, h3⟩ := al_hd_G (L := L) (xs := xs) hL hh
    refine al_kl_ok hL hC R1 R2 R3 ?_ n 18 _ _ _ _ _ (al_rho ρ L xs x) cM _ _ hk h1 h2 h3
    intro pc T M l st X ρ' cM' cl' cst' h hsc hG hx
    unfold al_ct at h
    rw [Bool.and_eq_true] at h
    obtain ⟨h9, h⟩ := h
    obtain rfl := ai_bq h9
    obtain ⟨x', σ, ρc, rfl, hsub, hf, hr, hh'⟩ := al_ar_ok h hG hx
    unfold al_f at hf
    simp only [ai_at_eq] at hf
    split at hf
    · rename_i w hw
      obtain ⟨-, y, b, c⟩ := hr.2 _ _ hw
      obtain ⟨g3, g4, g5, g6⟩ := id hh'
      cases b.symm.trans g6
      have hlt := ak_lt1_ok hG.1 hx (show ai_z ρ' (1, 108) = some x.toInt from hsc.2.2.1) c hf
      have hq : (kz_TI ++ [((0 : Int), (3072 : Int))])[108]? = some (0, 3072) := by
        rw [List.getElem?_append_right (by rw [al_TIn]; exact Nat.le_refl _), al_TIn]
        rfl
      have hz := (g3.2 108 _ _ g6 hq).2
      simp only at hz
      exact R4 102 3945 cM' 18 cl' (al_lc x') [] hsub (al_loop hL hC R1 R2 R3 R4 hk m ρc cM' x' hh' (by omega))
    · cases hf
/-- the rule of fewer locals, of the machine -/
theorem al_R4 {p : Program} {l : Launch} {e : Env} {R : Room} {s : State} {m : MethodId} {args : Array Value} {below : List Frame} {meth : Method} {c : Code} {Q : State → Prop} {nL b0 : Nat} {ex : Nat → Nat} {dA : Nat → ClassId} {D : va_G} : mj_R4 (mj_Jd p l e R s m args below meth c Q nL b0 ex dA D) := by
  intro ce sl M' pc lo lo' st hsub hJ hq H locs ls hP hS hl
  refine hJ hq H locs ls hP hS ⟨hl.1, hl.2.1, fun q hq => ?_⟩
  obtain ⟨r, hr, rfl⟩ := List.mem_map.mp hq
  exact hl.2.2 _ (List.mem_map.mpr ⟨r, hsub r hr, rfl⟩)
/-! THE FIRST STATE: rows whose items are all within bounds -/
noncomputable def al_wi (T : ai_T) (lo hi : Int) (a : ai_V) : Bool := match ai_iig ai_at ai_put ai_in32f ai_arf ai_psh ai_ln T a with
  | some q => !(ai_ltb q.1 lo) && !(ai_ltb hi q.2)
  | none => false
noncomputable def al_wk1 (T : ai_T) (e h : ai_E) : ai_E := match e, h with
  | (3, t, [(7, n), (7, lo), (7, hi)]), (1, t', items) => bif (Nat.beq t t' && Nat.beq n.toNat items.length) && items.all (al_wi T lo hi) then (3, t, [(7, n), (7, lo), (7, hi)]) else h
  | _, _ => h
theorem al_wk1_ok {ρ : List Int} {T : ai_T} (hs : ai_sat ρ T) {e h : ai_E} {c : va_E} (hc : ai_e ρ h c) : ai_e ρ (al_wk1 T e h) c := by
  unfold al_wk1
  split
  · rename_i t n lo hi t' items
    cases hb : (Nat.beq t t' && Nat.beq n.toNat items.length) && items.all (al_wi T lo hi) with
    | false => exact hc
    | true =>
      simp only [Bool.and_eq_true, Nat.beq_eq] at hb
      obtain ⟨⟨rfl, e2⟩, h3⟩ := hb
      obtain ⟨f, rfl, hf⟩ := hc
      refine ⟨f, by rw [e2], fun j hj => ?_⟩
      have hj' : j < items.length := by omega
      have ha := List.getElem?_eq_getElem hj'
      have h4 := List.all_eq_true.mp h3 _ (List.mem_of_getElem? ha)
      unfold al_wi at h4
      rw [ai_iig_ok] at h4
      split at h4
      · rename_i q hq
        obtain ⟨x, hx, -, x1, x2, -⟩ := ai_ii_ok hs hq (hf j _ ha)
        cases hx
        simp only [Bool.and_eq_true, ai_ltb_eq, Bool.not_eq_true', decide_eq_false_iff_not] at h4
        omega
      · cases h4
  · exact hc
noncomputable def al_wk (T : ai_T) : ai_M → ai_M → ai_M
  | e :: M, h :: N => al_wk1 T e h :: al_wk T M N
  | _, N => N
theorem al_wk_ok {ρ : List Int} {T : ai_T} (hs : ai_sat ρ T) : ∀ {M N : ai_M} {cM : mj_M}, ai_mm ρ N cM → ai_mm ρ (al_wk T M N) cM
  | [], _, _, h => h
  | _ :: _, [], _, h => h
  | e :: M, g :: N, [], h => h
  | e :: M, g :: N, c :: cM, h => ⟨al_wk1_ok hs h.1, al_wk_ok hs h.2⟩
