/-! THE LAW'S RUN, WITH FRAMES: as 38b's, and the cells that may not be written stay -/
theorem bl_bb {c d : Bool} (h : (bif c then d else false) = true) : c = true ∧ d = true := by
  cases c with
  | false => cases h
  | true => exact ⟨rfl, h⟩
def bl_sc (ρ0 : List Int) (L : Nat) (xs : Nat → Int32) (z : Int) (ρ : List Int) : Prop := al_sc L xs z ρ ∧ ai_le ρ0 ρ
theorem bl_sc_mono {ρ0 : List Int} {L : Nat} {xs : Nat → Int32} {z : Int} {ρ ρ' : List Int} (h : ai_le ρ ρ') (q : bl_sc ρ0 L xs z ρ) : bl_sc ρ0 L xs z ρ' := ⟨al_sc_mono h q.1, ai_le_tr q.2 h⟩
noncomputable def bl_u5 (r : ak_Z) (pc : Nat) (T : ai_T) (M : ai_M) (l : ai_L) (st : List ai_V) (X : ak_X) (ins : Instr) (len r1 r2 : Nat) : Bool :=
  bif Nat.beq (al_q ins) 1 then (match st with
    | i :: (5, 0) :: st => (match al_sy T X i with
      | some a => Nat.beq len 1 && r (pc + 1) T M l (a :: st) X
      | none => false)
    | _ => false) else
  bif Nat.beq (al_q ins) 2 then (match st with
    | (5, 0) :: st => Nat.beq len 1 && r (pc + 1) T M l ((1, 109) :: st) X
    | _ => false) else
  bif Nat.beq (ak_q ins) 0 then ak_u3 r ((ak_hw ins).1 (ai_ow 193) (ai_nl 193) (Nat.beq (mj_ki 193) 2) 0 0 len r1 r2 pc 0 0 T M l st X) else false
noncomputable def bl_u8 (cf : ak_CF) (r : ak_Z) (pc : Nat) (T : ai_T) (M : ai_M) (l : ai_L) (st : List ai_V) (X : ak_X) (ins : Instr) (len r1 r2 : Nat) (o : Option (List ai_V × List ai_V)) : Bool := match o with
  | some q => bif Nat.beq (mj_al r1).1 0 && Nat.beq (mj_al r1).2 0 then al_u9 cf r pc T M l X q.1 q.2 r1 else false
  | none => bl_u5 r pc T M l st X ins len r1 r2
noncomputable def bl_u2 (cf : ak_CF) (r : ak_Z) (pc : Nat) (T : ai_T) (M : ai_M) (l : ai_L) (st : List ai_V) (X : ak_X) (ins : Instr) (len r1 r2 : Nat) : Bool :=
  bif Nat.beq (ai_cq ins) 0 then bl_u5 r pc T M l st X ins len r1 r2 else
  bif Nat.beq (ai_cq ins) 1 then al_gd (ai_ret (some .boolean) ins len T st) else bl_u8 cf r pc T M l st X ins len r1 r2 (ai_call ins len r1 r2 M st)
noncomputable def bl_u1 (cf : ak_CF) (r : ak_Z) (pc : Nat) (T : ai_T) (M : ai_M) (l : ai_L) (st : List ai_V) (X : ak_X) (o : Option (Instr × Nat × Nat × Nat)) : Bool := match o with
  | none => false
  | some (ins, len, r1, r2) => bl_u2 cf r pc T M l st X ins len r1 r2
noncomputable def bl_u0 (cf : ak_CF) (ct : ak_Z) (r : ak_Z) (pc : Nat) (T : ai_T) (M : ai_M) (l : ai_L) (st : List ai_V) (X : ak_X) : Bool := bif ct pc T M l st X then true else bl_u1 cf r pc T M l st X (mj_cd 193 pc)
noncomputable def bl_kl (cf : ak_CF) (ct : ak_Z) (n : Nat) : ak_Z := Nat.rec (motive := fun _ => ak_Z) (fun _ _ _ _ _ _ => false) (fun _ ih => bl_u0 cf ct ih) n
set_option maxHeartbeats 2000000 in
theorem bl_kl_ok {lch : Launch} {cf : ak_CF} {Wl : List Nat} {D L : Nat} {xs : Nat → Int32} {z : Int} {J : mj_JT} {cM0 : mj_M} {ρ0 : List Int} (hL : L ≤ 3072) (hC : ak_hC lch cf Wl D []) {ct : ak_Z}
    (R1 : mj_R1 L xs 193 (ai_ow 193) (ai_nl 193) (Nat.beq (mj_ki 193) 2) 600000 7302250 J) (R2 : mj_R2 lch 193 D 600000 7302250 J)
    (R3 : ∀ (ce sl : Nat) (M : mj_M) (pc : Nat) (lo : mj_L) (st : List Value) (ins : Instr) (len r1 r2 : Nat), mj_cd 193 pc = some (ins, len, r1, r2) → mj_rtn (some .boolean) ins len st = some (some (.int 1)) → ce ≤ 600000 → sl ≤ 7302250 → J ce sl M pc lo st)
    (hct : ∀ (pc : Nat) (T : ai_T) (M : ai_M) (l : ai_L) (st : List ai_V) (X : ak_X) (ρ : List Int) (cM : mj_M) (cl : mj_L) (cst : List Value), ct pc T M l st X = true → bl_sc ρ0 L xs z ρ → ai_G ρ T M l st cM cl cst → ak_sx ρ X → ak_fr Wl cM0 cM → J 102 3945 cM pc cl cst) :
    ∀ (n pc : Nat) (T : ai_T) (M : ai_M) (l : ai_L) (st : List ai_V) (X : ak_X) (ρ : List Int) (cM : mj_M) (cl : mj_L) (cst : List Value), bl_kl cf ct n pc T M l st X = true → bl_sc ρ0 L xs z ρ → ai_G ρ T M l st cM cl cst → ak_sx ρ X → ak_fr Wl cM0 cM → J 102 3945 cM pc cl cst
  | 0, _, _, _, _, _, _, _, _, _, _, h, _, _, _, _ => by cases h
  | n + 1, pc, T, M, l, st, X, ρ, cM, cl, cst, h, hsc, hG, hx, hfr => by
    obtain ⟨hs, hm, hl, hst⟩ := id hG
    have ih := bl_kl_ok hL hC R1 R2 R3 hct n
    change (bif ct pc T M l st X then true else bl_u1 cf (bl_kl cf ct n) pc T M l st X (mj_cd 193 pc)) = true at h
    cases hc0 : ct pc T M l st X with
    | true => exact hct pc T M l st X ρ cM cl cst hc0 hsc hG hx hfr
    | false =>
    rw [hc0, cond_false] at h
    unfold bl_u1 at h
    split at h
    · cases h
    · rename_i ins len r1 r2 hcd
      have step : bl_u5 (bl_kl cf ct n) pc T M l st X ins len r1 r2 = true → J 102 3945 cM pc cl cst := by
        intro h5
        clear h
        have h := h5
        clear h5
        unfold bl_u5 at h
        cases q1 : Nat.beq (al_q ins) 1 with
        | true =>
          rw [q1, cond_true] at h
          have e1 : ins = .iaload := by
            have := ai_bq q1
            unfold al_q at this
            split at this
            · rfl
            · cases this
            · cases this
          subst e1
          split at h
          · rename_i i st2
            split at h
            · rename_i a ha
              rw [Bool.and_eq_true] at h
              obtain ⟨h1, h⟩ := h
              obtain rfl := ai_bq h1
              obtain ⟨w, cst2, rfl, hc, hs2⟩ := ai_ss_cons hst
              obtain ⟨w2, cst3, rfl, hc2, hs3⟩ := ai_ss_cons hs2
              obtain rfl := ai_c5 hc2
              obtain ⟨x, rfl, hv, hca⟩ := al_sy_ok hL hs hx hsc.1 hc ha
              exact R1 102 3945 cM pc cl _ _ _ r1 r2 0 0 cM (pc + 1) cl (.int (xs x.toNatClampNeg) :: cst3) hcd (by simp [mj_st, mj_pu, mj_me, mj_xa0, hv, mj_go]) (by omega) (by omega) (ih (pc + 1) T M l (a :: st2) X ρ cM cl _ h hsc ⟨hs, hm, hl, hca, hs3⟩ hx hfr)
            · cases h
          · cases h
        | false =>
          rw [q1, cond_false] at h
          cases q2 : Nat.beq (al_q ins) 2 with
          | true =>
            rw [q2, cond_true] at h
            have e1 : ins = .arraylength := by
              have := ai_bq q2
              unfold al_q at this
              split at this
              · cases this
              · rfl
              · cases this
            subst e1
            split at h
            · rename_i st2
              rw [Bool.and_eq_true] at h
              obtain ⟨h1, h⟩ := h
              obtain rfl := ai_bq h1
              obtain ⟨w, cst2, rfl, hc, hs2⟩ := ai_ss_cons hst
              obtain rfl := ai_c5 hc
              obtain ⟨z0, z1, e1, e2, e3⟩ := id hsc.1
              have hca : ai_c ρ (1, 109) = some (.int (Int32.ofNat L)) := by
                show (ρ[109]?).map _ = _
                rw [e2]
                rfl
              exact R1 102 3945 cM pc cl _ _ _ r1 r2 0 0 cM (pc + 1) cl (.int (Int32.ofNat L) :: cst2) hcd (by simp [mj_st, mj_pu, mj_me, mj_xa0, mj_go]) (by omega) (by omega) (ih (pc + 1) T M l ((1, 109) :: st2) X ρ cM cl _ h hsc ⟨hs, hm, hl, hca, hs2⟩ hx hfr)
            · cases h
          | false =>
            rw [q2, cond_false] at h
            have hbh := bl_bb h
            clear h
            obtain ⟨hq0, h⟩ := hbh
            unfold ak_u3 at h
            split at h
            · cases h
            · rename_i succs hstep
              obtain ⟨dc, ds, cM', pc', cl', cst', T', M', l', st', X', ρ', hr, hmem, hle, hG', hx', h1, h2⟩ := ak_step_ok (xs := xs) (L := L) hG hx (Nat.le_refl 0) (Nat.le_refl 0) hstep
              have hy := List.all_eq_true.mp h _ hmem
              have e1 : dc = 0 := by omega
              have e2 : ds = 0 := by omega
              subst e1
              subst e2
              exact R1 102 3945 cM pc cl cst ins len r1 r2 0 0 cM' pc' cl' cst' hcd hr (by omega) (by omega) (ih pc' T' M' l' st' X' ρ' cM' cl' cst' hy (bl_sc_mono hle hsc) hG' hx' (ak_st_fr hfr hr (by rw [ai_bq hq0]; rfl) hst))
      unfold bl_u2 at h
      cases hA : Nat.beq (ai_cq ins) 0 with
      | true =>
        rw [hA, cond_true] at h
        exact step h
      | false =>
        rw [hA, cond_false] at h
        cases hB : Nat.beq (ai_cq ins) 1 with
        | true =>
          rw [hB, cond_true] at h
          unfold al_gd at h
          split at h
          · rename_i v hrv
            obtain ⟨w, hw, hk⟩ := ai_ret_ok hs hst hrv
            obtain rfl := ak_veq_ok h
            cases w with
            | none => exact hk.elim
            | some w =>
              cases hk
              exact R3 102 3945 cM pc cl cst ins len r1 r2 hcd hw (by omega) (by omega)
          · cases h
        | false =>
          rw [hB, cond_false] at h
          unfold bl_u8 at h
          split at h
          · rename_i asr hcall
            obtain ⟨as, rest⟩ := asr
            cases hal : Nat.beq (mj_al r1).1 0 && Nat.beq (mj_al r1).2 0 with
            | false => rw [hal, cond_false] at h; cases h
            | true =>
            rw [hal, cond_true] at h
            obtain ⟨idx, vas, vrest, rfl, c1, c2, c3, c4, c5, c6, c7, c8, c9, c10, c11⟩ := ai_call_ok hm hst hcall
            unfold al_u9 at h
            split at h
            · rename_i o ho
              unfold ak_u10 at h
              split at h
              · cases h
              · rename_i outs2
                obtain ⟨d', h1, h2⟩ := hC r1 T X M as outs2 ρ cM vas ho (fun k z q => by simp at q) hs hx hm c10
                refine R2 102 3945 cM pc cl cst ins idx r1 r2 vas vrest d' 0 0 (fun rv cM' => ak_on ρ outs2 rv cM' ∧ ak_fr Wl cM cM') hcd c1 c2 c3 c4 c5 c6 c7 h2 (by omega) (by omega) (by omega) c8 ?_
                rintro rv cM' ⟨⟨o, ho, ρ', q1, q2, q3, q4, q5⟩, hfr2⟩ -
                have hy := List.all_eq_true.mp h o ho
                exact ih (pc + 3) o.1 o.2.2.1 l _ o.2.1 ρ' cM' cl _ hy (bl_sc_mono q1 hsc) ⟨q2, q4, ai_sl_mono q1 hl, ai_rk_ss q5 (ai_ss_mono q1 c11)⟩ q3 (ak_fr_tr hfr hfr2)
            · cases h
          · exact step h
