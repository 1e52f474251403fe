/-! A METHOD'S RUN WITH CUTS, AND GROUPS OF CONTRACTS -/
abbrev ak_Z : Type := Nat → ai_T → ai_M → ai_L → List ai_V → ak_X → Bool
abbrev ak_PO : Type := ai_T → ak_X → ai_M → Option ai_V → Bool
def ak_u4 (r : ak_Z) (q : (Nat × ai_S) × ak_X) : Bool := r q.1.1 q.1.2.2.2.1 q.1.2.2.2.2.1 q.1.2.2.2.2.2.1 q.1.2.2.2.2.2.2 q.2
def ak_u3 (r : ak_Z) (o : ak_R) : Bool := match o with
  | none => false
  | some succs => succs.all (ak_u4 r)
noncomputable def ak_u5 (r : ak_Z) (i pc : Nat) (T : ai_T) (M : ai_M) (l : ai_L) (st : List ai_V) (X : ak_X) (ins : Instr) (len r1 r2 : Nat) : Bool := ak_u3 r ((ak_hw ins).1 (mj_ow i) (mj_ml i) (Nat.beq (mj_ki i) 2) 0 0 len r1 r2 pc 0 0 T M l st X)
def ak_u6 (po : ak_PO) (T : ai_T) (X : ak_X) (M : ai_M) (o : Option (Option ai_V)) : Bool := match o with
  | some rv => po T X M rv
  | none => false
def ak_u7 (r : ak_Z) (pc : Nat) (l : ai_L) (rest : List ai_V) (o : ai_T × ak_X × ai_M × Option ai_V) : Bool := r pc o.1 o.2.2.1 l (o.2.2.2.toList ++ rest) o.2.1
def ak_u10 (r : ak_Z) (pc : Nat) (l : ai_L) (rest : List ai_V) (o : Option ak_OL) : Bool := match o with
  | none => false
  | some outs => outs.all (ak_u7 r pc l rest)
noncomputable def ak_u9 (cf : ak_CF) (m nn : Nat) (r : ak_Z) (pc : Nat) (T : ai_T) (M : ai_M) (l : ai_L) (X : ak_X) (as rest : List ai_V) (r1 : Nat) : Bool := ak_u10 r (pc + 3) l rest (match cf r1 T X M as with
  | some o => o
  | none => ak_y11 (ak_kx cf m nn) 6 T X M as r1)
noncomputable def ak_u8 (cf : ak_CF) (m nn : Nat) (r : ak_Z) (i pc : Nat) (T : ai_T) (M : ai_M) (l : ai_L) (st : List ai_V) (X : ak_X) (ins : Instr) (len r1 r2 : Nat) (o : Option (List ai_V × List ai_V)) : Bool := match o with
  | some q => bif Nat.beq (mj_al r1).1 0 && Nat.beq (mj_al r1).2 0 then ak_u9 cf m nn r pc T M l X q.1 q.2 r1 else false
  | none => ak_wok m r1 2 st && ak_u5 r i pc T M l st X ins len r1 r2
noncomputable def ak_u2 (cf : ak_CF) (po : ak_PO) (m nn : Nat) (r : ak_Z) (i pc : Nat) (T : ai_T) (M : ai_M) (l : ai_L) (st : List ai_V) (X : ak_X) (ins : Instr) (len r1 r2 : Nat) : Bool :=
  bif Nat.beq (ak_q ins) 0 then ak_u5 r i pc T M l st X ins len r1 r2 else
  bif Nat.beq (ak_q ins) 1 then ak_u6 po T X M (ai_ret (mj_rt i) ins len T st) else
  bif Nat.beq (ak_q ins) 2 then ak_u8 cf m nn r i pc T M l st X ins len r1 r2 (ai_call ins len r1 r2 M st) else
  ak_wok m r1 (ak_q ins) st && ak_u5 r i pc T M l st X ins len r1 r2
noncomputable def ak_u1 (cf : ak_CF) (po : ak_PO) (m nn : Nat) (r : ak_Z) (i pc : Nat) (T : ai_T) (M : ai_M) (l : ai_L) (st : List ai_V) (X : ak_X) (o : Option (Instr × Nat × Nat × Nat)) : Bool := match o with
  | none => false
  | some (ins, len, r1, r2) => ak_u2 cf po m nn r i pc T M l st X ins len r1 r2
noncomputable def ak_u0 (cf : ak_CF) (ct : ak_Z) (po : ak_PO) (m nn i : Nat) (r : ak_Z) (pc : Nat) (T : ai_T) (M : ai_M) (l : ai_L) (st : List ai_V) (X : ak_X) : Bool := bif ct pc T M l st X then true else ak_u1 cf po m nn r i pc T M l st X (mj_cd i pc)
noncomputable def ak_kl (cf : ak_CF) (ct : ak_Z) (po : ak_PO) (m nn i n : Nat) : ak_Z := Nat.rec (motive := fun _ => ak_Z) (fun _ _ _ _ _ _ => false) (fun _ ih => ak_u0 cf ct po m nn i ih) n
set_option maxHeartbeats 2000000 in
theorem ak_kl_ok {lch : Launch} {cf : ak_CF} {Wl : List Nat} {C0 : mj_M} {D : Nat} {ρ0 : List Int} (hD : 1 ≤ D) (hC : ak_hC lch cf Wl D ρ0) {ct : ak_Z} {po : ak_PO} {nn i L : Nat} {xs : Nat → Int32} {J : mj_JT} {Qr : Option Value → mj_M → Prop} (R1 : mj_R1 L xs i (mj_ow i) (mj_ml i) (Nat.beq (mj_ki i) 2) 0 0 J) (R2 : mj_R2 lch i (D + 6) 0 0 J) (R3 : mj_R3 i (mj_rt i) 0 0 Qr J)
    (hct : ∀ (pc : Nat) (T : ai_T) (M : ai_M) (l : ai_L) (st : List ai_V) (X : ak_X) (ρ : List Int) (cM : mj_M) (cl : mj_L) (cst : List Value), ct pc T M l st X = true → ai_le ρ0 ρ → ai_G ρ T M l st cM cl cst → ak_sx ρ X → ak_fr Wl C0 cM → J 0 0 cM pc cl cst)
    (hpo : ∀ (T : ai_T) (X : ak_X) (M : ai_M) (rv : Option ai_V) (ρ : List Int) (cM : mj_M) (v : Option Value), po T X M rv = true → ai_le ρ0 ρ → ai_sat ρ T → ak_sx ρ X → ai_mm ρ M cM → ai_rk ρ rv v → ak_fr Wl C0 cM → Qr v cM) :
    ∀ (n pc : Nat) (T : ai_T) (M : ai_M) (l : ai_L) (st : List ai_V) (X : ak_X) (ρ : List Int) (cM : mj_M) (cl : mj_L) (cst : List Value), ak_kl cf ct po (ak_mk Wl) nn i n pc T M l st X = true → ai_le ρ0 ρ → ai_G ρ T M l st cM cl cst → ak_sx ρ X → ak_fr Wl C0 cM → J 0 0 cM pc cl cst
  | 0, _, _, _, _, _, _, _, _, _, _, h, _, _, _, _ => by cases h
  | n + 1, pc, T, M, l, st, X, ρ, cM, cl, cst, h, hle0, hG, hx, hfr => by
    obtain ⟨hs, hm, hl, hst⟩ := id hG
    have ih := ak_kl_ok (nn := nn) hD hC R1 R2 R3 hct hpo n
    change (bif ct pc T M l st X then true else ak_u1 cf po (ak_mk Wl) nn (ak_kl cf ct po (ak_mk Wl) nn i n) i pc T M l st X (mj_cd i pc)) = true at h
    cases hc0 : ct pc T M l st X with
    | true => exact hct pc T M l st X ρ cM cl cst hc0 hle0 hG hx hfr
    | false =>
    rw [hc0, cond_false] at h
    unfold ak_u1 at h
    split at h
    · cases h
    · rename_i ins len r1 r2 hcd
      have step : ak_wok (ak_mk Wl) r1 (ak_q ins) st = true → ak_u5 (ak_kl cf ct po (ak_mk Wl) nn i n) i pc T M l st X ins len r1 r2 = true → J 0 0 cM pc cl cst := by
        intro hwok h
        unfold ak_u5 ak_u3 at h
        split at h
        · cases h
        · rename_i succs hstep
          obtain ⟨dc, ds, cM', pc', cl', cst', T', M', l', st', X', ρ', hr, hmem, hle, hG', hx', h1, h2⟩ := ak_step_ok (xs := xs) (L := L) hG hx (Nat.le_refl 0) (Nat.le_refl 0) hstep
          have hy := List.all_eq_true.mp h _ hmem
          have e1 : dc = 0 := by omega
          have e2 : ds = 0 := by omega
          subst e1
          subst e2
          exact R1 0 0 cM pc cl cst ins len r1 r2 0 0 cM' pc' cl' cst' hcd hr (Nat.le_refl 0) (Nat.le_refl 0) (ih pc' T' M' l' st' X' ρ' cM' cl' cst' hy (ai_le_tr hle0 hle) hG' hx' (ak_st_fr hfr hr hwok hst))
      unfold ak_u2 at h
      cases hA : Nat.beq (ak_q ins) 0 with
      | true =>
        rw [hA, cond_true] at h
        exact step (by rw [ai_bq hA]; rfl) h
      | false =>
        rw [hA, cond_false] at h
        cases hB : Nat.beq (ak_q ins) 1 with
        | true =>
          rw [hB, cond_true] at h
          unfold ak_u6 at h
          split at h
          · rename_i rv hrv
            obtain ⟨v, hv, hk⟩ := ai_ret_ok hs hst hrv
            exact R3 0 0 cM pc cl cst ins len r1 r2 v hcd hv rfl (Nat.le_refl 0) (hpo T X M rv ρ cM v h hle0 hs hx hm hk hfr)
          · cases h
        | false =>
          rw [hB, cond_false] at h
          cases hB2 : Nat.beq (ak_q ins) 2 with
          | false =>
            rw [hB2, cond_false, Bool.and_eq_true] at h
            exact step h.1 h.2
          | true =>
          rw [hB2, cond_true] at h
          unfold ak_u8 at h
          split at h
          · rename_i asr hcall
            obtain ⟨as, rest⟩ := asr
            cases hal : Nat.beq (mj_al r1).1 0 && Nat.beq (mj_al r1).2 0 with
            | false => rw [hal, cond_false] at h; cases h
            | true =>
            rw [hal, cond_true] at h
            obtain ⟨idx, vas, vrest, rfl, c1, c2, c3, c4, c5, c6, c7, c8, c9, c10, c11⟩ := ai_call_ok hm hst hcall
            unfold ak_u9 ak_u10 at h
            split at h
            · cases h
            · rename_i outs2 houts
              have hMe : ∃ d', d' + 1 ≤ D + 6 ∧ mj_Me lch r1 d' 0 0 vas cM (fun rv cM' => ak_on ρ outs2 rv cM' ∧ ak_fr Wl cM cM') := by
                split at houts
                · rename_i o ho
                  subst houts
                  obtain ⟨d', h1, h2⟩ := hC r1 T X M as outs2 ρ cM vas ho hle0 hs hx hm c10
                  exact ⟨d', by omega, h2⟩
                · unfold ak_y11 at houts
                  simp only at houts
                  split at houts
                  · cases houts
                  · rename_i outs3 h3
                    cases houts
                    refine ⟨D + 5, by omega, mj_Me_of c2 (by omega) c9 ?_⟩
                    intro L2 xs2 J2 r1' r2' r3'
                    exact ak_kx_ok (C0 := cM) hD hC nn 5 r1 0 T M (ai_args 0 as) [] X outs3 ρ cM (lv_args 0 vas) [] L2 xs2 J2 (fun rv cM' => ak_on ρ (ak_mg r1 X outs3) rv cM' ∧ ak_fr Wl cM cM') h3 r1' r2' r3' (fun rv cM' q qf => ⟨ak_mg_ok hx q, qf⟩) hle0 ⟨hs, hm, ai_args_ok 0 c10, trivial⟩ hx ak_fr_rf
              obtain ⟨d', hd', hMe⟩ := hMe
              refine R2 0 0 cM pc cl cst ins idx r1 r2 vas vrest d' 0 0 (fun rv cM' => ak_on ρ outs2 rv cM' ∧ ak_fr Wl cM cM') hcd c1 c2 c3 c4 c5 c6 c7 hMe hd' (Nat.le_refl 0) (Nat.le_refl 0) c8 ?_
              rintro rv cM' ⟨⟨o, ho, ρ', q1, q2, q3, q4, q5⟩, hfr2⟩ -
              have hy := List.all_eq_true.mp h o ho
              exact ih (pc + 3) o.1 o.2.2.1 l _ o.2.1 ρ' cM' cl _ hy (ai_le_tr hle0 q1) ⟨q2, q4, ai_sl_mono q1 hl, ai_rk_ss q5 (ai_ss_mono q1 c11)⟩ q3 (ak_fr_tr hfr hfr2)
          · rw [Bool.and_eq_true] at h
            exact step (by rw [ai_bq hB2]; exact h.1) h.2
/-- fewer locals are known: the rule that a cut needs -/
def mj_R4 (J : mj_JT) : Prop := ∀ (ce sl : Nat) (M : mj_M) (pc : Nat) (lo lo' : mj_L) (st : List Value), (∀ q ∈ lo', q ∈ lo) → J ce sl M pc lo' st → J ce sl M pc lo st
set_option maxHeartbeats 4000000 in
theorem mj_Me_of4 {l : Launch} {i d mc ms : Nat} {as : List Value} {M : mj_M} {Qr : Option Value → mj_M → Prop} (hi : i < mj_N) (hd : 1 ≤ d) (hcs : mj_cs as ≤ mj_ml i)
    (h : ∀ (L : Nat) (xs : Nat → Int32) (J : mj_JT), mj_R1 L xs i (mj_ow i) (mj_ml i) (Nat.beq (mj_ki i) 2) mc ms J → mj_R2 l i d mc ms J → mj_R3 i (mj_rt i) mc ms Qr J → mj_R4 J → J 0 0 M 0 (lv_args 0 as) []) : mj_Me l i d mc ms as M Qr := by
  obtain ⟨f1, f2, f3, f4, f5, f6, f7, f8, f9⟩ := mj_facts hi
  intro b0 ex dA D L xs
  refine Met.ofW (cc := mj_cc i) (maxL := mj_ml i) (ret := mj_rt i) f7 rfl ?_
  intro p e s m args below meth c s₁ B hml hv
  obtain ⟨rfl, hsz, hP, hK, hX⟩ := hv
  have hx := B.exec
  have hb := B.bytes
  have hr := B.returns
  have hts0 := atoms_spec (ws := mj_wl i) B.pre
  have hts : ∀ w ∈ mj_ww, w.before (mj_ts b0 ex as).toArray s = true := fun w hw => hts0 w (List.mem_cons_of_mem _ hw)
  have hown : s.vm.findClass (mj_y i).cls = some m.cls := findClass_of_methodNamed B.named
  have hlocks := B.notSynchronized
  have hnm : meth.name = (mj_y i).name := (name_of_methodNamed B.named B.method).1
  have hl := lv_entry (mj_ts b0 ex as) (n := mj_ml i) (by rw [mj_sl_len, mj_words]; exact hcs)
  rw [lg_entry_eq]
  generalize (lg_sl (mj_ts b0 ex as) ++ List.replicate (mj_ml i - (lg_sl (mj_ts b0 ex as)).length) Slot.unset).toArray = ls at hl ⊢
  rw [mj_tl_args] at hl
  have C : mj_Cx b0 ex dA D L xs p (mj_rm d mc ms) m c (mj_cc i) (mj_ml i) s (mj_ts b0 ex as).toArray (mj_ow i) := ⟨hx, hb, hml, by rw [f8]; exact hown, hts, hK, by omega, hX, hd, by show 64 ≤ 64 * d; omega⟩
  have hini : Nat.beq (mj_ki i) 2 = true → meth.name = "<init>" := fun z => hnm.trans (f4 (Nat.eq_of_beq_eq_true z))
  refine h L xs (mj_Jd p l e (mj_rm d mc ms) s m (mj_ts b0 ex as).toArray below meth c (MQ below (mj_Qc b0 ex dA D M mc Qr) (mj_ts b0 ex as).toArray s mc ms (fun q => b0 ≤ q)) (mj_ml i) b0 ex dA D) (mj_r1_ok C hini (mj_cpa i hi) (Nat.le_refl _) (Nat.le_refl _)) (mj_r2_ok C (mj_cpa i hi) (Nat.le_refl _) (Nat.le_refl _) (Nat.le_refl _) (Nat.le_refl _)) ?_ ?_ (by rw [hsz]; omega) s.heap [] ls hP va_S.rf hl
  · intro ce sl M' pc lo st ins len r1 r2 rv hc hrt hce hsl hQ hq H locs ls hP hS hl
    subst hce
    obtain ⟨hdg, -⟩ := mj_cpa i hi pc _ hc
    refine W.widen (Nat.le_refl _) hsl ?_
    have hlen : M'.length = M.length + ce := by omega
    unfold mj_rtn at hrt
    split at hrt
    · rename_i ty hr2
      split at hrt
      · rename_i hn
        cases hrt
        rw [hr2] at hr
        exact W.zret hx hb hr hn (fun t ht hW => ⟨some (.int _), M', rfl, hQ, hlen, by rw [ht]; exact hP, hS.F ht⟩) hS.2.2 hdg
      · cases hrt
    · rename_i hr2
      cases hrt
      rw [hr2] at hr
      exact W.lret hx hb hr (fun t ht hW => ⟨some (.long _), M', rfl, hQ, hlen, by rw [ht]; exact hP, hS.F ht⟩) hS.2.2 hdg
    · rename_i hr2
      cases hrt
      rw [hr2] at hr
      exact W.aret hx hb hr (Or.inl ⟨_, rfl⟩) (mj_ev_or ex _) (fun t ht hW => ⟨some (.retAddr _), M', rfl, hQ, hlen, by rw [ht]; exact hP, hS.F ht⟩) hS.2.2 hdg
    · rename_i hr2
      cases hrt
      rw [hr2] at hr
      exact W.vret hx hb hr (fun t ht hW => ⟨none, M', rfl, hQ, hlen, by rw [ht]; exact hP, hS.F ht⟩) hS.2.2 hdg
    · cases hrt
  · intro ce sl M' pc lo lo' st hsub hJ hq H locs ls hP hS hl
    refine hJ hq H locs ls hP hS ⟨hl.1, hl.2.1, fun q hq => ?_⟩
    obtain ⟨r, hr, rfl⟩ := List.mem_map.mp hq
    exact hl.2.2 _ (List.mem_map.mpr ⟨r, hsub r hr, rfl⟩)
