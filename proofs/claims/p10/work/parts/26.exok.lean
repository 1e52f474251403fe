/-! A RUN OF THE ENGINE COVERS THE RUN OF THE MACHINE -/
def ai_rk (ρ : List Int) (o : Option ai_V) (rv : Option Value) : Prop := match o, rv with
  | none, none => True
  | some a, some v => ai_c ρ a = some v
  | _, _ => False
theorem ai_rk_ss {ρ : List Int} {o : Option ai_V} {rv : Option Value} {as : List ai_V} {vs : List Value} (h : ai_rk ρ o rv) (hs : ai_ss ρ as vs) : ai_ss ρ (o.toList ++ as) (rv.toList ++ vs) := by
  cases o with
  | none => cases rv with
    | none => exact hs
    | some v => exact h.elim
  | some a => cases rv with
    | none => exact h.elim
    | some v => exact ⟨h, hs⟩
theorem ai_all_ok {α β : Type} {f : α → Option (List β)} : ∀ {l : List α} {r : List β}, ai_all l f = some r → ∀ a ∈ l, ∃ y, f a = some y ∧ ∀ b ∈ y, b ∈ r
  | a :: l, r, h, b, hb => by
    unfold ai_all at h
    split at h
    · cases h
    · rename_i x hx
      split at h
      · cases h
      · rename_i y hy
        cases h
        rcases List.mem_cons.mp hb with rfl | hb
        · exact ⟨x, hx, fun c hc => List.mem_append_left _ hc⟩
        · obtain ⟨z, hz, hq⟩ := ai_all_ok hy b hb
          exact ⟨z, hz, fun c hc => List.mem_append_right _ (hq c hc)⟩
theorem ai_sp_ok {ρ : List Int} : ∀ (n : Nat) {as st as' rest : List ai_V} {vas vst : List Value}, ai_sp n as st = some (as', rest) → ai_ss ρ as vas → ai_ss ρ st vst → ∃ vas' vrest, mj_sp n vas vst = some (vas', vrest) ∧ ai_ss ρ as' vas' ∧ ai_ss ρ rest vrest
  | 0, as, st, as', rest, vas, vst, h, h1, h2 => by
    cases h
    exact ⟨vas, vst, rfl, h1, h2⟩
  | n + 1, as, v :: st, as', rest, vas, vst, h, h1, h2 => by
    obtain ⟨w, vst2, rfl, hc, hs⟩ := ai_ss_cons h2
    exact ai_sp_ok n (as := v :: as) (vas := w :: vas) h ⟨hc, h1⟩ hs
  | _ + 1, _, [], _, _, _, _, h, _, _ => by cases h
theorem ai_args_ok {ρ : List Int} : ∀ (k : Nat) {as : List ai_V} {vs : List Value}, ai_ss ρ as vs → ai_sl ρ (ai_args k as) (lv_args k vs)
  | _, [], [], _ => trivial
  | k, a :: as, v :: vs, h => by
    have hc := ai_cat_ok h.1
    have e : (bif ai_isL a then k + 2 else k + 1) = (if v.category = 2 then k + 2 else k + 1) := by
      cases hL : ai_isL a with
      | true => rw [if_pos (hc.2.mp hL)]; rfl
      | false => rw [if_neg (fun z => by rw [hc.2.mpr z] at hL; cases hL)]; rfl
    refine ⟨rfl, h.1, ?_⟩
    show ai_sl ρ (ai_args (bif ai_isL a then k + 2 else k + 1) as) (lv_args (if v.category = 2 then k + 2 else k + 1) vs)
    rw [e]
    exact ai_args_ok _ h.2
  | _, _ :: _, [], h => h.elim
  | _, [], _ :: _, h => h.elim
theorem ai_hd {ρ : List Int} {as : List ai_V} {vs : List Value} (h : ai_ss ρ as vs) : ai_c ρ (as.headD (6, 0)) = some (vs.headD .null) := by
  cases as with
  | nil => cases vs with
    | nil => rfl
    | cons v vs => exact h.elim
  | cons a as => cases vs with
    | nil => exact h.elim
    | cons v vs => exact h.1
theorem ai_rc_ok {ρ : List Int} {i : Nat} {M : ai_M} {cM : mj_M} {a : ai_V} {v : Value} (hm : ai_mm ρ M cM) (h : ai_rc i M a = true) (hc : ai_c ρ a = some v) : mj_rc i cM v = true := by
  unfold ai_rc at h
  split at h
  · rename_i e
    obtain rfl := ai_c4' e hc
    split at h
    · rename_i ci items hg
      rw [ai_at_eq] at hg
      obtain ⟨c, hcM, fs, rfl, -⟩ := ai_mem_get hm hg
      unfold mj_rc
      simp only [hcM]
      exact h
    · cases h
  · rename_i e
    obtain rfl := ai_c5' e hc
    exact h
  · cases h
theorem ai_isr_ok {ρ : List Int} {a : ai_V} {v : Value} (h : Nat.beq a.1 4 = true) (hc : ai_c ρ a = some v) : mj_isr v = true := by
  obtain rfl := ai_c4' (ai_bq h) hc
  rfl
theorem ai_ret_ok {ρ : List Int} {T : ai_T} {rt : Option FieldType} {ins : Instr} {len : Nat} {st : List ai_V} {cst : List Value} {rv : Option ai_V} (hs : ai_sat ρ T) (hst : ai_ss ρ st cst) (h : ai_ret rt ins len T st = some rv) : ∃ v, mj_rtn rt ins len cst = some v ∧ ai_rk ρ rv v := by
  unfold ai_ret at h
  split at h
  · split at h
    · rename_i ty a
      have hbh := ai_bt h
      clear h
      obtain ⟨hb, h⟩ := hbh
      obtain rfl := ai_bq hb
      split at h
      · rename_i p hp
        rw [ai_iig_ok] at hp
        obtain ⟨w, cst2, rfl, hc, hs2⟩ := ai_ss_cons hst
        have e2 : cst2 = [] := by cases cst2 with
          | nil => rfl
          | cons _ _ => exact hs2.elim
        subst e2
        obtain ⟨x, rfl, xz, x2, x3, -⟩ := ai_ii_ok hs hp hc
        have key : narrow ty (.int x) = .int x → rv = some a → ∃ v, mj_rtn (some ty) .ireturn 1 [.int x] = some v ∧ ai_rk ρ rv v := by
          rintro hn rfl
          exact ⟨some (.int x), by simp only [mj_rtn]; rw [if_pos hn], hc⟩
        split at h
        · cases h
          exact key rfl rfl
        · have hbh := ai_bt h
          clear h
          obtain ⟨hb, h⟩ := hbh
          cases h
          simp only [Bool.and_eq_true, decide_eq_true_eq] at hb
          refine key ?_ rfl
          rcases (show x.toInt = 0 ∨ x.toInt = 1 by omega) with z | z
          · obtain rfl : x = 0 := Int32.toInt_inj.mp z
            rfl
          · obtain rfl : x = 1 := Int32.toInt_inj.mp z
            rfl
        · have hbh := ai_bt h
          clear h
          obtain ⟨hb, h⟩ := hbh
          cases h
          simp only [Bool.and_eq_true, decide_eq_true_eq] at hb
          refine key ?_ rfl
          show Value.int x.toInt8.toInt32 = _
          congr 1
          apply Int32.toInt_inj.mp
          rw [Int8.toInt_toInt32, Int32.toInt_toInt8]
          exact Int.bmod_eq_of_le (by omega) (by omega)
        · have hbh := ai_bt h
          clear h
          obtain ⟨hb, h⟩ := hbh
          cases h
          simp only [Bool.and_eq_true, decide_eq_true_eq] at hb
          refine key ?_ rfl
          show Value.int x.toUInt32.toUInt16.toUInt32.toInt32 = _
          congr 1
          apply Int32.toBitVec_inj.mp
          apply BitVec.eq_of_toNat_eq
          have e : x.toInt = x.toBitVec.toInt := rfl
          have hlt := x.toBitVec.isLt
          have hx : x.toBitVec.toNat < 65536 := by
            rw [BitVec.toInt_eq_toNat_cond] at e
            split at e <;> omega
          show x.toUInt32.toUInt16.toUInt32.toNat = x.toBitVec.toNat
          rw [UInt16.toNat_toUInt32, UInt32.toNat_toUInt16]
          show x.toBitVec.toNat % 2 ^ 16 = x.toBitVec.toNat
          omega
        · cases h
      · cases h
    · cases h
  · split at h
    · rename_i a
      have hbh := ai_bt h
      clear h
      obtain ⟨hb, h⟩ := hbh
      cases h
      simp only [Bool.and_eq_true] at hb
      obtain ⟨hb1, hb2⟩ := hb
      obtain rfl := ai_bq hb1
      obtain ⟨w, cst2, rfl, hc, hs2⟩ := ai_ss_cons hst
      have e2 : cst2 = [] := by cases cst2 with
        | nil => rfl
        | cons _ _ => exact hs2.elim
      subst e2
      rw [ai_llg_ok] at hb2
      cases hp : ai_ll T a with
      | none => rw [hp] at hb2; cases hb2
      | some p =>
        obtain ⟨x, rfl, -⟩ := ai_ll_ok hs hp hc
        exact ⟨some (.long x), rfl, hc⟩
    · cases h
  · split at h
    · rename_i k
      have hbh := ai_bt h
      clear h
      obtain ⟨hb, h⟩ := hbh
      cases h
      obtain rfl := ai_bq hb
      obtain ⟨w, cst2, rfl, hc, hs2⟩ := ai_ss_cons hst
      have e2 : cst2 = [] := by cases cst2 with
        | nil => rfl
        | cons _ _ => exact hs2.elim
      subst e2
      obtain rfl := ai_c5 hc
      exact ⟨some (.retAddr k.toNat), rfl, hc⟩
    · cases h
  · split at h
    · have hbh := ai_bt h
      clear h
      obtain ⟨hb, h⟩ := hbh
      cases h
      obtain rfl := ai_bq hb
      have e2 : cst = [] := by cases cst with
        | nil => rfl
        | cons _ _ => exact hst.elim
      subst e2
      exact ⟨none, rfl, trivial⟩
    · cases h
  · cases h
theorem ai_ki9 : (List.range mj_N).all (fun i => Nat.blt (mj_ki i) 9) = true := by decide +kernel
theorem ai_call_ok {ρ : List Int} {ins : Instr} {len r1 r2 : Nat} {M : ai_M} {cM : mj_M} {st as rest : List ai_V} {cst : List Value} (hm : ai_mm ρ M cM) (hst : ai_ss ρ st cst) (h : ai_call ins len r1 r2 M st = some (as, rest)) :
    ∃ idx vas vrest, len = 3 ∧ (ins = .invokevirtual idx ∨ ins = .invokespecial idx ∨ ins = .invokestatic idx) ∧ r1 < mj_N ∧ (r2 = 0 ∨ r2 = 1) ∧ mj_ki r1 = mj_kd ins ∧ mj_sp (bif Nat.beq (mj_ki r1) 0 then mj_np r1 else mj_np r1 + 1) [] cst = some (vas, vrest) ∧ (mj_ki r1 = 1 → mj_rc r1 cM (vas.headD .null) = true) ∧ (mj_ki r1 = 2 → mj_isr (vas.headD .null) = true) ∧ mj_cs vrest ≤ 8 ∧ mj_cs vas ≤ mj_ml r1 ∧ ai_ss ρ as vas ∧ ai_ss ρ rest vrest := by
  unfold ai_call at h
  have hbh := ai_bt h
  clear h
  obtain ⟨hb, h⟩ := hbh
  simp only [Bool.and_eq_true, Nat.blt_eq, Nat.ble_eq] at hb
  obtain ⟨⟨h1, h2⟩, h3, h4⟩ := hb
  obtain rfl := ai_bq h2
  have h4 := ai_bq h4
  split at h
  · rename_i as2 rest2 hsp
    have hb2 := ai_bt h
    clear h
    obtain ⟨hb2, h⟩ := hb2
    cases h
    simp only [Bool.and_eq_true, Bool.or_eq_true, Bool.not_eq_true', Nat.ble_eq] at hb2
    obtain ⟨⟨g1, g2⟩, g3, g4⟩ := hb2
    obtain ⟨vas, vrest, k1, k2, k3⟩ := ai_sp_ok (ρ := ρ) _ (vas := []) hsp trivial hst
    have hk9 := List.all_eq_true.mp ai_ki9 r1 (List.mem_range.mpr h1)
    rw [Nat.blt_eq, h4] at hk9
    have hins : ∃ idx, ins = .invokevirtual idx ∨ ins = .invokespecial idx ∨ ins = .invokestatic idx := by
      unfold mj_kd at hk9
      split at hk9
      · exact ⟨_, Or.inr (Or.inr rfl)⟩
      · exact ⟨_, Or.inl rfl⟩
      · exact ⟨_, Or.inr (Or.inl rfl)⟩
      · omega
    obtain ⟨idx, hins⟩ := hins
    rw [ai_cs_ok k3] at g3
    rw [ai_cs_ok k2] at g4
    refine ⟨idx, vas, vrest, rfl, hins, h1, by omega, h4, k1, fun e => ?_, fun e => ?_, g3, g4, k2, k3⟩
    · rcases g1 with g1 | g1
      · rw [e] at g1
        cases g1
      · exact ai_rc_ok hm g1 (ai_hd k2)
    · rcases g2 with g2 | g2
      · rw [e] at g2
        cases g2
      · exact ai_isr_ok g2 (ai_hd k2)
  · cases h
/-- what the ways out of a call come to in the caller -/
def ai_on (ρ : List Int) (outs : List ai_O) (rv : Option Value) (cM : mj_M) : Prop := ∃ o ∈ outs, ∃ ρ', ai_le ρ ρ' ∧ ai_sat ρ' o.1 ∧ ai_mm ρ' o.2.1 cM ∧ ai_rk ρ' o.2.2 rv
theorem ai_mg_ok {ρ : List Int} {T : ai_T} {i : Nat} {outs : List ai_O} {rv : Option Value} {cM : mj_M} (_hs : ai_sat ρ T) (h : ai_on ρ outs rv cM) : ai_on ρ (ai_mg T.length i outs) rv cM := h
def ai_sc (scr : Bool) (L : Nat) (xs : Nat → Int32) (ρ : List Int) : Prop := scr = true → L ≤ 6 ∧ ρ[0]? = some (L : Int) ∧ ∀ j, j < 6 → ρ[1 + j]? = some (xs j).toInt
theorem ai_sc_mono {scr : Bool} {L : Nat} {xs : Nat → Int32} {ρ ρ' : List Int} (h : ai_sc scr L xs ρ) (hle : ai_le ρ ρ') : ai_sc scr L xs ρ' := fun e => ⟨(h e).1, hle _ _ (h e).2.1, fun j hj => hle _ _ ((h e).2.2 j hj)⟩
theorem ai_ex_ok {lch : Launch} : ∀ (n : Nat) (scr : Bool) (lmc lms d i pc ce sl : Nat) (T : ai_T) (M : ai_M) (l : ai_L) (st : List ai_V) (outs : List ai_O) (ρ : List Int) (cM : mj_M) (cl : mj_L) (cst : List Value) (L : Nat) (xs : Nat → Int32) (J : mj_JT) (Qr : Option Value → mj_M → Prop),
    ai_ex scr lmc lms n d i pc ce sl T M l st = some outs → ai_sc scr L xs ρ →
    mj_R1 L xs i (ai_ow i) (ai_nl i) (Nat.beq (mj_ki i) 2) (ai_mc i lmc) (ai_ms i lms) J → mj_R2 lch i d (ai_mc i lmc) (ai_ms i lms) J → mj_R3 i (ai_rt i) (ai_mc i lmc) (ai_ms i lms) Qr J →
    (∀ rv cM', ai_on ρ outs rv cM' → Qr rv cM') → ai_G ρ T M l st cM cl cst → ce ≤ ai_mc i lmc → sl ≤ ai_ms i lms → J ce sl cM pc cl cst
  | 0, _, _, _, _, _, _, _, _, _, _, _, _, _, _, _, _, _, _, _, _, _, h, _, _, _, _, _, _, _, _ => by cases h
  | n + 1, scr, lmc, lms, d, i, pc, ce, sl, T, M, l, st, outs, ρ, cM, cl, cst, L, xs, J, Qr, h, hsc, R1, R2, R3, hQ, hG, hce, hsl => by
    obtain ⟨hs, hm, hl, hst⟩ := id hG
    change ai_j1 (ai_run n) scr lmc lms d i pc ce sl T M l st (mj_cd i pc) = some outs at h
    unfold ai_j1 at h
    split at h
    · cases h
    · rename_i ins len r1 r2 hcd
      have step : ai_j5 (ai_run n) scr lmc lms d i pc ce sl T M l st ins len r1 r2 = some outs → J ce sl cM pc cl cst := by
        intro h
        unfold ai_j5 ai_j3 at h
        split at h
        · cases h
        · rename_i succs hstep
          have hstep := ai_sel_ok' hstep
          obtain ⟨dc, ds, cM', pc', cl', cst', T', M', l', st', ρ', hr, hmem, hle, hG', h1, h2⟩ := ai_step_ok (xs := xs) (L := L) hG hce hsl hsc hstep
          obtain ⟨y, hy, hyr⟩ := ai_all_ok h _ hmem
          refine R1 ce sl cM pc cl cst ins len r1 r2 dc ds cM' pc' cl' cst' hcd hr h1 h2 (ai_ex_ok (lch := lch) n scr lmc lms d i pc' (ce + dc) (sl + ds) T' M' l' st' y ρ' cM' cl' cst' L xs J Qr hy (ai_sc_mono hsc hle) R1 R2 R3 (fun rv2 cM2 q => ?_) hG' h1 h2)
          obtain ⟨o2, ho2, ρ2, z1, z2⟩ := q
          exact hQ _ _ ⟨o2, hyr _ ho2, ρ2, ai_le_tr hle z1, z2⟩
      unfold ai_j2 at h
      cases hA : Nat.beq (ai_cq ins) 0 with
      | true =>
        rw [hA] at h
        simp only [cond_true] at h
        exact step h
      | false =>
        rw [hA] at h
        simp only [cond_false] at h
        unfold ai_j2b at h
        cases hB : Nat.beq (ai_cq ins) 1 with
        | true =>
          rw [hB] at h
          simp only [cond_true] at h
          unfold ai_j6 at h
          split at h
          · rename_i rv hrv
            have hb := ai_bt h
            clear h
            obtain ⟨hb, h⟩ := hb
            cases h
            obtain ⟨v, hv, hk⟩ := ai_ret_ok hs hst hrv
            exact R3 ce sl cM pc cl cst ins len r1 r2 v hcd hv (ai_bq hb) hsl (hQ _ _ ⟨_, List.mem_cons_self, ρ, ai_le_rf, hs, hm, hk⟩)
          · cases h
        | false =>
          rw [hB] at h
          simp only [cond_false] at h
          unfold ai_j8 at h
          split at h
          · rename_i asr hcall
            obtain ⟨as, rest⟩ := asr
            unfold ai_j9 at h
            split at h
            · rename_i d'
              have hb := ai_bt h
              clear h
              obtain ⟨hb, h⟩ := hb
              simp only [Bool.and_eq_true, Nat.ble_eq] at hb
              unfold ai_j10 at h
              split at h
              · cases h
              · rename_i outs2 hcal
                obtain ⟨idx, vas, vrest, rfl, c1, c2, c3, c4, c5, c6, c7, c8, c9, c10, c11⟩ := ai_call_ok hm hst hcall
                have emc : ai_mc r1 0 = (mj_al r1).1 := by unfold ai_mc; rw [Nat.blt_eq.mpr c2]; rfl
                have ems : ai_ms r1 0 = (mj_al r1).2 := by unfold ai_ms; rw [Nat.blt_eq.mpr c2]; rfl
                have eow : ai_ow r1 = mj_ow r1 := by unfold ai_ow; rw [Nat.blt_eq.mpr c2]; rfl
                have enl : ai_nl r1 = mj_ml r1 := by unfold ai_nl; rw [Nat.blt_eq.mpr c2]; rfl
                have ert : ai_rt r1 = mj_rt r1 := by unfold ai_rt; rw [Nat.blt_eq.mpr c2]; rfl
                refine R2 ce sl cM pc cl cst ins idx r1 r2 vas vrest (d' + 1) (mj_al r1).1 (mj_al r1).2 (ai_on ρ (ai_mg T.length r1 outs2)) hcd c1 c2 c3 c4 c5 c6 c7 (mj_Me_of c2 (by omega) c9 ?_) (by omega) hb.1 hb.2 c8 ?_
                · intro L2 xs2 J2 r1' r2' r3'
                  refine ai_ex_ok (lch := lch) n false 0 0 (d' + 1) r1 0 0 0 T M (ai_args 0 as) [] outs2 ρ cM (lv_args 0 vas) [] L2 xs2 J2 (ai_on ρ (ai_mg T.length r1 outs2)) hcal (fun e => by cases e) ?_ ?_ ?_ (fun rv cM' q => ai_mg_ok hs q) ⟨hs, hm, ai_args_ok 0 c10, trivial⟩ (Nat.zero_le _) (Nat.zero_le _)
                  · rw [emc, ems, eow, enl]
                    exact r1'
                  · rw [emc, ems]
                    exact r2'
                  · rw [emc, ems, ert]
                    exact r3'
                · rintro rv cM' ⟨o, ho, ρ', q1, q2, q3, q4⟩ -
                  obtain ⟨y, hy, hyr⟩ := ai_all_ok h o ho
                  refine ai_ex_ok (lch := lch) n scr lmc lms (d' + 2) i (pc + 3) _ _ o.1 o.2.1 l _ y ρ' cM' cl _ L xs J Qr hy (ai_sc_mono hsc q1) R1 R2 R3 (fun rv2 cM2 q => ?_) ⟨q2, q3, ai_sl_mono q1 hl, ai_rk_ss q4 (ai_ss_mono q1 c11)⟩ hb.1 hb.2
                  obtain ⟨o2, ho2, ρ2, z1, z2⟩ := q
                  exact hQ _ _ ⟨o2, hyr _ ho2, ρ2, ai_le_tr q1 z1, z2⟩
            · cases h
          · exact step h
