/-! A CONTRACT HOLDS IF ITS CHECKS DO -/
/-- quickly: may it be that answer? -/
def ak_rq (a b : Option ai_V) : Bool := match a, b with
  | some v, some w => bif Nat.beq v.1 0 then ak_veq v w else true
  | _, _ => true
noncomputable def ak_po (Wl : List Nat) (MI : ai_M) (npre : Nat) (outs : List ak_O) : ak_PO := fun T X M rv => outs.any (fun o => ak_rq o.2.2.2.2 rv && ak_hd Wl (fun _ => true) npre T X M [] rv.toList (o.1, o.2.1, o.2.2.1, ak_delf o.2.2.2.1 MI, [], o.2.2.2.2.toList))
noncomputable def ak_ctf (T : ai_T) (X : ak_X) (start : Option (List ak_Ky)) (nd : ak_Nd) (σ : List ai_V) : Bool := match start with
  | none => true
  | some ks => ak_kb T (ak_ki σ ak_t nd.2.2) && (Nat.beq ks.length nd.2.2.length && ak_lex T X ks (ak_ki σ ak_t nd.2.2))
/-- quickly: are the known locals of the pattern those of the state? -/
noncomputable def ak_lq (l ps : ai_L) : Bool := ps.all (fun p => match p.2.1 with
  | 0 => (match ai_lk l p.1 with
    | some w => ak_veq p.2 w
    | none => false)
  | _ => true)
/-- the places where we cut, as bits of a number -/
noncomputable def ak_msk (nodes : List ak_Nd) : Nat := List.rec (motive := fun _ => Nat) 0 (fun nd _ ih => Nat.lor (Nat.shiftLeft 1 nd.1) ih) nodes
noncomputable def ak_any {α : Type} (f : α → Bool) (l : List α) : Bool := List.rec (motive := fun _ => Bool) false (fun a _ ih => bif f a then true else ih) l
theorem ak_any_ok {α : Type} {f : α → Bool} : ∀ {l : List α}, ak_any f l = true → l.any f = true
  | [], h => by cases h
  | a :: l, h => by
    change (bif f a then true else ak_any f l) = true at h
    rw [List.any_cons]
    cases hf : f a with
    | true => rfl
    | false =>
      rw [hf] at h
      rw [Bool.false_or]
      exact ak_any_ok h
noncomputable def ak_ct (Wl : List Nat) (npre : Nat) (nodes : List ak_Nd) (start : Option (List ak_Ky)) : ak_Z := fun pc T M l st X => bif Nat.beq (Nat.land (Nat.shiftRight (ak_msk nodes) pc) 1) 1 then ak_any (fun nd => Nat.beq nd.1 pc && (ak_lq l nd.2.1.2.2.2.2.1 && ak_hd Wl (ak_ctf T X start nd) npre T X M l st nd.2.1)) nodes else false
theorem ak_ct_any {Wl : List Nat} {npre : Nat} {nodes : List ak_Nd} {start : Option (List ak_Ky)} {pc : Nat} {T : ai_T} {M : ai_M} {l : ai_L} {st : List ai_V} {X : ak_X} (h : ak_ct Wl npre nodes start pc T M l st X = true) : nodes.any (fun nd => Nat.beq nd.1 pc && (ak_lq l nd.2.1.2.2.2.2.1 && ak_hd Wl (ak_ctf T X start nd) npre T X M l st nd.2.1)) = true := by
  unfold ak_ct at h
  cases hb : Nat.beq (Nat.land (Nat.shiftRight (ak_msk nodes) pc) 1) 1 with
  | false =>
    rw [hb] at h
    cases h
  | true =>
    rw [hb] at h
    exact ak_any_ok h
noncomputable def ak_nap : List (Nat × (Int × Int)) → ai_T → ai_T
  | [], T => T
  | q :: nar, T => ak_nap nar (ai_put _ T q.1 q.2)
theorem ak_nap_ok {ρ : List Int} : ∀ {nar : List (Nat × (Int × Int))} {T : ai_T}, ai_sat ρ T → (∀ q ∈ nar, ∃ z, ρ[q.1]? = some z ∧ q.2.1 ≤ z ∧ z ≤ q.2.2) → ai_sat ρ (ak_nap nar T)
  | [], _, h, _ => h
  | q :: nar, T, h, hq => by
    obtain ⟨z, a, b, c⟩ := hq q List.mem_cons_self
    have h2 := ai_set_ok (a := (1, (q.1 : Int))) (q := q.2) h (z := z) a b c
    unfold ak_nap
    rw [ai_put_eq]
    exact ak_nap_ok h2 (fun r hr => hq r (List.mem_cons_of_mem _ hr))
noncomputable def ak_chS (K i : Nat) (en : ak_En) : Bool := (Nat.blt i mj_N && Nat.ble (ai_cs (ak_pa K en.1.1)) (mj_ml i)) && (Nat.ble 8 en.2.1 && ((ak_vi en.1.2.1 en.2.2.2.2.1).isSome && (ak_vi en.1.2.1 en.2.2.2.2.2.1).isSome))
/-- what is written of ways out and of places where we cut is but for the cells that may be written as the invariant has it -/
noncomputable def ak_chW (MI : ai_M) (en : ak_En) (nodes : List ak_Nd) : Bool := en.1.2.2.all (fun o => ak_sw (ak_mk en.2.2.2.2.2.2.2) (ak_delf o.2.2.2.1 MI) 0 MI) && nodes.all (fun nd => ak_sw (ak_mk en.2.2.2.2.2.2.2) nd.2.1.2.2.2.1 0 MI)
noncomputable def ak_chE (MI : ai_M) (CF : ak_C) (K : Nat) (tb : ak_Tb) (i : Nat) (en : ak_En) (nodes : List ak_Nd) (n : Nat) : Bool := ak_kl (ak_cfd MI CF K tb en) (ak_ct en.2.2.2.2.2.2.2 en.1.2.1.length nodes none) (ak_po en.2.2.2.2.2.2.2 MI en.1.2.1.length en.1.2.2) (ak_mk en.2.2.2.2.2.2.2) n i n 0 en.1.2.1 MI (ai_args 0 (ak_pa K en.1.1)) [] ([], [], CF, [])
noncomputable def ak_chN (MI : ai_M) (CF : ak_C) (K : Nat) (tb : ak_Tb) (i : Nat) (en : ak_En) (nodes : List ak_Nd) (n : Nat) (nd : ak_Nd) : Bool := ak_kb (ak_nap nd.2.1.1 en.1.2.1 ++ nd.2.1.2.1) nd.2.2 && ak_kl (ak_cfd MI CF K tb en) (ak_ct en.2.2.2.2.2.2.2 en.1.2.1.length nodes (some nd.2.2)) (ak_po en.2.2.2.2.2.2.2 MI en.1.2.1.length en.1.2.2) (ak_mk en.2.2.2.2.2.2.2) n i n nd.1 (ak_nap nd.2.1.1 en.1.2.1 ++ nd.2.1.2.1) nd.2.1.2.2.2.1 nd.2.1.2.2.2.2.1 nd.2.1.2.2.2.2.2 nd.2.1.2.2.1
theorem ak_hC_mono {lch : Launch} {cf : ak_CF} {Wl : List Nat} {D : Nat} {ρ0 ρ1 : List Int} (h : ak_hC lch cf Wl D ρ0) (hle : ai_le ρ0 ρ1) : ak_hC lch cf Wl D ρ1 := fun r1 T X M as rs ρ cM vas q h1 h2 h3 h4 h5 => h r1 T X M as rs ρ cM vas q (ai_le_tr hle h1) h2 h3 h4 h5
theorem ak_rk_ss {ρ : List Int} {o : Option ai_V} {rv : Option Value} : ai_rk ρ o rv ↔ ai_ss ρ o.toList rv.toList := by
  cases o with
  | none => cases rv with
    | none => exact Iff.rfl
    | some v => exact Iff.rfl
  | some a => cases rv with
    | none => exact Iff.rfl
    | some v => exact ⟨fun h => ⟨h, trivial⟩, fun h => h.1⟩
theorem ak_con_ok {lch : Launch} {MI : ai_M} {CF : ak_C} {K i : Nat} {tb : ak_Tb} {en : ak_En} {nodes : List ak_Nd} {n : Nat} (hW : ak_chW MI en nodes = true) (hS : ak_chS K i en = true) (hE : ak_chE MI CF K tb i en nodes n = true) (hN : ∀ nd ∈ nodes, ak_chN MI CF K tb i en nodes n nd = true) {ρ : List Int}
    (hP : ∀ q ∈ tb, q.2.2.2.2.2.2.2.1 ≠ en.2.2.2.2.2.2.1 → ∀ ρ, ak_cok lch MI CF K q.1 q.2.2.2.2.2.2.2.2 q.2.1 (ak_dep q.2 ρ) ρ) (hI : ∀ q ∈ tb, q.2.2.2.2.2.2.2.1 = en.2.2.2.2.2.2.1 → ∀ ρ', ak_rkc q.2 ρ' < ak_rkc en ρ → ak_cok lch MI CF K q.1 q.2.2.2.2.2.2.2.2 q.2.1 (ak_dep q.2 ρ') ρ') :
    ak_cok lch MI CF K i en.2.2.2.2.2.2.2 en.1 (ak_dep en ρ) ρ := by
  intro cM0 vas Qr hpre hQ
  obtain ⟨s0, c0, m0, a0⟩ := hpre
  unfold ak_chW at hW
  rw [Bool.and_eq_true] at hW
  have hsw : ∀ P : ai_M, ak_sw (ak_mk en.2.2.2.2.2.2.2) P 0 MI = true → P.length = MI.length ∧ ∀ q, q ∉ en.2.2.2.2.2.2.2 → P[q]? = MI[q]? := fun P h => by
    obtain ⟨h1, h2⟩ := ak_sw_ok h
    refine ⟨h1, fun q hq => h2 q ?_⟩
    rw [Nat.zero_add]
    cases hb : ak_bit (ak_mk en.2.2.2.2.2.2.2) q with
    | false => rfl
    | true => exact absurd (ak_mk_ok.mp hb) hq
  unfold ak_chS at hS
  simp only [Bool.and_eq_true, Nat.blt_eq, Nat.ble_eq] at hS
  obtain ⟨⟨hi, hcs⟩, hD, hk1, hk2⟩ := hS
  obtain ⟨q1, e1⟩ := Option.isSome_iff_exists.mp hk1
  obtain ⟨q2, e2⟩ := Option.isSome_iff_exists.mp hk2
  obtain ⟨x1, z1, -⟩ := ak_vi_ok s0 e1
  obtain ⟨x2, z2, -⟩ := ak_vi_ok s0 e2
  have hC := ak_cfd_ok z1 z2 hD hP hI
  have hdep : 8 ≤ ak_dep en ρ := by
    unfold ak_dep
    omega
  rw [ai_cs_ok a0] at hcs
  refine mj_Me_of4 hi (by omega) hcs ?_
  intro L xs J R1 R2 R3 R4
  have R2' : mj_R2 lch i (ak_dep en ρ - 6 + 6) 0 0 J := by
    rw [show ak_dep en ρ - 6 + 6 = ak_dep en ρ by omega]
    exact R2
  have hpo : ∀ (T : ai_T) (X : ak_X) (M : ai_M) (rv : Option ai_V) (ρ' : List Int) (cM : mj_M) (v : Option Value), ak_po en.2.2.2.2.2.2.2 MI en.1.2.1.length en.1.2.2 T X M rv = true → ai_le ρ ρ' → ai_sat ρ' T → ak_sx ρ' X → ai_mm ρ' M cM → ai_rk ρ' rv v → ak_fr en.2.2.2.2.2.2.2 cM0 cM → Qr v cM := by
    intro T X M rv ρ' cM v h hle hs hx hm hk hfr
    obtain ⟨o, ho, h9⟩ := List.any_eq_true.mp h
    rw [Bool.and_eq_true] at h9
    obtain ⟨cl', ν, σ, -, -, -, p1, p2, p3, p4, -, p6⟩ := ak_hd_ok (l := []) (cl := []) hs hx hm trivial (ak_rk_ss.mp hk) hle s0.1 m0 hfr (hsw _ (List.all_eq_true.mp hW.1 o ho)) h9.2
    refine hQ v cM ⟨o, ho, ν, p1, p2, p3, ?_, ak_rk_ss.mpr p6⟩ hfr
    rw [← ak_delf_eq]
    exact p4
  have hnode : ∀ (m : Nat) (nd : ak_Nd), nd ∈ nodes → ∀ (ν : List Int) (cM : mj_M) (cl : mj_L) (cst : List Value), ak_pm ρ ν nd.2.1 cM cl cst → ak_fr en.2.2.2.2.2.2.2 cM0 cM → ak_rkn (ρ ++ ν) 0 nd.2.2 < m → J 0 0 cM nd.1 cl cst := by
    intro m
    induction m with
    | zero => exact fun _ _ _ _ _ _ _ _ h => absurd h (Nat.not_lt_zero _)
    | succ m ih =>
      intro nd hnd ν cM cl cst hpm hfr hrk
      have hc := hN nd hnd
      unfold ak_chN at hc
      rw [Bool.and_eq_true] at hc
      obtain ⟨hkb, hc⟩ := hc
      obtain ⟨p1, p2, p3, p4, p5, p6⟩ := hpm
      have hle : ai_le ρ (ρ ++ ν) := ai_le_app _
      have hsN : ai_sat (ρ ++ ν) (ak_nap nd.2.1.1 en.1.2.1 ++ nd.2.1.2.1) := ak_sat_app (ak_nap_ok s0 p2) p1
      have hkeys : ∀ k ∈ nd.2.2, ∃ z, ai_z (ρ ++ ν) k.2 = some z ∧ 0 ≤ z ∧ z ≤ 1000 := fun k hk => ak_bd_ok hsN (List.all_eq_true.mp hkb k hk)
      refine ak_kl_ok (by omega) (ak_hC_mono hC hle) R1 R2' R3 ?_ (fun T X M rv ρ' cM v h h0 => hpo T X M rv ρ' cM v h (ai_le_tr hle h0)) n nd.1 _ _ _ _ _ (ρ ++ ν) cM cl cst hc ai_le_rf ⟨hsN, p4, p5, p6⟩ p3 hfr
      intro pc T M l st X ρ' cM' cl' cst' h hle' hG hx hfr'
      obtain ⟨nd', hnd', h8⟩ := List.any_eq_true.mp (ak_ct_any h)
      rw [Bool.and_eq_true, Bool.and_eq_true, Nat.beq_eq] at h8
      obtain ⟨e9, -, h9⟩ := h8
      subst e9
      obtain ⟨cl2, ν', σ, hsub, hf, hr, hpm'⟩ := ak_hd_ok hG.1 hx hG.2.1 hG.2.2.1 hG.2.2.2 (ai_le_tr hle hle') s0.1 m0 hfr' (hsw _ (List.all_eq_true.mp hW.2 nd' hnd')) h9
      unfold ak_ctf at hf
      simp only [Bool.and_eq_true, Nat.beq_eq] at hf
      obtain ⟨f1, f2, f3⟩ := hf
      have hlt := ak_lex_ok (a := 0) hG.1 hx hle' hr hkeys f1 f3 f2
      exact R4 0 0 cM' nd'.1 cl' cl2 cst' hsub (ih nd' hnd' ν' cM' cl2 cst' hpm' hfr' (by omega))
  unfold ak_chE at hE
  refine ak_kl_ok (by omega) hC R1 R2' R3 ?_ hpo n 0 _ _ _ _ _ ρ cM0 _ _ hE ai_le_rf ⟨s0, m0, ai_args_ok 0 a0, trivial⟩ ⟨(fun e he => by cases he), (fun f hf => by cases hf), c0, (fun s hs => by cases hs)⟩ ak_fr_rf
  intro pc T M l st X ρ' cM' cl' cst' h hle' hG hx hfr'
  obtain ⟨nd', hnd', h8⟩ := List.any_eq_true.mp (ak_ct_any h)
  rw [Bool.and_eq_true, Bool.and_eq_true, Nat.beq_eq] at h8
  obtain ⟨e9, -, h9⟩ := h8
  subst e9
  obtain ⟨cl2, ν', σ, hsub, -, hr, hpm'⟩ := ak_hd_ok hG.1 hx hG.2.1 hG.2.2.1 hG.2.2.2 hle' s0.1 m0 hfr' (hsw _ (List.all_eq_true.mp hW.2 nd' hnd')) h9
  exact R4 0 0 cM' nd'.1 cl' cl2 cst' hsub (hnode _ nd' hnd' ν' cM' cl2 cst' hpm' hfr' (Nat.lt_succ_self _))
/-- a contract that holds, for every start -/
def ak_holds (lch : Launch) (MI : ai_M) (CF : ak_C) (K : Nat) (q : Nat × ak_En) : Prop := ∀ ρ, ak_cok lch MI CF K q.1 q.2.2.2.2.2.2.2.2 q.2.1 (ak_dep q.2 ρ) ρ
/-- one by itself: what it calls holds already -/
theorem ak_one_ok {lch : Launch} {MI : ai_M} {CF : ak_C} {K i : Nat} {tb : ak_Tb} {en : ak_En} {nodes : List ak_Nd} {n : Nat} (hW : ak_chW MI en nodes = true) (hS : ak_chS K i en = true) (hE : ak_chE MI CF K tb i en nodes n = true) (hN : ∀ nd ∈ nodes, ak_chN MI CF K tb i en nodes n nd = true)
    (hP : ∀ q ∈ tb, q.2.2.2.2.2.2.2.1 ≠ en.2.2.2.2.2.2.1 ∧ ak_holds lch MI CF K q) : ak_holds lch MI CF K (i, en) := fun ρ =>
  ak_con_ok (ρ := ρ) hW hS hE hN (fun q hq _ => (hP q hq).2) (fun q hq e => absurd e (hP q hq).1)
/-- a group: each of its contracts may use those of a lesser rank -/
theorem ak_grp_ok {lch : Launch} {MI : ai_M} {CF : ak_C} {K g : Nat} {tb : ak_Tb} {G : List (Nat × ak_En × List ak_Nd)} {n : Nat}
    (hg : ∀ s ∈ G, s.2.1.2.2.2.2.2.2.1 = g ∧ ak_chW MI s.2.1 s.2.2 = true ∧ ak_chS K s.1 s.2.1 = true ∧ ak_chE MI CF K tb s.1 s.2.1 s.2.2 n = true ∧ ∀ nd ∈ s.2.2, ak_chN MI CF K tb s.1 s.2.1 s.2.2 n nd = true)
    (ht : ∀ q ∈ tb, q.2.2.2.2.2.2.2.1 = g → ∃ s ∈ G, q = (s.1, s.2.1)) (hP : ∀ q ∈ tb, q.2.2.2.2.2.2.2.1 ≠ g → ak_holds lch MI CF K q) : ∀ s ∈ G, ak_holds lch MI CF K (s.1, s.2.1) := by
  have key : ∀ (m : Nat) (s : Nat × ak_En × List ak_Nd), s ∈ G → ∀ ρ, ak_rkc s.2.1 ρ < m → ak_cok lch MI CF K s.1 s.2.1.2.2.2.2.2.2.2 s.2.1.1 (ak_dep s.2.1 ρ) ρ := by
    intro m
    induction m with
    | zero => exact fun _ _ _ h => absurd h (Nat.not_lt_zero _)
    | succ m ih =>
      intro s hs ρ hr
      obtain ⟨h1, hw, h2, h3, h4⟩ := hg s hs
      refine ak_con_ok hw h2 h3 h4 (fun q hq e => hP q hq (fun z => e (z.trans h1.symm))) (fun q hq e ρ' hlt => ?_)
      obtain ⟨s', hs', rfl⟩ := ht q hq (e.trans h1)
      exact ih s' hs' ρ' (by simp only at hlt; omega)
  exact fun s hs ρ => key _ s hs ρ (Nat.lt_succ_self _)
