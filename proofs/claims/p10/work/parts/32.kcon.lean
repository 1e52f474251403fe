noncomputable def ai_rva (α : Type) (l : List α) : List α → List α := List.rec (motive := fun _ => List α → List α) (fun acc => acc) (fun a _ ih acc => ih (a :: acc)) l
theorem ai_rva_eq {α : Type} : ∀ (l acc : List α), ai_rva α l acc = l.reverse ++ acc
  | [], _ => rfl
  | a :: l, acc => by
    show ai_rva α l (a :: acc) = _
    rw [ai_rva_eq l, List.reverse_cons, List.append_assoc]
    rfl
noncomputable def ai_rv (α : Type) (l : List α) : List α := ai_rva α l []
theorem ai_rv_eq {α : Type} (l : List α) : ai_rv α l = l.reverse := by
  unfold ai_rv
  rw [ai_rva_eq, List.append_nil]
noncomputable def ai_dr (α : Type) (l : List α) : Nat → List α := List.rec (motive := fun _ => Nat → List α) (fun _ => []) (fun a l ih n => Nat.rec (motive := fun _ => List α) (a :: l) (fun m _ => ih m) n) l
theorem ai_dr_eq {α : Type} : ∀ (l : List α) (n : Nat), ai_dr α l n = l.drop n
  | [], n => by
    rw [List.drop_nil]
    rfl
  | a :: l, 0 => rfl
  | a :: l, n + 1 => by
    show ai_dr α l n = _
    rw [ai_dr_eq l n, List.drop_succ_cons]
/-! CONTRACTS: what a method does from any state of the invariant -/
/-- a way out: which of the numbers of before are known better, the new numbers' bounds, facts, cells that are otherwise, the answer -/
abbrev ak_O : Type := List (Nat × (Int × Int)) × ai_T × ak_X × List (Nat × ai_E) × Option ai_V
/-- arguments, bounds of the numbers of before, ways out -/
abbrev ak_Cn : Type := List (Option ai_V) × ai_T × List ak_O
def ak_del : List (Nat × ai_E) → ai_M → ai_M
  | [], M => M
  | q :: δ, M => ak_del δ (M.set q.1 q.2)
noncomputable def ak_delf : List (Nat × ai_E) → ai_M → ai_M
  | [], M => M
  | q :: δ, M => ak_delf δ (ai_put _ M q.1 q.2)
theorem ak_delf_eq : ∀ (δ : List (Nat × ai_E)) (M : ai_M), ak_delf δ M = ak_del δ M
  | [], _ => rfl
  | q :: δ, M => by
    unfold ak_delf ak_del
    rw [ai_put_eq, ak_delf_eq]
theorem ak_del_map (f : ai_E → ai_E) : ∀ (δ : List (Nat × ai_E)) (M : ai_M), (ak_del δ M).map f = ak_del (δ.map (fun q => (q.1, f q.2))) (M.map f)
  | [], _ => rfl
  | q :: δ, M => by
    show (ak_del δ (M.set q.1 q.2)).map f = ak_del (δ.map _) ((M.map f).set q.1 (f q.2))
    rw [ak_del_map f δ, List.map_set]
def ak_os (MI : ai_M) (ρ : List Int) (o : ak_O) (rv : Option Value) (cM' : mj_M) : Prop := ∃ ν : List Int, ai_sat ν o.2.1 ∧ (∀ q ∈ o.1, ∃ z, ρ[q.1]? = some z ∧ q.2.1 ≤ z ∧ z ≤ q.2.2) ∧ ak_sx (ρ ++ ν) o.2.2.1 ∧ ai_mm (ρ ++ ν) (ak_del o.2.2.2.1 MI) cM' ∧ ai_rk (ρ ++ ν) o.2.2.2.2 rv
def ak_pre (MI : ai_M) (CF : ak_C) (K : Nat) (c : ak_Cn) (ρ : List Int) (cM : mj_M) (vas : List Value) : Prop := ai_sat ρ c.2.1 ∧ (∀ f ∈ CF, ak_sC ρ f) ∧ ai_mm ρ MI cM ∧ ai_ss ρ (ak_pa K c.1) vas
def ak_cok (lch : Launch) (MI : ai_M) (CF : ak_C) (K i : Nat) (Wl : List Nat) (c : ak_Cn) (d : Nat) (ρ : List Int) : Prop :=
  ∀ (cM : mj_M) (vas : List Value) (Qr : Option Value → mj_M → Prop), ak_pre MI CF K c ρ cM vas → (∀ rv cM', (∃ o ∈ c.2.2, ak_os MI ρ o rv cM') → ak_fr Wl cM cM' → Qr rv cM') → mj_Me lch i d 0 0 vas cM Qr
noncomputable def ak_vi (T : ai_T) (v : ai_V) : Option (Int × Int) := match v.1 with
  | 0 => some (v.2, v.2)
  | 1 => ai_at _ T v.2.toNat
  | _ => none
theorem ak_vi_ok {ρ : List Int} {T : ai_T} {v : ai_V} {q : Int × Int} (hs : ai_sat ρ T) (h : ak_vi T v = some q) : ∃ z, ai_z ρ v = some z ∧ q.1 ≤ z ∧ z ≤ q.2 := by
  obtain ⟨t, x⟩ := v
  unfold ak_vi at h
  match t, h with
  | 0, h =>
    cases h
    exact ⟨x, rfl, Int.le_refl _, Int.le_refl _⟩
  | 1, h =>
    simp only [ai_at_eq] at h
    have hl : x.toNat < ρ.length := by
      rw [hs.1]
      exact (List.getElem?_eq_some_iff.mp h).1
    have hz : ρ[x.toNat]? = some ρ[x.toNat] := List.getElem?_eq_getElem hl
    exact ⟨_, hz, hs.2 _ _ _ hz h⟩
noncomputable def ak_tck (T : ai_T) : List ai_V → ai_T → Bool
  | [], [] => true
  | v :: vs, p :: ps => (match ak_vi T v with
    | some q => !(ai_ltb q.1 p.1) && !(ai_ltb p.2 q.2)
    | none => false) && ak_tck T vs ps
  | _, _ => false
def ak_ev (ρ : List Int) (σ : List ai_V) : List Int := σ.map (fun v => (ai_z ρ v).getD 0)
theorem ak_tck_ok {ρ : List Int} {T : ai_T} (hs : ai_sat ρ T) : ∀ {σ : List ai_V} {P : ai_T}, ak_tck T σ P = true → (∀ v ∈ σ, ∃ z, ai_z ρ v = some z) ∧ ai_sat (ak_ev ρ σ) P
  | [], [], _ => ⟨(fun v hv => by cases hv), rfl, (fun k z q h => by cases k <;> cases h)⟩
  | [], _ :: _, h => by cases h
  | _ :: _, [], h => by cases h
  | v :: vs, p :: ps, h => by
    unfold ak_tck at h
    rw [Bool.and_eq_true] at h
    obtain ⟨h1, h2⟩ := h
    obtain ⟨g1, g2⟩ := ak_tck_ok hs h2
    split at h1
    · rename_i q hq
      obtain ⟨z, hz, a, b⟩ := ak_vi_ok hs hq
      simp only [Bool.and_eq_true, ai_ltb_eq, Bool.not_eq_true', decide_eq_false_iff_not] at h1
      refine ⟨fun u hu => ?_, ?_, fun k y r hk hr => ?_⟩
      · rcases List.mem_cons.mp hu with rfl | hu
        · exact ⟨z, hz⟩
        · exact g1 u hu
      · show (ak_ev ρ vs).length + 1 = ps.length + 1
        rw [g2.1]
      · cases k with
        | zero =>
          cases hr
          have hk : (ai_z ρ v).getD 0 = y := Option.some.inj hk
          rw [hz] at hk
          have hk : z = y := hk
          omega
        | succ k => exact g2.2 k y r hk hr
    · cases h1
theorem ak_bt2 {a b : Bool} (h : (bif a then b else false) = true) : a = true ∧ b = true := by
  cases a with
  | false => cases h
  | true => exact ⟨rfl, h⟩
/-- the same, walking along the bounds: most numbers are still those of before -/
def ak_qi (v : ai_V) (k : Nat) : Bool := match v.2 with
  | .ofNat x => Nat.beq v.1 1 && Nat.beq x k
  | .negSucc _ => false
def ak_wi (q p : Int × Int) : Bool := !(ai_ltb q.1 p.1) && !(ai_ltb p.2 q.2)
noncomputable def ak_tc1 (T : ai_T) (v : ai_V) (p : Int × Int) : Bool := match ak_vi T v with
  | some q => ak_wi q p
  | none => false
noncomputable def ak_tcw (T : ai_T) (vs : List ai_V) : Nat → ai_T → ai_T → Bool := List.rec (motive := fun _ => Nat → ai_T → ai_T → Bool) (fun _ _ ps => match ps with
  | [] => true
  | _ :: _ => false) (fun v _ ih k Tw ps => match ps with
  | [] => false
  | p :: ps => (match Tw with
    | [] => bif ak_tc1 T v p then ih (k + 1) [] ps else false
    | q :: Tw => bif (bif ak_qi v k then ak_wi q p else ak_tc1 T v p) then ih (k + 1) Tw ps else false)) vs
theorem ak_tc1_tck {T : ai_T} {v : ai_V} {p : Int × Int} {vs : List ai_V} {ps : ai_T} (h1 : ak_tc1 T v p = true) (h2 : ak_tck T vs ps = true) : ak_tck T (v :: vs) (p :: ps) = true := by
  unfold ak_tck
  rw [h2, Bool.and_true]
  exact h1
theorem ak_tcw_ok {T : ai_T} : ∀ {vs : List ai_V} {k : Nat} {Tw ps : ai_T}, Tw = T.drop k → ak_tcw T vs k Tw ps = true → ak_tck T vs ps = true
  | [], _, _, [], _, _ => rfl
  | [], _, _, _ :: _, _, h => by cases h
  | _ :: _, _, _, [], _, h => by cases h
  | v :: vs, k, [], p :: ps, hd, h => by
    have hbh := ak_bt2 (show (bif ak_tc1 T v p then ak_tcw T vs (k + 1) [] ps else false) = true from h)
    refine ak_tc1_tck hbh.1 (ak_tcw_ok (k := k + 1) (Tw := []) ?_ hbh.2)
    rw [← List.tail_drop, ← hd]
    rfl
  | v :: vs, k, q :: Tw, p :: ps, hd, h => by
    have hbh := ak_bt2 (show (bif (bif ak_qi v k then ak_wi q p else ak_tc1 T v p) then ak_tcw T vs (k + 1) Tw ps else false) = true from h)
    obtain ⟨h1, h2⟩ := hbh
    refine ak_tc1_tck ?_ (ak_tcw_ok (k := k + 1) (Tw := Tw) ?_ h2)
    · cases hq : ak_qi v k with
      | false =>
        rw [hq, cond_false] at h1
        exact h1
      | true =>
        rw [hq, cond_true] at h1
        obtain ⟨t, x⟩ := v
        unfold ak_qi at hq
        simp only at hq
        split at hq
        · rename_i y
          simp only [Bool.and_eq_true, Nat.beq_eq] at hq
          obtain ⟨rfl, rfl⟩ := hq
          unfold ak_tc1 ak_vi
          have e : T[y]? = some q := by
            have e := congrArg (fun l => l[0]?) hd
            simp only [List.getElem?_cons_zero, List.getElem?_drop, Nat.add_zero] at e
            exact e.symm
          simp only [ai_at_eq]
          rw [show (Int.ofNat y).toNat = y from rfl, e]
          exact h1
        · cases hq
    · rw [← List.tail_drop, ← hd]
      rfl
theorem ak_rel_of {ρ : List Int} {σ : List ai_V} (h1 : ∀ v ∈ σ, v.1 < 2) (h2 : ∀ v ∈ σ, ∃ z, ai_z ρ v = some z) : ak_rel ρ σ (ak_ev ρ σ) := by
  refine ⟨List.length_map _, fun k v hk => ?_⟩
  have hm := List.mem_of_getElem? hk
  obtain ⟨z, hz⟩ := h2 v hm
  refine ⟨h1 v hm, z, ?_, hz⟩
  unfold ak_ev
  rw [List.getElem?_map, hk]
  show some ((ai_z ρ v).getD 0) = _
  rw [hz]
  rfl
noncomputable def ak_cck (T : ai_T) (C : ak_C) (σ : List ai_V) (CF : ak_C) : Bool := CF.all (fun f => match ai_at _ σ f.1, ai_at _ σ f.2.1 with
  | some va, some vb => (match ak_vi T va, ak_vi T vb with
    | some p, some q => ai_ltb p.2 1 || ((!(ai_ltb q.1 f.2.2.1) && !(ai_ltb f.2.2.2 q.2)) || ((Nat.beq va.1 1 && Nat.beq vb.1 1) && C.any (fun g => Nat.beq g.1 va.2.toNat && (Nat.beq g.2.1 vb.2.toNat && (ai_eqb g.2.2.1 f.2.2.1 && ai_eqb g.2.2.2 f.2.2.2)))))
    | _, _ => false)
  | _, _ => false)
theorem ak_cck_ok {ρ : List Int} {T : ai_T} {C CF : ak_C} {σ : List ai_V} {ρc : List Int} (hs : ai_sat ρ T) (hC : ∀ c ∈ C, ak_sC ρ c) (hr : ak_rel ρ σ ρc) (h : ak_cck T C σ CF = true) : ∀ f ∈ CF, ak_sC ρc f := by
  intro f hf
  have h := List.all_eq_true.mp h f hf
  simp only [ai_at_eq] at h
  split at h
  · rename_i va vb ha hb
    obtain ⟨a1, z, a2, a3⟩ := hr.2 _ _ ha
    obtain ⟨b1, w, b2, b3⟩ := hr.2 _ _ hb
    split at h
    · rename_i p q hp hq
      obtain ⟨z', hz', z1, z2⟩ := ak_vi_ok hs hp
      cases hz'.symm.trans a3
      obtain ⟨w', hw', w1, w2⟩ := ak_vi_ok hs hq
      cases hw'.symm.trans b3
      refine ⟨z, w, a2, b2, fun e => ?_⟩
      rw [Bool.or_eq_true, Bool.or_eq_true] at h
      rcases h with h | h | h
      · rw [ai_ltb_eq, decide_eq_true_eq] at h
        omega
      · simp only [Bool.and_eq_true, ai_ltb_eq, Bool.not_eq_true', decide_eq_false_iff_not] at h
        omega
      · rw [Bool.and_eq_true, Bool.and_eq_true] at h
        obtain ⟨⟨e1, e2⟩, h⟩ := h
        obtain ⟨g, hg, h⟩ := List.any_eq_true.mp h
        simp only [Bool.and_eq_true, Nat.beq_eq, ai_eqb_eq, decide_eq_true_eq] at h
        obtain ⟨h1, h2, h3, h4⟩ := h
        obtain ⟨y, u, c1, c2, c3⟩ := hC g hg
        have az : ρ[va.2.toNat]? = some z := by
          obtain ⟨t, x⟩ := va
          have e1 := ai_bq e1
          simp only at e1
          subst e1
          exact a3
        have bz : ρ[vb.2.toNat]? = some w := by
          obtain ⟨t, x⟩ := vb
          have e2 := ai_bq e2
          simp only at e2
          subst e2
          exact b3
        rw [h1] at c1
        rw [h2] at c2
        cases c1.symm.trans az
        cases c2.symm.trans bz
        rw [← h3, ← h4]
        exact c3 e
    · cases h
  · cases h
/-- the new numbers of a way out, as symbols of the caller -/
def ak_nw : Nat → Nat → List ai_V
  | _, 0 => []
  | n, m + 1 => (1, (n : Int)) :: ak_nw (n + 1) m
theorem ak_nw_len : ∀ (n m : Nat), (ak_nw n m).length = m
  | _, 0 => rfl
  | n, m + 1 => by
    show (ak_nw (n + 1) m).length + 1 = m + 1
    rw [ak_nw_len]
theorem ak_nw_get : ∀ (n m k : Nat), k < m → (ak_nw n m)[k]? = some (1, ((n + k : Nat) : Int))
  | _, 0, _, h => absurd h (Nat.not_lt_zero _)
  | n, m + 1, 0, _ => rfl
  | n, m + 1, k + 1, h => by
    show (ak_nw (n + 1) m)[k]? = _
    rw [ak_nw_get (n + 1) m k (by omega), show n + 1 + k = n + (k + 1) by omega]
theorem ak_z_le {ρ ρ' : List Int} {v : ai_V} {z : Int} (h : ai_le ρ ρ') (hz : ai_z ρ v = some z) : ai_z ρ' v = some z := ai_z_mono h hz
theorem ak_rel_ext {ρ ν : List Int} {σ : List ai_V} {ρc : List Int} {n : Nat} (hr : ak_rel ρ σ ρc) (hn : ρ.length = n) : ak_rel (ρ ++ ν) (σ ++ ak_nw n ν.length) (ρc ++ ν) := by
  refine ⟨by simp [hr.1, ak_nw_len], fun k v hk => ?_⟩
  by_cases hlt : k < σ.length
  · rw [List.getElem?_append_left hlt] at hk
    obtain ⟨a, z, b, c⟩ := hr.2 k v hk
    exact ⟨a, z, by rw [List.getElem?_append_left (by rw [hr.1]; exact hlt)]; exact b, ak_z_le (ai_le_app _) c⟩
  · rw [List.getElem?_append_right (by omega)] at hk
    have hl := (List.getElem?_eq_some_iff.mp hk).1
    rw [ak_nw_len] at hl
    rw [ak_nw_get _ _ _ hl] at hk
    cases hk
    refine ⟨Nat.lt_succ_self 1, ν[k - σ.length], ?_, ?_⟩
    · rw [List.getElem?_append_right (by rw [hr.1]; omega), hr.1]
      exact List.getElem?_eq_getElem hl
    · show (ρ ++ ν)[(((n + (k - σ.length)) : Nat) : Int).toNat]? = _
      rw [show (((n + (k - σ.length)) : Nat) : Int).toNat = n + (k - σ.length) from rfl, List.getElem?_append_right (by omega), hn, show n + (k - σ.length) - n = k - σ.length by omega]
      exact List.getElem?_eq_getElem hl
/-- facts of a way out, as facts of the caller -/
noncomputable def ak_xe (σ : List ai_V) (X : ak_X) (e : Nat × Nat × Int) : ak_X := match ai_at _ σ e.1, ai_at _ σ e.2.1 with
  | some (1, j), some v => (match ak_kv X.1 v with
    | some (1, r) => ((j.toNat, r.1, r.2 + e.2.2) :: X.1, X.2)
    | _ => X)
  | _, _ => X
noncomputable def ak_xo (σ : List ai_V) (X : ak_X) (f : Nat × Int × Nat) : ak_X := match ai_at _ σ f.1, ai_at _ σ f.2.2 with
  | some v, some w => (match ak_kv X.1 v, ak_kv X.1 w with
    | some (1, ra), some (1, rb) => bif Nat.beq ra.1 rb.1 then X else ak_ado X ra rb f.2.1
    | _, _ => X)
  | _, _ => X
noncomputable def ak_xc (σ : List ai_V) (X : ak_X) (c : Nat × Nat × Int × Int) : ak_X := match ai_at _ σ c.1, ai_at _ σ c.2.1 with
  | some (1, j), some (1, k) => bif X.2.2.1.any (fun g => (Nat.beq g.1 j.toNat && Nat.beq g.2.1 k.toNat) && (ai_eqb g.2.2.1 c.2.2.1 && ai_eqb g.2.2.2 c.2.2.2)) then X else (X.1, X.2.1, (j.toNat, k.toNat, c.2.2.1, c.2.2.2) :: X.2.2.1, X.2.2.2)
  | _, _ => X
noncomputable def ak_xa (σ : List ai_V) (X Y : ak_X) : ak_X := Y.2.2.1.foldl (ak_xc σ) (Y.2.1.foldl (ak_xo σ) (Y.1.foldl (ak_xe σ) X))
theorem ak_foldx {α : Type} {f : ak_X → α → ak_X} {P : α → Prop} {ρ : List Int} (hf : ∀ (X : ak_X) (a : α), ak_sx ρ X → P a → ak_sx ρ (f X a)) : ∀ {l : List α} {X : ak_X}, (∀ a ∈ l, P a) → ak_sx ρ X → ak_sx ρ (l.foldl f X)
  | [], _, _, h => h
  | a :: l, X, hl, h => ak_foldx hf (l := l) (fun b hb => hl b (List.mem_cons_of_mem _ hb)) (hf X a h (hl a List.mem_cons_self))
theorem ak_z1 {ρ : List Int} {x z : Int} (h : ai_z ρ (1, x) = some z) : ρ[x.toNat]? = some z := h
theorem ak_xa_ok {ρ : List Int} {σ : List ai_V} {ρc : List Int} {X Y : ak_X} (hr : ak_rel ρ σ ρc) (hx : ak_sx ρ X) (hy : ak_sx ρc Y) : ak_sx ρ (ak_xa σ X Y) := by
  unfold ak_xa
  refine ak_foldx (P := ak_sC ρc) (fun X c hx hc => ?_) hy.2.2.1 (ak_foldx (P := ak_sF ρc) (fun X f hx hf => ?_) hy.2.1 (ak_foldx (P := ak_sE ρc) (fun X e hx he => ?_) hy.1 hx))
  · unfold ak_xc
    simp only [ai_at_eq]
    split
    · rename_i j k hj hk
      obtain ⟨z, w, a, b, c⟩ := hc
      obtain ⟨-, z', a', a2⟩ := hr.2 _ _ hj
      obtain ⟨-, w', b', b2⟩ := hr.2 _ _ hk
      cases a.symm.trans a'
      cases b.symm.trans b'
      have hif : ∀ (b9 : Bool) (A B9 : ak_X), ak_sx ρ A → ak_sx ρ B9 → ak_sx ρ (bif b9 then A else B9) := fun b9 A B9 h1 h2 => by
        cases b9 with
        | true => exact h1
        | false => exact h2
      refine hif _ _ _ hx ⟨hx.1, hx.2.1, fun g hg => ?_, hx.2.2.2⟩
      rcases List.mem_cons.mp hg with rfl | hg
      · exact ⟨z, w, a2, b2, c⟩
      · exact hx.2.2.1 g hg
    · exact hx
  · unfold ak_xo
    simp only [ai_at_eq]
    split
    · rename_i v w hv hw
      obtain ⟨z, y, a, b, c⟩ := hf
      obtain ⟨-, z', a', a2⟩ := hr.2 _ _ hv
      obtain ⟨-, w', b', b2⟩ := hr.2 _ _ hw
      cases a.symm.trans a'
      cases b.symm.trans b'
      split
      · rename_i ra rb e1 e2
        cases Nat.beq ra.1 rb.1 with
        | true => exact hx
        | false =>
          obtain ⟨u, hu, eu⟩ := ak_v1 (ak_kv_ok hx.1 a2 e1)
          obtain ⟨t, ht, et⟩ := ak_v1 (ak_kv_ok hx.1 b2 e2)
          exact ak_ado_ok hx hu ht (by omega)
      · exact hx
    · exact hx
  · unfold ak_xe
    simp only [ai_at_eq]
    split
    · rename_i j v hj hv
      obtain ⟨z, y, a, b, c⟩ := he
      obtain ⟨-, z', a', a2⟩ := hr.2 _ _ hj
      obtain ⟨-, w', b', b2⟩ := hr.2 _ _ hv
      cases a.symm.trans a'
      cases b.symm.trans b'
      split
      · rename_i r e2
        obtain ⟨t, ht, et⟩ := ak_v1 (ak_kv_ok hx.1 b2 e2)
        refine ⟨fun g hg => ?_, hx.2⟩
        rcases List.mem_cons.mp hg with rfl | hg
        · exact ⟨z, t, a2, ht, by simp only; omega⟩
        · exact hx.1 g hg
      · exact hx
    · exact hx
/-- bounds of before made narrower; an offset of a known number; none if that can't be -/
noncomputable def ak_na (σ : List ai_V) (T : ai_T) (q : Nat × (Int × Int)) : Option ai_T := match ai_at _ σ q.1 with
  | some (0, v) => bif ai_ltb v q.2.1 || ai_ltb q.2.2 v then none else some T
  | some (1, k) => ak_mt T k.toNat q.2
  | _ => some T
noncomputable def ak_ne (σ : List ai_V) (T : ai_T) (e : Nat × Nat × Int) : Option ai_T := match ai_at _ σ e.1, ai_at _ σ e.2.1 with
  | some (1, j), some (0, v) => ak_mt T j.toNat (v + e.2.2, v + e.2.2)
  | _, _ => some T
theorem ak_na_ok {ρ : List Int} {σ : List ai_V} {ρc : List Int} {T : ai_T} {q : Nat × (Int × Int)} (hr : ak_rel ρ σ ρc) (hs : ai_sat ρ T) (hq : ∃ z, ρc[q.1]? = some z ∧ q.2.1 ≤ z ∧ z ≤ q.2.2) : ∃ T', ak_na σ T q = some T' ∧ ai_sat ρ T' := by
  obtain ⟨z, hz, h1, h2⟩ := hq
  unfold ak_na
  simp only [ai_at_eq]
  split
  · rename_i v hv
    obtain ⟨-, z', a, b⟩ := hr.2 _ _ hv
    cases hz.symm.trans a
    have b : v = z := Option.some.inj b
    simp only [ai_ltb_eq]
    rw [show (decide (v < q.2.1) || decide (q.2.2 < v)) = false by simp; omega]
    exact ⟨T, rfl, hs⟩
  · rename_i k hk
    obtain ⟨-, z', a, b⟩ := hr.2 _ _ hk
    cases hz.symm.trans a
    exact ak_mt_ok hs (ak_z1 b) h1 h2
  · exact ⟨T, rfl, hs⟩
theorem ak_ne_ok {ρ : List Int} {σ : List ai_V} {ρc : List Int} {T : ai_T} {e : Nat × Nat × Int} (hr : ak_rel ρ σ ρc) (hs : ai_sat ρ T) (he : ak_sE ρc e) : ∃ T', ak_ne σ T e = some T' ∧ ai_sat ρ T' := by
  obtain ⟨z, w, a, b, c⟩ := he
  unfold ak_ne
  simp only [ai_at_eq]
  split
  · rename_i j v hj hv
    obtain ⟨-, z', a', a2⟩ := hr.2 _ _ hj
    obtain ⟨-, w', b', b2⟩ := hr.2 _ _ hv
    cases a.symm.trans a'
    cases b.symm.trans b'
    have b2 : v = w := Option.some.inj b2
    exact ak_mt_ok hs (ak_z1 a2) (by simp only; omega) (by simp only; omega)
  · exact ⟨T, rfl, hs⟩
/-- a way out, in the caller -/
noncomputable def ak_io2 (T2 : ai_T) (X2 : ak_X) (M : ai_M) (σ : List ai_V) (o : ak_O) : Option (ai_T × ak_X × ai_M × Option ai_V) := match ak_fold (ak_na σ) o.1 T2 with
  | none => none
  | some T3 => (match ak_fold (ak_ne σ) o.2.2.1.1 T3 with
    | none => none
    | some T4 => (match ak_tg X2 T4 with
      | none => none
      | some T5 => some (T5, X2, ak_delf (o.2.2.2.1.map (fun q => (q.1, ak_te σ q.2))) M, o.2.2.2.2.map (ak_t σ))))
noncomputable def ak_io (T : ai_T) (X : ak_X) (M : ai_M) (σ : List ai_V) (o : ak_O) : Option (ai_T × ak_X × ai_M × Option ai_V) := ak_io2 (ai_apl _ T o.2.1) (ak_xa (ai_apl _ σ (ak_nw (ai_ln _ T) (ai_ln _ o.2.1))) X o.2.2.1) M (ai_apl _ σ (ak_nw (ai_ln _ T) (ai_ln _ o.2.1))) o
theorem ak_io_eq (T : ai_T) (X : ak_X) (M : ai_M) (σ : List ai_V) (o : ak_O) : ak_io T X M σ o = ak_io2 (T ++ o.2.1) (ak_xa (σ ++ ak_nw T.length o.2.1.length) X o.2.2.1) M (σ ++ ak_nw T.length o.2.1.length) o := by
  unfold ak_io
  simp only [ai_apl_eq, ai_ln_eq]
noncomputable def ak_ap2 (f : List ai_V → Bool) (CF : ak_C) (T : ai_T) (X : ak_X) (M : ai_M) (c : ak_Cn) (σ : List ai_V) : Option (List (ai_T × ak_X × ai_M × Option ai_V)) := bif (ak_tcw T σ 0 T c.2.1 && ak_cck T X.2.2.1 σ CF) && f σ then some (c.2.2.filterMap (ak_io T X M σ)) else none
noncomputable def ak_ap1 (f : List ai_V → Bool) (CF : ak_C) (K : Nat) (T : ai_T) (X : ak_X) (M : ai_M) (as : List ai_V) (c : ak_Cn) (o : Option ak_A) : Option (List (ai_T × ak_X × ai_M × Option ai_V)) := match o with
  | none => none
  | some q => bif Nat.beq q.1 K && ak_pk c.1 then (match ak_ma c.1 as q with
    | none => none
    | some q' => ak_ap2 f CF T X M c (ai_rv _ q'.2)) else none
/-- a call by its contract -/
noncomputable def ak_ap (f : List ai_V → Bool) (MI : ai_M) (CF : ak_C) (K : Nat) (T : ai_T) (X : ak_X) (M : ai_M) (as : List ai_V) (c : ak_Cn) : Option (List (ai_T × ak_X × ai_M × Option ai_V)) := ak_ap1 f CF K T X M as c (ak_mm MI M (0, []))
def ak_on (ρ : List Int) (outs : List (ai_T × ak_X × ai_M × Option ai_V)) (rv : Option Value) (cM : mj_M) : Prop := ∃ o ∈ outs, ∃ ρ', ai_le ρ ρ' ∧ ai_sat ρ' o.1 ∧ ak_sx ρ' o.2.1 ∧ ai_mm ρ' o.2.2.1 cM ∧ ai_rk ρ' o.2.2.2 rv
theorem ak_sat_app {ρ ν : List Int} {T N : ai_T} (h : ai_sat ρ T) (g : ai_sat ν N) : ai_sat (ρ ++ ν) (T ++ N) := by
  refine ⟨by simp [h.1, g.1], fun k z q hk hq => ?_⟩
  by_cases hl : k < ρ.length
  · rw [List.getElem?_append_left hl] at hk
    rw [List.getElem?_append_left (by rw [← h.1]; exact hl)] at hq
    exact h.2 k z q hk hq
  · rw [List.getElem?_append_right (by omega)] at hk
    rw [List.getElem?_append_right (by rw [← h.1]; omega), ← h.1] at hq
    exact g.2 _ z q hk hq
theorem ak_rk_t {ρ : List Int} {σ : List ai_V} {ρc : List Int} (hr : ak_rel ρ σ ρc) {o : Option ai_V} {rv : Option Value} (h : ai_rk ρc o rv) : ai_rk ρ (o.map (ak_t σ)) rv := by
  cases o with
  | none => cases rv with
    | none => trivial
    | some v => exact h.elim
  | some a => cases rv with
    | none => exact h.elim
    | some v =>
      show ai_c ρ (ak_t σ a) = some v
      rw [ak_t_c hr]
      exact h
theorem ak_ap_ok {f : List ai_V → Bool} {MI : ai_M} {CF : ak_C} {K : Nat} {ρ : List Int} {T : ai_T} {X : ak_X} {M : ai_M} {cM : mj_M} {as : List ai_V} {vas : List Value} {c : ak_Cn} {rs : List (ai_T × ak_X × ai_M × Option ai_V)} (hs : ai_sat ρ T) (hx : ak_sx ρ X) (hm : ai_mm ρ M cM) (has : ai_ss ρ as vas) (h : ak_ap f MI CF K T X M as c = some rs) :
    ∃ (σ : List ai_V) (ρc : List Int), f σ = true ∧ ak_rel ρ σ ρc ∧ M = MI.map (ak_te σ) ∧ (ak_pa K c.1).map (ak_t σ) = as ∧ ak_pre MI CF K c ρc cM vas ∧ ∀ rv cM', (∃ o ∈ c.2.2, ak_os MI ρc o rv cM') → ak_on ρ rs rv cM' := by
  unfold ak_ap ak_ap1 at h
  split at h
  · cases h
  · rename_i q hq
    have hbh := ai_bt h
    clear h
    obtain ⟨hb, h⟩ := hbh
    simp only [Bool.and_eq_true, Nat.beq_eq] at hb
    obtain ⟨rfl, hpk⟩ := hb
    split at h
    · cases h
    · rename_i q' hq'
      rw [ai_rv_eq] at h
      unfold ak_ap2 at h
      have hbh := ai_bt h
      clear h
      obtain ⟨hb, h⟩ := hbh
      cases h
      rw [Bool.and_eq_true, Bool.and_eq_true] at hb
      obtain ⟨⟨b1, b2⟩, bf⟩ := hb
      have b1 := ak_tcw_ok (k := 0) (List.drop_zero).symm b1
      obtain ⟨h2, h3⟩ := ak_tck_ok hs b1
      have hlen : ∀ {ps : List (Option ai_V)} {as : List ai_V} {q q' : ak_A}, ak_ma ps as q = some q' → q.2.length = q.1 → (∀ v ∈ q.2, v.1 < 2) → q'.2.length = q'.1 ∧ ∀ v ∈ q'.2, v.1 < 2 := by
        intro ps
        induction ps with
        | nil =>
          intro as q q' h g1 g2
          cases as with
          | nil => cases h; exact ⟨g1, g2⟩
          | cons a as => cases h
        | cons p ps ih =>
          intro as q q' h g1 g2
          cases as with
          | nil => cases p <;> cases h
          | cons a as =>
            cases p with
            | some v =>
              unfold ak_ma at h
              have hbh := ai_bt h
              clear h
              exact ih hbh.2 g1 g2
            | none =>
              unfold ak_ma at h
              have hbh := ai_bt h
              clear h
              refine ih hbh.2 (by simp [g1]) (fun v hv => ?_)
              rcases List.mem_cons.mp hv with rfl | hv
              · exact Nat.blt_eq.mp hbh.1
              · exact g2 v hv
      have hms : ∀ {as ws : List ai_V} {q q' : ak_A}, ak_ms as ws q = some q' → q.2.length = q.1 → (∀ v ∈ q.2, v.1 < 2) → q'.2.length = q'.1 ∧ ∀ v ∈ q'.2, v.1 < 2 := by
        intro as
        induction as with
        | nil =>
          intro ws q q' h g1 g2
          cases ws with
          | nil => cases h; exact ⟨g1, g2⟩
          | cons a as => cases h
        | cons a as ih =>
          intro ws q q' h g1 g2
          cases ws with
          | nil => cases h
          | cons w ws =>
            change (match ak_sy q a w with
              | some q' => ak_ms as ws q'
              | none => none) = some q' at h
            split at h
            · rename_i q1 h1
              unfold ak_sy at h1
              split at h1
              · have hbh := ai_bt h1
                clear h1
                obtain ⟨hb, h1⟩ := hbh
                cases h1
                simp only [Bool.and_eq_true, Nat.blt_eq] at hb
                refine ih h (by simp [g1]) (fun v hv => ?_)
                rcases List.mem_cons.mp hv with rfl | hv
                · exact hb.2
                · exact g2 v hv
              · have hbh := ai_bt h1
                clear h1
                obtain ⟨hb, h1⟩ := hbh
                cases h1
                simp only [Bool.and_eq_true, Bool.or_eq_true, Nat.beq_eq] at hb
                refine ih h (by simp [g1]) (fun v hv => ?_)
                rcases List.mem_cons.mp hv with rfl | hv
                · simp only; omega
                · exact g2 v hv
              · have hbh := ai_bt h1
                clear h1
                obtain ⟨hb, h1⟩ := hbh
                cases h1
                exact ih h g1 g2
            · cases h
      have hmc : ∀ {e h : ai_E} {q q' : ak_A}, ak_mc e h q = some q' → q.2.length = q.1 → (∀ v ∈ q.2, v.1 < 2) → q'.2.length = q'.1 ∧ ∀ v ∈ q'.2, v.1 < 2 := by
        intro e h q q' hm g1 g2
        unfold ak_mc at hm
        have hbh := ai_bt hm
        clear hm
        obtain ⟨-, hm⟩ := hbh
        split at hm
        · exact hms hm g1 g2
        · exact hms hm g1 g2
        · have hbh := ai_bt hm
          clear hm
          obtain ⟨-, hm⟩ := hbh
          cases hm
          exact ⟨g1, g2⟩
      have hmm : ∀ {M N : ai_M} {q q' : ak_A}, ak_mm M N q = some q' → q.2.length = q.1 → (∀ v ∈ q.2, v.1 < 2) → q'.2.length = q'.1 ∧ ∀ v ∈ q'.2, v.1 < 2 := by
        intro M
        induction M with
        | nil =>
          intro N q q' h g1 g2
          cases N with
          | nil => cases h; exact ⟨g1, g2⟩
          | cons a as => cases h
        | cons e M ih =>
          intro N q q' h g1 g2
          cases N with
          | nil => cases h
          | cons w N =>
            change (match ak_mc e w q with
              | some q' => ak_mm M N q'
              | none => none) = some q' at h
            split at h
            · rename_i q1 h1
              obtain ⟨k1, k2⟩ := hmc h1 g1 g2
              exact ih h k1 k2
            · cases h
      obtain ⟨k1, k2⟩ := hmm hq rfl (fun v hv => by cases hv)
      obtain ⟨k3, k4⟩ := hlen hq' k1 k2
      have hP : ak_P q' q'.2.reverse := ⟨k3, k4, fun k v hk => hk⟩
      obtain ⟨p1, p2⟩ := ak_ma_ok hpk hq' hP
      have hMx : ∀ ex, MI.map (ak_te (q'.2.reverse ++ ex)) = M := fun ex => (ak_mm_ok hq (ak_ma_ok hpk hq' ⟨k3, k4, fun k v hk => by
        rw [List.getElem?_append_left (List.getElem?_eq_some_iff.mp hk).1]
        exact hk⟩).1).2
      obtain ⟨-, p4⟩ := ak_mm_ok hq p1
      have hr : ak_rel ρ q'.2.reverse (ak_ev ρ q'.2.reverse) := ak_rel_of (fun v hv => k4 v (List.mem_reverse.mp hv)) h2
      generalize q'.2.reverse = σ at hr p2 p4 h3 b1 b2 hMx bf
      generalize ak_ev ρ σ = ρc at hr h3
      refine ⟨σ, ρc, bf, hr, p4.symm, p2, ⟨h3, ak_cck_ok hs hx.2.2.1 hr b2, ?_, ?_⟩, ?_⟩
      · rw [← ak_t_mm hr, p4]
        exact hm
      · rw [← ak_t_ss hr, p2]
        exact has
      · rintro rv cM' ⟨o, ho, ν, n1, n2, n3, n4, n5⟩
        have hle : ai_le ρ (ρ ++ ν) := ai_le_app _
        have hr2 := ak_rel_ext (ν := ν) hr hs.1
        rw [n1.1] at hr2
        have hx2 := ak_xa_ok hr2 (ak_sx_mono hle hx) n3
        have hs2 : ai_sat (ρ ++ ν) (T ++ o.2.1) := ak_sat_app hs n1
        obtain ⟨T3, e3, s3⟩ := ak_fold_ok (f := ak_na (σ ++ ak_nw T.length o.2.1.length)) (P := fun q => ∃ z, (ρc ++ ν)[q.1]? = some z ∧ q.2.1 ≤ z ∧ z ≤ q.2.2) (fun T a h q => ak_na_ok hr2 h q) (fun q hq => by
          obtain ⟨z, a, b⟩ := n2 q hq
          exact ⟨z, ai_le_app _ _ _ a, b⟩) hs2
        obtain ⟨T4, e4, s4⟩ := ak_fold_ok (f := ak_ne (σ ++ ak_nw T.length o.2.1.length)) (P := ak_sE (ρc ++ ν)) (fun T a h q => ak_ne_ok hr2 h q) n3.1 s3
        obtain ⟨T5, e5, s5⟩ := ak_tg_ok hx2 s4
        refine ⟨(T5, ak_xa (σ ++ ak_nw T.length o.2.1.length) X o.2.2.1, ak_delf (o.2.2.2.1.map (fun q => (q.1, ak_te (σ ++ ak_nw T.length o.2.1.length) q.2))) M, o.2.2.2.2.map (ak_t (σ ++ ak_nw T.length o.2.1.length))), List.mem_filterMap.mpr ⟨o, ho, ?_⟩, ρ ++ ν, hle, s5, hx2, ?_, ak_rk_t hr2 n5⟩
        · rw [ak_io_eq]
          unfold ak_io2
          rw [e3]
          simp only [e4, e5]
        · show ai_mm (ρ ++ ν) (ak_delf _ M) cM'
          rw [ak_delf_eq, ← hMx (ak_nw T.length o.2.1.length), ← ak_del_map, ak_t_mm hr2]
          exact n4
