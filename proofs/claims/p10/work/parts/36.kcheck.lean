/-! GROUPS OF CONTRACTS: each holds if its check does -/
abbrev ak_Ky : Type := Bool × ai_V
/-- a contract, its depth, two keys and their bounds, its group, the cells that it may write -/
abbrev ak_En : Type := ak_Cn × Nat × Nat × Nat × ai_V × ai_V × Nat × List Nat
/-- where we cut: place, pattern, keys -/
abbrev ak_Nd : Type := Nat × ak_Pt × List ak_Ky
abbrev ak_Tb : Type := List (Nat × ak_En)
def ak_val (ρ : List Int) (v : ai_V) : Int := (ai_z ρ v).getD 0
def ak_rkc (en : ak_En) (ρ : List Int) : Nat := ((en.2.2.1 : Int) - ak_val ρ en.2.2.2.2.1).toNat * (en.2.2.2.1 + 1) + ((en.2.2.2.1 : Int) - ak_val ρ en.2.2.2.2.2.1).toNat
def ak_dep (en : ak_En) (ρ : List Int) : Nat := en.2.1 + 8 * ak_rkc en ρ
def ak_am : List (Option ai_V) → List ai_V → Bool
  | [], [] => true
  | some v :: ps, a :: as => ak_veq v a && ak_am ps as
  | none :: ps, _ :: as => ak_am ps as
  | _, _ => false
def ak_fd : ak_Tb → Nat → List ai_V → Option ak_En
  | [], _, _ => none
  | q :: tb, r1, as => bif Nat.beq q.1 r1 && ak_am q.2.1.1 as then some q.2 else ak_fd tb r1 as
theorem ak_fd_mem : ∀ {tb : ak_Tb} {r1 : Nat} {as : List ai_V} {en : ak_En}, ak_fd tb r1 as = some en → (r1, en) ∈ tb
  | [], _, _, _, h => by cases h
  | q :: tb, r1, as, en, h => by
    unfold ak_fd at h
    cases hb : Nat.beq q.1 r1 && ak_am q.2.1.1 as with
    | true =>
      rw [hb, cond_true] at h
      cases h
      rw [Bool.and_eq_true, Nat.beq_eq] at hb
      rw [← hb.1]
      exact List.mem_cons_self
    | false =>
      rw [hb, cond_false] at h
      exact List.mem_cons_of_mem _ (ak_fd_mem h)
noncomputable def ak_bd (T : ai_T) (v : ai_V) (lo hi : Int) : Bool := match ak_vi T v with
  | some q => !(ai_ltb q.1 lo) && !(ai_ltb hi q.2)
  | none => false
theorem ak_bd_ok {ρ : List Int} {T : ai_T} {v : ai_V} {lo hi : Int} (hs : ai_sat ρ T) (h : ak_bd T v lo hi = true) : ∃ z, ai_z ρ v = some z ∧ lo ≤ z ∧ z ≤ hi := by
  unfold ak_bd at h
  split at h
  · rename_i q hq
    obtain ⟨z, a, b, c⟩ := ak_vi_ok hs hq
    simp only [Bool.and_eq_true, ai_ltb_eq, Bool.not_eq_true', decide_eq_false_iff_not] at h
    exact ⟨z, a, by omega, by omega⟩
  · cases h
noncomputable def ak_lt1 (T : ai_T) (X : ak_X) (v w : ai_V) (d : Int) : Bool := match ak_kv X.1 v, ak_kv X.1 w with
  | some a, some b => ak_le T X a b d
  | _, _ => false
theorem ak_lt1_ok {ρ : List Int} {T : ai_T} {X : ak_X} {v w : ai_V} {d x y : Int} (hs : ai_sat ρ T) (hx : ak_sx ρ X) (h1 : ai_z ρ v = some x) (h2 : ai_z ρ w = some y) (h : ak_lt1 T X v w d = true) : x + d ≤ y := by
  unfold ak_lt1 at h
  split at h
  · rename_i a b e1 e2
    exact ak_le_ok hs hx (ak_kv_ok hx.1 h1 e1) (ak_kv_ok hx.1 h2 e2) h
  · cases h
theorem ak_t_z {ρ : List Int} {σ : List ai_V} {ρc : List Int} {a : ai_V} {z : Int} (hr : ak_rel ρ σ ρc) (h : ai_z ρ (ak_t σ a) = some z) : ai_z ρc a = some z := by
  obtain ⟨t, x⟩ := a
  unfold ak_t at h
  match t, h with
  | 0, h => exact h
  | 1, h =>
    simp only [ai_at_eq] at h
    cases hk : σ[x.toNat]? with
    | none => rw [hk] at h; cases h
    | some v =>
      rw [hk] at h
      obtain ⟨-, y, b, c⟩ := hr.2 _ _ hk
      cases h.symm.trans c
      exact b
  | 2, h => exact h
  | 3, h =>
    simp only [ai_at_eq] at h
    cases hk : σ[x.toNat]? with
    | none => rw [hk] at h; cases h
    | some v =>
      rw [hk] at h
      obtain ⟨a, y, b, c⟩ := hr.2 _ _ hk
      obtain ⟨t, u⟩ := v
      match t, a, c, h with
      | 0, _, c, h =>
        cases c
        cases h
        exact b
      | 1, _, c, h =>
        have c : ρ[u.toNat]? = some y := c
        have h : ρ[u.toNat]? = some z := h
        cases c.symm.trans h
        exact b
  | 4, h => cases h
  | 5, h => cases h
  | 6, h => cases h
  | n + 7, h => cases h
/-- may a contract be used here? -/
noncomputable def ak_alw (T : ai_T) (X : ak_X) (cu en : ak_En) (σ : List ai_V) : Bool :=
  ak_sub (ak_mk en.2.2.2.2.2.2.2) (ak_mk cu.2.2.2.2.2.2.2) && bif Nat.beq en.2.2.2.2.2.2.1 cu.2.2.2.2.2.2.1 then
    (Nat.beq en.2.1 cu.2.1 && (Nat.beq en.2.2.1 cu.2.2.1 && Nat.beq en.2.2.2.1 cu.2.2.2.1)) && ((ak_bd T (ak_t σ en.2.2.2.2.1) 0 (en.2.2.1 : Int) && ak_bd T (ak_t σ en.2.2.2.2.2.1) 0 (en.2.2.2.1 : Int)) &&
      (ak_lt1 T X cu.2.2.2.2.1 (ak_t σ en.2.2.2.2.1) 1 || (ak_lt1 T X cu.2.2.2.2.1 (ak_t σ en.2.2.2.2.1) 0 && ak_lt1 T X cu.2.2.2.2.2.1 (ak_t σ en.2.2.2.2.2.1) 1)))
  else (ak_bd T (ak_t σ en.2.2.2.2.1) 0 (en.2.2.1 : Int) && ak_bd T (ak_t σ en.2.2.2.2.2.1) 0 (en.2.2.2.1 : Int)) && Nat.ble (en.2.1 + 8 * ((en.2.2.1 + 1) * (en.2.2.2.1 + 1)) + 7) cu.2.1
noncomputable def ak_cfd (MI : ai_M) (CF : ak_C) (K : Nat) (tb : ak_Tb) (cu : ak_En) : ak_CF := fun r1 T X M as => match ak_fd tb r1 as with
  | none => none
  | some en => some (ak_ap (ak_alw T X cu en) MI CF K T X M as en.1)
theorem ak_rk_le {B1 B2 : Nat} {x1 x2 : Int} (h1 : 0 ≤ x1) (h2 : 0 ≤ x2) : ((B1 : Int) - x1).toNat * (B2 + 1) + ((B2 : Int) - x2).toNat ≤ (B1 + 1) * (B2 + 1) := by
  have a : ((B1 : Int) - x1).toNat ≤ B1 := by omega
  have b : ((B2 : Int) - x2).toNat ≤ B2 := by omega
  have c := Nat.mul_le_mul_right (B2 + 1) a
  have e : (B1 + 1) * (B2 + 1) = B1 * (B2 + 1) + (B2 + 1) := Nat.succ_mul _ _
  omega
theorem ak_rk_lt1 {B1 B2 : Nat} {x1 x2 y1 y2 : Int} (h1 : y1 + 1 ≤ x1) (h2 : x1 ≤ B1) (h3 : 0 ≤ x2) : ((B1 : Int) - x1).toNat * (B2 + 1) + ((B2 : Int) - x2).toNat < ((B1 : Int) - y1).toNat * (B2 + 1) + ((B2 : Int) - y2).toNat := by
  have a : ((B1 : Int) - x1).toNat + 1 ≤ ((B1 : Int) - y1).toNat := by omega
  have b : ((B2 : Int) - x2).toNat ≤ B2 := by omega
  have c := Nat.mul_le_mul_right (B2 + 1) a
  have e : (((B1 : Int) - x1).toNat + 1) * (B2 + 1) = ((B1 : Int) - x1).toNat * (B2 + 1) + (B2 + 1) := Nat.succ_mul _ _
  omega
theorem ak_cfd_ok {lch : Launch} {MI : ai_M} {CF : ak_C} {K : Nat} {tb : ak_Tb} {cu : ak_En} {ρ0 : List Int} {x1 x2 : Int} (hk1 : ai_z ρ0 cu.2.2.2.2.1 = some x1) (hk2 : ai_z ρ0 cu.2.2.2.2.2.1 = some x2) (hD : 8 ≤ cu.2.1)
    (hP : ∀ q ∈ tb, q.2.2.2.2.2.2.2.1 ≠ cu.2.2.2.2.2.2.1 → ∀ ρ, ak_cok lch MI CF K q.1 q.2.2.2.2.2.2.2.2 q.2.1 (ak_dep q.2 ρ) ρ) (hI : ∀ q ∈ tb, q.2.2.2.2.2.2.2.1 = cu.2.2.2.2.2.2.1 → ∀ ρ, ak_rkc q.2 ρ < ak_rkc cu ρ0 → ak_cok lch MI CF K q.1 q.2.2.2.2.2.2.2.2 q.2.1 (ak_dep q.2 ρ) ρ) :
    ak_hC lch (ak_cfd MI CF K tb cu) cu.2.2.2.2.2.2.2 (ak_dep cu ρ0 - 6) ρ0 := by
  intro r1 T X M as rs ρ cM vas h hle hs hx hm hss
  unfold ak_cfd at h
  split at h
  · cases h
  · rename_i en hen
    have h := Option.some.inj h
    obtain ⟨σ, ρc, hf, hr, -, -, hpre, hpost⟩ := ak_ap_ok hs hx hm hss h
    have hmem := ak_fd_mem hen
    obtain ⟨c, D0, B1, B2, k1, k2, gid, eW⟩ := en
    obtain ⟨cc, cD, cB1, cB2, ck1, ck2, cg, cW⟩ := cu
    unfold ak_alw at hf
    rw [Bool.and_eq_true] at hf
    obtain ⟨hsub, hf⟩ := hf
    simp only at hf hk1 hk2 hD hP hI hsub
    have hpost : ∀ (rv : Option Value) (cM' : mj_M), (∃ o ∈ c.2.2, ak_os MI ρc o rv cM') → ak_fr eW cM cM' → ak_on ρ rs rv cM' ∧ ak_fr cW cM cM' := fun rv cM' h g => ⟨hpost rv cM' h, ak_fr_mono g (ak_sub_ok hsub)⟩
    have w1 : ak_val ρ0 ck1 = x1 := by unfold ak_val; rw [hk1]; rfl
    have w2 : ak_val ρ0 ck2 = x2 := by unfold ak_val; rw [hk2]; rfl
    have hk1 := ai_z_mono hle hk1
    have hk2 := ai_z_mono hle hk2
    cases hg : Nat.beq gid cg with
    | true =>
      rw [hg, cond_true] at hf
      simp only [Bool.and_eq_true, Nat.beq_eq, Bool.or_eq_true] at hf
      obtain ⟨⟨rfl, rfl, rfl⟩, ⟨g1, g2⟩, g3⟩ := hf
      obtain rfl := Nat.eq_of_beq_eq_true hg
      obtain ⟨y1, e1, f1, f2⟩ := ak_bd_ok hs g1
      obtain ⟨y2, e2, f3, f4⟩ := ak_bd_ok hs g2
      have v1 : ak_val ρc k1 = y1 := by unfold ak_val; rw [ak_t_z hr e1]; rfl
      have v2 : ak_val ρc k2 = y2 := by unfold ak_val; rw [ak_t_z hr e2]; rfl
      have hlt : ak_rkc (c, D0, B1, B2, k1, k2, gid, eW) ρc < ak_rkc (cc, D0, B1, B2, ck1, ck2, gid, cW) ρ0 := by
        unfold ak_rkc
        simp only
        rw [v1, v2, w1, w2]
        rcases g3 with g3 | ⟨g3, g4⟩
        · exact ak_rk_lt1 (ak_lt1_ok hs hx hk1 e1 g3) f2 f3
        · have h3 := ak_lt1_ok hs hx hk1 e1 g3
          have h4 := ak_lt1_ok hs hx hk2 e2 g4
          by_cases e : x1 + 1 ≤ y1
          · exact ak_rk_lt1 e f2 f3
          · rw [show y1 = x1 by omega]
            omega
      refine ⟨ak_dep (c, D0, B1, B2, k1, k2, gid, eW) ρc, ?_, hI _ hmem rfl ρc hlt cM vas _ hpre hpost⟩
      unfold ak_dep
      simp only
      omega
    | false =>
      rw [hg, cond_false] at hf
      simp only [Bool.and_eq_true, Nat.ble_eq] at hf
      obtain ⟨⟨g1, g2⟩, g3⟩ := hf
      obtain ⟨y1, e1, f1, f2⟩ := ak_bd_ok hs g1
      obtain ⟨y2, e2, f3, f4⟩ := ak_bd_ok hs g2
      have v1 : ak_val ρc k1 = y1 := by unfold ak_val; rw [ak_t_z hr e1]; rfl
      have v2 : ak_val ρc k2 = y2 := by unfold ak_val; rw [ak_t_z hr e2]; rfl
      refine ⟨ak_dep (c, D0, B1, B2, k1, k2, gid, eW) ρc, ?_, hP _ hmem (fun e => by simp only at e; rw [e, Nat.beq_refl] at hg; cases hg) ρc cM vas _ hpre hpost⟩
      have hb : ak_rkc (c, D0, B1, B2, k1, k2, gid, eW) ρc ≤ (B1 + 1) * (B2 + 1) := by
        unfold ak_rkc
        simp only
        rw [v1, v2]
        exact ak_rk_le f1 f3
      unfold ak_dep
      simp only
      generalize (B1 + 1) * (B2 + 1) = q9 at hb g3
      omega
/-! NODES -/
def ak_r1 (ρ : List Int) (k : ak_Ky) : Nat := bif k.1 then (ak_val ρ k.2).toNat else (1000 - ak_val ρ k.2).toNat
def ak_rkn (ρ : List Int) : Nat → List ak_Ky → Nat
  | acc, [] => acc
  | acc, k :: ks => ak_rkn ρ (acc * 1001 + ak_r1 ρ k) ks
noncomputable def ak_kb (T : ai_T) (ks : List ak_Ky) : Bool := ks.all (fun k => ak_bd T k.2 0 1000)
noncomputable def ak_lex (T : ai_T) (X : ak_X) : List ak_Ky → List ak_Ky → Bool
  | k :: ks, k' :: ks' => (k.1 == k'.1) && (bif k.1 then (ak_lt1 T X k'.2 k.2 1 || (ak_lt1 T X k'.2 k.2 0 && ak_lex T X ks ks')) else (ak_lt1 T X k.2 k'.2 1 || (ak_lt1 T X k.2 k'.2 0 && ak_lex T X ks ks')))
  | _, _ => false
def ak_ki (σ : List ai_V) (f : List ai_V → ai_V → ai_V) (ks : List ak_Ky) : List ak_Ky := ks.map (fun k => (k.1, f σ k.2))
theorem ak_r1_le {ρ : List Int} {k : ak_Ky} {z : Int} (h : ai_z ρ k.2 = some z) (h0 : 0 ≤ z) (h1 : z ≤ 1000) : ak_r1 ρ k ≤ 1000 := by
  have e : ak_val ρ k.2 = z := by unfold ak_val; rw [h]; rfl
  unfold ak_r1
  rw [e]
  cases k.1 with
  | true => simp only [cond_true]; omega
  | false => simp only [cond_false]; omega
theorem ak_rkn_lt {ρ ρ' : List Int} : ∀ {ks ks' : List ak_Ky} {a a' : Nat}, ks.length = ks'.length → (∀ k ∈ ks', ak_r1 ρ' k ≤ 1000) → a' < a → ak_rkn ρ' a' ks' < ak_rkn ρ a ks
  | [], [], _, _, _, _, h => h
  | [], _ :: _, _, _, hl, _, _ => by cases hl
  | _ :: _, [], _, _, hl, _, _ => by cases hl
  | k :: ks, k' :: ks', a, a', hl, hb, h => by
    show ak_rkn ρ' (a' * 1001 + ak_r1 ρ' k') ks' < ak_rkn ρ (a * 1001 + ak_r1 ρ k) ks
    refine ak_rkn_lt (by simpa using hl) (fun q hq => hb q (List.mem_cons_of_mem _ hq)) ?_
    have := hb k' List.mem_cons_self
    omega
theorem ak_lex_ok {ρ ρN ρN' : List Int} {T : ai_T} {X : ak_X} {σ : List ai_V} (hs : ai_sat ρ T) (hx : ak_sx ρ X) (hle : ai_le ρN ρ) (hr : ak_rel ρ σ ρN') : ∀ {ks ks' : List ak_Ky} {a : Nat}, (∀ k ∈ ks, ∃ z, ai_z ρN k.2 = some z ∧ 0 ≤ z ∧ z ≤ 1000) → ak_kb T (ak_ki σ ak_t ks') = true → ak_lex T X ks (ak_ki σ ak_t ks') = true → ks.length = ks'.length → ak_rkn ρN' a ks' < ak_rkn ρN a ks
  | [], [], _, _, _, h, _ => by cases h
  | [], _ :: _, _, _, _, h, _ => by cases h
  | _ :: _, [], _, _, _, h, _ => by cases h
  | k :: ks, k' :: ks', a, hk, hb, h, hl => by
    obtain ⟨n, v⟩ := k
    obtain ⟨n', v'⟩ := k'
    unfold ak_kb at hb
    have hb0 : ∀ q ∈ (n', v') :: ks', ∃ z, ai_z ρ (ak_t σ q.2) = some z ∧ 0 ≤ z ∧ z ≤ 1000 := fun q hq => ak_bd_ok hs (List.all_eq_true.mp hb (q.1, ak_t σ q.2) (List.mem_map.mpr ⟨q, hq, rfl⟩))
    have hb1 : ∀ q ∈ (n', v') :: ks', ak_r1 ρN' q ≤ 1000 := fun q hq => by
      obtain ⟨z, e1, e2, e3⟩ := hb0 q hq
      exact ak_r1_le (ak_t_z hr e1) e2 e3
    obtain ⟨y, ey, y0, y1⟩ := hb0 (n', v') List.mem_cons_self
    obtain ⟨x, ex, x0, x1⟩ := hk (n, v) List.mem_cons_self
    have ex2 := ai_z_mono hle ex
    change ((n == n') && (bif n then (ak_lt1 T X (ak_t σ v') v 1 || (ak_lt1 T X (ak_t σ v') v 0 && ak_lex T X ks (ak_ki σ ak_t ks'))) else (ak_lt1 T X v (ak_t σ v') 1 || (ak_lt1 T X v (ak_t σ v') 0 && ak_lex T X ks (ak_ki σ ak_t ks'))))) = true at h
    rw [Bool.and_eq_true] at h
    obtain ⟨hn, h⟩ := h
    have hn : n = n' := by simpa using hn
    subst hn
    have vx : ak_val ρN v = x := by unfold ak_val; rw [ex]; rfl
    have vy : ak_val ρN' v' = y := by unfold ak_val; rw [ak_t_z hr ey]; rfl
    show ak_rkn ρN' (a * 1001 + ak_r1 ρN' (n, v')) ks' < ak_rkn ρN (a * 1001 + ak_r1 ρN (n, v)) ks
    have hl' : ks.length = ks'.length := by simpa using hl
    have hrest := fun (h : ak_lex T X ks (ak_ki σ ak_t ks') = true) (b : Nat) => ak_lex_ok (a := b) hs hx hle hr (fun q hq => hk q (List.mem_cons_of_mem _ hq)) (by
      unfold ak_kb
      rw [List.all_eq_true] at hb ⊢
      exact fun q hq => hb q (List.mem_cons_of_mem _ hq)) h hl'
    have hstrict : ak_r1 ρN' (n, v') < ak_r1 ρN (n, v) → ak_rkn ρN' (a * 1001 + ak_r1 ρN' (n, v')) ks' < ak_rkn ρN (a * 1001 + ak_r1 ρN (n, v)) ks := fun q => ak_rkn_lt hl' (fun q hq => hb1 q (List.mem_cons_of_mem _ hq)) (by omega)
    have e1 : ak_r1 ρN (n, v) = (bif n then x.toNat else (1000 - x).toNat) := by unfold ak_r1; simp only; rw [vx]
    have e2 : ak_r1 ρN' (n, v') = (bif n then y.toNat else (1000 - y).toNat) := by unfold ak_r1; simp only; rw [vy]
    cases n with
    | true =>
      simp only [cond_true, Bool.or_eq_true, Bool.and_eq_true] at h e1 e2
      rcases h with h | ⟨h, h2⟩
      · have := ak_lt1_ok hs hx ey ex2 h
        exact hstrict (by omega)
      · have := ak_lt1_ok hs hx ey ex2 h
        by_cases e : y < x
        · exact hstrict (by omega)
        · rw [e1, e2, show y = x by omega]
          exact hrest h2 _
    | false =>
      simp only [cond_false, Bool.or_eq_true, Bool.and_eq_true] at h e1 e2
      rcases h with h | ⟨h, h2⟩
      · have := ak_lt1_ok hs hx ex2 ey h
        exact hstrict (by omega)
      · have := ak_lt1_ok hs hx ex2 ey h
        by_cases e : x < y
        · exact hstrict (by omega)
        · rw [e1, e2, show y = x by omega]
          exact hrest h2 _
