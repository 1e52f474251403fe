/-! THE STEPS THAT KNOW OF FACTS -/
noncomputable def ak_ad1 (T : ai_T) (X : ak_X) (a : ai_V) (c : Int) : Option (List (ai_T × ak_X × ai_V)) := match ak_add T X a c with
  | some r => some [r]
  | none => (match ai_bin 0 T a (0, c) with
    | some q => some [(q.1, X, q.2)]
    | none => none)
noncomputable def ak_pc (T : ai_T) (X : ak_X) (a : ai_V) (c : Int) (q : Int × Int) : Option (List (ai_T × ak_X × ai_V)) := bif ai_ltb q.2 q.1 then some [] else ak_ad1 (ai_set T a q) X a c
def ak_cat {α : Type} (x y : Option (List α)) : Option (List α) := match x with
  | none => none
  | some x => (match y with
    | none => none
    | some y => some (x ++ y))
noncomputable def ak_adds (T : ai_T) (X : ak_X) (a : ai_V) (c : Int) : Option (List (ai_T × ak_X × ai_V)) := match ai_iig ai_at ai_put ai_in32f ai_arf ai_psh ai_ln T a with
  | none => none
  | some p => bif ai_in32f (p.1 + c, p.2 + c) || !(Nat.beq a.1 1) then ak_ad1 T X a c else
    bif ai_ltb c 0 then ak_cat (ak_pc T X a c (p.1, ai_lo32 - c - 1)) (ak_pc T X a c (bif ai_ltb p.1 (ai_lo32 - c) then ai_lo32 - c else p.1, p.2))
    else ak_cat (ak_pc T X a c (p.1, bif ai_ltb (ai_hi32 - c) p.2 then ai_hi32 - c else p.2)) (ak_pc T X a c (ai_hi32 - c + 1, p.2))
def ak_got (ρ : List Int) (rs : List (ai_T × ak_X × ai_V)) (v : Value) : Prop := ∃ r ∈ rs, ∃ ρ', ai_le ρ ρ' ∧ ai_sat ρ' r.1 ∧ ak_sx ρ' r.2.1 ∧ ai_c ρ' r.2.2 = some v
theorem ak_ad1_ok {ρ : List Int} {T : ai_T} {X : ak_X} {a : ai_V} {x y : Int32} {rs : List (ai_T × ak_X × ai_V)} (hs : ai_sat ρ T) (hx : ak_sx ρ X) (hc : ai_c ρ a = some (.int x)) (h : ak_ad1 T X a y.toInt = some rs) : ak_got ρ rs (.int (x + y)) := by
  unfold ak_ad1 at h
  split at h
  · rename_i r hr
    cases h
    obtain ⟨T', X', v⟩ := r
    obtain ⟨ρ', a1, a2, a3, a4⟩ := ak_add_ok hs hx hc hr
    exact ⟨_, List.mem_cons_self, ρ', a1, a2, a3, a4⟩
  · split at h
    · rename_i q hq
      cases h
      obtain ⟨T', v⟩ := q
      obtain ⟨x', y', ρ', hx', hy', hle, hs', hcr, -⟩ := ai_bin_ok hs hq hc (ai_k0 ρ y)
      cases hx'
      cases hy'
      exact ⟨_, List.mem_cons_self, ρ', hle, hs', ak_sx_mono hle hx, hcr⟩
    · cases h
theorem ak_pc_ok {ρ : List Int} {T : ai_T} {X : ak_X} {a : ai_V} {x y : Int32} {q : Int × Int} {rs : List (ai_T × ak_X × ai_V)} (hs : ai_sat ρ T) (hx : ak_sx ρ X) (hc : ai_c ρ a = some (.int x)) (hz : ai_z ρ a = some x.toInt) (h1 : q.1 ≤ x.toInt) (h2 : x.toInt ≤ q.2) (h : ak_pc T X a y.toInt q = some rs) : ak_got ρ rs (.int (x + y)) := by
  unfold ak_pc at h
  rw [ai_ltb_eq, show decide (q.2 < q.1) = false by simp; omega, cond_false] at h
  exact ak_ad1_ok (ai_set_ok hs hz h1 h2) hx hc h
theorem ak_cat_ok {α : Type} {x y : Option (List α)} {r : List α} (h : ak_cat x y = some r) : ∃ a b, x = some a ∧ y = some b ∧ r = a ++ b := by
  unfold ak_cat at h
  split at h
  · cases h
  · split at h
    · cases h
    · cases h
      exact ⟨_, _, rfl, rfl, rfl⟩
theorem ak_adds_ok {ρ : List Int} {T : ai_T} {X : ak_X} {a : ai_V} {x y : Int32} {rs : List (ai_T × ak_X × ai_V)} (hs : ai_sat ρ T) (hx : ak_sx ρ X) (hc : ai_c ρ a = some (.int x)) (h : ak_adds T X a y.toInt = some rs) : ak_got ρ rs (.int (x + y)) := by
  unfold ak_adds at h
  rw [ai_iig_ok] at h
  split at h
  · cases h
  · rename_i p hp
    obtain ⟨x', hx', hz, x2, x3, -⟩ := ai_ii_ok hs hp hc
    cases hx'
    cases hb : ai_in32f (p.1 + y.toInt, p.2 + y.toInt) || !(Nat.beq a.1 1) with
    | true =>
      rw [hb, cond_true] at h
      exact ak_ad1_ok hs hx hc h
    | false =>
      rw [hb, cond_false] at h
      simp only [ai_ltb_eq] at h
      cases hy : decide (y.toInt < 0) with
      | true =>
        rw [hy, cond_true] at h
        obtain ⟨r1, r2, e1, e2, rfl⟩ := ak_cat_ok h
        by_cases g : x.toInt ≤ ai_lo32 - y.toInt - 1
        · obtain ⟨r, hr, q⟩ := ak_pc_ok hs hx hc hz (by simpa using x2) g e1
          exact ⟨r, List.mem_append_left _ hr, q⟩
        · obtain ⟨r, hr, q⟩ := ak_pc_ok hs hx hc hz (by cases decide (p.1 < ai_lo32 - y.toInt) <;> simp <;> omega) (by simpa using x3) e2
          exact ⟨r, List.mem_append_right _ hr, q⟩
      | false =>
        rw [hy, cond_false] at h
        obtain ⟨r1, r2, e1, e2, rfl⟩ := ak_cat_ok h
        by_cases g : x.toInt ≤ ai_hi32 - y.toInt
        · obtain ⟨r, hr, q⟩ := ak_pc_ok hs hx hc hz (by simpa using x2) (by cases decide (ai_hi32 - y.toInt < p.2) <;> simp <;> omega) e1
          exact ⟨r, List.mem_append_left _ hr, q⟩
        · obtain ⟨r, hr, q⟩ := ak_pc_ok hs hx hc hz (by simp only; omega) (by simpa using x3) e2
          exact ⟨r, List.mem_append_right _ hr, q⟩
noncomputable def ak_h_iinc (i : Nat) (n : Int) : ak_H := fun _ nL _ _ _ len _ _ pc ce sl T M l st X => bif Nat.beq len 3 && Nat.blt i nL then (match ai_lk l i with
  | some a => (match ak_adds T X a (Int32.ofInt n).toInt with
    | some rs => some (rs.map (fun r => ((pc + 3, ce, sl, r.1, M, ai_s1 l i r.2.2, st), r.2.1)))
    | none => none)
  | none => none) else none
noncomputable def ak_pu (pc ce sl : Nat) (M : ai_M) (l : ai_L) (st : List ai_V) (o : Option (List (ai_T × ak_X × ai_V))) : ak_R := match o with
  | some rs => some (rs.map (fun r => ((pc, ce, sl, r.1, M, l, r.2.2 :: st), r.2.1)))
  | none => none
def ak_kn (a : ai_V) : Bool := Nat.beq a.1 0 && ai_in32f (a.2, a.2)
/-- a difference of two numbers: of one root, or of two; then what it says of sums and orders -/
noncomputable def ak_dif (T : ai_T) (X : ak_X) (a b : ai_V) : Option (ai_T × ak_X × ai_V) := match ak_kv X.1 a, ak_kv X.1 b, ai_iig ai_at ai_put ai_in32f ai_arf ai_psh ai_ln T a, ai_iig ai_at ai_put ai_in32f ai_arf ai_psh ai_ln T b with
  | some (1, ra), some (1, rb), some p, some q => bif Nat.beq ra.1 rb.1 then (bif ai_in32f (ra.2 - rb.2, ra.2 - rb.2) then some (T, X, (0, ra.2 - rb.2)) else none) else
    bif ai_in32f (p.1 - q.2, p.2 - q.1) then some (ai_psh _ T (match ak_cF X.2.1 rb.1 ra.1 with
      | some c => bif ai_ltb (p.1 - q.2) (c - rb.2 + ra.2) then c - rb.2 + ra.2 else p.1 - q.2
      | none => p.1 - q.2, p.2 - q.1), (X.1, ak_aF X.2.1 (ai_ln _ T) (q.1 - ra.2) ra.1, X.2.2.1, (ai_ln _ T, rb.1, p.2 - rb.2) :: X.2.2.2), (1, (ai_ln _ T : Int))) else none
  | _, _, _, _ => none
/-- a sum of two symbols of which the facts know a bound -/
noncomputable def ak_sum (T : ai_T) (X : ak_X) (a b : ai_V) : Option (ai_T × ak_X × ai_V) := match ak_kv X.1 a, ak_kv X.1 b, ai_iig ai_at ai_put ai_in32f ai_arf ai_psh ai_ln T a, ai_iig ai_at ai_put ai_in32f ai_arf ai_psh ai_ln T b with
  | some (1, ra), some (1, rb), some p, some q => (match ak_sb X.2.1 ra rb X.2.2.2 with
    | some h => bif ai_in32f (p.1 + q.1, h) then some (ai_psh _ T (p.1 + q.1, h), X, (1, (ai_ln _ T : Int))) else none
    | none => none)
  | _, _, _, _ => none
noncomputable def ak_h_iadd : ak_H := fun own nL ini mc ms len r1 r2 pc ce sl T M l st X => match st with
  | b :: a :: st' => bif Nat.beq len 1 && ak_kn b then ak_pu (pc + 1) ce sl M l st' (ak_adds T X a b.2) else
      bif Nat.beq len 1 && ak_kn a then ak_pu (pc + 1) ce sl M l st' (ak_adds T X b a.2) else
      (match (bif Nat.beq len 1 && !(X.2.2.2.isEmpty) then ak_sum T X a b else none) with
      | some r => some [((pc + 1, ce, sl, r.1, M, l, r.2.2 :: st'), r.2.1)]
      | none => ak_h_df .iadd own nL ini mc ms len r1 r2 pc ce sl T M l st X)
  | _ => none
noncomputable def ak_h_isub : ak_H := fun own nL ini mc ms len r1 r2 pc ce sl T M l st X => match st with
  | b :: a :: st' => bif Nat.beq len 1 && (ak_kn b && ai_in32f (-b.2, -b.2)) then ak_pu (pc + 1) ce sl M l st' (ak_adds T X a (-b.2)) else
      (match (bif Nat.beq len 1 then ak_dif T X a b else none) with
      | some r => some [((pc + 1, ce, sl, r.1, M, l, r.2.2 :: st'), r.2.1)]
      | none => ak_h_df .isub own nL ini mc ms len r1 r2 pc ce sl T M l st X)
  | _ => none
/-- the ways of a comparison of two ints -/
noncomputable def ak_cmp (k : Nat) (T : ai_T) (X : ak_X) (a b : ai_V) (p q : Int × Int) : List (Bool × ai_T) := match ak_kv X.1 a, ak_kv X.1 b with
  | some (1, ra), some (1, rb) => bif Nat.beq ra.1 rb.1 then [(ai_cr k ra.2 rb.2, T)] else ai_cmp k T a b p q
  | some (0, _), some (1, _) => (match k with
    | 0 => ai_eq T b a q p
    | 1 => ai_not (ai_eq T b a q p)
    | k => ai_cmp k T a b p q)
  | _, _ => ai_cmp k T a b p q
/-- one more order between two roots -/
def ak_ado (X : ak_X) (ra rb : Nat × Int) (d : Int) : ak_X := bif ak_fF X.2.1 ra.1 rb.1 (ra.2 + d - rb.2) then X else (X.1, ak_aF X.2.1 ra.1 (ra.2 + d - rb.2) rb.1, X.2.2.1, ak_aS X.2.2.2 ra.1 (ra.2 + d - rb.2) rb.1)
def ak_xb (k : Nat) (t : Bool) (ra rb : Nat × Int) (X : ak_X) : ak_X := match k, t with
  | 2, true => ak_ado X ra rb 1
  | 2, false => ak_ado X rb ra 0
  | 3, true => ak_ado X rb ra 0
  | 3, false => ak_ado X ra rb 1
  | 4, true => ak_ado X rb ra 1
  | 4, false => ak_ado X ra rb 0
  | 5, true => ak_ado X ra rb 0
  | 5, false => ak_ado X rb ra 1
  | _, _ => X
noncomputable def ak_xf (k : Nat) (X : ak_X) (a b : ai_V) (t : Bool) : ak_X := bif X.2.2.2.isEmpty then X else (match ak_kv X.1 a, ak_kv X.1 b with
  | some (1, ra), some (1, rb) => bif Nat.beq ra.1 rb.1 then X else ak_xb k t ra rb X
  | _, _ => X)
noncomputable def ak_h_icmp (c : Jvm.ClassFile.Cond) (off : Int) : ak_H := fun _ _ _ _ _ len _ _ pc ce sl T M l st X => bif Nat.beq len 3 then (match st with
  | b :: a :: st => (match ai_iig ai_at ai_put ai_in32f ai_arf ai_psh ai_ln T a, ai_iig ai_at ai_put ai_in32f ai_arf ai_psh ai_ln T b, ai_jp pc off with
    | some p, some q, some t => ak_tl (some ((ak_cmp (ai_ck c) T X a b p q).map (fun r => (((bif r.1 then t else pc + 3), ce, sl, r.2, M, l, st), ak_xf (ai_ck c) X a b r.1))))
    | _, _, _ => none)
  | _ => none) else none
section AKH
variable {ρ : List Int} {T : ai_T} {M : ai_M} {l : ai_L} {st : List ai_V} {X : ak_X} {cM : mj_M} {cl : mj_L} {cst : List Value} {ce sl mc ms pc : Nat} {succs : List ((Nat × ai_S) × ak_X)} {r : mj_R}
variable {own nL L len r1 r2 : Nat} {xs : Nat → Int32} {ini : Bool} {ins : Instr}
theorem ak_ok1 {T' : ai_T} {M' : ai_M} {l' : ai_L} {st' : List ai_V} {X' : ak_X} {ρ' : List Int} {cM' : mj_M} {cl' : mj_L} {cst' : List Value} {pc' : Nat} (hce : ce ≤ mc) (hsl : sl ≤ ms) (hr : r = some (0, 0, cM', pc', cl', cst')) (hm : ((pc', ce, sl, T', M', l', st'), X') ∈ succs) (hle : ai_le ρ ρ') (hG : ai_G ρ' T' M' l' st' cM' cl' cst') (hx : ak_sx ρ' X') : ak_ok ρ ce sl mc ms r succs :=
  ⟨0, 0, cM', pc', cl', cst', T', M', l', st', X', ρ', hr, hm, hle, hG, hx, hce, hsl⟩
theorem ak_iinc_ok {i : Nat} {n : Int} (hG : ai_G ρ T M l st cM cl cst) (hx : ak_sx ρ X) (hce : ce ≤ mc) (hsl : sl ≤ ms) (h : ak_h_iinc i n own nL ini mc ms len r1 r2 pc ce sl T M l st X = some succs) : ak_ok ρ ce sl mc ms (mj_st L xs own nL ini (.iinc i n) len r1 r2 cM pc cl cst) succs := by
  obtain ⟨hs, hm, hl, hst⟩ := id hG
  unfold ak_h_iinc at h
  have hbh9 := ai_bt h
  clear h
  obtain ⟨hb, h⟩ := hbh9
  simp only [Bool.and_eq_true, Nat.blt_eq] at hb
  obtain ⟨hb, hn⟩ := hb
  obtain rfl := ai_bq hb
  split at h
  · rename_i a ha
    split at h
    · rename_i rs hrs
      cases h
      obtain ⟨v, hv, hc⟩ := ai_sl_lk hl ha
      obtain ⟨x, rfl⟩ : ∃ x, v = .int x := by
        unfold ak_adds at hrs
        rw [ai_iig_ok] at hrs
        split at hrs
        · cases hrs
        · rename_i p hp
          obtain ⟨x, e, -⟩ := ai_ii_ok hs hp hc
          exact ⟨x, e⟩
      obtain ⟨r, hr, ρ', hle, hs', hx', hc'⟩ := ak_adds_ok hs hx hc hrs
      exact ak_ok1 hce hsl (by simp [mj_st, mj_pu, hv, hn, mj_go]) (List.mem_map.mpr ⟨r, hr, rfl⟩) hle ⟨hs', ai_mm_mono hle hm, ai_sl_s1 (ai_sl_mono hle hl) hc', ai_ss_mono hle hst⟩ hx'
    · cases h
  · cases h
theorem ak_kn_ok {a : ai_V} (h : ak_kn a = true) (ρ : List Int) : ∃ y : Int32, a = (0, y.toInt) ∧ ai_c ρ a = some (.int y) := by
  unfold ak_kn at h
  simp only [Bool.and_eq_true, ai_it_fn] at h
  obtain ⟨h1, h2⟩ := h
  obtain ⟨b1, b2⟩ := ai_in32_ok h2
  obtain ⟨t, z⟩ := a
  have h1 := ai_bq h1
  simp only at h1 b1 b2
  subst h1
  exact ⟨Int32.ofInt z, by rw [ai_i32 b1 b2], rfl⟩
theorem ak_adds_int {a : ai_V} {c : Int} {rs : List (ai_T × ak_X × ai_V)} {v : Value} (hs : ai_sat ρ T) (h : ak_adds T X a c = some rs) (hc : ai_c ρ a = some v) : ∃ x, v = .int x := by
  unfold ak_adds at h
  rw [ai_iig_ok] at h
  split at h
  · cases h
  · rename_i p hp
    obtain ⟨x, e, -⟩ := ai_ii_ok hs hp hc
    exact ⟨x, e⟩
theorem ak_pu_ok {o : Option (List (ai_T × ak_X × ai_V))} {pc' : Nat} {st' : List ai_V} {cst' : List Value} {v : Value} (hm : ai_mm ρ M cM) (hl : ai_sl ρ l cl) (hs2 : ai_ss ρ st' cst') (hce : ce ≤ mc) (hsl : sl ≤ ms) (h : ak_pu pc' ce sl M l st' o = some succs) (hr : r = some (0, 0, cM, pc', cl, v :: cst')) (ho : ∀ rs, o = some rs → ak_got ρ rs v) : ak_ok ρ ce sl mc ms r succs := by
  unfold ak_pu at h
  split at h
  · rename_i rs
    cases h
    obtain ⟨q, hq, ρ', hle, hs', hx', hc'⟩ := ho rs rfl
    exact ak_ok1 hce hsl hr (List.mem_map.mpr ⟨q, hq, rfl⟩) hle ⟨hs', ai_mm_mono hle hm, ai_sl_mono hle hl, hc', ai_ss_mono hle hs2⟩ hx'
  · cases h
theorem ak_v1 {ρ : List Int} {r : Nat × Int} {z : Int} (h : ak_v ρ (1, r) = some z) : ∃ w, ρ[r.1]? = some w ∧ z = w + r.2 := by
  unfold ak_v at h
  simp only at h
  cases hz : ρ[r.1]? with
  | none => rw [hz] at h; cases h
  | some w => rw [hz] at h; cases h; exact ⟨w, rfl, rfl⟩
theorem ak_new {z : Int} {x : Int32} (hs : ai_sat ρ T) (e : Int32.ofInt z = x) : ai_c (ρ ++ [z]) (1, (T.length : Int)) = some (.int x) := by
  show ((ρ ++ [z])[((T.length : Nat) : Int).toNat]?).map _ = _
  rw [show ((T.length : Nat) : Int).toNat = T.length from rfl, ai_push_get hs]
  show some (Value.int (Int32.ofInt z)) = _
  rw [e]
theorem ak_sum_ok {T' : ai_T} {X' : ak_X} {a b v : ai_V} {w w2 : Value} (hs : ai_sat ρ T) (hx : ak_sx ρ X) (hc : ai_c ρ b = some w) (hc2 : ai_c ρ a = some w2) (h : ak_sum T X a b = some (T', X', v)) : ∃ x y, w2 = .int x ∧ w = .int y ∧ ak_got ρ [(T', X', v)] (.int (x + y)) := by
  unfold ak_sum at h
  simp only [ai_psh_eq, ai_ln_eq] at h
  split at h
  · rename_i ra rb p q h1 h2 h3 h4
    rw [ai_iig_ok] at h3 h4
    obtain ⟨x, rfl, hz, x2, x3, -⟩ := ai_ii_ok hs h3 hc2
    obtain ⟨y, rfl, hz2, y2, y3, -⟩ := ai_ii_ok hs h4 hc
    refine ⟨x, y, rfl, rfl, ?_⟩
    obtain ⟨u, hu, eu⟩ := ak_v1 (ak_kv_ok hx.1 hz h1)
    obtain ⟨t, ht, et⟩ := ak_v1 (ak_kv_ok hx.1 hz2 h2)
    split at h
    · rename_i b9 hb9
      have hbh9 := ai_bt h
      clear h
      obtain ⟨-, h⟩ := hbh9
      cases h
      have g := ak_sb_ok hx.2.1 hu ht hx.2.2.2 hb9
      have hle : ai_le ρ (ρ ++ [x.toInt + y.toInt]) := ai_le_app _
      refine ⟨_, List.mem_cons_self, ρ ++ [x.toInt + y.toInt], hle, ai_sat_push hs (by simp only; omega) (by simp only; omega), ak_sx_mono hle hx, ak_new hs ?_⟩
      rw [Int32.ofInt_add, Int32.ofInt_toInt, Int32.ofInt_toInt]
    · cases h
  · cases h
theorem ak_dif_ok {T' : ai_T} {X' : ak_X} {a b v : ai_V} {w w2 : Value} (hs : ai_sat ρ T) (hx : ak_sx ρ X) (hc : ai_c ρ b = some w) (hc2 : ai_c ρ a = some w2) (h : ak_dif T X a b = some (T', X', v)) : ∃ x y, w2 = .int x ∧ w = .int y ∧ ak_got ρ [(T', X', v)] (.int (x - y)) := by
  unfold ak_dif at h
  simp only [ai_psh_eq, ai_ln_eq] at h
  split at h
  · rename_i ra rb p q h1 h2 h3 h4
    rw [ai_iig_ok] at h3 h4
    obtain ⟨x, rfl, hz, x2, x3, -⟩ := ai_ii_ok hs h3 hc2
    obtain ⟨y, rfl, hz2, y2, y3, -⟩ := ai_ii_ok hs h4 hc
    refine ⟨x, y, rfl, rfl, ?_⟩
    obtain ⟨u, hu, eu⟩ := ak_v1 (ak_kv_ok hx.1 hz h1)
    obtain ⟨t, ht, et⟩ := ak_v1 (ak_kv_ok hx.1 hz2 h2)
    have key : Int32.ofInt (x.toInt - y.toInt) = x - y := by rw [Int32.ofInt_sub, Int32.ofInt_toInt, Int32.ofInt_toInt]
    cases hb : Nat.beq ra.1 rb.1 with
    | true =>
      rw [hb, cond_true] at h
      have hbh9 := ai_bt h
      clear h
      obtain ⟨-, h⟩ := hbh9
      cases h
      rw [Nat.eq_of_beq_eq_true hb] at hu
      cases hu.symm.trans ht
      refine ⟨_, List.mem_cons_self, ρ, ai_le_rf, hs, hx, ?_⟩
      show some (Value.int (Int32.ofInt (ra.2 - rb.2))) = _
      rw [show ra.2 - rb.2 = x.toInt - y.toInt by omega, key]
    | false =>
      rw [hb, cond_false] at h
      have hbh9 := ai_bt h
      clear h
      obtain ⟨-, h⟩ := hbh9
      cases h
      have hle : ai_le ρ (ρ ++ [x.toInt - y.toInt]) := ai_le_app _
      have hn : (ρ ++ [x.toInt - y.toInt])[T.length]? = some (x.toInt - y.toInt) := ai_push_get hs
      have hx2 := ak_sx_mono hle hx
      refine ⟨_, List.mem_cons_self, ρ ++ [x.toInt - y.toInt], hle, ai_sat_push hs ?_ (by simp only; omega), ⟨hx2.1, ak_aF_ok hx2.2.1 ⟨_, _, hn, hle _ _ hu, by simp only; omega⟩, hx2.2.2.1, ?_⟩, ak_new hs key⟩
      · have g1 : p.1 - q.2 ≤ x.toInt - y.toInt := by omega
        show (match ak_cF X.2.1 rb.1 ra.1 with
          | some c => bif ai_ltb (p.1 - q.2) (c - rb.2 + ra.2) then c - rb.2 + ra.2 else p.1 - q.2
          | none => p.1 - q.2) ≤ x.toInt - y.toInt
        split
        · rename_i c9 hc9
          obtain ⟨z', w', e1, e2, e3⟩ := ak_cF_ok hx.2.1 hc9
          cases e1.symm.trans ht
          cases e2.symm.trans hu
          have g2 : c9 - rb.2 + ra.2 ≤ x.toInt - y.toInt := by omega
          cases ai_ltb (p.1 - q.2) (c9 - rb.2 + ra.2) with
          | true => exact g2
          | false => exact g1
        · exact g1
      · intro s hs9
        rcases List.mem_cons.mp hs9 with rfl | hs9
        · exact ⟨_, _, hn, hle _ _ ht, by simp only; omega⟩
        · exact hx2.2.2.2 s hs9
  · cases h
theorem ak_iadd_ok (hG : ai_G ρ T M l st cM cl cst) (hx : ak_sx ρ X) (hce : ce ≤ mc) (hsl : sl ≤ ms) (h : ak_h_iadd own nL ini mc ms len r1 r2 pc ce sl T M l st X = some succs) : ak_ok ρ ce sl mc ms (mj_st L xs own nL ini .iadd len r1 r2 cM pc cl cst) succs := by
  obtain ⟨hs, hm, hl, hst⟩ := id hG
  unfold ak_h_iadd at h
  split at h
  · rename_i b a st'
    obtain ⟨w, cst', rfl, hc, hs1⟩ := ai_ss_cons hst
    obtain ⟨w2, cst', rfl, hc2, hs2⟩ := ai_ss_cons hs1
    cases hb : Nat.beq len 1 && ak_kn b with
    | true =>
      rw [hb, cond_true] at h
      simp only [Bool.and_eq_true] at hb
      obtain rfl := ai_bq hb.1
      obtain ⟨y, rfl, hy⟩ := ak_kn_ok hb.2 ρ
      cases hy.symm.trans hc
      cases ha : ak_adds T X a y.toInt with
      | none => simp only [ha] at h; cases h
      | some rs =>
        obtain ⟨x, rfl⟩ := ak_adds_int hs ha hc2
        exact ak_pu_ok hm hl hs2 hce hsl h (v := .int (x + y)) rfl (fun rs e => ak_adds_ok hs hx hc2 e)
    | false =>
      rw [hb, cond_false] at h
      cases hb2 : Nat.beq len 1 && ak_kn a with
      | true =>
        rw [hb2, cond_true] at h
        simp only [Bool.and_eq_true] at hb2
        obtain rfl := ai_bq hb2.1
        obtain ⟨x, rfl, hx1⟩ := ak_kn_ok hb2.2 ρ
        cases hx1.symm.trans hc2
        cases ha : ak_adds T X b x.toInt with
        | none => simp only [ha] at h; cases h
        | some rs =>
          obtain ⟨y, rfl⟩ := ak_adds_int hs ha hc
          exact ak_pu_ok hm hl hs2 hce hsl h (v := .int (y + x)) (by rw [Int32.add_comm]; rfl) (fun rs e => ak_adds_ok hs hx hc e)
      | false =>
        rw [hb2, cond_false] at h
        split at h
        · rename_i r9 hr9
          cases h
          have hbh9 := ai_bt hr9
          clear hr9
          obtain ⟨hb1, hr9⟩ := hbh9
          simp only [Bool.and_eq_true] at hb1
          obtain rfl := ai_bq hb1.1
          obtain ⟨T', X', v⟩ := r9
          obtain ⟨x, y, rfl, rfl, q, hq, ρ', hle, hs', hx', hc'⟩ := ak_sum_ok hs hx hc hc2 hr9
          rcases List.mem_cons.mp hq with rfl | hq
          · exact ak_ok1 (st' := v :: st') (cst' := .int (x + y) :: cst') hce hsl rfl List.mem_cons_self hle ⟨hs', ai_mm_mono hle hm, ai_sl_mono hle hl, hc', ai_ss_mono hle hs2⟩ hx'
          · cases hq
        · exact ak_df_ok hG hx hce hsl h
  · cases h
theorem ak_isub_ok (hG : ai_G ρ T M l st cM cl cst) (hx : ak_sx ρ X) (hce : ce ≤ mc) (hsl : sl ≤ ms) (h : ak_h_isub own nL ini mc ms len r1 r2 pc ce sl T M l st X = some succs) : ak_ok ρ ce sl mc ms (mj_st L xs own nL ini .isub len r1 r2 cM pc cl cst) succs := by
  obtain ⟨hs, hm, hl, hst⟩ := id hG
  unfold ak_h_isub at h
  split at h
  · rename_i b a st'
    obtain ⟨w, cst', rfl, hc, hs1⟩ := ai_ss_cons hst
    obtain ⟨w2, cst', rfl, hc2, hs2⟩ := ai_ss_cons hs1
    cases hb : Nat.beq len 1 && (ak_kn b && ai_in32f (-b.2, -b.2)) with
    | true =>
      rw [hb, cond_true] at h
      simp only [Bool.and_eq_true] at hb
      obtain ⟨hb1, hb2, hb3⟩ := hb
      obtain rfl := ai_bq hb1
      obtain ⟨y, rfl, hy⟩ := ak_kn_ok hb2 ρ
      cases hy.symm.trans hc
      rw [ai_it_fn] at hb3
      obtain ⟨c1, c2⟩ := ai_in32_ok hb3
      simp only at c1 c2
      have e : -y.toInt = (Int32.ofInt (-y.toInt)).toInt := (ai_i32 c1 c2).symm
      simp only at h
      rw [e] at h
      have ey : ∀ x : Int32, x + Int32.ofInt (-y.toInt) = x - y := fun x => by
        apply Int32.toInt_inj.mp
        rw [Int32.toInt_add, Int32.toInt_sub, ← e]
        rfl
      cases ha : ak_adds T X a (Int32.ofInt (-y.toInt)).toInt with
      | none => simp only [ha] at h; cases h
      | some rs =>
        obtain ⟨x, rfl⟩ := ak_adds_int hs ha hc2
        exact ak_pu_ok hm hl hs2 hce hsl h (v := .int (x + Int32.ofInt (-y.toInt))) (by rw [ey]; rfl) (fun rs e => ak_adds_ok hs hx hc2 e)
    | false =>
      rw [hb, cond_false] at h
      split at h
      · rename_i r9 hr9
        cases h
        have hbh9 := ai_bt hr9
        clear hr9
        obtain ⟨hb1, hr9⟩ := hbh9
        obtain rfl := ai_bq hb1
        obtain ⟨T', X', v⟩ := r9
        obtain ⟨x, y, rfl, rfl, q, hq, ρ', hle, hs', hx', hc'⟩ := ak_dif_ok hs hx hc hc2 hr9
        rcases List.mem_cons.mp hq with rfl | hq
        · exact ak_ok1 (st' := v :: st') (cst' := .int (x - y) :: cst') hce hsl rfl List.mem_cons_self hle ⟨hs', ai_mm_mono hle hm, ai_sl_mono hle hl, hc', ai_ss_mono hle hs2⟩ hx'
        · cases hq
      · exact ak_df_ok hG hx hce hsl h
  · cases h
theorem ak_cr_shift (k : Nat) (w a b : Int) : ai_cr k (w + a) (w + b) = ai_cr k a b := by
  unfold ai_cr
  split <;> (apply Bool.eq_iff_iff.mpr; simp <;> omega)
theorem ak_cmp_ok {k : Nat} {a b : ai_V} {p q : Int × Int} {x y : Int} (hs : ai_sat ρ T) (hx : ak_sx ρ X) (h1 : ai_z ρ a = some x) (h2 : ai_z ρ b = some y) (x2 : p.1 ≤ x) (x3 : x ≤ p.2) (y2 : q.1 ≤ y) (y3 : y ≤ q.2) : ∃ T', (ai_cr k x y, T') ∈ ak_cmp k T X a b p q ∧ ai_sat ρ T' := by
  unfold ak_cmp
  split
  · rename_i ra rb e1 e2
    cases hb : Nat.beq ra.1 rb.1 with
    | true =>
      obtain ⟨u, hu, eu⟩ := ak_v1 (ak_kv_ok hx.1 h1 e1)
      obtain ⟨t, ht, et⟩ := ak_v1 (ak_kv_ok hx.1 h2 e2)
      rw [Nat.eq_of_beq_eq_true hb] at hu
      cases hu.symm.trans ht
      refine ⟨T, ?_, hs⟩
      rw [eu, et, ak_cr_shift]
      exact List.mem_cons_self
    | false => exact ai_cmp_ok k hs h1 h2 x2 x3 y2 y3
  · split
    · obtain ⟨T', a1, a2⟩ := ai_eq_ok hs h2 h1 y2 y3 x2 x3
      refine ⟨T', ?_, a2⟩
      rw [show ai_cr 0 x y = decide (y = x) by unfold ai_cr; apply Bool.eq_iff_iff.mpr; simp; omega]
      exact a1
    · obtain ⟨T', a1, a2⟩ := ai_not_ok (ai_eq_ok hs h2 h1 y2 y3 x2 x3)
      refine ⟨T', ?_, a2⟩
      rw [show ai_cr 1 x y = !decide (y = x) by unfold ai_cr; apply Bool.eq_iff_iff.mpr; simp; omega]
      exact a1
    · exact ai_cmp_ok _ hs h1 h2 x2 x3 y2 y3
  · exact ai_cmp_ok k hs h1 h2 x2 x3 y2 y3
theorem ak_ado_ok {ra rb : Nat × Int} {d u t : Int} (hx : ak_sx ρ X) (hu : ρ[ra.1]? = some u) (ht : ρ[rb.1]? = some t) (h : u + ra.2 + d ≤ t + rb.2) : ak_sx ρ (ak_ado X ra rb d) := by
  have hf : ak_sF ρ (ra.1, ra.2 + d - rb.2, rb.1) := ⟨u, t, hu, ht, by simp only; omega⟩
  unfold ak_ado
  cases ak_fF X.2.1 ra.1 rb.1 (ra.2 + d - rb.2) with
  | true => exact hx
  | false => exact ⟨hx.1, ak_aF_ok hx.2.1 hf, hx.2.2.1, ak_aS_ok hx.2.2.2 hf⟩
theorem ak_xb_ok {k : Nat} {ra rb : Nat × Int} {u t : Int} (hx : ak_sx ρ X) (hu : ρ[ra.1]? = some u) (ht : ρ[rb.1]? = some t) : ak_sx ρ (ak_xb k (ai_cr k (u + ra.2) (t + rb.2)) ra rb X) := by
  unfold ak_xb
  split
  · rename_i h; simp [ai_cr] at h; exact ak_ado_ok hx hu ht (by omega)
  · rename_i h; simp [ai_cr] at h; exact ak_ado_ok hx ht hu (by omega)
  · rename_i h; simp [ai_cr] at h; exact ak_ado_ok hx ht hu (by omega)
  · rename_i h; simp [ai_cr] at h; exact ak_ado_ok hx hu ht (by omega)
  · rename_i h; simp [ai_cr] at h; exact ak_ado_ok hx ht hu (by omega)
  · rename_i h; simp [ai_cr] at h; exact ak_ado_ok hx hu ht (by omega)
  · rename_i h; simp [ai_cr] at h; exact ak_ado_ok hx hu ht (by omega)
  · rename_i h; simp [ai_cr] at h; exact ak_ado_ok hx ht hu (by omega)
  · exact hx
theorem ak_xf_ok {k : Nat} {a b : ai_V} {x y : Int} (hx : ak_sx ρ X) (h1 : ai_z ρ a = some x) (h2 : ai_z ρ b = some y) : ak_sx ρ (ak_xf k X a b (ai_cr k x y)) := by
  unfold ak_xf
  cases X.2.2.2.isEmpty with
  | true => exact hx
  | false =>
    rw [cond_false]
    split
    · rename_i ra rb e1 e2
      cases Nat.beq ra.1 rb.1 with
      | true => exact hx
      | false =>
        obtain ⟨u, hu, eu⟩ := ak_v1 (ak_kv_ok hx.1 h1 e1)
        obtain ⟨t, ht, et⟩ := ak_v1 (ak_kv_ok hx.1 h2 e2)
        rw [eu, et]
        exact ak_xb_ok hx hu ht
    · exact hx
theorem ak_icmp_ok {c : Jvm.ClassFile.Cond} {off : Int} (hG : ai_G ρ T M l st cM cl cst) (hx : ak_sx ρ X) (hce : ce ≤ mc) (hsl : sl ≤ ms) (h : ak_h_icmp c off own nL ini mc ms len r1 r2 pc ce sl T M l st X = some succs) : ak_ok ρ ce sl mc ms (mj_st L xs own nL ini (.if_icmp c off) len r1 r2 cM pc cl cst) succs := by
  obtain ⟨hs, hm, hl, hst⟩ := id hG
  unfold ak_h_icmp at h
  have hbh9 := ai_bt h
  clear h
  obtain ⟨hb, h⟩ := hbh9
  obtain rfl := ai_bq hb
  split at h
  · rename_i b a st'
    split at h
    · rename_i p q t hp hq hj
      rw [ai_iig_ok] at hp hq
      obtain ⟨w, cst2, rfl, hc, hs2⟩ := ai_ss_cons hst
      obtain ⟨w2, cst3, rfl, hc2, hs3⟩ := ai_ss_cons hs2
      obtain ⟨x, rfl, x1, x2, x3, -⟩ := ai_ii_ok hs hp hc2
      obtain ⟨y, rfl, y1, y2, y3, -⟩ := ai_ii_ok hs hq hc
      obtain ⟨T', g1, g2⟩ := ak_cmp_ok (k := ai_ck c) hs hx x1 y1 x2 x3 y2 y3
      obtain ⟨h0, rfl⟩ := ai_jp_ok hj
      have hxf := ak_xf_ok (k := ai_ck c) hx x1 y1
      refine ak_tl_ok h (fun s e => ?_)
      cases e
      have hr : ∀ Y, mj_br cM pc off cl cst3 (ai_cr (ai_ck c) x.toInt y.toInt) = some Y → mj_st L xs own nL ini (.if_icmp c off) 3 r1 r2 cM pc cl (.int y :: .int x :: cst3) = some Y := fun Y hY => mj_st_pu (by rw [ai_br2] at hY; cases c <;> exact hY)
      unfold mj_br at hr
      rw [if_pos h0] at hr
      generalize ai_cr (ai_ck c) x.toInt y.toInt = tr at g1 hr hxf
      cases tr with
      | true => exact ak_ok1 hce hsl (hr _ rfl) (List.mem_map.mpr ⟨_, g1, rfl⟩) ai_le_rf ⟨g2, hm, hl, hs3⟩ hxf
      | false => exact ak_ok1 hce hsl (hr _ rfl) (List.mem_map.mpr ⟨_, g1, rfl⟩) ai_le_rf ⟨g2, hm, hl, hs3⟩ hxf
    · cases h
  · cases h
end AKH
