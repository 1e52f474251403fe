section AIT
variable {ρ : List Int} {T : ai_T} {M : ai_M} {l : ai_L} {st : List ai_V} {cM : mj_M} {cl : mj_L} {cst : List Value} {ce sl mc ms pc : Nat} {succs : List (Nat × ai_S)}
variable {own nL L len r1 r2 : Nat} {xs : Nat → Int32} {ini scr : Bool} {ins : Instr}
set_option maxHeartbeats 8000000 in
theorem ai_step_ok (hG : ai_G ρ T M l st cM cl cst) (hce : ce ≤ mc) (hsl : sl ≤ ms) (hscr : scr = true → L ≤ 6 ∧ ρ[0]? = some (L : Int) ∧ ∀ j, j < 6 → ρ[1 + j]? = some (xs j).toInt)
    (h : ai_step own nL ini scr mc ms ins len r1 r2 pc ce sl T M l st = some succs) : ai_ok ρ ce sl mc ms (mj_st L xs own nL ini ins len r1 r2 cM pc cl cst) succs := by
  obtain ⟨hs, hm, hl, hst⟩ := id hG
  cases ins with
  | iconst n =>
    have hb := ai_bt h
    clear h
    obtain ⟨hb, h⟩ := hb
    obtain rfl := ai_bq hb
    exact ai_pu_ok hG hce hsl h (ai_k0 ρ (Int32.ofInt n)) rfl
  | bipush n =>
    have hb := ai_bt h
    clear h
    obtain ⟨hb, h⟩ := hb
    obtain rfl := ai_bq hb
    exact ai_pu_ok hG hce hsl h (ai_k0 ρ ((Int8.ofInt n).toInt32)) rfl
  | sipush n =>
    have hb := ai_bt h
    clear h
    obtain ⟨hb, h⟩ := hb
    obtain rfl := ai_bq hb
    exact ai_pu_ok hG hce hsl h (ai_k0 ρ ((Int16.ofInt n).toInt32)) rfl
  | lconst n =>
    have hb := ai_bt h
    clear h
    obtain ⟨hb, h⟩ := hb
    obtain rfl := ai_bq hb
    exact ai_pu_ok hG hce hsl h (ai_k2 ρ (Int64.ofNat (n : Nat))) rfl
  | aconst_null =>
    have hb := ai_bt h
    clear h
    obtain ⟨hb, h⟩ := hb
    obtain rfl := ai_bq hb
    exact ai_pu_ok hG hce hsl h (v := .null) rfl rfl
  | iload_n k =>
    have hb := ai_bt h
    clear h
    obtain ⟨hb, h⟩ := hb
    obtain rfl := ai_bq hb
    exact ai_ld_ok hG hce hsl h (fun x _ hx => by simp [mj_st, mj_pu, hx, mj_go]) (fun x e => absurd e (by decide)) (fun x e => absurd rfl e) (fun x e => absurd rfl e)
  | iload k =>
    have hb := ai_bt h
    clear h
    obtain ⟨hb, h⟩ := hb
    obtain rfl := ai_bq hb
    exact ai_ld_ok hG hce hsl h (fun x _ hx => by simp [mj_st, mj_pu, hx, mj_go]) (fun x e => absurd e (by decide)) (fun x e => absurd rfl e) (fun x e => absurd rfl e)
  | lload_n k =>
    have hb := ai_bt h
    clear h
    obtain ⟨hb, h⟩ := hb
    obtain rfl := ai_bq hb
    exact ai_ld_ok hG hce hsl h (fun x e => absurd e (by decide)) (fun x _ hx => by simp [mj_st, mj_pu, hx, mj_go]) (fun x _ e => absurd rfl e) (fun x _ e => absurd rfl e)
  | lload k =>
    have hb := ai_bt h
    clear h
    obtain ⟨hb, h⟩ := hb
    obtain rfl := ai_bq hb
    exact ai_ld_ok hG hce hsl h (fun x e => absurd e (by decide)) (fun x _ hx => by simp [mj_st, mj_pu, hx, mj_go]) (fun x _ e => absurd rfl e) (fun x _ e => absurd rfl e)
  | aload_n k =>
    have hb := ai_bt h
    clear h
    obtain ⟨hb, h⟩ := hb
    obtain rfl := ai_bq hb
    exact ai_ld_ok hG hce hsl h (fun x e => absurd e (by decide)) (fun x e => absurd e (by decide)) (fun x _ _ hx => by simp [mj_st, mj_pu, hx, mj_go]) (fun x _ _ hx => by simp [mj_st, mj_pu, hx, mj_go])
  | aload k =>
    have hb := ai_bt h
    clear h
    obtain ⟨hb, h⟩ := hb
    obtain rfl := ai_bq hb
    exact ai_ld_ok hG hce hsl h (fun x e => absurd e (by decide)) (fun x e => absurd e (by decide)) (fun x _ _ hx => by simp [mj_st, mj_pu, hx, mj_go]) (fun x _ _ hx => by simp [mj_st, mj_pu, hx, mj_go])
  | istore_n k =>
    have hb := ai_bt h
    clear h
    obtain ⟨hb, h⟩ := hb
    obtain rfl := ai_bq hb
    exact ai_sto_ok hG hce hsl h (fun x cst2 _ hn e => by subst e; simp [mj_st, mj_pu, hn, mj_go]) (fun x _ e => absurd e (by decide)) (fun x _ e => absurd rfl e)
  | istore k =>
    have hb := ai_bt h
    clear h
    obtain ⟨hb, h⟩ := hb
    obtain rfl := ai_bq hb
    exact ai_sto_ok hG hce hsl h (fun x cst2 _ hn e => by subst e; simp [mj_st, mj_pu, hn, mj_go]) (fun x _ e => absurd e (by decide)) (fun x _ e => absurd rfl e)
  | lstore_n k =>
    have hb := ai_bt h
    clear h
    obtain ⟨hb, h⟩ := hb
    obtain rfl := ai_bq hb
    exact ai_sto_ok hG hce hsl h (fun x _ e => absurd e (by decide)) (fun x cst2 _ hn e => by subst e; simp [mj_st, mj_pu, hn, mj_go]) (fun x _ _ e => absurd rfl e)
  | lstore k =>
    have hb := ai_bt h
    clear h
    obtain ⟨hb, h⟩ := hb
    obtain rfl := ai_bq hb
    exact ai_sto_ok hG hce hsl h (fun x _ e => absurd e (by decide)) (fun x cst2 _ hn e => by subst e; simp [mj_st, mj_pu, hn, mj_go]) (fun x _ _ e => absurd rfl e)
  | astore_n k =>
    have hb := ai_bt h
    clear h
    obtain ⟨hb, h⟩ := hb
    obtain rfl := ai_bq hb
    exact ai_sto_ok hG hce hsl h (fun x _ e => absurd e (by decide)) (fun x _ e => absurd e (by decide)) (fun x cst2 _ _ hn e => by subst e; simp [mj_st, mj_pu, hn, mj_go])
  | astore k =>
    have hb := ai_bt h
    clear h
    obtain ⟨hb, h⟩ := hb
    obtain rfl := ai_bq hb
    exact ai_sto_ok hG hce hsl h (fun x _ e => absurd e (by decide)) (fun x _ e => absurd e (by decide)) (fun x cst2 _ _ hn e => by subst e; simp [mj_st, mj_pu, hn, mj_go])
  | iinc i n =>
    have hb := ai_bt h
    clear h
    obtain ⟨hb, h⟩ := hb
    simp only [Bool.and_eq_true, Nat.blt_eq] at hb
    obtain ⟨hb, hn⟩ := hb
    obtain rfl := ai_bq hb
    cases ha : ai_lk l i with
    | none => rw [ha] at h; cases h
    | some a =>
      rw [ha] at h
      simp only at h
      obtain ⟨v, hv, hc⟩ := ai_sl_lk hl ha
      split at h
      · rename_i T2 w hw
        cases h
        obtain ⟨x, y, ρ2, rfl, hy, hle, hs2, hr, -⟩ := ai_bin_ok hs hw hc (ai_k0 ρ (Int32.ofInt n))
        cases hy
        exact ai_ok1 hce hsl (by simp [mj_st, mj_pu, hv, hn, mj_go]; rfl) List.mem_cons_self hle ⟨hs2, ai_mm_mono hle hm, ai_sl_s1 (ai_sl_mono hle hl) hr, ai_ss_mono hle hst⟩
      · cases h
  | iadd =>
    have hb := ai_bt h
    clear h
    obtain ⟨hb, h⟩ := hb
    obtain rfl := ai_bq hb
    exact ai_two_ok hG hce hsl h (fun x y cst2 e _ => by subst e; rfl)
  | isub =>
    have hb := ai_bt h
    clear h
    obtain ⟨hb, h⟩ := hb
    obtain rfl := ai_bq hb
    exact ai_two_ok hG hce hsl h (fun x y cst2 e _ => by subst e; rfl)
  | imul =>
    have hb := ai_bt h
    clear h
    obtain ⟨hb, h⟩ := hb
    obtain rfl := ai_bq hb
    exact ai_two_ok hG hce hsl h (fun x y cst2 e _ => by subst e; rfl)
  | iand =>
    have hb := ai_bt h
    clear h
    obtain ⟨hb, h⟩ := hb
    obtain rfl := ai_bq hb
    exact ai_two_ok hG hce hsl h (fun x y cst2 e _ => by subst e; rfl)
  | ior =>
    have hb := ai_bt h
    clear h
    obtain ⟨hb, h⟩ := hb
    obtain rfl := ai_bq hb
    exact ai_two_ok hG hce hsl h (fun x y cst2 e _ => by subst e; rfl)
  | ishl =>
    have hb := ai_bt h
    clear h
    obtain ⟨hb, h⟩ := hb
    obtain rfl := ai_bq hb
    exact ai_two_ok hG hce hsl h (fun x y cst2 e _ => by subst e; rfl)
  | ishr =>
    have hb := ai_bt h
    clear h
    obtain ⟨hb, h⟩ := hb
    obtain rfl := ai_bq hb
    exact ai_two_ok hG hce hsl h (fun x y cst2 e _ => by subst e; rfl)
  | iushr =>
    have hb := ai_bt h
    clear h
    obtain ⟨hb, h⟩ := hb
    obtain rfl := ai_bq hb
    exact ai_two_ok hG hce hsl h (fun x y cst2 e _ => by subst e; rfl)
  | idiv =>
    have hb := ai_bt h
    clear h
    obtain ⟨hb, h⟩ := hb
    obtain rfl := ai_bq hb
    exact ai_two_ok hG hce hsl h (fun x y cst2 e hne => by subst e; simp [mj_st, mj_pu, hne (Or.inl rfl), mj_go, ai_f])
  | irem =>
    have hb := ai_bt h
    clear h
    obtain ⟨hb, h⟩ := hb
    obtain rfl := ai_bq hb
    exact ai_two_ok hG hce hsl h (fun x y cst2 e hne => by subst e; simp [mj_st, mj_pu, hne (Or.inr rfl), mj_go, ai_f])
  | ineg =>
    have hb := ai_bt h
    clear h
    obtain ⟨hb, h⟩ := hb
    obtain rfl := ai_bq hb
    exact ai_uo_ok hG hce hsl h (fun x cst2 e => by subst e; rfl)
  | i2b =>
    have hb := ai_bt h
    clear h
    obtain ⟨hb, h⟩ := hb
    obtain rfl := ai_bq hb
    exact ai_uo_ok hG hce hsl h (fun x cst2 e => by subst e; rfl)
  | i2s =>
    have hb := ai_bt h
    clear h
    obtain ⟨hb, h⟩ := hb
    obtain rfl := ai_bq hb
    exact ai_uo_ok hG hce hsl h (fun x cst2 e => by subst e; rfl)
  | i2c =>
    have hb := ai_bt h
    clear h
    obtain ⟨hb, h⟩ := hb
    obtain rfl := ai_bq hb
    exact ai_uo_ok hG hce hsl h (fun x cst2 e => by subst e; rfl)
  | ladd =>
    have hb := ai_bt h
    clear h
    obtain ⟨hb, h⟩ := hb
    obtain rfl := ai_bq hb
    exact ai_lb_ok hG hce hsl h (fun x y cst2 e _ => by subst e; rfl)
  | lsub =>
    have hb := ai_bt h
    clear h
    obtain ⟨hb, h⟩ := hb
    obtain rfl := ai_bq hb
    exact ai_lb_ok hG hce hsl h (fun x y cst2 e _ => by subst e; rfl)
  | lmul =>
    have hb := ai_bt h
    clear h
    obtain ⟨hb, h⟩ := hb
    obtain rfl := ai_bq hb
    exact ai_lb_ok hG hce hsl h (fun x y cst2 e _ => by subst e; rfl)
  | ldiv =>
    have hb := ai_bt h
    clear h
    obtain ⟨hb, h⟩ := hb
    obtain rfl := ai_bq hb
    exact ai_lb_ok hG hce hsl h (fun x y cst2 e hne => by subst e; simp [mj_st, mj_pu, hne (by decide), mj_go, ai_lf])
  | lrem =>
    have hb := ai_bt h
    clear h
    obtain ⟨hb, h⟩ := hb
    obtain rfl := ai_bq hb
    exact ai_lb_ok hG hce hsl h (fun x y cst2 e hne => by subst e; simp [mj_st, mj_pu, hne (by decide), mj_go, ai_lf])
  | lcmp =>
    have hb := ai_bt h
    clear h
    obtain ⟨hb, h⟩ := hb
    obtain rfl := ai_bq hb
    split at h
    · rename_i b a st
      split at h
      · rename_i p q hp hq
        obtain ⟨w, cst2, rfl, hc, hs2⟩ := ai_ss_cons hst
        obtain ⟨w2, cst3, rfl, hc2, hs3⟩ := ai_ss_cons hs2
        obtain ⟨x, rfl, x1, x2, x3, -⟩ := ai_ll_ok hs hp hc2
        obtain ⟨y, rfl, y1, y2, y3, -⟩ := ai_ll_ok hs hq hc
        cases h
        obtain ⟨T2, hm2, hs4⟩ := ai_lt_ok hs x1 y1 x2 x3 y2 y3
        have hr : mj_st L xs own nL ini .lcmp 1 r1 r2 cM pc cl (.long y :: .long x :: cst3) = some (0, 0, cM, pc + 1, cl, .int (lg_cmp x y) :: cst3) := rfl
        by_cases hlt : x.toInt < y.toInt
        · rw [decide_eq_true hlt] at hm2
          have e : lg_cmp x y = -1 := by unfold lg_cmp; rw [if_neg (by show ¬ y < x; rw [Int64.lt_iff_toInt_lt]; omega), if_neg (fun e => by subst e; omega)]
          rw [e] at hr
          exact ai_ok1 hce hsl hr (List.mem_flatMap.mpr ⟨_, hm2, List.mem_cons_self⟩) ai_le_rf ⟨hs4, hm, hl, ai_k0 ρ (-1), hs3⟩
        · rw [decide_eq_false hlt] at hm2
          obtain ⟨T3, hm3, hs5⟩ := ai_eq_ok (p := (if p.1 < q.1 then q.1 else p.1, p.2)) (q := (q.1, if p.2 < q.2 then p.2 else q.2)) hs4 x1 y1 (by simp only; split <;> omega) x3 y2 (by simp only; split <;> omega)
          by_cases heq : x.toInt = y.toInt
          · rw [decide_eq_true heq] at hm3
            have e : lg_cmp x y = 0 := by unfold lg_cmp; rw [if_neg (by show ¬ y < x; rw [Int64.lt_iff_toInt_lt]; omega), if_pos (Int64.toInt_inj.mp heq)]
            rw [e] at hr
            exact ai_ok1 hce hsl hr (List.mem_flatMap.mpr ⟨_, hm2, List.mem_map.mpr ⟨_, hm3, rfl⟩⟩) ai_le_rf ⟨hs5, hm, hl, ai_k0 ρ 0, hs3⟩
          · rw [decide_eq_false heq] at hm3
            have e : lg_cmp x y = 1 := by unfold lg_cmp; rw [if_pos (by show y < x; rw [Int64.lt_iff_toInt_lt]; omega)]
            rw [e] at hr
            exact ai_ok1 hce hsl hr (List.mem_flatMap.mpr ⟨_, hm2, List.mem_map.mpr ⟨_, hm3, rfl⟩⟩) ai_le_rf ⟨hs5, hm, hl, ai_k0 ρ 1, hs3⟩
      · cases h
    · cases h
  | i2l =>
    have hb := ai_bt h
    clear h
    obtain ⟨hb, h⟩ := hb
    obtain rfl := ai_bq hb
    split at h
    · rename_i a st
      split at h
      · rename_i p hp
        cases h
        obtain ⟨w, cst2, rfl, hc, hs2⟩ := ai_ss_cons hst
        obtain ⟨x, rfl, x1, x2, x3, -⟩ := ai_ii_ok hs hp hc
        refine ai_ok1 hce hsl (cst' := .long x.toInt64 :: cst2) rfl List.mem_cons_self ai_le_rf ⟨hs, hm, hl, ?_, hs2⟩
        rw [← ai_sx]
        obtain ⟨t, z⟩ := a
        unfold ai_ii at hp
        have ht : t < 2 := by simpa [ai_isI] using (ai_bt hp).1
        match t, ht, x1 with
        | 0, _, x1 => cases x1; rfl
        | 1, _, x1 => show (ρ[z.toNat]?).map _ = _; rw [show ρ[z.toNat]? = some x.toInt from x1]; rfl
      · cases h
    · cases h
  | l2i =>
    have hb := ai_bt h
    clear h
    obtain ⟨hb, h⟩ := hb
    obtain rfl := ai_bq hb
    split at h
    · rename_i a st
      split at h
      · rename_i p hp
        have hb := ai_bt h
        clear h
        obtain ⟨hb, h⟩ := hb
        cases h
        obtain ⟨w, cst2, rfl, hc, hs2⟩ := ai_ss_cons hst
        obtain ⟨x, rfl, x1, x2, x3, -⟩ := ai_ll_ok hs hp hc
        refine ai_ok1 hce hsl (cst' := .int x.toInt32 :: cst2) rfl List.mem_cons_self ai_le_rf ⟨hs, hm, hl, ?_, hs2⟩
        rw [← ai_nx]
        obtain ⟨t, z⟩ := a
        unfold ai_ll at hp
        have ht : t = 2 ∨ t = 3 := by simpa [ai_isL] using (ai_bt hp).1
        rcases ht with rfl | rfl
        · cases x1; rfl
        · show (ρ[z.toNat]?).map _ = _; rw [show ρ[z.toNat]? = some x.toInt from x1]; rfl
      · cases h
    · cases h
  | dup =>
    have hb := ai_bt h
    clear h
    obtain ⟨hb, h⟩ := hb
    obtain rfl := ai_bq hb
    split at h
    · rename_i a st
      have hb := ai_bn h
      clear h
      obtain ⟨hb, h⟩ := hb
      cases h
      obtain ⟨w, cst2, rfl, hc, hs2⟩ := ai_ss_cons hst
      exact ai_ok1 (cM' := cM) (cl' := cl) (cst' := w :: w :: cst2) (pc' := pc + 1) hce hsl (by simp [mj_st, mj_pu, ai_cat1 hb hc, mj_go]) List.mem_cons_self ai_le_rf ⟨hs, hm, hl, hc, hc, hs2⟩
    · cases h
  | dup2 =>
    have hb := ai_bt h
    clear h
    obtain ⟨hb, h⟩ := hb
    obtain rfl := ai_bq hb
    split at h
    · rename_i a b st
      have hb := ai_bn h
      clear h
      obtain ⟨hb, h⟩ := hb
      cases h
      simp only [Bool.or_eq_false_iff] at hb
      obtain ⟨w, cst2, rfl, hc, hs2⟩ := ai_ss_cons hst
      obtain ⟨w2, cst3, rfl, hc2, hs3⟩ := ai_ss_cons hs2
      exact ai_ok1 (cM' := cM) (cl' := cl) (cst' := w :: w2 :: w :: w2 :: cst3) (pc' := pc + 1) hce hsl (by simp [mj_st, mj_pu, ai_cat1 hb.1 hc, ai_cat1 hb.2 hc2, mj_go]) List.mem_cons_self ai_le_rf ⟨hs, hm, hl, hc, hc2, hc, hc2, hs3⟩
    · cases h
  | pop =>
    have hb := ai_bt h
    clear h
    obtain ⟨hb, h⟩ := hb
    obtain rfl := ai_bq hb
    split at h
    · rename_i a st
      have hb := ai_bn h
      clear h
      obtain ⟨hb, h⟩ := hb
      cases h
      obtain ⟨w, cst2, rfl, hc, hs2⟩ := ai_ss_cons hst
      exact ai_ok1 (cM' := cM) (cl' := cl) (cst' := cst2) (pc' := pc + 1) hce hsl (by simp [mj_st, mj_pu, ai_cat1 hb hc, mj_go]) List.mem_cons_self ai_le_rf ⟨hs, hm, hl, hs2⟩
    · cases h
  | pop2 =>
    have hb := ai_bt h
    clear h
    obtain ⟨hb, h⟩ := hb
    obtain rfl := ai_bq hb
    split at h
    · rename_i a st
      have hb := ai_bt h
      clear h
      obtain ⟨hb, h⟩ := hb
      cases h
      obtain ⟨w, cst2, rfl, hc, hs2⟩ := ai_ss_cons hst
      exact ai_ok1 (cM' := cM) (cl' := cl) (cst' := cst2) (pc' := pc + 1) hce hsl (by simp [mj_st, mj_pu, ai_cat2 hb hc, mj_go]) List.mem_cons_self ai_le_rf ⟨hs, hm, hl, hs2⟩
    · cases h
  | goto off =>
    have hb := ai_bt h
    clear h
    obtain ⟨hb, h⟩ := hb
    obtain rfl := ai_bq hb
    cases hj : ai_jp pc off with
    | none => rw [hj] at h; cases h
    | some t =>
      rw [hj] at h
      cases h
      obtain ⟨h0, rfl⟩ := ai_jp_ok hj
      exact ai_ok1 hce hsl (by simp [mj_st, mj_pu, mj_jp, h0]) List.mem_cons_self ai_le_rf hG
  | ifCond c off =>
    have hb := ai_bt h
    clear h
    obtain ⟨hb, h⟩ := hb
    obtain rfl := ai_bq hb
    split at h
    · rename_i a st
      split at h
      · rename_i p hp
        obtain ⟨w, cst2, rfl, hc, hs2⟩ := ai_ss_cons hst
        obtain ⟨x, rfl, x1, x2, x3, -⟩ := ai_ii_ok hs hp hc
        have hb := ai_cmp_ok (ai_ck c) hs x1 (show ai_z ρ (0, 0) = some (0 : Int32).toInt from rfl) x2 x3 (q := (0, 0)) (Int.le_refl _) (Int.le_refl _)
        rw [ai_br2] at hb
        exact ai_br_ok hm hl hs2 hce hsl h hb (fun X hX => mj_st_pu (by cases c <;> exact hX))
      · cases h
    · cases h
  | if_icmp c off =>
    have hb := ai_bt h
    clear h
    obtain ⟨hb, h⟩ := hb
    obtain rfl := ai_bq hb
    split at h
    · rename_i b a st
      split at h
      · rename_i p q hp hq
        obtain ⟨w, cst2, rfl, hc, hs2⟩ := ai_ss_cons hst
        obtain ⟨w2, cst3, rfl, hc2, hs3⟩ := ai_ss_cons hs2
        obtain ⟨x, rfl, x1, x2, x3, -⟩ := ai_ii_ok hs hp hc2
        obtain ⟨y, rfl, y1, y2, y3, -⟩ := ai_ii_ok hs hq hc
        have hb := ai_cmp_ok (ai_ck c) hs x1 y1 x2 x3 y2 y3
        rw [ai_br2] at hb
        exact ai_br_ok hm hl hs3 hce hsl h hb (fun X hX => mj_st_pu (by cases c <;> exact hX))
      · cases h
    · cases h
  | tableswitch dflt lo hi offs =>
    exact ai_s_tableswitch hG hce hsl hscr h
  | lookupswitch dflt ps =>
    exact ai_s_lookupswitch hG hce hsl hscr h
  | getfield i =>
    exact ai_s_getfield hG hce hsl hscr h
  | putfield i =>
    exact ai_s_putfield hG hce hsl hscr h
  | getstatic i =>
    exact ai_s_getstatic hG hce hsl hscr h
  | ldc i =>
    exact ai_s_ldc hG hce hsl hscr h
  | ldc_w i =>
    exact ai_s_ldc_w hG hce hsl hscr h
  | ldc2_w i =>
    exact ai_s_ldc2_w hG hce hsl hscr h
  | iaload =>
    exact ai_s_iaload hG hce hsl hscr h
  | baload =>
    exact ai_s_baload hG hce hsl hscr h
  | aaload =>
    exact ai_s_aaload hG hce hsl hscr h
  | arraylength =>
    exact ai_s_arraylength hG hce hsl hscr h
  | iastore =>
    exact ai_s_iastore hG hce hsl hscr h
  | bastore =>
    exact ai_s_bastore hG hce hsl hscr h
  | newarray t =>
    exact ai_s_newarray hG hce hsl hscr h
  | multianewarray i d =>
    exact ai_s_multianewarray hG hce hsl hscr h
  | new i =>
    exact ai_s_new hG hce hsl hscr h
  | invokespecial i =>
    exact ai_s_invokespecial hG hce hsl hscr h
  | invokestatic i =>
    exact ai_s_invokestatic hG hce hsl hscr h
  | _ => exact absurd h (by unfold ai_step; intro h; cases h)
end AIT
