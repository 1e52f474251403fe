/-! MORE OF THE STEPS THAT KNOW OF FACTS -/
/-- a known number times another one, of any sign -/
noncomputable def ak_h_lmul : ak_H := fun own nL ini mc ms len r1 r2 pc ce sl T M l st X => match st with
  | b :: a :: st' => (match ai_llg ai_at ai_put ai_in32f ai_arf ai_psh ai_ln T a, ai_llg ai_at ai_put ai_in32f ai_arf ai_psh ai_ln T b with
    | some p, some q => bif (Nat.beq len 1 && ai_eqb p.1 p.2) && (!(ai_ltb p.1 0) && (!(ai_one q) && ai_in64 (p.1 * q.1, p.1 * q.2))) then some [((pc + 1, ce, sl, ai_psh _ T (p.1 * q.1, p.1 * q.2), M, l, (3, (ai_ln _ T : Int)) :: st'), X)] else ak_h_df .lmul own nL ini mc ms len r1 r2 pc ce sl T M l st X
    | _, _ => none)
  | _ => none
/-- surely within the first n places: from s on, c of them -/
noncomputable def ak_win (T : ai_T) (X : ak_X) (s c : ai_V) (p q : Int × Int) (n : Int) : Bool := !(ai_ltb n (p.2 + q.2)) || (match ak_kv X.1 s, ak_kv X.1 c with
  | some (1, ra), some (1, rb) => (match ak_sb X.2.1 ra rb X.2.2.2 with
    | some h => !(ai_ltb n h)
    | none => false)
  | _, _ => false)
/-- a copy between two rows that are known by their bounds alone -/
noncomputable def ak_h_acp (ins : Instr) : ak_H := fun own nL ini mc ms len r1 r2 pc ce sl T M l st X => match st with
  | n :: dp :: (4, q1) :: sp :: (4, q0) :: st' => (match ai_at _ M q0.toNat, ai_at _ M q1.toNat with
    | some (3, 0, [(7, n0), (7, lo), (7, hi)]), some (3, 0, [(7, n1), (7, lo1), (7, hi1)]) => (match ai_iig ai_at ai_put ai_in32f ai_arf ai_psh ai_ln T n, ai_iig ai_at ai_put ai_in32f ai_arf ai_psh ai_ln T dp, ai_iig ai_at ai_put ai_in32f ai_arf ai_psh ai_ln T sp with
      | some pn, some pd, some ps => bif ((Nat.beq len 3 && Nat.beq r1 1001) && (Nat.ble (ai_cs st') 8 && (!(ai_ltb pn.1 0) && (!(ai_ltb pd.1 0) && !(ai_ltb ps.1 0))))) && ((!(ai_ltb n0 0) && !(ai_ltb n1 0)) && ((ak_win T X sp n ps pn n0 && ak_win T X dp n pd pn n1) && (!(ai_ltb lo lo1) && !(ai_ltb hi1 hi)))) then
          some [((pc + 3, ce, sl, T, M, l, st'), X)] else none
      | _, _, _ => none)
    | _, _ => ak_h_df ins own nL ini mc ms len r1 r2 pc ce sl T M l st X)
  | _ => ak_h_df ins own nL ini mc ms len r1 r2 pc ce sl T M l st X
/-- a switch over many numbers: its keys one by one, what lies between them as a whole -/
def ak_gaps : List (Int × Int) → Int → Int → List (Int × Int)
  | [], lo, hi => bif ai_ltb hi lo then [] else [(lo, hi)]
  | k :: ps, lo, hi => bif ai_ltb k.1 lo then ak_gaps ps lo hi else
      bif ai_ltb hi k.1 then (bif ai_ltb hi lo then [] else [(lo, hi)]) else
      bif ai_ltb lo k.1 then (lo, k.1 - 1) :: (k.1, k.1) :: ak_gaps ps (k.1 + 1) hi else (k.1, k.1) :: ak_gaps ps (k.1 + 1) hi
def ak_off (ps : List (Int × Int)) (dflt : Int) (g : Int × Int) : Option Int := bif ai_eqb g.1 g.2 then some (Op.lookupswitch.offset ps dflt g.1) else
  bif ps.all (fun k => ai_ltb k.1 g.1 || ai_ltb g.2 k.1) then some dflt else none
noncomputable def ak_lsw (ps : List (Int × Int)) (dflt : Int) (pc ce sl : Nat) (T : ai_T) (M : ai_M) (l : ai_L) (a : ai_V) (st : List ai_V) (X : ak_X) : List (Int × Int) → Option (List ((Nat × ai_S) × ak_X))
  | [] => some []
  | g :: gs => (match ak_off ps dflt g with
    | some o => (match ai_jp pc o, ak_lsw ps dflt pc ce sl T M l a st X gs with
      | some t, some r => some (((t, ce, sl, ai_set T a g, M, l, st), X) :: r)
      | _, _ => none)
    | none => none)
/-- pieces side by side -/
def ak_cov : List (Int × Int) → Int → Int → Bool
  | [], lo, hi => ai_ltb hi lo
  | g :: gs, lo, hi => ai_eqb g.1 lo && (!(ai_ltb g.2 g.1) && ak_cov gs (g.2 + 1) hi)
noncomputable def ak_h_lsw (dflt : Int) (ps : Array (Int × Int)) : ak_H := fun _ _ _ _ _ _ _ _ pc ce sl T M l st X => bif (ps.toList.zip (ps.toList.drop 1)).all (fun (a, next) => a.1 < next.1) then (match st with
  | a :: st => (match ai_iig ai_at ai_put ai_in32f ai_arf ai_psh ai_ln T a with
    | some p => bif ak_cov (ak_gaps ps.toList p.1 p.2) p.1 p.2 then ak_tl (ak_lsw ps.toList dflt pc ce sl T M l a st X (ak_gaps ps.toList p.1 p.2)) else none
    | none => none)
  | _ => none) else none
/-- a read whose place is not known: place by place -/
def ak_spl (o : ai_V) : Bool := Nat.beq o.1 5 || (Nat.beq o.1 4 && (Nat.beq o.2.toNat 98 || Nat.beq o.2.toNat 100))
noncomputable def ak_zs (f : Int → ak_R) : List Int → ak_R
  | [] => some []
  | z :: zs => ak_cat (f z) (ak_zs f zs)
noncomputable def ak_h_ld (ins : Instr) : ak_H := fun own nL ini mc ms len r1 r2 pc ce sl T M l st X => match st with
  | i :: o :: _ => (match ai_iig ai_at ai_put ai_in32f ai_arf ai_psh ai_ln T i with
    | some p => bif ak_spl o && !(ai_one p) then (bif ai_ltb (p.2 - p.1) 50 then ak_tl (ak_zs (fun z => ak_h_df ins own nL ini mc ms len r1 r2 pc ce sl (ai_set T i (z, z)) M l st X) (ai_each p)) else none) else ak_h_df ins own nL ini mc ms len r1 r2 pc ce sl T M l st X
    | none => none)
  | _ => none
noncomputable def ak_hw (ins : Instr) : ak_H × Unit := match ins with
  | .iinc i n => (ak_h_iinc i n, ())
  | .iadd => (ak_h_iadd, ())
  | .isub => (ak_h_isub, ())
  | .if_icmp c off => (ak_h_icmp c off, ())
  | .ifCond c off => (ak_h_br (.ifCond c off), ())
  | .lcmp => (ak_h_br .lcmp, ())
  | .tableswitch a b c d => (ak_h_br (.tableswitch a b c d), ())
  | .lookupswitch d ps => (ak_h_lsw d ps, ())
  | .lmul => (ak_h_lmul, ())
  | .invokestatic i => (ak_h_acp (.invokestatic i), ())
  | .iaload => (ak_h_ld .iaload, ())
  | .baload => (ak_h_ld .baload, ())
  | .aaload => (ak_h_br .aaload, ())
  | .iastore => (ak_h_br .iastore, ())
  | .bastore => (ak_h_br .bastore, ())
  | ins => (ak_h_df ins, ())
section AKM
variable {ρ : List Int} {T : ai_T} {M : ai_M} {l : ai_L} {st : List ai_V} {X : ak_X} {cM : mj_M} {cl : mj_L} {cst : List Value} {ce sl mc ms pc : Nat} {succs : List ((Nat × ai_S) × ak_X)} {r : mj_R}
variable {own nL L len r1 r2 : Nat} {xs : Nat → Int32} {ini : Bool} {ins : Instr}
theorem ak_setself {α : Type} : ∀ {l : List α} {k : Nat} {v : α}, l[k]? = some v → l.set k v = l
  | [], _, _, h => by cases h
  | a :: l, 0, v, h => by
    cases h
    rfl
  | a :: l, k + 1, v, h => by
    show a :: l.set k v = a :: l
    rw [ak_setself (l := l) (k := k) (v := v) h]
theorem ak_offset_none {dflt x : Int} : ∀ {ps : List (Int × Int)}, (∀ k ∈ ps, k.1 ≠ x) → Op.lookupswitch.offset ps dflt x = dflt
  | [], _ => rfl
  | (a, o) :: ps, h => by
    show (if a = x then o else Op.lookupswitch.offset ps dflt x) = dflt
    rw [if_neg (h (a, o) List.mem_cons_self)]
    exact ak_offset_none (fun q hq => h q (List.mem_cons_of_mem _ hq))
theorem ak_lmul_ok (hG : ai_G ρ T M l st cM cl cst) (hx : ak_sx ρ X) (hce : ce ≤ mc) (hsl : sl ≤ ms) (h : ak_h_lmul own nL ini mc ms len r1 r2 pc ce sl T M l st X = some succs) : ak_ok ρ ce sl mc ms (mj_st L xs own nL ini .lmul len r1 r2 cM pc cl cst) succs := by
  obtain ⟨hs, hm, hl, hst⟩ := id hG
  unfold ak_h_lmul at h
  simp only [ai_psh_eq, ai_ln_eq] at h
  split at h
  · rename_i b a st'
    split at h
    · rename_i p q hp hq
      cases hb : (Nat.beq len 1 && ai_eqb p.1 p.2) && (!(ai_ltb p.1 0) && (!(ai_one q) && ai_in64 (p.1 * q.1, p.1 * q.2))) with
      | false =>
        rw [hb, cond_false] at h
        exact ak_df_ok hG hx hce hsl h
      | true =>
        rw [hb, cond_true] at h
        cases h
        simp only [Bool.and_eq_true, ai_eqb_eq, ai_ltb_eq, decide_eq_true_eq, Bool.not_eq_true', decide_eq_false_iff_not] at hb
        obtain ⟨⟨hb1, hb2⟩, hb3, -, hb4⟩ := hb
        obtain rfl := ai_bq hb1
        rw [ai_llg_ok] at hp hq
        obtain ⟨w, cst', rfl, hc, hs1⟩ := ai_ss_cons hst
        obtain ⟨w2, cst', rfl, hc2, hs2⟩ := ai_ss_cons hs1
        obtain ⟨x, rfl, x1, x2, x3, x4, x5⟩ := ai_ll_ok hs hp hc2
        obtain ⟨y, rfl, y1, y2, y3, y4, y5⟩ := ai_ll_ok hs hq hc
        obtain ⟨b1, b2⟩ : -9223372036854775808 ≤ p.1 * q.1 ∧ p.1 * q.2 ≤ 9223372036854775807 := by simpa [ai_in64] using hb4
        have ex : x.toInt = p.1 := by omega
        have g1 : p.1 * q.1 ≤ x.toInt * y.toInt := by rw [ex]; exact Int.mul_le_mul_of_nonneg_left y2 (by omega)
        have g2 : x.toInt * y.toInt ≤ p.1 * q.2 := by rw [ex]; exact Int.mul_le_mul_of_nonneg_left y3 (by omega)
        have hle : ai_le ρ (ρ ++ [(x * y).toInt]) := ai_le_app _
        have gg : p.1 * q.1 ≤ (x * y).toInt ∧ (x * y).toInt ≤ p.1 * q.2 := by
          rw [Int64.toInt_mul, ai_bm64 (by omega) (by omega)]
          exact ⟨g1, g2⟩
        refine ak_ok1 (cst' := .long (x * y) :: cst') hce hsl rfl List.mem_cons_self hle ⟨ai_sat_push hs gg.1 gg.2, ai_mm_mono hle hm, ai_sl_mono hle hl, ?_, ai_ss_mono hle hs2⟩ (ak_sx_mono hle hx)
        show ((ρ ++ [(x * y).toInt])[((T.length : Nat) : Int).toNat]?).map _ = _
        rw [show ((T.length : Nat) : Int).toNat = T.length from rfl, ai_push_get hs]
        show some (Value.long (Int64.ofInt (x * y).toInt)) = _
        rw [Int64.ofInt_toInt]
    · cases h
  · cases h
theorem ak_win_ok {s c : ai_V} {p q : Int × Int} {n x y : Int} (hs : ai_sat ρ T) (hx : ak_sx ρ X) (h1 : ai_z ρ s = some x) (h2 : ai_z ρ c = some y) (x3 : x ≤ p.2) (y3 : y ≤ q.2) (h : ak_win T X s c p q n = true) : x + y ≤ n := by
  unfold ak_win at h
  rw [Bool.or_eq_true] at h
  rcases h with h | h
  · simp only [ai_ltb_eq, Bool.not_eq_true', decide_eq_false_iff_not] at h
    omega
  · split at h
    · rename_i ra rb e1 e2
      obtain ⟨u, hu, eu⟩ := ak_v1 (ak_kv_ok hx.1 h1 e1)
      obtain ⟨t, ht, et⟩ := ak_v1 (ak_kv_ok hx.1 h2 e2)
      split at h
      · rename_i b9 hb9
        have g := ak_sb_ok hx.2.1 hu ht hx.2.2.2 hb9
        simp only [ai_ltb_eq, Bool.not_eq_true', decide_eq_false_iff_not] at h
        omega
      · cases h
    · cases h
theorem ak_acp_ok {i : Nat} (hG : ai_G ρ T M l st cM cl cst) (hx : ak_sx ρ X) (hce : ce ≤ mc) (hsl : sl ≤ ms) (h : ak_h_acp (.invokestatic i) own nL ini mc ms len r1 r2 pc ce sl T M l st X = some succs) : ak_ok ρ ce sl mc ms (mj_st L xs own nL ini (.invokestatic i) len r1 r2 cM pc cl cst) succs := by
  obtain ⟨hs, hm, hl, hst⟩ := id hG
  unfold ak_h_acp at h
  split at h
  · rename_i n dp q1 sp q0 st'
    split at h
    · rename_i n0 lo hi n1 lo1 hi1 hq0 hq1
      rw [ai_at_eq] at hq0 hq1
      split at h
      · rename_i pn pd ps hn hdp hsp
        rw [ai_iig_ok] at hn hdp hsp
        have hbh9 := ai_bt h
        clear h
        obtain ⟨hb, h⟩ := hbh9
        cases h
        simp only [Bool.and_eq_true, Nat.ble_eq, ai_ltb_eq, Bool.not_eq_true', decide_eq_false_iff_not] at hb
        obtain ⟨⟨⟨l3, r1e⟩, hcs, p1, p2, p3⟩, ⟨m0, m1⟩, ⟨w1, w2⟩, v1, v2⟩ := hb
        obtain rfl := ai_bq l3
        obtain rfl := ai_bq r1e
        obtain ⟨u1, cst1, rfl, hc1, hs1⟩ := ai_ss_cons hst
        obtain ⟨u2, cst2, rfl, hc2, hs2⟩ := ai_ss_cons hs1
        obtain ⟨u3, cst3, rfl, hc3, hs3⟩ := ai_ss_cons hs2
        obtain ⟨u4, cst4, rfl, hc4, hs4⟩ := ai_ss_cons hs3
        obtain ⟨u5, cst5, rfl, hc5, hs5⟩ := ai_ss_cons hs4
        obtain rfl := ai_c4 hc3
        obtain rfl := ai_c4 hc5
        obtain ⟨x, rfl, xz, x2, x3, -⟩ := ai_ii_ok hs hn hc1
        obtain ⟨y, rfl, yz, y2, y3, -⟩ := ai_ii_ok hs hdp hc2
        obtain ⟨z, rfl, zz, z2, z3, -⟩ := ai_ii_ok hs hsp hc4
        obtain ⟨e0, he0, f0, rfl, hf0⟩ := ai_mem_get hm hq0
        obtain ⟨e1, he1, g0, rfl, hg0⟩ := ai_mem_get hm hq1
        rw [ai_cs_ok hs5] at hcs
        have k1 := ak_win_ok hs hx zz xz z3 x3 w1
        have k2 := ak_win_ok hs hx yz xz y3 x3 w2
        have i0 : (0 : Int32).toInt = 0 := rfl
        have nx : ¬ x < 0 := by rw [Int32.lt_iff_toInt_lt]; omega
        have ny : ¬ y < 0 := by rw [Int32.lt_iff_toInt_lt]; omega
        have nz : ¬ z < 0 := by rw [Int32.lt_iff_toInt_lt]; omega
        have ex : x.toNatClampNeg = x.toInt.toNat := rfl
        have ey : y.toNatClampNeg = y.toInt.toNat := rfl
        have ez : z.toNatClampNeg = z.toInt.toNat := rfl
        refine ak_ok1 (cM' := cM.set q1.toNat (.inl (0, n1.toNat, .inl (va_cpy f0 g0 z.toNatClampNeg y.toNatClampNeg x.toNatClampNeg)))) (cl' := cl) (cst' := cst5) (pc' := pc + 3) hce hsl ?_ List.mem_cons_self ai_le_rf ⟨hs, ?_, hl, hs5⟩ hx
        · simp only [mj_st, mj_pu, mj_me, he0, he1]
          rw [if_pos ⟨trivial, hcs⟩, if_neg (fun q => by rcases q with q | q | q | q | q; exact nz q; exact ny q; exact nx q; omega; omega)]
          rfl
        · have key : ai_e ρ (3, 0, [(7, n1), (7, lo1), (7, hi1)]) (.inl (0, n1.toNat, .inl (va_cpy f0 g0 z.toNatClampNeg y.toNatClampNeg x.toNatClampNeg))) := by
            refine ⟨_, rfl, fun j hj => ?_⟩
            unfold va_cpy
            split
            · rename_i hh
              have := hf0 (z.toNatClampNeg + (j - y.toNatClampNeg)) (by omega)
              omega
            · exact hg0 j hj
          have h3 := ai_mm_set (k := q1.toNat) hm key
          rw [ak_setself hq1] at h3
          exact h3
      · cases h
    · exact ak_df_ok hG hx hce hsl h
  · exact ak_df_ok hG hx hce hsl h
theorem ak_off_ok {ps : List (Int × Int)} {dflt o x : Int} {g : Int × Int} (h1 : g.1 ≤ x) (h2 : x ≤ g.2) (h : ak_off ps dflt g = some o) : o = Op.lookupswitch.offset ps dflt x := by
  unfold ak_off at h
  cases hb : ai_eqb g.1 g.2 with
  | true =>
    rw [hb] at h
    cases h
    rw [ai_eqb_eq, decide_eq_true_eq] at hb
    rw [show x = g.1 by omega]
  | false =>
    rw [hb, cond_false] at h
    have hbh9 := ai_bt h
    clear h
    obtain ⟨hall, h⟩ := hbh9
    cases h
    have key : ∀ k ∈ ps, k.1 ≠ x := fun k hk => by
      have := List.all_eq_true.mp hall k hk
      simp only [Bool.or_eq_true, ai_ltb_eq, decide_eq_true_eq] at this
      omega
    exact (ak_offset_none key).symm
theorem ak_cov_ok : ∀ {gs : List (Int × Int)} {lo hi x : Int}, ak_cov gs lo hi = true → lo ≤ x → x ≤ hi → ∃ g ∈ gs, g.1 ≤ x ∧ x ≤ g.2
  | [], lo, hi, x, h, h1, h2 => by
    unfold ak_cov at h
    rw [ai_ltb_eq, decide_eq_true_eq] at h
    omega
  | g :: gs, lo, hi, x, h, h1, h2 => by
    unfold ak_cov at h
    simp only [Bool.and_eq_true, ai_eqb_eq, ai_ltb_eq, decide_eq_true_eq, Bool.not_eq_true', decide_eq_false_iff_not] at h
    obtain ⟨a, b, c⟩ := h
    by_cases hx : x ≤ g.2
    · exact ⟨g, List.mem_cons_self, by omega, hx⟩
    · obtain ⟨g', hg', q⟩ := ak_cov_ok c (by omega) h2
      exact ⟨g', List.mem_cons_of_mem _ hg', q⟩
theorem ak_lsw_mem {ps : List (Int × Int)} {dflt : Int} {a : ai_V} : ∀ {gs : List (Int × Int)} {rs : List ((Nat × ai_S) × ak_X)} {g : Int × Int}, ak_lsw ps dflt pc ce sl T M l a st X gs = some rs → g ∈ gs → ∃ o t, ak_off ps dflt g = some o ∧ ai_jp pc o = some t ∧ ((t, ce, sl, ai_set T a g, M, l, st), X) ∈ rs
  | [], _, _, _, hg => by cases hg
  | g0 :: gs, rs, g, h, hg => by
    unfold ak_lsw at h
    split at h
    · rename_i o ho
      split at h
      · rename_i t r ht hr
        cases h
        rcases List.mem_cons.mp hg with rfl | hg
        · exact ⟨o, t, ho, ht, List.mem_cons_self⟩
        · obtain ⟨o', t', e1, e2, e3⟩ := ak_lsw_mem hr hg
          exact ⟨o', t', e1, e2, List.mem_cons_of_mem _ e3⟩
      · cases h
    · cases h
theorem ak_lsw_ok {dflt : Int} {ps : Array (Int × Int)} (hG : ai_G ρ T M l st cM cl cst) (hx : ak_sx ρ X) (hce : ce ≤ mc) (hsl : sl ≤ ms) (h : ak_h_lsw dflt ps own nL ini mc ms len r1 r2 pc ce sl T M l st X = some succs) : ak_ok ρ ce sl mc ms (mj_st L xs own nL ini (.lookupswitch dflt ps) len r1 r2 cM pc cl cst) succs := by
  obtain ⟨hs, hm, hl, hst⟩ := id hG
  unfold ak_h_lsw at h
  have hbh9 := ai_bt h
  clear h
  obtain ⟨hb, h⟩ := hbh9
  split at h
  · rename_i a st'
    split at h
    · rename_i p hp
      rw [ai_iig_ok] at hp
      have hbh9 := ai_bt h
      clear h
      obtain ⟨hcv, h⟩ := hbh9
      obtain ⟨w, cst2, rfl, hc, hs2⟩ := ai_ss_cons hst
      obtain ⟨x, rfl, xz, x2, x3, -⟩ := ai_ii_ok hs hp hc
      obtain ⟨g, hg, g1, g2⟩ := ak_cov_ok hcv x2 x3
      refine ak_tl_ok h (fun rs hrs => ?_)
      obtain ⟨o, t, ho, ht, hmem⟩ := ak_lsw_mem hrs hg
      obtain rfl := ak_off_ok g1 g2 ho
      obtain ⟨h0, rfl⟩ := ai_jp_ok ht
      exact ak_ok1 hce hsl (cM' := cM) (cl' := cl) (cst' := cst2) (mj_st_pu (by simp only [mj_pu]; rw [if_pos hb]; exact if_pos h0)) hmem ai_le_rf ⟨ai_set_ok hs xz g1 g2, hm, hl, hs2⟩ hx
    · cases h
  · cases h
theorem ak_zs_mem {f : Int → ak_R} : ∀ {zs : List Int} {rs : List ((Nat × ai_S) × ak_X)} {z : Int}, ak_zs f zs = some rs → z ∈ zs → ∃ r, f z = some r ∧ ∀ q ∈ r, q ∈ rs
  | [], _, _, _, hz => by cases hz
  | z0 :: zs, rs, z, h, hz => by
    unfold ak_zs at h
    obtain ⟨a, b, e1, e2, rfl⟩ := ak_cat_ok h
    rcases List.mem_cons.mp hz with rfl | hz
    · exact ⟨a, e1, fun q hq => List.mem_append_left _ hq⟩
    · obtain ⟨r, e3, e4⟩ := ak_zs_mem e2 hz
      exact ⟨r, e3, fun q hq => List.mem_append_right _ (e4 q hq)⟩
theorem ak_ld_ok (hG : ai_G ρ T M l st cM cl cst) (hx : ak_sx ρ X) (hce : ce ≤ mc) (hsl : sl ≤ ms) (h : ak_h_ld ins own nL ini mc ms len r1 r2 pc ce sl T M l st X = some succs) : ak_ok ρ ce sl mc ms (mj_st L xs own nL ini ins len r1 r2 cM pc cl cst) succs := by
  obtain ⟨hs, hm, hl, hst⟩ := id hG
  unfold ak_h_ld at h
  split at h
  · rename_i i o st'
    split at h
    · rename_i p hp
      cases hb : ak_spl o && !(ai_one p) with
      | false =>
        rw [hb, cond_false] at h
        exact ak_df_ok hG hx hce hsl h
      | true =>
        rw [hb, cond_true] at h
        have hbh9 := ai_bt h
        clear h
        obtain ⟨-, h⟩ := hbh9
        rw [ai_iig_ok] at hp
        obtain ⟨w, cst2, e2, hc, hs2⟩ := ai_ss_cons hst
        obtain ⟨x, rfl, xz, x2, x3, -⟩ := ai_ii_ok hs hp hc
        refine ak_tl_ok h (fun rs hrs => ?_)
        obtain ⟨r, hr, hsub⟩ := ak_zs_mem hrs (ai_each_ok x2 x3)
        exact ak_ok_sub (ak_df_ok ⟨ai_set_ok hs xz (Int.le_refl _) (Int.le_refl _), hm, hl, hst⟩ hx hce hsl hr) hsub
    · cases h
  · cases h
theorem ak_step_ok (hG : ai_G ρ T M l st cM cl cst) (hx : ak_sx ρ X) (hce : ce ≤ mc) (hsl : sl ≤ ms) (h : (ak_hw ins).1 own nL ini mc ms len r1 r2 pc ce sl T M l st X = some succs) : ak_ok ρ ce sl mc ms (mj_st L xs own nL ini ins len r1 r2 cM pc cl cst) succs := by
  unfold ak_hw at h
  split at h
  · exact ak_iinc_ok hG hx hce hsl h
  · exact ak_iadd_ok hG hx hce hsl h
  · exact ak_isub_ok hG hx hce hsl h
  · exact ak_icmp_ok hG hx hce hsl h
  · exact ak_br_ok hG hx hce hsl h
  · exact ak_br_ok hG hx hce hsl h
  · exact ak_br_ok hG hx hce hsl h
  · exact ak_lsw_ok hG hx hce hsl h
  · exact ak_lmul_ok hG hx hce hsl h
  · exact ak_acp_ok hG hx hce hsl h
  · exact ak_ld_ok hG hx hce hsl h
  · exact ak_ld_ok hG hx hce hsl h
  · exact ak_br_ok hG hx hce hsl h
  · exact ak_br_ok hG hx hce hsl h
  · exact ak_br_ok hG hx hce hsl h
  · exact ak_df_ok hG hx hce hsl h
end AKM
