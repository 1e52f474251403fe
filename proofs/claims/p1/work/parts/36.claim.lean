/-! THE CLAIM OUT OF ONE WALK OF THE LAW'S BODY. Your part is whole_start (and what it stands on); all else here is the same for every law, but numbers. -/
def R_law : String := "DreamsPayRentLaw"
def lw_P (b : Addr) (xs : List Int32) (args : Array Value) (s : State) : Prop := args = #[.ref b] ∧ s.IntsAt b xs ∧ xs.length ≤ 6 ∧ (Jvm.Cond.and given_1 narrow_1).before args s = true
def lw_Q (_ : Array Value) (s : State) (o : Outcome) (t : State) : Prop := o = .returned (some (.int 1)) ∧ Framed s o t [] 600000 7302250
def lw_Z (below : List Frame) (a : Array Value) (s : State) : State → Prop := fun t => ∃ o, t.status = .running ∧ Ended t below o ∧ lw_Q a s o t
/-- the law's own end, with 1 on the stack, nothing written that was there before, its room as the claim has it -/
theorem lw_ret {p : Program} {l : Launch} {e : Env} {s : State} {m : MethodId} {below : List Frame} {meth : Method} {c : Code} {b : Nat} (hx : p.tables.exec = Jvm.exec) (hb : c.code = code) (hr : meth.sig.returnType = ret) (hlocks : meth.locks = false) {pc : Nat} {H : Heap} {ls : Array Slot} (hdg : decode code pc = .ok (.ireturn, 1)) : W p l e room_1 s m #[Value.ref b] below meth c H [] 600000 7302250 (lw_Z below #[Value.ref b] s) (F0 m pc ls [.int 1]) := by
  intro T hT X
  obtain ⟨fs, hret, hrun, hended, hW, hframe⟩ := X.leave (v := some (.int 1)) (hlocks := hlocks) (fun h => by rw [hr] at h; cases h)
  have hmeth' : T.vm.method? m = some meth := X.method'
  refine ⟨T.setFrames fs, ?_, .returned (some (.int 1)), hrun, hended, rfl, ⟨_, rfl⟩, hW, hframe⟩
  jvm_step X.here [X.here.top, hx, hb, hdg, hmeth', hr, ret, narrow_b1]
  (try refine ⟨rfl, ?_⟩); (try refine ⟨rfl, ?_⟩)
  first | (intro acts; rw [hret _ acts rfl rfl rfl]) | rw [hret _ _ rfl rfl rfl]
  exact Steps.refl _
/-- what holds at the law's entry: the machine, the code, the tables' words (any of lw_tbl by 'hts w (by decide +kernel)'), the script of L ints xs at the cell b, what the Statement gives of the start (any of its parts by flat_of_before) -/
def lw_At (p : Program) (s : State) (m : MethodId) (meth : Method) (c : Code) (b L : Nat) (xs : Nat → Int32) : Prop :=
  p.tables.exec = Jvm.exec ∧ c.code = code ∧ meth.sig.returnType = ret ∧ c.maxLocals = 4 ∧ s.vm.findClass R_law = some m.cls ∧ (∀ w ∈ lw_tbl, w.before #[Value.ref b] s = true) ∧ va_X b L xs s s.heap ∧ b < s.heap.size ∧ meth.locks = false ∧ (Jvm.Cond.and given_1 narrow_1).before #[Value.ref b] s = true
theorem la_teq_ok {A B : ai_T} (h : la_teq A B = true) : A = B := of_decide_eq_true h
theorem la_leq_ok {A B : ai_L} (h : la_leq A B = true) : A = B := of_decide_eq_true h
theorem la_nar {ρ : List Int} {p q : Int × Int} {T : ai_T} {z : Int} (h : ai_sat ρ (p :: T)) (hz : ρ[0]? = some z) (h1 : q.1 ≤ z) (h2 : z ≤ q.2) : ai_sat ρ (q :: T) := by
  refine ⟨h.1, fun k y r a b => ?_⟩
  cases k with
  | zero =>
    cases b
    cases hz.symm.trans a
    exact ⟨h1, h2⟩
  | succ k => exact h.2 (k + 1) y r a b
theorem la_cut0 {pc ce sl : Nat} {T : ai_T} {M : ai_M} {l : ai_L} {st : List ai_V} (h : la_k0 pc ce sl T M l st = true) : pc = 18 ∧ ce = 102 ∧ sl = 3945 ∧ T = la_Tn (0, 6) ∧ M = la_M ∧ l = la_l ∧ st = [] := by
  unfold la_k0 at h
  cases h0 : Nat.beq pc 18 with
  | false => rw [h0] at h; cases h
  | true =>
    rw [h0, cond_true] at h
    simp only [Bool.and_eq_true, List.isEmpty_iff] at h
    obtain ⟨⟨h1, h2⟩, h3, h4, h5, h6⟩ := h
    exact ⟨Nat.eq_of_beq_eq_true h0, Nat.eq_of_beq_eq_true h1, Nat.eq_of_beq_eq_true h2, la_teq_ok h3, ai_leq_ok (fun _ _ => ai_ceq_ok) h6, la_leq_ok h4, h5⟩
theorem la_cut1 {pc ce sl : Nat} {T : ai_T} {M : ai_M} {l : ai_L} {st : List ai_V} (h : la_k1 pc ce sl T M l st = true) : ∃ k, k < 29 ∧ pc = la_of.getD k 0 ∧ ce = 102 ∧ sl = 3945 ∧ T = la_Tk k ∧ M = la_M ∧ l = la_l ∧ st = [] := by
  unfold la_k1 at h
  cases h0 : (List.range 29).any (fun k => Nat.beq pc (la_of.getD k 0) && la_teq T (la_Tk k)) with
  | false => rw [h0] at h; cases h
  | true =>
    rw [h0, cond_true] at h
    obtain ⟨k, hk, hb⟩ := List.any_eq_true.mp h0
    simp only [Bool.and_eq_true] at hb
    simp only [Bool.and_eq_true, List.isEmpty_iff] at h
    obtain ⟨⟨h1, h2⟩, h4, h5, h6⟩ := h
    exact ⟨k, List.mem_range.mp hk, Nat.eq_of_beq_eq_true hb.1, Nat.eq_of_beq_eq_true h1, Nat.eq_of_beq_eq_true h2, la_teq_ok hb.2, ai_leq_ok (fun _ _ => ai_ceq_ok) h6, la_leq_ok h4, h5⟩
theorem la_ops : ∀ k, k < 29 → k ≠ 12 → k ≠ 20 → ai_lx la_no 1000000 30 1000000 (la_of.getD k 0) 102 3945 (la_Tk k) la_M la_l [] = true
  | 0, _, _, _ => la_op0
  | 1, _, _, _ => la_op1
  | 2, _, _, _ => la_op2
  | 3, _, _, _ => la_op3
  | 4, _, _, _ => la_op4
  | 5, _, _, _ => la_op5
  | 6, _, _, _ => la_op6
  | 7, _, _, _ => la_op7
  | 8, _, _, _ => la_op8
  | 9, _, _, _ => la_op9
  | 10, _, _, _ => la_op10
  | 11, _, _, _ => la_op11
  | 12, _, h, _ => absurd rfl h
  | 13, _, _, _ => la_op13
  | 14, _, _, _ => la_op14
  | 15, _, _, _ => la_op15
  | 16, _, _, _ => la_op16
  | 17, _, _, _ => la_op17
  | 18, _, _, _ => la_op18
  | 19, _, _, _ => la_op19
  | 20, _, _, h => absurd rfl h
  | 21, _, _, _ => la_op21
  | 22, _, _, _ => la_op22
  | 23, _, _, _ => la_op23
  | 24, _, _, _ => la_op24
  | 25, _, _, _ => la_op25
  | 26, _, _, _ => la_op26
  | 27, _, _, _ => la_op27
  | 28, _, _, _ => la_op28
  | n + 29, h, _, _ => absurd h (by omega)
theorem la_cut2 {pc ce sl : Nat} {T : ai_T} {M : ai_M} {l : ai_L} {st : List ai_V} (h : la_k2 pc ce sl T M l st = true) : pc = 733 ∧ (T = la_T20_0 ∨ T = la_T20_1) ∧ ce = 102 ∧ sl = 3945 ∧ M = la_M2 ∧ l = la_l ∧ st = [(2, 1)] := by
  unfold la_k2 at h
  cases h0 : Nat.beq pc 733 && (la_teq T la_T20_0 || la_teq T la_T20_1) with
  | false => rw [h0] at h; cases h
  | true =>
    rw [h0, cond_true] at h
    simp only [Bool.and_eq_true, Bool.or_eq_true] at h0
    simp only [Bool.and_eq_true, decide_eq_true_eq] at h
    obtain ⟨⟨h1, h2⟩, h4, h5, h6⟩ := h
    exact ⟨Nat.eq_of_beq_eq_true h0.1, h0.2.imp la_teq_ok la_teq_ok, Nat.eq_of_beq_eq_true h1, Nat.eq_of_beq_eq_true h2, ai_leq_ok (fun _ _ => ai_ceq_ok) h6, la_leq_ok h4, h5⟩
theorem la_3 {ρ : List Int} {T : ai_T} {k : Nat} {q : Int × Int} {z : Int} (h : ai_sat ρ T) (hz : ρ[k]? = some z) (h1 : q.1 ≤ z) (h2 : z ≤ q.2) : ai_sat ρ (ai_set T (1, (k : Int)) q) := ai_set_ok h (a := (1, (k : Int))) hz h1 h2
theorem la_12 {ρ : List Int} {x y : Int32} {P : Prop} (hs : ai_sat ρ (la_Tk 12)) (hx : ρ[2]? = some x.toInt) (hy : ρ[3]? = some y.toInt) (key : ∀ T : ai_T, ai_lx la_no 1000000 30 1000000 490 102 3945 T la_M la_l [] = true → ai_sat ρ T → P) : P := by
  have hb : ∀ w : Int32, (-2147483648 : Int) ≤ w.toInt ∧ w.toInt ≤ 2147483647 := fun w => ai_b32 w
  rcases (by omega : y.toInt ≤ -1 ∨ 4 ≤ y.toInt ∨ y.toInt = 0 ∨ y.toInt = 1 ∨ y.toInt = 2 ∨ y.toInt = 3) with h | h | h | h | h | h
  · exact key _ la_op12_0 (la_3 (k := 3) (q := (-2147483648, -1)) hs hy (hb y).1 h)
  · exact key _ la_op12_1 (la_3 (k := 3) (q := (4, 2147483647)) hs hy h (hb y).2)
  · have h9 := la_3 (k := 3) (q := (0, 0)) hs hy (by omega) (by omega)
    rcases (by omega : x.toInt ≤ 30 ∨ 31 ≤ x.toInt) with g | g
    · exact key _ la_op12_2 (la_3 (k := 2) (q := (-2147483648, 30)) h9 hx (hb x).1 g)
    · exact key _ la_op12_3 (la_3 (k := 2) (q := (31, 2147483647)) h9 hx g (hb x).2)
  · have h9 := la_3 (k := 3) (q := (1, 1)) hs hy (by omega) (by omega)
    rcases (by omega : x.toInt ≤ 30 ∨ 31 ≤ x.toInt) with g | g
    · exact key _ la_op12_4 (la_3 (k := 2) (q := (-2147483648, 30)) h9 hx (hb x).1 g)
    · exact key _ la_op12_5 (la_3 (k := 2) (q := (31, 2147483647)) h9 hx g (hb x).2)
  · have h9 := la_3 (k := 3) (q := (2, 2)) hs hy (by omega) (by omega)
    rcases (by omega : x.toInt ≤ 30 ∨ 31 ≤ x.toInt) with g | g
    · exact key _ la_op12_6 (la_3 (k := 2) (q := (-2147483648, 30)) h9 hx (hb x).1 g)
    · exact key _ la_op12_7 (la_3 (k := 2) (q := (31, 2147483647)) h9 hx g (hb x).2)
  · have h9 := la_3 (k := 3) (q := (3, 3)) hs hy (by omega) (by omega)
    rcases (by omega : x.toInt ≤ 30 ∨ 31 ≤ x.toInt) with g | g
    · exact key _ la_op12_8 (la_3 (k := 2) (q := (-2147483648, 30)) h9 hx (hb x).1 g)
    · exact key _ la_op12_9 (la_3 (k := 2) (q := (31, 2147483647)) h9 hx g (hb x).2)
theorem la_20_0 {ρ : List Int} {z : Int} {P : Prop} (hs : ai_sat ρ la_T20_0) (hz : ρ[3]? = some z) (key : ∀ T : ai_T, ai_lx la_no 1000000 30 1000000 733 102 3945 T la_M2 la_l [(2, 1)] = true → ai_sat ρ T → P) : P := by
  have hq : (1 : Int) ≤ z ∧ z ≤ 20 := hs.2 3 z (1, 20) hz rfl
  rcases (by omega : z ≤ 14 ∨ (15 ≤ z ∧ z ≤ 19) ∨ z = 20) with h | h | h
  · exact key _ la_op20_0_0 (la_3 (k := 3) (q := (1, 14)) hs hz hq.1 h)
  · exact key _ la_op20_0_1 (la_3 (k := 3) (q := (15, 19)) hs hz h.1 h.2)
  · exact key _ la_op20_0_2 (la_3 (k := 3) (q := (20, 20)) hs hz (by omega) (by omega))
theorem la_20_1 {ρ : List Int} {z : Int} {P : Prop} (hs : ai_sat ρ la_T20_1) (hz : ρ[3]? = some z) (key : ∀ T : ai_T, ai_lx la_no 1000000 30 1000000 733 102 3945 T la_M2 la_l [(2, 1)] = true → ai_sat ρ T → P) : P := by
  have hq : (2 : Int) ≤ z ∧ z ≤ 20 := hs.2 3 z (2, 20) hz rfl
  rcases (by omega : z ≤ 14 ∨ (15 ≤ z ∧ z ≤ 19) ∨ z = 20) with h | h | h
  · exact key _ la_op20_1_0 (la_3 (k := 3) (q := (2, 14)) hs hz hq.1 h)
  · exact key _ la_op20_1_1 (la_3 (k := 3) (q := (15, 19)) hs hz h.1 h.2)
  · exact key _ la_op20_1_2 (la_3 (k := 3) (q := (20, 20)) hs hz (by omega) (by omega))
theorem la_xs6 {L : Nat} {xs : Nat → Int32} (hL : L ≤ 6) : ai_sat ((L : Int) :: (List.range 6).map (fun j => (xs j).toInt)) (la_Tn (0, 6)) := by
  refine ⟨rfl, fun k z q a b => ?_⟩
  have e : (List.range 6).map (fun j => (xs j).toInt) = [(xs 0).toInt, (xs 1).toInt, (xs 2).toInt, (xs 3).toInt, (xs 4).toInt, (xs 5).toInt] := rfl
  rw [e] at a
  have hb : ∀ x : Int32, la_q.1 ≤ x.toInt ∧ x.toInt ≤ la_q.2 := fun x => ai_b32 x
  match k, a, b with
  | 0, a, b =>
    cases a
    cases b
    exact ⟨by omega, by show (L : Int) ≤ 6; omega⟩
  | 1, a, b => cases a; cases b; exact hb _
  | 2, a, b => cases a; cases b; exact hb _
  | 3, a, b => cases a; cases b; exact hb _
  | 4, a, b => cases a; cases b; exact hb _
  | 5, a, b => cases a; cases b; exact hb _
  | 6, a, b => cases a; cases b; exact hb _
  | n + 7, a, b => cases b
set_option maxHeartbeats 2000000 in
theorem whole_start {p : Program} {e : Env} {s : State} {m : MethodId} {below : List Frame} {meth : Method} {c : Code} (l : Launch) (hflags : l.flags = flags0) {b L : Nat} {xs : Nat → Int32} (hL : L ≤ 6) (C0 : lw_At p s m meth c b L xs) : W p l e room_1 s m #[Value.ref b] below meth c s.heap [] 0 0 (lw_Z below #[Value.ref b] s) (entryFrame m ([Value.ref b] : List Value).toArray 4) := by
  obtain ⟨hx, hcode, hret, hml, hown, hts, hXs, hb, hlocks, hg⟩ := C0
  obtain ⟨ex, dA, D, he0, hK, hX⟩ := la_start hts hXs hb hg
  have C : mj_Cx s.heap.size ex dA D L xs p room_1 m c code 4 s #[Value.ref b] 16 := ⟨hx, hcode, hml, hown, fun w hw => hts w (mj_ww_tbl hw), hK, Nat.le_refl _, hX, by decide, by decide⟩
  have hl1 : (lg_sl [Value.ref b]).length ≤ 4 := by
    have h1 : (lg_sl [Value.ref b]).length = 1 := rfl
    omega
  have hl := lv_entry [Value.ref b] (n := 4) hl1
  rw [lg_entry_eq]
  generalize (lg_sl [Value.ref b] ++ List.replicate (4 - (lg_sl [Value.ref b]).length) Slot.unset).toArray = ls at hl ⊢
  have hco : ∀ pc q, mj_cd 193 pc = some q → decode code pc = .ok (q.1, q.2.1) ∧ mj_ck 16 q.1 q.2.2.1 q.2.2.2 = true := fun pc q h => mj_coL pc q h
  have R1 : mj_R1 L xs 193 (ai_ow 193) (ai_nl 193) (Nat.beq (mj_ki 193) 2) 600000 7302250 (mj_Jd p l e room_1 s m #[Value.ref b] below meth c (lw_Z below #[Value.ref b] s) 4 s.heap.size ex dA D) :=
    mj_r1_ok C (fun z => by cases z) hco (Nat.le_refl _) (Nat.le_refl _)
  have R2 : mj_R2 l 193 (30 + 1) 600000 7302250 (mj_Jd p l e room_1 s m #[Value.ref b] below meth c (lw_Z below #[Value.ref b] s) 4 s.heap.size ex dA D) :=
    mj_r2_ok C hco (Nat.le_refl _) (Nat.le_refl _) (by decide) (by decide)
  have R3 : ∀ (ce sl : Nat) (M : mj_M) (pc : Nat) (lo : mj_L) (st : List Value) (ins : Instr) (len r1 r2 : Nat), mj_cd 193 pc = some (ins, len, r1, r2) → mj_rtn (some .boolean) ins len st = some (some (.int 1)) → ce ≤ 600000 → sl ≤ 7302250 → mj_Jd p l e room_1 s m #[Value.ref b] below meth c (lw_Z below #[Value.ref b] s) 4 s.heap.size ex dA D ce sl M pc lo st := by
    intro ce sl M pc lo st ins len r1 r2 hc hrt hce hsl hq H locs ls hP hS hl
    obtain ⟨hdg, -⟩ := hco pc _ hc
    refine W.widen hce hsl ?_
    unfold mj_rtn at hrt
    split at hrt
    · split at hrt
      · cases hrt
        exact W.forget (locs := []) hS.2.2 (lw_ret hx hcode hret hlocks hdg)
      · cases hrt
    · cases hrt
    · cases hrt
    · cases hrt
    · cases hrt
  have J18 : ∀ (ρ : List Int) (cM : mj_M) (cl : mj_L) (cst : List Value), ai_sc true L xs ρ → ai_G ρ (la_Tn (0, 6)) la_M la_l [] cM cl cst → mj_Jd p l e room_1 s m #[Value.ref b] below meth c (lw_Z below #[Value.ref b] s) 4 s.heap.size ex dA D 102 3945 cM 18 cl cst := by
    intro ρ cM cl cst hsc hG
    obtain ⟨h1, h2, h3, h4⟩ := hG
    have hz := (hsc rfl).2.1
    by_cases h6 : L = 6
    · refine ai_lx_ok (by decide) R1 R2 R3 ?_ 1000000 18 102 3945 (la_Tn (6, 6)) la_M la_l [] ρ cM cl cst la_g1 hsc ⟨la_nar h1 hz (by show (6 : Int) ≤ L; omega) (by show (L : Int) ≤ 6; omega), h2, h3, h4⟩ (by decide) (by decide)
      intro pc ce sl T M l2 st ρ' cM' cl' cst' h hsc' hG' hce hsl
      obtain ⟨k, hk, rfl, rfl, rfl, rfl, rfl, rfl, rfl⟩ := la_cut1 h
      have no : ∀ (pc ce sl : Nat) (T : ai_T) (M : ai_M) (l2 : ai_L) (st : List ai_V) (ρ : List Int) (cM : mj_M) (cl : mj_L) (cst : List Value), la_no pc ce sl T M l2 st = true → ai_sc true L xs ρ → ai_G ρ T M l2 st cM cl cst → ce ≤ 600000 → sl ≤ 7302250 → mj_Jd p l e room_1 s m #[Value.ref b] below meth c (lw_Z below #[Value.ref b] s) 4 s.heap.size ex dA D ce sl cM pc cl cst := fun _ _ _ _ _ _ _ _ _ _ _ z => by cases z
      obtain ⟨g1, g2, g3, g4⟩ := hG'
      by_cases h12 : k = 12
      · subst h12
        exact la_12 g1 ((hsc' rfl).2.2 1 (by decide)) ((hsc' rfl).2.2 2 (by decide)) (fun T hT hs => ai_lx_ok (by decide) R1 R2 R3 no 1000000 _ 102 3945 T la_M la_l [] ρ' cM' cl' cst' hT hsc' ⟨hs, g2, g3, g4⟩ hce hsl)
      · by_cases h20 : k = 20
        · subst h20
          refine ai_lx_ok (by decide) R1 R2 R3 ?_ 1000000 _ 102 3945 (la_Tk 20) la_M la_l [] ρ' cM' cl' cst' la_op20 hsc' ⟨g1, g2, g3, g4⟩ hce hsl
          intro pc ce sl T M l2 st ρ2 cM2 cl2 cst2 h2 hsc2 hG2 hce2 hsl2
          obtain ⟨rfl, hT, rfl, rfl, rfl, rfl, rfl⟩ := la_cut2 h2
          obtain ⟨q1, q2, q3, q4⟩ := hG2
          rcases hT with rfl | rfl
          · exact la_20_0 q1 ((hsc2 rfl).2.2 2 (by decide)) (fun T hT hs => ai_lx_ok (by decide) R1 R2 R3 no 1000000 733 102 3945 T la_M2 la_l [(2, 1)] ρ2 cM2 cl2 cst2 hT hsc2 ⟨hs, q2, q3, q4⟩ hce2 hsl2)
          · exact la_20_1 q1 ((hsc2 rfl).2.2 2 (by decide)) (fun T hT hs => ai_lx_ok (by decide) R1 R2 R3 no 1000000 733 102 3945 T la_M2 la_l [(2, 1)] ρ2 cM2 cl2 cst2 hT hsc2 ⟨hs, q2, q3, q4⟩ hce2 hsl2)
        · exact ai_lx_ok (by decide) R1 R2 R3 no 1000000 _ 102 3945 _ la_M la_l [] ρ' cM' cl' cst' (la_ops k hk h12 h20) hsc' ⟨g1, g2, g3, g4⟩ hce hsl
    · exact ai_lx_ok (by decide) R1 R2 R3 (fun _ _ _ _ _ _ _ _ _ _ _ z => by cases z) 1000000 18 102 3945 (la_Tn (0, 5)) la_M la_l [] ρ cM cl cst la_g2 hsc ⟨la_nar h1 hz (by show (0 : Int) ≤ L; omega) (by show (L : Int) ≤ 5; omega), h2, h3, h4⟩ (by decide) (by decide)
  refine ai_lx_ok (by decide) R1 R2 R3 ?_ 1000000 0 0 0 (la_Tn (0, 6)) [] [(0, (5, 0))] [] ((L : Int) :: (List.range 6).map (fun j => (xs j).toInt)) [] [(0, .retAddr 0)] [] la_g0 (fun _ => ⟨hL, rfl, fun j hj => ?_⟩) ⟨la_xs6 hL, trivial, ⟨rfl, rfl, trivial⟩, trivial⟩ (Nat.zero_le _) (Nat.zero_le _) rfl s.heap [] ls (fun k q hq => by simp [mj_ws] at hq) va_S.rf ?_
  · intro pc ce sl T M l2 st ρ' cM' cl' cst' h hsc' hG' hce hsl
    obtain ⟨rfl, rfl, rfl, rfl, rfl, rfl, rfl⟩ := la_cut0 h
    exact J18 ρ' cM' cl' cst' hsc' hG'
  · match j, hj with
    | 0, _ => rfl
    | 1, _ => rfl
    | 2, _ => rfl
    | 3, _ => rfl
    | 4, _ => rfl
    | 5, _ => rfl
    | n + 6, h => exact absurd h (by omega)
  · show lv_has ls 4 [(0, Value.ref (ex 0))]
    rw [he0]
    exact hl
set_option maxHeartbeats 4000000 in
theorem lw_walk (l : Launch) (hflags : l.flags = flags0) (b : Addr) (xs : List Int32) : MetFree l x (headSpec (Jvm.Cond.code x code maxLocals ret :: tables_1) room_1) (lw_P b xs) (fun _ _ _ _ _ => True) lw_Q := by
  refine MetFree.of_bodyS (code := code) (maxLocals := maxLocals) (ret := ret) (by decide) ?_ ?_
  · intro args s m h hn
    obtain ⟨meth, c, h1, h2, h3, h4, h5, h6, -, -⟩ := Cond.code_spec hn (atoms_spec (ws := Jvm.Cond.code x code maxLocals ret :: tables_1) h _ List.mem_cons_self)
    exact ⟨meth, c, h1, h2, h3, h4, h5, h6⟩
  · intro p e s m args below meth c s₁ B hml0 hP _
    obtain ⟨rfl, hx, hbd, hgv⟩ := hP
    obtain ⟨scr, harrAt, hlist, hof, hsmall⟩ := hx
    obtain ⟨hcb, hkn, -, -⟩ := State.arrayAt?_spec harrAt
    have hown : s.vm.findClass R_law = some m.cls := findClass_of_methodNamed B.named
    have hts0 : ∀ c ∈ (Jvm.Cond.code x code maxLocals ret :: tables_1), c.before #[Value.ref b] s = true := atoms_spec (ws := Jvm.Cond.code x code maxLocals ret :: tables_1) B.pre
    have hts : ∀ w ∈ lw_tbl, w.before #[Value.ref b] s = true := k2_hts_sels lw_privs (fun w hw => hts0 w (List.mem_cons_of_mem _ hw)) lw_privs_ok
    have hml : c.maxLocals = 4 := B.maxLocals_eq (hts0 _ List.mem_cons_self)
    have X₀ : Stand p l e room_1 s m #[Value.ref b] below meth c s₁ [] 0 0 := Stand.of_body B
    have hh0 : s₁.heap = s.heap := by rw [B.state]; rfl
    have hsz : scr.slots.size = xs.length := by rw [← Array.length_toList, hlist, List.length_map]
    have hval : ∀ j : Nat, j < xs.length → scr.slots[j]? = some (.int (xs.getD j 0)) := fun j hj => by
      rw [← Array.getElem?_toList, hlist]
      simp [hj]
    have hbl : b < s.heap.size := (Array.getElem?_eq_some_iff.mp hcb).1
    have hX : va_X b xs.length (fun j => xs.getD j 0) s s.heap := ⟨scr, hcb, hof, hkn, hsz, hval⟩
    have K : W p l e room_1 s m #[Value.ref b] below meth c s₁.heap [] 0 0 (lw_Z below #[Value.ref b] s) (entryFrame m ([Value.ref b] : List Value).toArray 4) := by
      rw [hh0]
      exact whole_start l hflags hbd ⟨B.exec, B.bytes, B.returns, hml, hown, hts, hX, hbl, B.notSynchronized, hgv⟩
    obtain ⟨t, a1, o, b1, b2, b3⟩ := K s₁ rfl X₀
    exact ⟨t, o, a1, b1, b2, b3⟩
theorem lw_pre_spec {args : Array Value} {s : State} (h : (Jvm.Cond.and given_1 narrow_1).before args s = true) (hr : rest_1_c.before args s = true) : ∃ (b : Addr) (xs : List Int32), lw_P b xs args s := by
  have hs := flat_of_before _ h
  have hq := flat_of_before _ hr
  have hc : (Cond.count 1).before args s = true := hs _ (by decide +kernel)
  have harr : (Cond.arrayOf (.arg 0) .int).before args s = true := hs _ (by decide +kernel)
  have hle : (Cond.le (.length (.arg 0)) (.int 6)).before args s = true := hs _ (by decide +kernel)
  have hlen : (Cond.isInt (.length (.arg 0))).before args s = true := hq _ (by decide +kernel)
  have hall : (Cond.all (.arg 0) (.isInt (.elem (.arg 0) (.index 0)))).before args s = true := hq _ (by decide +kernel)
  obtain ⟨b, xs, hb, hx⟩ := State.ints_of_pre rfl harr hlen hall
  have hsm : xs.length < 2 ^ 31 := hx.choose_spec.2.2.2
  have hev : (Term.length (.arg 0)).eval args s none [] s = some (.int xs.length.toInt32) := hx.length_eval hb
  have hv := Cond.le_ints hev (show (Term.int 6).eval args s none [] s = some (.int 6) from rfl)
  have hd : xs.length.toInt32 ≤ 6 := by
    simpa [Cond.before, Cond.holds, hv] using hle
  have hN : xs.length ≤ 6 := (Int32.ofNat_le_ofNat hsm (by decide)).mp (show Int32.ofNat xs.length ≤ Int32.ofNat 6 from hd)
  exact ⟨b, xs, Cond.one_arg hc (show args[0]? = some (.ref b) from hb), hx, hN, h⟩
theorem lw_comes (l : Launch) (hflags : l.flags = flags0) : Comes l x (Jvm.Cond.code x code maxLocals ret :: tables_1) room_1 (fun tb e args s => Calls_1 tb e args s ∧ rest_1 tb e args s ∧ Pre_1 tb e args s)
    (fun _ _ args s o t => lw_Q args s o t) := by
  intro p e ha hc hk s m args below hf hfit hheap happ hpre
  obtain ⟨b, xs, hP⟩ := lw_pre_spec hpre.2.2 hpre.2.1
  obtain ⟨k, o, h1, h2, h3, hQ⟩ := lw_walk l hflags b xs p e ha hc hk s m args below hf ((Spec.applies_iff_loose hf).mp happ).1 hP trivial
  exact ⟨k, o, h1, h2, h3, hQ⟩
theorem lw_frame {s t : State} {o : Outcome} {args : Array Value} (h : Framed s o t [] 600000 7302250) :
    Framed s o t (fieldLocs frame_1_writes args s ++ arrayLocs frame_1_arrays args s ++ staticLocs frame_1_statics s) 600000 7302250 := h
theorem lw_limb (L : Cond) (hL : ∀ (args : Array Value) (s t : State), L.after args s (.returned (some (.int 1))) t = true) :
    ArmFor flags0 classFile x code maxLocals ret World_1 tables_1 room_1 Calls_1 rest_1 Pre_1
      (fun tb e a s o t => postC L tb e a s o t ∧ Framed s o t (fieldLocs frame_1_writes a s ++ arrayLocs frame_1_arrays a s ++ staticLocs frame_1_statics s) 600000 7302250) := by
  intro l hflags _ _ p e ha hc hk s m args below hf hfit hheap happ hpre
  obtain ⟨k, o, h1, h2, h3, rfl, hF⟩ := lw_comes l hflags p e ha hc hk s m args below hf hfit hheap happ hpre
  exact ⟨k, _, h1, h2, h3, hL args s _, lw_frame hF⟩
theorem i_vc : Claimed_1_1 ∧ Claimed_1_2 := ⟨lw_limb limb_1_1 (fun args s t => by simp [limb_1_1, Cond.after, Cond.holds, Cond.value]), lw_limb limb_1_2 (fun args s t => Cond.after_iff.mpr (by
  first | (rw [show limb_1_2 = Cond.eq .result (.int 1) from rfl, Cond.eq_ints (x := 1) (y := 1) rfl rfl]; simp; done) | (simp [limb_1_2, Cond.value, Term.eval]; done)))⟩
