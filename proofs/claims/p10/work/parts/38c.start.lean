/-! WHAT STANDS AT THE LAW'S START -/
def la_ws : List Cond := flatC (Jvm.Cond.and given_1 narrow_1)
def la_tm (i : Nat) : Term := match mj_slk[i]? with
  | some q => .string (mj_cn q.1) q.2.1
  | none => .int 0
def la_fv (i : Nat) : Term := .field (la_tm i) "java/lang/String" "value" "[B"
def la_len : List Nat := mj_stb.map List.length
theorem la_n : (List.range 13).all (fun i => decide (la_len.getD i 0 < 2 ^ 31) && decide (la_len.getD i 0 = (mj_stb.getD i []).length)) = true := by decide +kernel
/-- where the words of each text begin -/
def la_B : List Nat := [35, 83, 92, 103, 115, 129, 142, 157, 173, 190, 208, 224, 242]
def la_is (k : Nat) (w : Cond) : Bool := decide (la_ws[k]? = some w)
theorem la_is_ok {k : Nat} {w : Cond} (h : la_is k w = true) : w ∈ la_ws := List.mem_of_getElem? (of_decide_eq_true h)
theorem la_ex : (List.range 13).all (fun i => la_is (la_B.getD i 0) (Cond.exactly (la_tm i) "java/lang/String")) = true := by decide +kernel
theorem la_co : (List.range 13).all (fun i => la_is (la_B.getD i 0 + 1) (Cond.eq (.field (la_tm i) "java/lang/String" "coder" "B") (.int 0))) = true := by decide +kernel
theorem la_ar : (List.range 13).all (fun i => la_is (la_B.getD i 0 + 2) (Cond.arrayOf (la_fv i) .byte)) = true := by decide +kernel
theorem la_le : (List.range 13).all (fun i => la_is (la_B.getD i 0 + 3) (Cond.eq (.length (la_fv i)) (.int (Int32.ofNat (la_len.getD i 0))))) = true := by decide +kernel
theorem la_el : (List.range 13).all (fun i => (List.range (la_len.getD i 0)).all (fun j => la_is (la_B.getD i 0 + 4 + j) (Cond.eq (.elem (la_fv i) (.int (Int32.ofNat j))) (.int ((mj_stb.getD i []).getD j 0))))) = true := by decide +kernel
theorem la_ne : (List.range 13).all (fun i => (List.range i).all (fun j => la_is (la_B.getD i 0 + 4 + la_len.getD i 0 + j) (Cond.not (Cond.eq (la_tm j) (la_tm i))))) = true := by decide +kernel
def la_s1 : Term := .static "DreamsPayRent" "WALL_ONE" "[I"
def la_s2 : Term := .static "DreamsPayRent" "WALL_OTHER" "[I"
theorem la_a1 : la_is 10 (Cond.arrayOf la_s1 .int) = true := by decide +kernel
theorem la_a2 : la_is 23 (Cond.arrayOf la_s2 .int) = true := by decide +kernel
theorem la_l1 : la_is 11 (Cond.eq (.length la_s1) (.int (Int32.ofNat 10))) = true := by decide +kernel
theorem la_l2 : la_is 24 (Cond.eq (.length la_s2) (.int (Int32.ofNat 10))) = true := by decide +kernel
theorem la_e1 : (List.range 10).all (fun j => la_is (12 + j) (Cond.eq (.elem la_s1 (.int (Int32.ofNat j))) (.int (mj_w1 j)))) = true := by decide +kernel
theorem la_e2 : (List.range 10).all (fun j => la_is (25 + j) (Cond.eq (.elem la_s2 (.int (Int32.ofNat j))) (.int (mj_w2 j)))) = true := by decide +kernel
theorem la_c1 : la_is 4 (Cond.eq (.static "java/lang/String" "COMPACT_STRINGS" "Z") (.int 1)) = true := by decide +kernel
theorem la_f1 : la_is 5 (Cond.isRef (.static "jdk/internal/util/Preconditions" "SIOOBE_FORMATTER" "Ljava/util/function/BiFunction;")) = true := by decide +kernel
theorem la_ly : mj_xs.all (fun q => decide (Cond.laysStatic q.1 q.2.1 q.2.2.1 ∈ lw_tbl) && decide (Cond.initialized q.1 ∈ lw_tbl)) = true := by decide +kernel
theorem la_sr : mj_slk.all (fun q => decide (Cond.stringRef (mj_cn q.1) q.2.1 q.2.2.2.2 ∈ lw_tbl)) = true := by decide +kernel
theorem la_si : (List.range 13).all (fun i => match mj_slk[i]? with
  | some q => decide (mj_cv q.2.2.1 = .retAddr (10 + i))
  | none => false) = true := by decide +kernel
theorem la_sn : mj_slk.length = 13 := by decide +kernel
theorem la_in : vwCl.all (fun r => decide (Cond.instantiable r.1 r.2.2 ∈ lw_tbl)) = true := by decide +kernel
theorem la_t1 : Cond.arrayClass .int ∈ lw_tbl := by decide +kernel
theorem la_t2 : Cond.arrayClass .boolean ∈ lw_tbl := by decide +kernel
theorem la_t3 : Cond.arrayOver (.array .int) ∈ lw_tbl := by decide +kernel
theorem la_get {n : Nat} {f : Nat → Bool} (h : (List.range n).all f = true) {i : Nat} (hi : i < n) : f i = true := List.all_eq_true.mp h i (List.mem_range.mpr hi)
def la_exf (b t1 t2 fm fn : Nat) (adK adV : Nat → Nat) (k : Nat) : Nat := match k with
  | 0 => b
  | 1 => t1
  | 2 => t2
  | 3 => fm
  | 4 => fn
  | k => bif Nat.blt k 23 then adK (k - 10) else adV (k - 30)
theorem la_exf_K {b t1 t2 fm fn : Nat} {adK adV : Nat → Nat} {k : Nat} (h1 : 10 ≤ k) (h2 : k < 23) : la_exf b t1 t2 fm fn adK adV k = adK (k - 10) := by
  unfold la_exf
  split <;> first
    | omega
    | (rw [Nat.blt_eq.mpr h2]; rfl)
theorem la_exf_V {b t1 t2 fm fn : Nat} {adK adV : Nat → Nat} {k : Nat} (h1 : 23 ≤ k) : la_exf b t1 t2 fm fn adK adV k = adV (k - 30) := by
  unfold la_exf
  split <;> first
    | omega
    | (rw [show Nat.blt k 23 = false by rw [← Bool.not_eq_true, Nat.blt_eq]; omega]; rfl)
theorem la_over {args : Array Value} {s : State} (h : (Cond.arrayOver (.array .int)).before args s = true) : ∃ comp c k, s.vm.findClass (FieldType.array .int).toString = some comp ∧ s.vm.classes[c]? = some k ∧ k.kind = .array comp (.array .int) ∧ s.vm.findClass ("[" ++ (FieldType.array .int).toString) = some c := by
  unfold Cond.before Cond.holds at h
  simp only [Cond.value, beq_iff_eq] at h
  cases hc : s.vm.findClass (FieldType.array .int).toString with
  | none => simp [hc] at h
  | some comp =>
    simp only [hc, Option.bind_some, Option.bind_eq_some_iff, Option.map_eq_some_iff] at h
    obtain ⟨c, hi, k, hk, hb⟩ := h
    have hp := (Array.findIdx?_eq_some_iff_getElem.mp hi)
    obtain ⟨hlt, hpp, -⟩ := hp
    have hk2 : s.vm.classes[c] = k := by
      have := Array.getElem?_eq_some_iff.mp hk
      exact this.2
    rw [hk2] at hpp
    cases hkind : k.kind with
    | array component ty =>
      rw [hkind] at hb hpp
      simp at hb hpp
      exact ⟨comp, c, k, rfl, hk, by rw [hkind, hb.1, hpp], hb.2⟩
    | _ => rw [hkind] at hb; simp at hb
theorem la_nest : mj_mlk.all (fun q => !(Nat.beq q.2.2.2.1 1) || Nat.blt q.2.2.1 1000) = true := by decide +kernel
set_option maxHeartbeats 2000000 in
theorem la_start {s : State} {b L : Nat} {xs : Nat → Int32} (hts : ∀ w ∈ lw_tbl, w.before #[Value.ref b] s = true) (hX : va_X b L xs s s.heap) (hb : b < s.heap.size) (hg : (Jvm.Cond.and given_1 narrow_1).before #[Value.ref b] s = true) :
    ∃ (ex : Nat → Nat) (dA : Nat → ClassId) (D : va_G), ex 0 = b ∧ va_K D vwCl (mj_tys dA) s ∧ mj_X s.heap.size ex L xs s s.heap := by
  have hs : ∀ w ∈ la_ws, w.before #[Value.ref b] s = true := flat_of_before _ hg
  have hA : ∀ a : Nat, a < s.heap.size → ¬ (s.heap.size ≤ a) := fun a h => Nat.not_le.mpr h
  -- classes
  have hcl : ∀ c : Nat, ∃ y : ClassId × (Nat → Nat), ∀ q, vwCl[c]? = some q → u_Kn s q.1 q.2.1 q.2.2 y.1 y.2 := by
    intro c
    cases hq : vwCl[c]? with
    | none => exact ⟨(0, fun _ => 0), fun q h => by cases h⟩
    | some r =>
      obtain ⟨cC, iS, h⟩ := u_known (ws := lw_tbl) (C := r.1) (T := r.2.1) (N := r.2.2) hts (fun w hw => mj_ww_tbl ((mj_cls c r hq).1 w hw)) (hts _ (of_decide_eq_true (List.all_eq_true.mp la_in r (List.mem_of_getElem? hq))))
      exact ⟨(cC, iS), fun q h => by cases h; exact h⟩
  obtain ⟨f, hf⟩ := Classical.axiomOfChoice hcl
  -- array classes
  obtain ⟨c1, k1, p1, a1, a2, a3⟩ := Cond.arrayClass_spec (hts _ la_t1)
  obtain ⟨c2, k2, p2, b1, b2, b3⟩ := Cond.arrayClass_spec (hts _ la_t2)
  have hov := hts _ la_t3
  obtain ⟨p3, c3, k3, o0, o1, o2, o3⟩ := la_over hov
  -- texts
  obtain ⟨adK, adV, hS, hSe⟩ := vk_Sof (args := #[Value.ref b]) (s := s) (N := 13) (tm := la_tm) (len := la_len) (byt := mj_stb) (A := fun a => s.heap.size ≤ a)
    (fun i hi => of_decide_eq_true (Bool.and_eq_true_iff.mp (la_get la_n hi)).1) (fun i hi => hs _ (la_is_ok (la_get la_ex hi))) (fun i hi => hs _ (la_is_ok (la_get la_co hi)))
    (fun i hi => hs _ (la_is_ok (la_get la_ar hi))) (fun i hi => hs _ (la_is_ok (la_get la_le hi))) (fun i hi j hj => hs _ (la_is_ok (la_get (la_get la_el hi) hj)))
    (fun i j hi hj hn => by
      rcases Nat.lt_or_gt_of_ne hn with h | h
      · exact Or.inl (hs _ (la_is_ok (la_get (la_get la_ne hj) h)))
      · exact Or.inr (hs _ (la_is_ok (la_get (la_get la_ne hi) h)))) hA
  -- walls
  obtain ⟨t1, e1, T1⟩ := va_Tof (N := 10) (f := fun j => .int (mj_w1 j)) (A := fun a => s.heap.size ≤ a) (by decide) (hs _ (la_is_ok la_a1)) (va_eqt (hs _ (la_is_ok la_l1))) (fun j hj => va_eqt (hs _ (la_is_ok (la_get la_e1 hj)))) hA
  obtain ⟨t2, e2, T2⟩ := va_Tof (N := 10) (f := fun j => .int (mj_w2 j)) (A := fun a => s.heap.size ≤ a) (by decide) (hs _ (la_is_ok la_a2)) (va_eqt (hs _ (la_is_ok la_l2))) (fun j hj => va_eqt (hs _ (la_is_ok (la_get la_e2 hj)))) hA
  have hst : ∀ q ∈ mj_xs, (Cond.laysStatic q.1 q.2.1 q.2.2.1).before #[Value.ref b] s = true ∧ (Cond.initialized q.1).before #[Value.ref b] s = true := fun q hq => by
    have h := Bool.and_eq_true_iff.mp (List.all_eq_true.mp la_ly q hq)
    exact ⟨hts _ (of_decide_eq_true h.1), hts _ (of_decide_eq_true h.2)⟩
  have hfm : ∃ fm fn : Nat, (Term.static "jdk/internal/util/Preconditions" "SIOOBE_FORMATTER" "Ljava/util/function/BiFunction;").eval #[Value.ref b] s none [] s = some (mj_ev (la_exf b t1 t2 fm fn adK adV) 3) := by
    have h := hs _ (la_is_ok la_f1)
    cases hv : (Term.static "jdk/internal/util/Preconditions" "SIOOBE_FORMATTER" "Ljava/util/function/BiFunction;").eval #[Value.ref b] s none [] s with
    | none => simp [Cond.before, Cond.holds, Cond.value, hv] at h
    | some w =>
      simp only [Cond.before, Cond.holds, Cond.value, hv] at h
      cases w with
      | null => exact ⟨0, 0, rfl⟩
      | ref t => exact ⟨t, 1, rfl⟩
      | _ => simp at h
  obtain ⟨fm, fn, hfm⟩ := hfm
  refine ⟨la_exf b t1 t2 fm fn adK adV, fun k => match k with | 0 => c1 | 1 => c2 | _ => c3, (fun c => (f c).1, fun c => (f c).2), rfl, ⟨hf, ?_⟩, ?_, ?_, ?_, ?_, ?_, ?_, ?_⟩
  · intro k q hq
    match k, hq with
    | 0, hq =>
      cases hq
      exact ⟨fun n z => ⟨fun k h => (by cases h), k1, a2, p1, a3⟩, a1⟩
    | 1, hq =>
      cases hq
      exact ⟨fun n z => ⟨fun k h => (by cases h), k2, b2, p2, b3⟩, b1⟩
    | 2, hq =>
      cases hq
      exact ⟨fun n z => ⟨fun k h => (by cases h), k3, o1, p3, o2⟩, o3⟩
    | n + 3, hq => cases hq
  · intro k q hq
    unfold mj_xa at hq
    cases h0 : Nat.beq k 0 with
    | true =>
      rw [h0] at hq
      cases hq
      obtain rfl := Nat.eq_of_beq_eq_true h0
      obtain ⟨scr, g1, g2, g3, g4, g5⟩ := hX
      exact ⟨scr, g1, g2, g3, by rw [g4]; exact Nat.le_refl _, by rw [g4]; try rfl, g5, hA _ hb⟩
    | false =>
      rw [h0, cond_false] at hq
      cases h1 : Nat.beq k 1 with
      | true =>
        rw [h1] at hq
        cases hq
        obtain rfl := Nat.eq_of_beq_eq_true h1
        exact T1
      | false =>
        rw [h1, cond_false] at hq
        cases h2 : Nat.beq k 2 with
        | true =>
          rw [h2] at hq
          cases hq
          obtain rfl := Nat.eq_of_beq_eq_true h2
          exact T2
        | false =>
          rw [h2, cond_false] at hq
          cases h3 : Nat.ble 30 k && Nat.blt k 43 with
          | false => rw [h3] at hq; cases hq
          | true =>
            rw [h3] at hq
            cases hq
            simp only [Bool.and_eq_true, Nat.ble_eq, Nat.blt_eq] at h3
            have h9 := (hS.1 (k - 30) (by omega)).2.2.2
            rw [of_decide_eq_true (Bool.and_eq_true_iff.mp (la_get la_n (show k - 30 < 13 by omega))).2] at h9
            rw [la_exf_V (by omega)]
            exact h9
  · intro k h1 h2
    obtain ⟨g1, g2, g3, -⟩ := hS.1 (k - 10) (by omega)
    rw [la_exf_K h1 h2, la_exf_V (show 23 ≤ k + 20 by omega), show k + 20 - 30 = k - 10 by omega]
    exact ⟨g2, g3, g1⟩
  · intro q hq
    obtain ⟨l1, l2⟩ := hst q hq
    unfold mj_xs at hq
    simp only [List.mem_cons, List.not_mem_nil, or_false] at hq
    rcases hq with rfl | rfl | rfl | rfl
    · exact va_Zof l1 l2 e1 hA
    · exact va_Zof l1 l2 e2 hA
    · exact va_Zof l1 l2 (va_eqi (hs _ (la_is_ok la_c1))) hA
    · exact va_Zof l1 l2 hfm hA
  · intro q hq
    obtain ⟨i, hi⟩ := List.getElem?_of_mem hq
    have hi13 : i < 13 := by
      have := (List.getElem?_eq_some_iff.mp hi).1
      rw [la_sn] at this
      exact this
    have h1 := la_get la_si hi13
    rw [hi] at h1
    have h2 : mj_cv q.2.2.1 = .retAddr (10 + i) := of_decide_eq_true h1
    have h3 := hSe i hi13
    unfold la_tm at h3
    rw [hi] at h3
    rw [h2]
    show vk_R _ _ _ (la_exf b t1 t2 fm fn adK adV (10 + i)) s
    rw [la_exf_K (by omega) (by omega), show 10 + i - 10 = i by omega]
    exact vk_R.of (hts _ (of_decide_eq_true (List.all_eq_true.mp la_sr q hq))) h3
  · intro q hq e
    have h := List.all_eq_true.mp mj_mlk_ok q hq
    unfold mj_okM at h
    have h1 := of_decide_eq_true (Bool.and_eq_true_iff.mp h).1
    have h2 := hts _ (List.mem_of_getElem? h1)
    unfold mj_lw at h2
    have h3 := (Bool.and_eq_true_iff.mp h).2
    cases hlt : Nat.blt q.2.2.1 1000 with
    | true =>
      rw [hlt, e] at h2
      exact va_Nw.of rfl h2
    | false =>
      exact absurd e (by
        have := la_nest
        have h9 := List.all_eq_true.mp this q hq
        rw [hlt, Bool.or_false] at h9
        intro e9
        rw [e9] at h9
        cases h9)
  · intro q hq r hr e
    have h := List.all_eq_true.mp mj_stk_ok q hq
    unfold mj_okS at h
    rw [hr, e] at h
    exact va_Nw.of rfl (hts _ (List.mem_of_getElem? (of_decide_eq_true h)))
  · exact ⟨p3, c3, k3, o0, o1, o2, o3, by
      have h := hov
      unfold Cond.before Cond.holds at h ⊢
      simpa only [Cond.value] using h⟩
