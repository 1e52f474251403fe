section MJN
variable {p : Program} {l : Launch} {e : Env} {R : Room} {s : State} {m : MethodId} {args : Array Value} {below : List Frame} {meth : Method} {c : Code} {H : Heap} {locs : List Loc} {ce sl : Nat} {Q : State → Prop}
variable {cc : ByteArray} {pc nL L : Nat} {ls : Array Slot} {b0 : Nat} {ex : Nat → Nat} {dA : Nat → ClassId} {D : va_G} {xs : Nat → Int32} {own r1 r2 : Nat} {M : mj_M} {lo : mj_L} {st : List Value}
theorem mj_gets {i : Nat} {r : String × String × String × Value} (C : mj_Cx b0 ex dA D L xs p R m c cc nL s args own) (hS : va_S (fun a => b0 ≤ a) s.heap H locs) (hdg : decode cc pc = .ok (.getstatic i, 3)) (hc : mj_ck own (.getstatic i) r1 r2 = true) (h7 : r1 < 999) (hr : mj_xs[r1]? = some r) (h2 : r2 = 0 ∨ r2 = 1)
    (k : W p l e R s m args below meth c H locs ce sl Q (F0 m (pc + 3) ls (mj_ts b0 ex (r.2.2.2 :: st)))) : W p l e R s m args below meth c H locs ce sl Q (F0 m pc ls (mj_ts b0 ex st)) := by
  obtain ⟨hx, hb, hml, hown, hts, hK, -, hX, -, -⟩ := C
  obtain ⟨q, hq, r', e1, e2, e3, e4, hr', hw⟩ := mj_ck_sta hc h7
  cases hr.symm.trans hr'
  have hZ := hX.2.2.1 r (List.mem_of_getElem? hr)
  rcases h2 with h2 | h2
  · exact va_gets hx hb hZ hS hown (hts _ (hw h2)) (fun _ h9 => h9) hdg k
  · have hN := hX.2.2.2.2.2.1 q hq r (by rw [e3]; exact hr) (e4.trans h2)
    rw [e1, e2] at hN
    exact va_getsN hx hb hZ hS hown (va_Nw.use rfl hN) (fun _ h9 => h9) hdg k
theorem mj_slk_3 : mj_slk.all (fun q => match mj_cv q.2.2.1 with
  | .retAddr k => !(Nat.beq k 3)
  | _ => true) = true := by decide +kernel
theorem mj_ldS {i k9 : Nat} (C : mj_Cx b0 ex dA D L xs p R m c cc nL s args own) (hdg : decode cc pc = .ok (.ldc i, 2)) (hc : mj_ck own (.ldc i) r1 2 = true) (h7 : r1 < 999) (hv : mj_cv r1 = .retAddr k9)
    (k : W p l e R s m args below meth c H locs ce sl Q (F0 m (pc + 2) ls (mj_ts b0 ex (.retAddr k9 :: st)))) : W p l e R s m args below meth c H locs ce sl Q (F0 m pc ls (mj_ts b0 ex st)) := by
  obtain ⟨hx, hb, hml, hown, hts, hK, -, hX, -, -⟩ := C
  obtain ⟨q, hq, e1, e2, e3⟩ := mj_ck_lds hc h7
  have hR := hX.2.2.2.1 q hq
  have h3 := List.all_eq_true.mp mj_slk_3 q hq
  rw [e3, hv] at h3
  rw [e1, e2, e3, hv] at hR
  have k2 := k
  rw [mj_ts_x (k := k9) (by rintro rfl; cases h3)] at k2
  exact va_ldcS hx hb hown hR hdg k2
theorem mj_obj {i : Nat} {q : Nat} (C : mj_Cx b0 ex dA D L xs p R m c cc nL s args own) (hl : ls.size = nL) (hoi : Cond.instanceMethod Lib.objectInit ∈ mj_ww) (hoc : (Cond.code Lib.objectInit ⟨#[0xb1]⟩ 1 none) ∈ mj_ww) (hdg : decode cc pc = .ok (.invokespecial i, 3)) (hc : mj_ck own (.invokespecial i) 1000 r2 = true) (hs : mj_cs st ≤ 8)
    (k : W p l e R s m args below meth c H locs ce sl Q (F0 m (pc + 3) ls (mj_ts b0 ex st))) : W p l e R s m args below meth c H locs ce sl Q (F0 m pc ls (mj_ts b0 ex (.ref q :: st))) := by
  obtain ⟨hx, hb, hml, hown, hts, hK, -, hX, hfr, hlo⟩ := C
  obtain ⟨q9, hq, e1, e2, e3, e4, hw, -⟩ := mj_ck_inv (Or.inr (Or.inl rfl)) hc (by decide)
  have hw2 := mj_lw_sp (r2 := 0) e1 e2 e3 hw (Nat.le_refl _)
  refine W.objInit hx hb hown (hts _ hw2) (hts _ hoi) (hts _ hoc) (g := F0 m pc ls (mj_ts b0 ex (.ref q :: st))) rfl (by rw [hml]; exact hl) rfl hdg hfr ?_ k
  have := mj_words (st := st) (b0 := b0) (ex := ex)
  unfold mj_cs at this hs
  show 2 * 0 + (List.map (fun v => v.category) (mj_ts b0 ex st)).sum + 12 ≤ _
  rw [this]
  omega
theorem mj_max {i : Nat} {x y : Int32} (C : mj_Cx b0 ex dA D L xs p R m c cc nL s args own) (hl : ls.size = nL) (hce : ce ≤ R.cells) (hsl : sl ≤ R.slots) (w1 : Cond.static Lib.Math.max.name ∈ mj_ww) (w2 : Cond.initialized "java/lang/Math" ∈ mj_ww) (w3 : Cond.code Lib.Math.max.name Lib.Math.max.code 2 (some .int) ∈ mj_ww) (hdg : decode cc pc = .ok (.invokestatic i, 3)) (hc : mj_ck own (.invokestatic i) 1002 r2 = true) (hs : mj_cs st ≤ 8)
    (k : W p l e R s m args below meth c H locs ce sl Q (F0 m (pc + 3) ls (mj_ts b0 ex (.int (if x < y then y else x) :: st)))) : W p l e R s m args below meth c H locs ce sl Q (F0 m pc ls (mj_ts b0 ex (.int y :: .int x :: st))) := by
  obtain ⟨hx, hb, hml, hown, hts, hK, -, hX, hfr, hlo⟩ := C
  obtain ⟨q9, hq, e1, e2, e3, e4, hw, -⟩ := mj_ck_inv (Or.inr (Or.inr rfl)) hc (by decide)
  have hw2 := mj_lw_sp (r2 := 0) e1 e2 e3 hw (by decide)
  refine va_mmax hx hb (by rw [hml]; exact hl.symm) hown (hts _ hw2) (hts _ w1) (hts _ w2) (hts _ w3) hfr ?_ hce hsl hdg k
  have := mj_words (st := st) (b0 := b0) (ex := ex)
  unfold mj_cs at this hs
  show ((mj_ts b0 ex st).map _).sum + 13 ≤ _
  rw [this]
  omega
theorem mj_min {i : Nat} {x y : Int32} (C : mj_Cx b0 ex dA D L xs p R m c cc nL s args own) (hl : ls.size = nL) (hce : ce ≤ R.cells) (hsl : sl ≤ R.slots) (w1 : Cond.static Lib.Math.min.name ∈ mj_ww) (w2 : Cond.initialized "java/lang/Math" ∈ mj_ww) (w3 : Cond.code Lib.Math.min.name Lib.Math.min.code 2 (some .int) ∈ mj_ww) (hdg : decode cc pc = .ok (.invokestatic i, 3)) (hc : mj_ck own (.invokestatic i) 1003 r2 = true) (hs : mj_cs st ≤ 8)
    (k : W p l e R s m args below meth c H locs ce sl Q (F0 m (pc + 3) ls (mj_ts b0 ex (.int (if y < x then y else x) :: st)))) : W p l e R s m args below meth c H locs ce sl Q (F0 m pc ls (mj_ts b0 ex (.int y :: .int x :: st))) := by
  obtain ⟨hx, hb, hml, hown, hts, hK, -, hX, hfr, hlo⟩ := C
  obtain ⟨q9, hq, e1, e2, e3, e4, hw, -⟩ := mj_ck_inv (Or.inr (Or.inr rfl)) hc (by decide)
  have hw2 := mj_lw_sp (r2 := 0) e1 e2 e3 hw (by decide)
  refine va_mmin hx hb (by rw [hml]; exact hl.symm) hown (hts _ hw2) (hts _ w1) (hts _ w2) (hts _ w3) hfr ?_ hce hsl hdg k
  have := mj_words (st := st) (b0 := b0) (ex := ex)
  unfold mj_cs at this hs
  show ((mj_ts b0 ex st).map _).sum + 13 ≤ _
  rw [this]
  omega
theorem mj_acp {i q0 q1 n0 n1 : Nat} {f g : Nat → Int32} {sp dp n : Int32} (C : mj_Cx b0 ex dA D L xs p R m c cc nL s args own) (hP : va_P D vwCl (mj_ws b0 ex dA M) H) (hS : va_S (fun a => b0 ≤ a) s.heap H locs) (hl : ls.size = nL) (w1 : Cond.native arraycopyName ∈ mj_ww) (w2 : Cond.static arraycopyName ∈ mj_ww) (w3 : Cond.initialized "java/lang/System" ∈ mj_ww) (hdg : decode cc pc = .ok (.invokestatic i, 3)) (hc : mj_ck own (.invokestatic i) 1001 r2 = true) (hs : mj_cs st ≤ 8)
    (h0 : M[q0]? = some (.inl (0, n0, .inl f))) (h1 : M[q1]? = some (.inl (0, n1, .inl g))) (hh : ¬ (sp < 0 ∨ dp < 0 ∨ n < 0 ∨ n0 < sp.toNatClampNeg + n.toNatClampNeg ∨ n1 < dp.toNatClampNeg + n.toNatClampNeg))
    (k : ∀ (H1 : Heap) (locs1 : List Loc), va_P D vwCl (mj_ws b0 ex dA (M.set q1 (.inl (0, n1, .inl (va_cpy f g sp.toNatClampNeg dp.toNatClampNeg n.toNatClampNeg))))) H1 → va_S (fun a => b0 ≤ a) s.heap H1 locs1 → W p l e R s m args below meth c H1 locs1 ce sl Q (F0 m (pc + 3) ls (mj_ts b0 ex st))) : W p l e R s m args below meth c H locs ce sl Q (F0 m pc ls (mj_ts b0 ex (.int n :: .int dp :: .ref q1 :: .int sp :: .ref q0 :: st))) := by
  obtain ⟨hx, hb, hml, hown, hts, hK, -, hX, hfr, hlo⟩ := C
  obtain ⟨q9, hq, e1, e2, e3, e4, hw, -⟩ := mj_ck_inv (Or.inr (Or.inr rfl)) hc (by decide)
  have hw2 := mj_lw_sp (r2 := 0) e1 e2 e3 hw (by decide)
  refine va_copyi (cl := vwCl) hx hb (by rw [hml]; exact hl.symm) hown (hts _ hw2) (hts _ w1) (hts _ w2) (hts _ w3) hK hP mj_ws_D hS q0 q1 0 0 (mj_ws_get h0) (mj_ws_get h1) (ty := .int) rfl rfl rfl (fun z => hh (Or.inl z)) (fun z => hh (Or.inr (Or.inl z))) (fun z => hh (Or.inr (Or.inr (Or.inl z)))) ?_ ?_ (fun _ _ => rfl) hfr ?_ hdg (fun H1 locs1 h1 _ h3 => k H1 locs1 ?_ h3)
  · exact Nat.not_lt.mp fun z => hh (Or.inr (Or.inr (Or.inr (Or.inl z))))
  · exact Nat.not_lt.mp fun z => hh (Or.inr (Or.inr (Or.inr (Or.inr z))))
  · have := mj_words (st := st) (b0 := b0) (ex := ex)
    unfold mj_cs at this hs
    show ((mj_ts b0 ex st).map _).sum + _ ≤ _
    rw [this]
    have : nativeFrameWords "java/lang/System" "arraycopy" 5 + 11 ≤ 56 := by decide +kernel
    omega
  · rw [← mj_ws_set]
    exact h1
theorem mj_mna {i : Nat} {n k9 : Int32} (C : mj_Cx b0 ex dA D L xs p R m c cc nL s args own) (hP : va_P D vwCl (mj_ws b0 ex dA M) H) (hz : H.size = b0 + M.length) (hS : va_S (fun a => b0 ≤ a) s.heap H locs) (w1 : Cond.arrayClass .int ∈ mj_ww) (hdg : decode cc pc = .ok (.multianewarray i 2, 4)) (hc : mj_ck own (.multianewarray i 2) r1 r2 = true) (h9 : r1 < 999) (hn : ¬ n < 0) (hk : ¬ k9 < 0) (hb1 : n.toNatClampNeg * 4 ≤ 536870912) (hb2 : k9.toNatClampNeg * 4 ≤ 536870912) (hce : ce + (1 + n.toNatClampNeg) ≤ R.cells) (hsl : sl + (n.toNatClampNeg + n.toNatClampNeg * k9.toNatClampNeg) ≤ R.slots)
    (k : ∀ (H1 : Heap), va_P D vwCl (mj_ws b0 ex dA (M ++ (.inl (2, n.toNatClampNeg, .inr (.inr (.inr (.inr (fun i => if i < n.toNatClampNeg then some (M.length + 1 + i) else none))))) :: List.replicate n.toNatClampNeg (.inl (0, k9.toNatClampNeg, .inl (fun _ => 0)))))) H1 → H1.size = b0 + M.length + 1 + n.toNatClampNeg → va_S (fun a => b0 ≤ a) s.heap H1 locs → W p l e R s m args below meth c H1 locs (ce + (1 + n.toNatClampNeg)) (sl + (n.toNatClampNeg + n.toNatClampNeg * k9.toNatClampNeg)) Q (F0 m (pc + 4) ls (mj_ts b0 ex (.ref M.length :: st)))) : W p l e R s m args below meth c H locs ce sl Q (F0 m pc ls (mj_ts b0 ex (.int k9 :: .int n :: st))) := by
  obtain ⟨hx, hb, hml, hown, hts, hK, hb0, hX, hfr, hlo⟩ := C
  have hw := mj_ck_mna hc h9
  have hcy : s.vm.findClass (FieldType.array .int).toString = some (dA 0) := (hK.2 0 _ rfl).2
  have hcz : s.vm.findClass ("[" ++ (FieldType.array .int).toString) = some (dA 2) := (hK.2 2 _ rfl).2
  have hao : (Cond.arrayOver (.array .int)).before args s = true := by
    obtain ⟨-, -, -, -, -, -, -, -, -, -, -, -, -, h⟩ := hX
    unfold Cond.before Cond.holds at h ⊢
    simpa only [Cond.value] using h
  intro T hT Xs
  obtain ⟨vm₁, cA, comp, -, fA, fC, hO, -, X', step⟩ := Jvm.Stand.multianewarray2F Xs hx hown (hts _ hw) hao (hts _ w1) (g := F0 m pc ls (mj_ts b0 ex (.int k9 :: .int n :: st))) rfl (by rw [hb]; exact hdg) rfl hn hk hb1 hb2 (by omega) rfl rfl hce hsl
  have ec : some (dA 0) = some comp := hcy.symm.trans fC
  cases ec
  have ea : some (dA 2) = some cA := hcz.symm.trans fA
  cases ea
  generalize hF : Jvm.Free.Multi.fill (T.setVm vm₁) (dA 2) (dA 0) n.toNatClampNeg k9.toNatClampNeg (defaultValue .int) n.toNatClampNeg = F at X' step
  have hTh : (T.setVm vm₁).heap = H := hT
  obtain ⟨f1, f2, -, -⟩ := Jvm.Free.Multi.fill_facts (T.setVm vm₁) (dA 2) (dA 0) n.toNatClampNeg k9.toNatClampNeg (defaultValue .int) n.toNatClampNeg
  rw [hF, hTh] at f1 f2
  have hold : ∀ x : Nat, x < H.size → F.heap[x]? = H[x]? := fun x hx => by
    have := Jvm.Free.Multi.fill_old (T.setVm vm₁) (dA 2) (dA 0) n.toNatClampNeg k9.toNatClampNeg (defaultValue .int) (a := x) (by rw [hTh]; exact hx) n.toNatClampNeg
    rw [hF, hTh] at this
    exact this
  have hrow : ∀ j : Nat, j < n.toNatClampNeg → F.heap[H.size + 1 + j]? = some (vp_cell (dA 0) (k9.toNatClampNeg, .inl (fun _ => 0))) := fun j hj => by
    have := Jvm.Free.Multi.fill_inner (T.setVm vm₁) (dA 2) (dA 0) n.toNatClampNeg k9.toNatClampNeg (defaultValue .int) n.toNatClampNeg j hj
    rw [hF, hTh] at this
    rw [this, vp_cell_i, ← arrV_new]
    rfl
  have hout : F.heap[H.size]? = some (vp_cell (dA 2) (n.toNatClampNeg, .inr (.inr (.inr (.inr (fun i => if i < n.toNatClampNeg then some (H.size + 1 + i) else none)))))) := by
    rw [f2, vp_cell_q]
    congr 1
    have key : ∀ (N h0 : Nat) (i : Nat), Jvm.Free.Multi.outerC (dA 2) N h0 i = arrV (dA 2) N (fun j => va_rf (if j < i then some (h0 + 1 + j) else none)) := by
      intro N h0 i
      induction i with
      | zero =>
        show ({ cls := dA 2, slots := Array.replicate N .null, vm := .none } : Cell) = _
        rw [arrV_new]
        refine congrArg (arrV (dA 2) N) (funext fun j => ?_)
        simp [va_rf]
      | succ i ih =>
        show (Jvm.Free.Multi.outerC (dA 2) N h0 i).setSlot i (.ref (h0 + 1 + i)) = _
        rw [ih, arrV_store]
        refine congrArg (arrV (dA 2) N) (funext fun j => ?_)
        by_cases e : j = i
        · subst e
          simp [updV, va_rf]
        · by_cases h : j < i
          · simp [updV, e, h, Nat.lt_succ_of_lt h]
          · simp [updV, e, h, show ¬ j < i + 1 by omega]
    exact key _ _ _
  have hPn : va_P D vwCl (mj_ws b0 ex dA (M ++ (.inl (2, n.toNatClampNeg, .inr (.inr (.inr (.inr (fun i => if i < n.toNatClampNeg then some (M.length + 1 + i) else none))))) :: List.replicate n.toNatClampNeg (.inl (0, k9.toNatClampNeg, .inl (fun _ => 0)))))) F.heap := by
    intro k x hx
    by_cases hlt : k < M.length
    · have hx2 : (mj_ws b0 ex dA M)[k]? = some x := by
        rw [← hx]
        simp only [mj_ws, List.getElem?_mapIdx]
        rw [List.getElem?_append_left hlt]
      exact (hP k x hx2).kept (hold x.1 (by have := (hP k x hx2).lt; exact this))
    · simp only [mj_ws, List.getElem?_mapIdx] at hx
      rw [List.getElem?_append_right (by omega)] at hx
      by_cases hk0 : k = M.length
      · subst hk0
        rw [Nat.sub_self] at hx
        cases hx
        show F.heap[b0 + M.length]? = _
        rw [← hz, hout]
        refine congrArg (fun g => some (vp_cell (dA 2) (n.toNatClampNeg, .inr (.inr (.inr (.inr g)))))) (funext fun j => ?_)
        by_cases hj : j < n.toNatClampNeg
        · simp only [hj, if_true, Option.map_some]
          rw [hz]
          congr 1
          omega
        · simp only [hj, if_false, Option.map_none]
      · obtain ⟨j, rfl⟩ : ∃ j, k = M.length + 1 + j := ⟨k - M.length - 1, by omega⟩
        rw [show M.length + 1 + j - M.length = j + 1 by omega, List.getElem?_cons_succ] at hx
        by_cases hj : j < n.toNatClampNeg
        · rw [List.getElem?_replicate, if_pos hj] at hx
          cases hx
          show F.heap[b0 + (M.length + 1 + j)]? = _
          rw [show b0 + (M.length + 1 + j) = H.size + 1 + j by omega]
          exact hrow j hj
        · rw [List.getElem?_replicate, if_neg hj] at hx
          cases hx
  have X2 : Stand p l e R s m args below meth c F locs (ce + (1 + n.toNatClampNeg)) (sl + (n.toNatClampNeg + n.toNatClampNeg * k9.toNatClampNeg)) := by
    rw [show ce + (1 + n.toNatClampNeg) = ce + 1 + n.toNatClampNeg by omega, show sl + (n.toNatClampNeg + n.toNatClampNeg * k9.toNatClampNeg) = sl + n.toNatClampNeg + n.toNatClampNeg * k9.toNatClampNeg by omega]
    exact X'
  obtain ⟨t, a1, b1⟩ := k F.heap hPn (by rw [f1, hz]) ⟨by rw [f1]; have := hS.1; omega, fun x h1 h2 => (hold x (Nat.lt_of_lt_of_le h1 hS.1)).trans (hS.2.1 x h1 h2), hS.2.2⟩ F rfl X2
  refine ⟨t, step t ?_, b1⟩
  have e : T.heap.size = H.size := by rw [hT]
  rw [e, hz]
  exact a1
end MJN
