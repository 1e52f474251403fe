/-! CALLS, RETURNS, CONTRACTS -/
def mj_Pc (b0 : Nat) (ex : Nat → Nat) (dA : Nat → ClassId) (D : va_G) (L : Nat) (xs : Nat → Int32) (as : List Value) (M : mj_M) : Array Value → State → Prop := va_Pc (mj_ts b0 ex as) (fun U => U.heap.size = b0 + M.length ∧ va_P D vwCl (mj_ws b0 ex dA M) U.heap ∧ va_K D vwCl (mj_tys dA) U ∧ mj_X b0 ex L xs U U.heap)
def mj_Qc (b0 : Nat) (ex : Nat → Nat) (dA : Nat → ClassId) (D : va_G) (M : mj_M) (mc : Nat) (Qr : Option Value → mj_M → Prop) : Array Value → State → Outcome → State → Prop := fun _ st oc t =>
  ∃ (rv : Option Value) (M' : mj_M), oc = .returned (rv.map (mj_tv b0 ex)) ∧ Qr rv M' ∧ M'.length = M.length + mc ∧ va_P D vwCl (mj_ws b0 ex dA M') t.heap ∧ va_F (fun a => b0 ≤ a) st t
def mj_wl (i : Nat) : List Cond := Cond.code (mj_y i) (mj_cc i) (mj_ml i) (mj_rt i) :: mj_ww
def mj_rm (d mc ms : Nat) : Room := { frames := d, cells := mc, slots := ms, locals := 64 * d }
def mj_Me (l : Launch) (i d mc ms : Nat) (as : List Value) (M : mj_M) (Qr : Option Value → mj_M → Prop) : Prop :=
  ∀ (b0 : Nat) (ex : Nat → Nat) (dA : Nat → ClassId) (D : va_G) (L : Nat) (xs : Nat → Int32), Met l (mj_y i) (mj_wl i) (mj_rm d mc ms) (mj_Pc b0 ex dA D L xs as M) (mj_Qc b0 ex dA D M mc Qr) mc ms (fun q => b0 ≤ q)
theorem mj_wl_good {i : Nat} (hi : i < mj_N) : GoodIn mj_ww (mj_wl i) := by
  intro w h
  rcases List.mem_cons.mp h with rfl | h
  · exact mj_ww_good _ (mj_tca i hi)
  · exact mj_ww_good _ h
theorem mj_row {i : Nat} (hi : i < mj_N) : ∃ q ∈ mj_mw, q.1 = i ∧ mj_okI q = true := by
  have h : i ∈ mj_mw.map (fun q => q.1) := by rw [mj_mw_ids]; exact List.mem_range.mpr hi
  obtain ⟨q, hq, e⟩ := List.mem_map.mp h
  exact ⟨q, hq, e, List.all_eq_true.mp mj_mw_I q hq⟩
theorem mj_facts {i : Nat} (hi : i < mj_N) : (mj_ki i = 0 → Cond.static (mj_y i) ∈ mj_ww) ∧ (mj_ki i ≠ 0 → Cond.instanceMethod (mj_y i) ∈ mj_ww) ∧ (mj_ki i = 1 → Cond.selects (mj_y i).cls (mj_y i) (mj_y i) ∈ mj_ww) ∧ (mj_ki i = 2 → (mj_y i).name = "<init>") ∧ Cond.initialized (mj_y i).cls ∈ mj_ww ∧
    ((mj_y i).cls ≠ "java/lang/invoke/MethodHandle" ∧ (mj_y i).cls ≠ "java/lang/invoke/VarHandle" ∧ (parseMethodDescriptor (mj_y i).desc).map (fun d => d.parameters.length) = some (mj_np i)) ∧ plainName (mj_y i).cls = true ∧ mj_cn (mj_ow i) = (mj_y i).cls ∧ mj_ml i ≤ 45 := by
  obtain ⟨q, hq, rfl, h⟩ := mj_row hi
  unfold mj_okI at h
  simp only [Bool.and_eq_true, decide_eq_true_eq] at h
  obtain ⟨h1, h2, h3, h4, h5, h6, h7, h8⟩ := h
  refine ⟨fun e => ?_, fun e => ?_, fun e => ?_, fun e => ?_, mj_ww_of h3 rfl, ⟨h4.1, h4.2, h5⟩, h6, h7, h8⟩
  · rw [e] at h1
    exact mj_ww_of h1 rfl
  · rw [show Nat.beq (mj_ki q.1) 0 = false by rw [← Bool.not_eq_true, Nat.beq_eq]; exact e] at h1
    exact mj_ww_of h1 rfl
  · rw [e] at h2
    exact mj_ww_of (of_decide_eq_true h2) rfl
  · rw [e] at h2
    exact of_decide_eq_true h2
def mj_okO (i : Nat) : Bool := bif Nat.blt (mj_oc i) 7 then (match vwCl[mj_oc i]? with
  | some r => decide (r.1 = (mj_y i).cls)
  | none => false) else bif Nat.beq (mj_oc i) 99 then decide ((mj_y i).cls = "java/lang/String") else true
theorem mj_oc_ok : (List.range mj_N).all mj_okO = true := by decide +kernel
theorem mj_blind (b0 : Nat) (ex : Nat → Nat) (dA : Nat → ClassId) (D : va_G) (L : Nat) (xs : Nat → Int32) (as : List Value) (M : mj_M) : FrameBlind (mj_Pc b0 ex dA D L xs as M) := by
  rintro a U g mk ⟨h1, h2, h3, h4, h5⟩
  exact ⟨h1, h2, h3, va_K.moved (u := U) (U := U.calling g mk a) (Vm.Alike.refl U.vm) h4, h5.same rfl⟩
/-- the arguments of a call on the stack, the receiver first -/
def mj_sp : Nat → List Value → List Value → Option (List Value × List Value)
  | 0, as, st => some (as, st)
  | n + 1, as, v :: st => mj_sp n (v :: as) st
  | _ + 1, _, [] => none
theorem mj_sp_ok : ∀ (n : Nat) (as st as' rest : List Value), mj_sp n as st = some (as', rest) → ∃ bs : List Value, bs.length = n ∧ as' = bs ++ as ∧ st = bs.reverse ++ rest
  | 0, as, st, as', rest, h => by
    cases h
    exact ⟨[], rfl, rfl, rfl⟩
  | n + 1, as, v :: st, as', rest, h => by
    obtain ⟨bs, h1, h2, h3⟩ := mj_sp_ok n (v :: as) st as' rest h
    exact ⟨bs ++ [v], by simp [h1], by simp [h2], by simp [h3]⟩
  | _ + 1, _, [], _, _, h => by cases h
/-- which call it is: 0 static, 1 of an object, 2 a constructor -/
def mj_kd (ins : Instr) : Nat := match ins with
  | .invokestatic _ => 0
  | .invokevirtual _ => 1
  | .invokespecial _ => 2
  | _ => 9
/-- is the receiver an object of the method's class? -/
def mj_rc (i : Nat) (M : mj_M) (v : Value) : Bool := match v with
  | .ref q => (match M[q]? with
    | some (.inr (ci, _)) => Nat.beq ci (mj_oc i) && Nat.blt ci 7
    | _ => false)
  | .retAddr k => Nat.beq (mj_oc i) 99 && (Nat.ble 10 k && Nat.blt k 23)
  | _ => false
theorem mj_bc (b0 : Nat) (ex : Nat → Nat) {v : Value} {i : Nat} {M : mj_M} (h : mj_rc i M v = true) : ∃ a, mj_tv b0 ex v = .ref a := by
  cases v with
  | ref q => exact ⟨_, rfl⟩
  | retAddr k =>
    simp only [mj_rc, Bool.and_eq_true, Nat.beq_eq, Nat.blt_eq, Nat.ble_eq] at h
    exact ⟨_, mj_ev_ne (by omega)⟩
  | _ => cases h
section MJQ
variable {p : Program} {l : Launch} {e : Env} {R : Room} {s : State} {m : MethodId} {args : Array Value} {below : List Frame} {meth : Method} {c : Code} {H : Heap} {locs : List Loc} {ce sl : Nat} {Q : State → Prop}
variable {cc : ByteArray} {pc nL L : Nat} {ls : Array Slot} {b0 : Nat} {ex : Nat → Nat} {dA : Nat → ClassId} {D : va_G} {xs : Nat → Int32} {own r1 r2 : Nat} {M : mj_M} {lo : mj_L} {st : List Value} {ins : Instr}
theorem mj_recv {i : Nat} {v : Value} {a : Nat} (hi : i < mj_N) (hK : va_K D vwCl (mj_tys dA) s) (hX : mj_X b0 ex L xs s s.heap) (hP : va_P D vwCl (mj_ws b0 ex dA M) H) (hS : va_S (fun q => b0 ≤ q) s.heap H locs) (h : mj_rc i M v = true) (ha : mj_tv b0 ex v = .ref a) : ∃ cell : Cell, H[a]? = some cell ∧ cell.vm.isStatics = false ∧ s.vm.findClass (mj_y i).cls = some cell.cls := by
  have ho := List.all_eq_true.mp mj_oc_ok i (List.mem_range.mpr hi)
  unfold mj_okO at ho
  cases v with
  | ref q =>
    cases ha
    unfold mj_rc at h
    simp only at h
    split at h
    · rename_i ci fs hM
      simp only [Bool.and_eq_true, Nat.beq_eq, Nat.blt_eq] at h
      obtain ⟨rfl, h7⟩ := h
      rw [show Nat.blt (mj_oc i) 7 = true by rw [Nat.blt_eq]; exact h7] at ho
      cases hr : vwCl[mj_oc i]? with
      | none => rw [hr] at ho; cases ho
      | some r =>
        rw [hr] at ho
        have hcl : r.1 = (mj_y i).cls := of_decide_eq_true ho
        rw [← hcl]
        exact va_recv hK hP hr (mj_ws_get hM)
    · cases h
  | retAddr k =>
    unfold mj_rc at h
    simp only [Bool.and_eq_true, Nat.beq_eq, Nat.blt_eq, Nat.ble_eq] at h
    obtain ⟨h9, h1, h2⟩ := h
    change mj_ev ex k = .ref a at ha
    rw [mj_ev_ne (by omega)] at ha
    cases ha
    rw [h9] at ho
    have hcl : (mj_y i).cls = "java/lang/String" := of_decide_eq_true ho
    rw [hcl]
    obtain ⟨cell, g1, g2, g3, -⟩ := ((hX.2.1 k h1 h2).2.2).kept hS.2.1
    exact ⟨cell, g1, g2, g3⟩
  | _ => cases h
/-- behind a call -/
theorem mj_callk {a : Array Value} {mc ms : Nat} {ls : Array Slot} {st0 rest : List Value} {Qr : Option Value → mj_M → Prop} (hr : va_Run p l e R s m args below meth c H locs ce sl mc ms (F0 m pc ls st0) rest (mj_Qc b0 ex dA D M mc Qr a) (fun q => b0 ≤ q)) (hS : va_S (fun q => b0 ≤ q) s.heap H locs)
    (kk : ∀ (rv : Option Value) (M' : mj_M) (H1 : Heap) (locs1 : List Loc), Qr rv M' → M'.length = M.length + mc → va_P D vwCl (mj_ws b0 ex dA M') H1 → va_S (fun q => b0 ≤ q) s.heap H1 locs1 → W p l e R s m args below meth c H1 locs1 (ce + mc) (sl + ms) Q (F0 m (pc + 3) ls ((rv.map (mj_tv b0 ex)).toList ++ rest))) : W p l e R s m args below meth c H locs ce sl Q (F0 m pc ls st0) := by
  intro T hT X
  obtain ⟨v, st₀, t, T', L, h0, X', hL, e1, e2, ⟨rv, M', hv, hq, hlen, hP, hz, hk⟩, st⟩ := hr T hT X
  cases hv
  rw [h0] at hz hk
  obtain ⟨t2, a1, b1⟩ := kk rv M' T'.heap (locs ++ L) hq hlen (by rw [e1]; exact hP)
    ⟨Nat.le_trans hS.1 (by rw [e1]; exact hz), fun q h1 h2 => by rw [e1, hk q (Nat.lt_of_lt_of_le h1 hS.1) h2]; exact hS.2.1 q h1 h2, fun q hq => by
      rcases List.mem_append.mp hq with h | h
      · exact hS.2.2 q h
      · exact hL q h⟩ T' rfl X'
  exact ⟨t2, st t2 a1, b1⟩
set_option maxHeartbeats 4000000 in
theorem mj_call {i d mc ms idx : Nat} {as rest : List Value} {Qr : Option Value → mj_M → Prop} (C : mj_Cx b0 ex dA D L xs p R m c cc nL s args own) (hP : va_P D vwCl (mj_ws b0 ex dA M) H) (hq : s.heap.size + ce = b0 + M.length) (hS : va_S (fun a => b0 ≤ a) s.heap H locs) (hl : ls.size = nL)
    (hins : ins = .invokevirtual idx ∨ ins = .invokespecial idx ∨ ins = .invokestatic idx) (hdg : decode cc pc = .ok (ins, 3)) (hc : mj_ck own ins i r2 = true) (hi : i < mj_N) (h2 : r2 = 0 ∨ r2 = 1) (hk : mj_ki i = mj_kd ins) (hsp : mj_sp (bif Nat.beq (mj_ki i) 0 then mj_np i else mj_np i + 1) [] st = some (as, rest)) (hrc : mj_ki i = 1 → mj_rc i M (as.headD .null) = true) (hrf : mj_ki i = 2 → mj_isr (as.headD .null) = true)
    (hM : mj_Me l i d mc ms as M Qr) (hd : d + 1 ≤ R.frames) (hd2 : 64 * d + 64 ≤ R.locals) (hce : ce + mc ≤ R.cells) (hsl : sl + ms ≤ R.slots) (hrest : mj_cs rest ≤ 8)
    (kk : ∀ (rv : Option Value) (M' : mj_M) (H1 : Heap) (locs1 : List Loc), Qr rv M' → M'.length = M.length + mc → va_P D vwCl (mj_ws b0 ex dA M') H1 → va_S (fun q => b0 ≤ q) s.heap H1 locs1 → W p l e R s m args below meth c H1 locs1 (ce + mc) (sl + ms) Q (F0 m (pc + 3) ls (mj_ts b0 ex (rv.toList ++ rest)))) : W p l e R s m args below meth c H locs ce sl Q (F0 m pc ls (mj_ts b0 ex st)) := by
  have C0 := C
  obtain ⟨hx, hb, hml, hown, hts, hK, hb0, hX, hfr, hlo⟩ := C
  refine mj_size hP hS hb0 hq (fun hz => ?_)
  obtain ⟨f1, f2, f3, f4, f5, f6, f7, f8, f9⟩ := mj_facts hi
  obtain ⟨q9, hq9, e1, e2, e3, e4, hw, -⟩ := mj_ck_inv hins hc (by have h9 : mj_N ≤ 999 := (by decide +kernel); omega)
  have hR : (mj_rm d mc ms).frames + 1 ≤ R.frames ∧ 8 + (mj_ml i + 11) + (mj_rm d mc ms).locals ≤ R.locals := ⟨hd, by show 8 + (mj_ml i + 11) + 64 * d ≤ _; omega⟩
  have hPc : ∀ U : State, U.heap = H → s.WarmedH U.vm → mj_Pc b0 ex dA D L xs as M (mj_ts b0 ex as).toArray U := fun U hU hW => ⟨rfl, by rw [hU]; exact hz, by rw [hU]; exact hP, va_K.moved hW.alike hK, by rw [hU]; exact hX.to hW (fun a h1 h2 => hS.2.1 a h1 h2)⟩
  have hki9 : mj_N < 1000 := by decide +kernel
  have hws : 2 * (F0 m pc ls (mj_ts b0 ex st)).monitorRoom + ((mj_ts b0 ex rest).map fun v => v.category).sum ≤ 8 := by
    have := mj_words (st := rest) (b0 := b0) (ex := ex)
    unfold mj_cs at this hrest
    show 2 * 0 + (List.map (fun v => v.category) (mj_ts b0 ex rest)).sum ≤ 8
    rw [this]
    omega
  have kk2 : ∀ (rv : Option Value) (M' : mj_M) (H1 : Heap) (locs1 : List Loc), Qr rv M' → M'.length = M.length + mc → va_P D vwCl (mj_ws b0 ex dA M') H1 → va_S (fun q => b0 ≤ q) s.heap H1 locs1 → W p l e R s m args below meth c H1 locs1 (ce + mc) (sl + ms) Q (F0 m (pc + 3) ls ((rv.map (mj_tv b0 ex)).toList ++ mj_ts b0 ex rest)) := fun rv M' H1 locs1 g1 g2 g3 g4 => by
    have := kk rv M' H1 locs1 g1 g2 g3 g4
    cases rv <;> exact this
  have hlink : r2 = 0 → (Cond.methodLink (mj_cn own) idx (mj_y i)).before args s = true := fun e => hts _ (mj_lw_me e1 e2 e3 (e4.trans e) hw (by omega))
  have hnest : r2 = 1 → va_Nw (Cond.methodLinkNest (mj_cn own) idx (mj_y i) "DreamsPayRent") s := fun e => by
    have := hX.2.2.2.2.1 q9 hq9 (e4.trans e)
    rw [e1, e2, e3] at this
    exact this
  have cb : r2 = 0 → CallB R s args (mj_cn own) idx (mj_y i) (mj_cc i) (mj_ml i) (mj_rt i) (mj_wl i) (mj_rm d mc ms) mc ms (mj_np i) := fun e => callB_of (mj_np i) hts (mj_wl_good hi) rfl rfl rfl (hts _ f5) (hlink e) f6 hR
  have cn : r2 = 1 → va_CN R s args (mj_cn own) idx (mj_y i) "DreamsPayRent" (mj_cc i) (mj_ml i) (mj_rt i) (mj_wl i) (mj_rm d mc ms) mc ms (mj_np i) := fun e => va_cnB (mj_np i) hts (mj_wl_good hi) rfl rfl rfl (hnest e) (hts _ f5) f6 hR
  have hFix : CallFix p m c cc nL s args mj_ww (mj_cn own) := ⟨hx, hb, hml, hown, hts⟩
  have hMM := hM b0 ex dA D L xs
  rcases hins with rfl | rfl | rfl
  · -- an object's
    have hk1 : mj_ki i = 1 := hk
    rw [hk1, show (bif Nat.beq 1 0 then mj_np i else mj_np i + 1) = mj_np i + 1 from rfl] at hsp
    obtain ⟨bs, g1, g2, g3⟩ := mj_sp_ok _ _ _ _ _ hsp
    rw [List.append_nil] at g2
    subst g2
    cases as with
    | nil => cases g1
    | cons v As =>
      have hrc := hrc hk1
      obtain ⟨a, ha⟩ := mj_bc b0 ex (v := v) hrc
      have hcell := mj_recv hi hK hX hP hS (v := v) hrc ha
      have est : mj_ts b0 ex st = (mj_ts b0 ex As).reverse ++ .ref a :: mj_ts b0 ex rest := by
        rw [g3]
        simp [mj_ts, ha]
      have eas : mj_ts b0 ex (v :: As) = .ref a :: mj_ts b0 ex As := by simp [mj_ts, ha]
      have hp : PreV s H (mj_y i).cls a (mj_Pc b0 ex dA D L xs (v :: As) M) (mj_ts b0 ex As) := ⟨mj_blind _ _ _ _ _ _ _ _, hcell, fun U hU hW => by rw [← eas]; exact hPc U hU hW⟩
      have hn : (mj_ts b0 ex As).length = mj_np i := by simp only [mj_ts, List.length_map]; simpa using g1
      rcases h2 with h2 | h2
      · exact mj_callk (va_runV hFix hMM ⟨cb h2, hts _ (f2 (by omega)), hts _ (f3 hk1)⟩ hp rfl hn hl est hws hdg ⟨hce, hsl⟩) hS kk2
      · exact mj_callk (va_runVN hFix hMM ⟨cn h2, hts _ (f2 (by omega)), hts _ (f3 hk1)⟩ hp rfl hn hl est hws hdg ⟨hce, hsl⟩) hS kk2
  · -- a constructor
    have hk1 : mj_ki i = 2 := hk
    rw [hk1, show (bif Nat.beq 2 0 then mj_np i else mj_np i + 1) = mj_np i + 1 from rfl] at hsp
    obtain ⟨bs, g1, g2, g3⟩ := mj_sp_ok _ _ _ _ _ hsp
    rw [List.append_nil] at g2
    subst g2
    cases as with
    | nil => cases g1
    | cons v As =>
      have hv : ∃ a, mj_tv b0 ex v = .ref a := by
        have := hrf hk1
        cases v with
        | ref q => exact ⟨_, rfl⟩
        | _ => cases this
      obtain ⟨a, ha⟩ := hv
      have est : mj_ts b0 ex st = (mj_ts b0 ex As).reverse ++ .ref a :: mj_ts b0 ex rest := by
        rw [g3]
        simp [mj_ts, ha]
      have eas : mj_ts b0 ex (v :: As) = .ref a :: mj_ts b0 ex As := by simp [mj_ts, ha]
      have hp : PreS s H (mj_Pc b0 ex dA D L xs (v :: As) M) (.ref a :: mj_ts b0 ex As) := ⟨mj_blind _ _ _ _ _ _ _ _, fun U hU hW => by rw [← eas]; exact hPc U hU hW⟩
      have hn : (mj_ts b0 ex As).length = mj_np i := by simp only [mj_ts, List.length_map]; simpa using g1
      have hrt : mj_rt i = none := by
        have : (List.range mj_N).all (fun i => !(Nat.beq (mj_ki i) 2) || decide (mj_rt i = none)) = true := by decide +kernel
        have := List.all_eq_true.mp this i (List.mem_range.mpr hi)
        rw [hk1] at this
        simpa using this
      rcases h2 with h2 | h2
      · have cb2 := cb h2
        rw [hrt] at cb2
        exact mj_callk (va_runI hFix hMM ⟨cb2, f4 hk1, hts _ (f2 (by omega))⟩ hp rfl hn hl est hws hdg ⟨hce, hsl⟩) hS kk2
      · have cn2 := cn h2
        rw [hrt] at cn2
        exact mj_callk (va_runIN hFix hMM ⟨cn2, f4 hk1, hts _ (f2 (by omega))⟩ hp rfl hn hl est hws hdg ⟨hce, hsl⟩) hS kk2
  · -- static
    have hk1 : mj_ki i = 0 := hk
    rw [hk1, show (bif Nat.beq 0 0 then mj_np i else mj_np i + 1) = mj_np i from rfl] at hsp
    obtain ⟨bs, g1, g2, g3⟩ := mj_sp_ok _ _ _ _ _ hsp
    rw [List.append_nil] at g2
    subst g2
    have est : mj_ts b0 ex st = (mj_ts b0 ex as).reverse ++ mj_ts b0 ex rest := by
      rw [g3]
      simp [mj_ts]
    have hp : PreS s H (mj_Pc b0 ex dA D L xs as M) (mj_ts b0 ex as) := ⟨mj_blind _ _ _ _ _ _ _ _, hPc⟩
    have hn : (mj_ts b0 ex as).length = mj_np i := by simp only [mj_ts, List.length_map]; exact g1
    rcases h2 with h2 | h2
    · exact mj_callk (va_runS hFix hMM ⟨cb h2, hts _ (f1 hk1)⟩ hp rfl hn hl est hws hdg ⟨hce, hsl⟩) hS kk2
    · exact mj_callk (va_runSN hFix hMM ⟨cn h2, hts _ (f1 hk1), trivial⟩ hp rfl hn hl est hws hdg ⟨hce, hsl⟩) hS kk2
end MJQ
