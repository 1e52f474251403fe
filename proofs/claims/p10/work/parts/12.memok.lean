def mj_Cx (b0 : Nat) (ex : Nat → Nat) (dA : Nat → ClassId) (D : va_G) (L : Nat) (xs : Nat → Int32) (p : Program) (R : Room) (m : MethodId) (c : Code) (cc : ByteArray) (nL : Nat) (s : State) (args : Array Value) (own : Nat) : Prop :=
  p.tables.exec = Jvm.exec ∧ c.code = cc ∧ c.maxLocals = nL ∧ s.vm.findClass (mj_cn own) = some m.cls ∧ (∀ w ∈ mj_ww, w.before args s = true) ∧ va_K D vwCl (mj_tys dA) s ∧ b0 ≤ s.heap.size ∧ mj_X b0 ex L xs s s.heap ∧ 1 ≤ R.frames ∧ 64 ≤ R.locals
theorem mj_te_i {b0 : Nat} {ex : Nat → Nat} {dA : Nat → ClassId} {t n : Nat} {f : Nat → Int32} : mj_te b0 ex dA (.inl (t, n, .inl f)) = .inl (dA t, n, .inl f) := rfl
theorem mj_dv_get {ci k : Nat} {r : vw_C} (hr : vwCl[ci]? = some r) (hk : k < r.2.2) : (mj_dv ci)[k]? = some (defaultValue (mj_fty ci k)) := by
  unfold mj_dv
  rw [hr]
  simp [hk]
theorem mj_dv_len {ci : Nat} {r : vw_C} (hr : vwCl[ci]? = some r) : (mj_dv ci).length = r.2.2 := by
  unfold mj_dv
  rw [hr]
  simp
theorem mj_tv_dv (b0 : Nat) (ex : Nat → Nat) (ty : FieldType) : mj_tv b0 ex (defaultValue ty) = defaultValue ty := by
  cases ty <;> rfl
theorem mj_xa_ne {L : Nat} {xs : Nat → Int32} {k : Nat} {q : FieldType × Nat × (Nat → Int32)} (h : mj_xa L xs k = some q) : k ≠ 3 := by
  intro e
  subst e
  cases h
theorem mj_words {st : List Value} {b0 : Nat} {ex : Nat → Nat} : mj_cs (mj_ts b0 ex st) = mj_cs st := by
  unfold mj_cs mj_ts
  rw [List.map_map]
  congr 1
  apply List.map_congr_left
  intro v _
  exact mj_tv_cat' b0 ex v
theorem mj_clen (b0 : Nat) (ex : Nat → Nat) (dA : Nat → ClassId) (A B : mj_M) : (mj_ws b0 ex dA (A ++ B)).length = A.length + B.length := by
  rw [mj_ws_len, List.length_append]
section MJM
variable {p : Program} {l : Launch} {e : Env} {R : Room} {s : State} {m : MethodId} {args : Array Value} {below : List Frame} {meth : Method} {c : Code} {H : Heap} {locs : List Loc} {ce sl : Nat} {Q : State → Prop}
variable {cc : ByteArray} {pc nL L : Nat} {ls : Array Slot} {b0 : Nat} {ex : Nat → Nat} {dA : Nat → ClassId} {D : va_G} {xs : Nat → Int32} {own r1 r2 : Nat} {M : mj_M} {lo : mj_L} {st : List Value}
theorem mj_getf {i q : Nat} {fs : List Value} {v : Value} (C : mj_Cx b0 ex dA D L xs p R m c cc nL s args own) (hP : va_P D vwCl (mj_ws b0 ex dA M) H) (hdg : decode cc pc = .ok (.getfield i, 3)) (hc : mj_ck own (.getfield i) r1 r2 = true) (h7 : r1 < 7) (hM : M[q]? = some (.inr (r1, fs))) (hv : fs[r2]? = some v)
    (k : W p l e R s m args below meth c H locs ce sl Q (F0 m (pc + 3) ls (mj_ts b0 ex (v :: st)))) : W p l e R s m args below meth c H locs ce sl Q (F0 m pc ls (mj_ts b0 ex (.ref q :: st))) := by
  obtain ⟨hx, hb, hml, hown, hts, hK, -, -, -, -⟩ := C
  obtain ⟨r, hr, hk, hw⟩ := mj_ck_get hc h7
  obtain ⟨g1, g2, g3, g4⟩ := mj_cls r1 r hr
  exact va_get (D := D) (cl := vwCl) (ci := r1) (v := mj_tv b0 ex v) (C := r.1) (T := r.2.1) (N := r.2.2) hx hb hts g1 hown hK hP q (mj_ws_get hM) hr r2 hk (hts _ hw) (fun _ h9 => h9) (by rw [List.getElem?_map, hv]; rfl) hdg k
theorem mj_putf {i q : Nat} {fs : List Value} {v : Value} {ini : Bool} (C : mj_Cx b0 ex dA D L xs p R m c cc nL s args own) (hini : ini = true → meth.name = "<init>") (hP : va_P D vwCl (mj_ws b0 ex dA M) H) (hS : va_S (fun a => b0 ≤ a) s.heap H locs) (hdg : decode cc pc = .ok (.putfield i, 3)) (hc : mj_ck own (.putfield i) r1 r2 = true) (h7 : r1 < 7) (hM : M[q]? = some (.inr (r1, fs))) (hl : r2 < fs.length) (hf : mj_fit (mj_fty r1 r2) v = true) (hn : mj_fin r1 r2 = true → ini = true ∧ mj_cow r1 = own)
    (k : ∀ (H1 : Heap) (locs1 : List Loc), va_P D vwCl (mj_ws b0 ex dA (M.set q (.inr (r1, fs.set r2 v)))) H1 → va_S (fun a => b0 ≤ a) s.heap H1 locs1 → W p l e R s m args below meth c H1 locs1 ce sl Q (F0 m (pc + 3) ls (mj_ts b0 ex st))) : W p l e R s m args below meth c H locs ce sl Q (F0 m pc ls (mj_ts b0 ex (v :: .ref q :: st))) := by
  obtain ⟨hx, hb, hml, hown, hts, hK, -, -, -, -⟩ := C
  obtain ⟨r, hr, hk, hw⟩ := mj_ck_put hc h7
  obtain ⟨g1, g2, g3, g4⟩ := mj_cls r1 r hr
  obtain ⟨n1, n2⟩ := mj_fit_ok b0 ex hf
  have hset : ∀ (H1 : Heap), va_P D vwCl ((mj_ws b0 ex dA M).set q (b0 + q, .inr (r1, (fs.map (mj_tv b0 ex)).set r2 (mj_tv b0 ex v)))) H1 → va_P D vwCl (mj_ws b0 ex dA (M.set q (.inr (r1, fs.set r2 v)))) H1 := fun H1 h => by
    rw [← List.map_set] at h
    rw [← mj_ws_set]
    exact h
  cases hfin : (r.2.1 r2).2.2.2 with
  | false => exact va_put (D := D) (cl := vwCl) (ci := r1) (v := mj_tv b0 ex v) (C := r.1) (T := r.2.1) (N := r.2.2) (ty := mj_fty r1 r2) hx hb hts g1 (mj_fty r1) g2 g3 hown hK hP mj_ws_D hS q (mj_ws_get hM) hr r2 hk (hts _ hw) (fun _ h9 => h9) hfin (g2 r2 hk) n1 n2 (by rw [List.length_map]; exact hl) hdg (fun H1 locs1 h1 _ h3 => k H1 locs1 (hset H1 h1) h3)
  | true =>
    have hf2 : mj_fin r1 r2 = true := by unfold mj_fin; rw [hr]; exact hfin
    obtain ⟨i1, i2⟩ := hn hf2
    exact va_putF (D := D) (cl := vwCl) (ci := r1) (v := mj_tv b0 ex v) (C := r.1) (T := r.2.1) (N := r.2.2) (ty := mj_fty r1 r2) hx hb hts g1 (mj_fty r1) g2 g3 hown hK hP mj_ws_D hS q (mj_ws_get hM) hr r2 hk (hts _ hw) (fun _ h9 => h9) hfin (hini i1) (by rw [g4 r2 hk, i2]) (g2 r2 hk) n1 n2 (by rw [List.length_map]; exact hl) hdg (fun H1 locs1 h1 _ h3 => k H1 locs1 (hset H1 h1) h3)
theorem mj_newo {i : Nat} (C : mj_Cx b0 ex dA D L xs p R m c cc nL s args own) (hP : va_P D vwCl (mj_ws b0 ex dA M) H) (hz : H.size = b0 + M.length) (hS : va_S (fun a => b0 ≤ a) s.heap H locs) (hdg : decode cc pc = .ok (.new i, 3)) (hc : mj_ck own (.new i) r1 r2 = true) (h7 : r1 < 7) (hce : ce + 1 ≤ R.cells) (hsl : sl + (mj_dv r1).length ≤ R.slots)
    (k : ∀ (H1 : Heap), va_P D vwCl (mj_ws b0 ex dA (M ++ [.inr (r1, mj_dv r1)])) H1 → H1.size = b0 + (M ++ [(.inr (r1, mj_dv r1) : va_E)]).length → va_S (fun a => b0 ≤ a) s.heap H1 locs → W p l e R s m args below meth c H1 locs (ce + 1) (sl + (mj_dv r1).length) Q (F0 m (pc + 3) ls (mj_ts b0 ex (.ref M.length :: st)))) : W p l e R s m args below meth c H locs ce sl Q (F0 m pc ls (mj_ts b0 ex st)) := by
  obtain ⟨hx, hb, hml, hown, hts, hK, hb0, -, -, -⟩ := C
  obtain ⟨r, hr, w1, w2, w3⟩ := mj_ck_new hc (by omega)
  obtain ⟨g1, g2, g3, g4⟩ := mj_cls r1 r hr
  have hKn := hK.1 r1 _ hr
  rw [mj_dv_len hr] at hsl k
  refine W.newcK hx hb hown (hts _ w1) (hts _ w2) (hts _ w3) rfl hdg hce hsl hKn.2.1 hz fun H1 kC hkC e1 z1 o1 => ?_
  have hlt : ∀ (k : Nat) (x : Nat × va_E), (mj_ws b0 ex dA M)[k]? = some x → H1[x.1]? = H[x.1]? := fun k x hx => o1 x.1 (by have := (hP k x hx).lt; omega)
  refine k H1 ?_ (by rw [z1, List.length_append]; rfl) ⟨by have := hS.1; omega, fun x h1 h2 => (o1 x (by have := hS.1; omega)).trans (hS.2.1 x h1 h2), hS.2.2⟩
  rw [← mj_ws_app]
  refine (hP.kept hlt).app (fun k x hx => ?_)
  have hz : k < 1 := (List.getElem?_eq_some_iff.mp hx).1
  rw [show k = 0 by omega] at hx
  cases hx
  refine ⟨_, hr, (u_born (mj_fty r1) hts g1 hKn hkC e1 g2).to (fun j hj => ?_)⟩
  show _ = ((mj_dv r1).map (mj_tv b0 ex)).getD j .null
  rw [List.getD_eq_getElem?_getD, List.getElem?_map, mj_dv_get hr hj]
  exact (mj_tv_dv b0 ex _).symm
theorem mj_newa {aty : ArrayType} {t : Nat} {n : Int32} {z : Int32} (C : mj_Cx b0 ex dA D L xs p R m c cc nL s args own) (hP : va_P D vwCl (mj_ws b0 ex dA M) H) (hz : H.size = b0 + M.length) (hS : va_S (fun a => b0 ≤ a) s.heap H locs) (hdg : decode cc pc = .ok (.newarray aty, 2)) (harr : Cond.arrayClass (newarray.typeOf aty) ∈ mj_ww) (hdef : defaultValue (newarray.typeOf aty) = .int 0) (hcA : (mj_tys dA)[t]? = some (dA t, newarray.typeOf aty)) (hRA : va_RA s (dA t) (newarray.typeOf aty) → s.vm.findClass ("[" ++ (newarray.typeOf aty).toString) = some (dA t)) (hn : ¬ n < 0) (hbt : n.toNatClampNeg * componentBytes (newarray.typeOf aty) ≤ 536870912) (hce : ce + 1 ≤ R.cells) (hsl : sl + n.toNatClampNeg ≤ R.slots)
    (k : ∀ (H1 : Heap), va_P D vwCl (mj_ws b0 ex dA (M ++ [.inl (t, n.toNatClampNeg, .inl (fun _ => 0))])) H1 → H1.size = b0 + (M ++ [(.inl (t, n.toNatClampNeg, .inl (fun _ => 0)) : va_E)]).length → va_S (fun a => b0 ≤ a) s.heap H1 locs → W p l e R s m args below meth c H1 locs (ce + 1) (sl + n.toNatClampNeg) Q (F0 m (pc + 2) ls (mj_ts b0 ex (.ref M.length :: st)))) : W p l e R s m args below meth c H locs ce sl Q (F0 m pc ls (mj_ts b0 ex (.int n :: st))) := by
  obtain ⟨hx, hb, hml, hown, hts, hK, hb0, -, -, -⟩ := C
  refine va_newaK hx hb (hts _ harr) rfl hdg rfl hn rfl hbt hce hsl hz fun H1 cA e1 z1 o1 hAr hNm => ?_
  have hcc : cA = dA t := Option.some.inj (hNm.symm.trans (hRA (hK.2 t _ hcA).2))
  subst hcc
  have hlt : ∀ (k : Nat) (x : Nat × va_E), (mj_ws b0 ex dA M)[k]? = some x → H1[x.1]? = H[x.1]? := fun k x hx => o1 x.1 (by have := (hP k x hx).lt; omega)
  refine k H1 ?_ (by rw [z1, List.length_append]; rfl) ⟨by have := hS.1; omega, fun x h1 h2 => (o1 x (by have := hS.1; omega)).trans (hS.2.1 x h1 h2), hS.2.2⟩
  rw [← mj_ws_app]
  refine (hP.kept hlt).app (fun k x hx => ?_)
  have hz : k < 1 := (List.getElem?_eq_some_iff.mp hx).1
  rw [show k = 0 by omega] at hx
  cases hx
  show H1[b0 + M.length]? = some (vp_cell _ _)
  rw [e1, vp_cell_i]
  congr 2
  funext j
  exact hdef
end MJM
