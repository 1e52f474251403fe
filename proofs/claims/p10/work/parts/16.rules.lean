/-! THE RULES: all that a proof about a body needs to know of the machine -/
def mj_st (L : Nat) (xs : Nat → Int32) (own nL : Nat) (ini : Bool) (ins : Instr) (len r1 r2 : Nat) (M : mj_M) (pc : Nat) (l : mj_L) (st : List Value) : mj_R := match mj_pu ins len nL M pc l st with
  | some r => some r
  | none => mj_me L xs own ini ins len r1 r2 M pc l st
def mj_rtn (rt : Option FieldType) (ins : Instr) (len : Nat) (st : List Value) : Option (Option Value) := match ins, len, st, rt with
  | .ireturn, 1, [.int v], some ty => if narrow ty (.int v) = .int v then some (some (.int v)) else none
  | .lreturn, 1, [.long v], some .long => some (some (.long v))
  | .areturn, 1, [.retAddr k], some (.object _) => some (some (.retAddr k))
  | .return_, 1, [], none => some none
  | _, _, _, _ => none
abbrev mj_JT : Type := Nat → Nat → mj_M → Nat → mj_L → List Value → Prop
def mj_R1 (L : Nat) (xs : Nat → Int32) (i own nL : Nat) (ini : Bool) (mc ms : Nat) (J : mj_JT) : Prop :=
  ∀ (ce sl : Nat) (M : mj_M) (pc : Nat) (lo : mj_L) (st : List Value) (ins : Instr) (len r1 r2 dc ds : Nat) (M' : mj_M) (pc' : Nat) (lo' : mj_L) (st' : List Value), mj_cd i pc = some (ins, len, r1, r2) → mj_st L xs own nL ini ins len r1 r2 M pc lo st = some (dc, ds, M', pc', lo', st') → ce + dc ≤ mc → sl + ds ≤ ms → J (ce + dc) (sl + ds) M' pc' lo' st' → J ce sl M pc lo st
def mj_R2 (l : Launch) (i d mc ms : Nat) (J : mj_JT) : Prop :=
  ∀ (ce sl : Nat) (M : mj_M) (pc : Nat) (lo : mj_L) (st : List Value) (ins : Instr) (idx r1 r2 : Nat) (as rest : List Value) (d' mc' ms' : Nat) (Qr : Option Value → mj_M → Prop), mj_cd i pc = some (ins, 3, r1, r2) → (ins = .invokevirtual idx ∨ ins = .invokespecial idx ∨ ins = .invokestatic idx) → r1 < mj_N → (r2 = 0 ∨ r2 = 1) → mj_ki r1 = mj_kd ins →
    mj_sp (bif Nat.beq (mj_ki r1) 0 then mj_np r1 else mj_np r1 + 1) [] st = some (as, rest) → (mj_ki r1 = 1 → mj_rc r1 M (as.headD .null) = true) → (mj_ki r1 = 2 → mj_isr (as.headD .null) = true) → mj_Me l r1 d' mc' ms' as M Qr → d' + 1 ≤ d → ce + mc' ≤ mc → sl + ms' ≤ ms → mj_cs rest ≤ 8 →
    (∀ (rv : Option Value) (M' : mj_M), Qr rv M' → M'.length = M.length + mc' → J (ce + mc') (sl + ms') M' (pc + 3) lo (rv.toList ++ rest)) → J ce sl M pc lo st
def mj_R3 (i : Nat) (rt : Option FieldType) (mc ms : Nat) (Qr : Option Value → mj_M → Prop) (J : mj_JT) : Prop :=
  ∀ (ce sl : Nat) (M : mj_M) (pc : Nat) (lo : mj_L) (st : List Value) (ins : Instr) (len r1 r2 : Nat) (rv : Option Value), mj_cd i pc = some (ins, len, r1, r2) → mj_rtn rt ins len st = some rv → ce = mc → sl ≤ ms → Qr rv M → J ce sl M pc lo st
section MJR
variable {p : Program} {l : Launch} {e : Env} {R : Room} {s : State} {m : MethodId} {args : Array Value} {below : List Frame} {meth : Method} {c : Code} {Q : State → Prop}
variable {cc : ByteArray} {nL L own i d mc ms : Nat} {b0 : Nat} {ex : Nat → Nat} {dA : Nat → ClassId} {D : va_G} {xs : Nat → Int32} {ini : Bool}
def mj_Jd (p : Program) (l : Launch) (e : Env) (R : Room) (s : State) (m : MethodId) (args : Array Value) (below : List Frame) (meth : Method) (c : Code) (Q : State → Prop) (nL b0 : Nat) (ex : Nat → Nat) (dA : Nat → ClassId) (D : va_G) : mj_JT := fun ce sl M pc lo st =>
  s.heap.size + ce = b0 + M.length → ∀ (H : Heap) (locs : List Loc) (ls : Array Slot), va_P D vwCl (mj_ws b0 ex dA M) H → va_S (fun a => b0 ≤ a) s.heap H locs → lv_has ls nL (mj_tl b0 ex lo) → W p l e R s m args below meth c H locs ce sl Q (F0 m pc ls (mj_ts b0 ex st))
theorem mj_r1_ok (C : mj_Cx b0 ex dA D L xs p R m c cc nL s args own) (hini : ini = true → meth.name = "<init>") (hcd : ∀ pc q, mj_cd i pc = some q → decode cc pc = .ok (q.1, q.2.1) ∧ mj_ck own q.1 q.2.2.1 q.2.2.2 = true) (hmc : mc ≤ R.cells) (hms : ms ≤ R.slots) :
    mj_R1 L xs i own nL ini mc ms (mj_Jd p l e R s m args below meth c Q nL b0 ex dA D) := by
  intro ce sl M pc lo st ins len r1 r2 dc ds M' pc' lo' st' hc hst hce hsl k hq H locs ls hP hS hl
  obtain ⟨hdg, hck⟩ := hcd pc _ hc
  unfold mj_st at hst
  split at hst
  · rename_i r hr
    cases hst
    obtain ⟨rfl, rfl, rfl, h⟩ := mj_pu_ok (p := p) (l := l) (e := e) (R := R) (s := s) (m := m) (args := args) (below := below) (meth := meth) (c := c) (H := H) (locs := locs) (cells := ce) (slots := sl) (Q := Q) C.1 C.2.1 hl hdg hr
    exact h (fun ls' hl' => k hq H locs ls' hP hS hl')
  · obtain ⟨h1, rfl⟩ := mj_me_len hst
    exact mj_me_ok C hini hP hq hS hl.1 hdg hck hst (by omega) (by omega) (fun H1 locs1 g1 g3 => k (by rw [h1]; omega) H1 locs1 ls g1 g3 hl)
theorem mj_r2_ok (C : mj_Cx b0 ex dA D L xs p R m c cc nL s args own) (hcd : ∀ pc q, mj_cd i pc = some q → decode cc pc = .ok (q.1, q.2.1) ∧ mj_ck own q.1 q.2.2.1 q.2.2.2 = true) (hmc : mc ≤ R.cells) (hms : ms ≤ R.slots) (hfr : d ≤ R.frames) (hlo : 64 * d ≤ R.locals) :
    mj_R2 l i d mc ms (mj_Jd p l e R s m args below meth c Q nL b0 ex dA D) := by
  intro ce sl M pc lo st ins idx r1 r2 as rest d' mc' ms' Qr hc hins hi h2 hk hsp hrc hrf hM hd hce hsl hrest k hq H locs ls hP hS hl
  obtain ⟨hdg, hck⟩ := hcd pc _ hc
  exact mj_call C hP hq hS hl.1 hins hdg hck hi h2 hk hsp hrc hrf hM (by omega) (by omega) (by omega) (by omega) hrest (fun rv M' H1 locs1 g1 g2 g3 g4 => k rv M' g1 g2 (by rw [g2]; omega) H1 locs1 ls g3 g4 hl)
end MJR
theorem mj_sl_len (vs : List Value) : (lg_sl vs).length = mj_cs vs := by
  induction vs with
  | nil => rfl
  | cons v vs ih =>
    have h : (lg_sl (v :: vs)).length = (if v.category = 2 then [Slot.val v, .second] else [.val v]).length + (lg_sl vs).length := by
      simp [lg_sl]
    have h2 : mj_cs (v :: vs) = v.category + mj_cs vs := by simp [mj_cs]
    rw [h, h2, ih]
    rcases lv_cat v with e | e <;> simp [e]
theorem mj_tl_args (b0 : Nat) (ex : Nat → Nat) : ∀ (vs : List Value) (k : Nat), lv_args k (mj_ts b0 ex vs) = mj_tl b0 ex (lv_args k vs)
  | [], _ => rfl
  | v :: vs, k => by
    show (k, mj_tv b0 ex v) :: lv_args (if (mj_tv b0 ex v).category = 2 then k + 2 else k + 1) (mj_ts b0 ex vs) = (k, mj_tv b0 ex v) :: mj_tl b0 ex (lv_args (if v.category = 2 then k + 2 else k + 1) vs)
    rw [mj_tv_cat', mj_tl_args b0 ex vs]
set_option maxHeartbeats 4000000 in
theorem mj_Me_of {l : Launch} {i d mc ms : Nat} {as : List Value} {M : mj_M} {Qr : Option Value → mj_M → Prop} (hi : i < mj_N) (hd : 1 ≤ d) (hcs : mj_cs as ≤ mj_ml i)
    (h : ∀ (L : Nat) (xs : Nat → Int32) (J : mj_JT), mj_R1 L xs i (mj_ow i) (mj_ml i) (Nat.beq (mj_ki i) 2) mc ms J → mj_R2 l i d mc ms J → mj_R3 i (mj_rt i) mc ms Qr J → J 0 0 M 0 (lv_args 0 as) []) : mj_Me l i d mc ms as M Qr := by
  obtain ⟨f1, f2, f3, f4, f5, f6, f7, f8, f9⟩ := mj_facts hi
  intro b0 ex dA D L xs
  refine Met.ofW (cc := mj_cc i) (maxL := mj_ml i) (ret := mj_rt i) f7 rfl ?_
  intro p e s m args below meth c s₁ B hml hv
  obtain ⟨rfl, hsz, hP, hK, hX⟩ := hv
  have hx := B.exec
  have hb := B.bytes
  have hr := B.returns
  have hts0 := atoms_spec (ws := mj_wl i) B.pre
  have hts : ∀ w ∈ mj_ww, w.before (mj_ts b0 ex as).toArray s = true := fun w hw => hts0 w (List.mem_cons_of_mem _ hw)
  have hown : s.vm.findClass (mj_y i).cls = some m.cls := findClass_of_methodNamed B.named
  have hlocks := B.notSynchronized
  have hnm : meth.name = (mj_y i).name := (name_of_methodNamed B.named B.method).1
  have hl := lv_entry (mj_ts b0 ex as) (n := mj_ml i) (by rw [mj_sl_len, mj_words]; exact hcs)
  rw [lg_entry_eq]
  generalize (lg_sl (mj_ts b0 ex as) ++ List.replicate (mj_ml i - (lg_sl (mj_ts b0 ex as)).length) Slot.unset).toArray = ls at hl ⊢
  rw [mj_tl_args] at hl
  have C : mj_Cx b0 ex dA D L xs p (mj_rm d mc ms) m c (mj_cc i) (mj_ml i) s (mj_ts b0 ex as).toArray (mj_ow i) := ⟨hx, hb, hml, by rw [f8]; exact hown, hts, hK, by omega, hX, hd, by show 64 ≤ 64 * d; omega⟩
  have hini : Nat.beq (mj_ki i) 2 = true → meth.name = "<init>" := fun z => hnm.trans (f4 (Nat.eq_of_beq_eq_true z))
  refine h L xs (mj_Jd p l e (mj_rm d mc ms) s m (mj_ts b0 ex as).toArray below meth c (MQ below (mj_Qc b0 ex dA D M mc Qr) (mj_ts b0 ex as).toArray s mc ms (fun q => b0 ≤ q)) (mj_ml i) b0 ex dA D) (mj_r1_ok C hini (mj_cpa i hi) (Nat.le_refl _) (Nat.le_refl _)) (mj_r2_ok C (mj_cpa i hi) (Nat.le_refl _) (Nat.le_refl _) (Nat.le_refl _) (Nat.le_refl _)) ?_ (by rw [hsz]; omega) s.heap [] ls hP va_S.rf hl
  intro ce sl M' pc lo st ins len r1 r2 rv hc hrt hce hsl hQ hq H locs ls hP hS hl
  subst hce
  obtain ⟨hdg, -⟩ := mj_cpa i hi pc _ hc
  refine W.widen (Nat.le_refl _) hsl ?_
  have hlen : M'.length = M.length + ce := by omega
  unfold mj_rtn at hrt
  split at hrt
  · rename_i ty hr2
    split at hrt
    · rename_i hn
      cases hrt
      rw [hr2] at hr
      exact W.zret hx hb hr hn (fun t ht hW => ⟨some (.int _), M', rfl, hQ, hlen, by rw [ht]; exact hP, hS.F ht⟩) hS.2.2 hdg
    · cases hrt
  · rename_i hr2
    cases hrt
    rw [hr2] at hr
    exact W.lret hx hb hr (fun t ht hW => ⟨some (.long _), M', rfl, hQ, hlen, by rw [ht]; exact hP, hS.F ht⟩) hS.2.2 hdg
  · rename_i hr2
    cases hrt
    rw [hr2] at hr
    exact W.aret hx hb hr (Or.inl ⟨_, rfl⟩) (mj_ev_or ex _) (fun t ht hW => ⟨some (.retAddr _), M', rfl, hQ, hlen, by rw [ht]; exact hP, hS.F ht⟩) hS.2.2 hdg
  · rename_i hr2
    cases hrt
    rw [hr2] at hr
    exact W.vret hx hb hr (fun t ht hW => ⟨none, M', rfl, hQ, hlen, by rw [ht]; exact hP, hS.F ht⟩) hS.2.2 hdg
  · cases hrt
