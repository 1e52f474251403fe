/-! THE WORLD: what stood there before us, and what a body's state is -/
def mj_w1 (j : Nat) : Int32 := ([0, 2, 4, 6, 0, 1, 2, 3, 4, 5] : List Int32).getD j 0
def mj_w2 (j : Nat) : Int32 := ([1, 3, 5, 7, 2, 3, 4, 5, 6, 7] : List Int32).getD j 0
/-- arrays of before, by their places: the script, two rows of walls, the strings' bytes -/
def mj_xa (L : Nat) (xs : Nat → Int32) (k : Nat) : Option (FieldType × Nat × (Nat → Int32)) :=
  bif Nat.beq k 0 then some (.int, L, xs) else bif Nat.beq k 1 then some (.int, 10, mj_w1) else bif Nat.beq k 2 then some (.int, 10, mj_w2) else
  bif Nat.ble 30 k && Nat.blt k 43 then some (.byte, (mj_stb.getD (k - 30) []).length, fun j => (mj_stb.getD (k - 30) []).getD j 0) else none
def mj_xk (v : Value) : Nat := match v with
  | .retAddr k => k
  | _ => 0
def mj_X (b0 : Nat) (ex : Nat → Nat) (L : Nat) (xs : Nat → Int32) (U : State) (H : Heap) : Prop :=
  (∀ k q, mj_xa L xs k = some q → va_T q.1 (ex k) q.2.1 (fun j => .int (q.2.2 j)) (fun a => b0 ≤ a) U H) ∧
  (∀ k, 10 ≤ k → k < 23 → va_OF "java/lang/String" "coder" "B" (.int 0) (ex k) (fun a => b0 ≤ a) U H ∧ va_OF "java/lang/String" "value" "[B" (.ref (ex (k + 20))) (ex k) (fun a => b0 ≤ a) U H ∧ va_O "java/lang/String" (ex k) (fun a => b0 ≤ a) U H) ∧
  (∀ q ∈ mj_xs, va_Z q.1 q.2.1 q.2.2.1 (mj_tv b0 ex q.2.2.2) (fun a => b0 ≤ a) U H) ∧
  (∀ q ∈ mj_slk, vk_R (mj_cn q.1) q.2.1 q.2.2.2.2 (ex (mj_xk (mj_cv q.2.2.1))) U) ∧
  (∀ q ∈ mj_mlk, q.2.2.2.1 = 1 → va_Nw (Cond.methodLinkNest (mj_cn q.1) q.2.1 (mj_y q.2.2.1) "DreamsPayRent") U) ∧
  (∀ q ∈ mj_stk, ∀ r, mj_xs[q.2.2.1]? = some r → q.2.2.2.1 = 1 → va_Nw (Cond.fieldLinkNest (mj_cn q.1) q.2.1 r.1 r.2.1 r.2.2.1 "DreamsPayRent") U) ∧
  (∃ comp c k, U.vm.findClass (FieldType.array .int).toString = some comp ∧ U.vm.classes[c]? = some k ∧ k.kind = .array comp (.array .int) ∧ U.vm.findClass ("[" ++ (FieldType.array .int).toString) = some c ∧ (Cond.arrayOver (.array .int)).before #[] U = true)
theorem mj_AO_moved {u U : State} (hvm : u.vm.Alike U.vm) (h : (Cond.arrayOver (.array .int)).before #[] u = true) : (Cond.arrayOver (.array .int)).before #[] U = true := by
  unfold Cond.before Cond.holds at h ⊢
  simp only [Cond.value, beq_iff_eq] at h
  simp only [Cond.value]
  cases hc : u.vm.findClass (FieldType.array .int).toString with
  | none => simp [hc] at h
  | some comp =>
    have f1 : U.vm.findClass (FieldType.array .int).toString = some comp := by rw [hvm.findClass]; exact hc
    simp only [hc, Option.bind_some, Option.bind_eq_some_iff, Option.map_eq_some_iff] at h
    obtain ⟨c, hi, k, hk, hb⟩ := h
    have hi2 : (U.vm.classes.findIdx? fun (x : Class) => match x.kind with | .array component _ => component == comp | _ => false) = some c := by
      have e1 := va_idx_bare U.vm comp
      have e2 := va_idx_bare u.vm comp
      rw [hvm.bare_eq] at e1
      exact e1.symm.trans (e2.trans hi)
    obtain ⟨k', hk', he⟩ := hvm.2.2 _ _ hk
    rw [f1, Option.bind_some]
    refine (congrArg (fun o : Option Nat => (o.bind (fun c => (U.vm.classes[c]?).map fun (k : Class) => match k.kind with | .array _ ty => decide (ty = FieldType.array .int) && decide (U.vm.findClass ("[" ++ (FieldType.array .int).toString) = some c) | _ => false) == some true)) hi2).trans ?_
    cases hkind : k.kind with
    | array component ty =>
      rw [hkind] at hb
      simp at hb
      have hkind' : k'.kind = .array component ty := by rw [he]; exact hkind
      have f2 : U.vm.findClass ("[" ++ (FieldType.array .int).toString) = some c := by rw [hvm.findClass]; exact hb.2
      simp [hk', hkind', hb.1, f2]
    | _ => rw [hkind] at hb; simp at hb
theorem mj_X.to {b0 : Nat} {ex : Nat → Nat} {L : Nat} {xs : Nat → Int32} {s U : State} {H H1 : Heap} (h : mj_X b0 ex L xs s H) (hW : s.WarmedH U.vm) (hH : ∀ a : Nat, a < H.size → ¬ b0 ≤ a → H1[a]? = H[a]?) : mj_X b0 ex L xs U H1 := by
  obtain ⟨h1, h2, h3, h4, h5, h6, comp, c, k, g1, g2, g3, g4, g5⟩ := h
  refine ⟨fun k q hq => ((h1 k q hq).kept hH).moved hW.alike, fun k hk hk2 => ?_, fun q hq => ((h3 q hq).kept hH).moved hW.alike, fun q hq => (h4 q hq).warm hW, fun q hq e => (h5 q hq e).warmM hW, fun q hq r hr e => (h6 q hq r hr e).warmF hW, ?_⟩
  · obtain ⟨a1, a2, a3⟩ := h2 k hk hk2
    exact ⟨(a1.kept hH).moved hW.alike, (a2.kept hH).moved hW.alike, (a3.kept hH).moved hW.alike⟩
  · obtain ⟨k', hk', he⟩ := hW.alike.2.2 _ _ g2
    exact ⟨comp, c, k', by rw [hW.alike.findClass]; exact g1, hk', by rw [he]; exact g3, by rw [hW.alike.findClass]; exact g4, mj_AO_moved hW.alike g5⟩
theorem mj_X.same {b0 : Nat} {ex : Nat → Nat} {L : Nat} {xs : Nat → Int32} {u U : State} {H : Heap} (h : mj_X b0 ex L xs u H) (hv : U.vm = u.vm) : mj_X b0 ex L xs U H := by
  have al : u.vm.Alike U.vm := by rw [hv]; exact Vm.Alike.refl _
  obtain ⟨h1, h2, h3, h4, h5, h6, comp, c, k, g1, g2, g3, g4, g5⟩ := h
  refine ⟨fun k q hq => (h1 k q hq).moved al, fun k hk hk2 => ?_, fun q hq => (h3 q hq).moved al, fun q hq => (h4 q hq).same hv, fun q hq e => va_Nw.same rfl hv.symm (h5 q hq e), fun q hq r hr e => va_Nw.same rfl hv.symm (h6 q hq r hr e), ?_⟩
  · obtain ⟨a1, a2, a3⟩ := h2 k hk hk2
    exact ⟨a1.moved al, a2.moved al, a3.moved al⟩
  · exact ⟨comp, c, k, by rw [hv]; exact g1, by rw [hv]; exact g2, g3, by rw [hv]; exact g4, mj_AO_moved al g5⟩
/-- classes of ours, by their numbers: their fields' types, which class declares them -/
def mj_fty (ci k : Nat) : FieldType := match ci with
  | 0 => tyX0 k
  | 1 => tyX2 k
  | 2 => tyX3 k
  | 3 => tyX5 k
  | 4 => tyX6 k
  | 5 => tyX7 k
  | _ => tyX8 k
def mj_fin (ci k : Nat) : Bool := match vwCl[ci]? with
  | some r => (r.2.1 k).2.2.2
  | none => true
def mj_cow (ci : Nat) : Nat := match ci with
  | 0 => 0
  | 1 => 2
  | 2 => 3
  | 3 => 5
  | 4 => 6
  | 5 => 7
  | _ => 8
def mj_clP (ci : Nat) (r : vw_C) : Prop := (∀ w ∈ u_ws r.1 r.2.1 r.2.2, w ∈ mj_ww) ∧ (∀ k, k < r.2.2 → parseFieldDescriptor (r.2.1 k).2.2.1 = some (mj_fty ci k)) ∧ (∀ a, a < r.2.2 → ∀ b, b < r.2.2 → a ≠ b → (r.2.1 a).2.1 ≠ (r.2.1 b).2.1) ∧ (∀ k, k < r.2.2 → (r.2.1 k).1 = mj_cn (mj_cow ci))
theorem mj_cl0 : mj_clP 0 (RX0, TX0, 13) := ⟨by decide +kernel, tyX0_ok, nmX0, by decide +kernel⟩
theorem mj_cl1 : mj_clP 1 (RX2, TX2, 11) := ⟨by decide +kernel, tyX2_ok, nmX2, by decide +kernel⟩
theorem mj_cl2 : mj_clP 2 (RX3, TX3, 3) := ⟨by decide +kernel, tyX3_ok, nmX3, by decide +kernel⟩
theorem mj_cl3 : mj_clP 3 (RX5, TX5, 5) := ⟨by decide +kernel, tyX5_ok, nmX5, by decide +kernel⟩
theorem mj_cl4 : mj_clP 4 (RX6, TX6, 10) := ⟨by decide +kernel, tyX6_ok, nmX6, by decide +kernel⟩
theorem mj_cl5 : mj_clP 5 (RX7, TX7, 8) := ⟨by decide +kernel, tyX7_ok, nmX7, by decide +kernel⟩
theorem mj_cl6 : mj_clP 6 (RX8, TX8, 58) := ⟨by decide +kernel, tyX8_ok, nmX8, by decide +kernel⟩
theorem mj_cls : ∀ (ci : Nat) (r : vw_C), vwCl[ci]? = some r → mj_clP ci r
  | 0, r, h => by cases h; exact mj_cl0
  | 1, r, h => by cases h; exact mj_cl1
  | 2, r, h => by cases h; exact mj_cl2
  | 3, r, h => by cases h; exact mj_cl3
  | 4, r, h => by cases h; exact mj_cl4
  | 5, r, h => by cases h; exact mj_cl5
  | 6, r, h => by cases h; exact mj_cl6
  | n + 7, r, h => by simp [vwCl] at h
def mj_fit (ty : FieldType) (v : Value) : Bool := match ty, v with
  | .int, .int _ => true
  | .boolean, .int x => x == 0 || x == 1
  | .long, .long _ => true
  | .object _, .ref _ => true
  | .array _, .ref _ => true
  | _, _ => false
theorem mj_fit_ok {ty : FieldType} {v : Value} (b0 : Nat) (ex : Nat → Nat) (h : mj_fit ty v = true) : narrow ty (mj_tv b0 ex v) = mj_tv b0 ex v ∧ fits ty (mj_tv b0 ex v) = true := by
  unfold mj_fit at h
  split at h
  · exact ⟨rfl, rfl⟩
  · rename_i x
    rcases (by simpa using h : x = 0 ∨ x = 1) with rfl | rfl
    · exact ⟨by show narrow .boolean (.int 0) = .int 0; decide +kernel, by show fits .boolean (.int 0) = true; decide +kernel⟩
    · exact ⟨by show narrow .boolean (.int 1) = .int 1; decide +kernel, by show fits .boolean (.int 1) = true; decide +kernel⟩
  · exact ⟨rfl, rfl⟩
  · exact ⟨rfl, rfl⟩
  · exact ⟨rfl, rfl⟩
  · cases h
