theorem mj_wo1 : Cond.instanceMethod Lib.objectInit ∈ mj_ww := by decide +kernel
theorem mj_wo2 : (Cond.code Lib.objectInit ⟨#[0xb1]⟩ 1 none) ∈ mj_ww := by decide +kernel
theorem mj_wm1 : Cond.static Lib.Math.max.name ∈ mj_ww := by decide +kernel
theorem mj_wm2 : Cond.initialized "java/lang/Math" ∈ mj_ww := by decide +kernel
theorem mj_wm3 : Cond.code Lib.Math.max.name Lib.Math.max.code 2 (some .int) ∈ mj_ww := by decide +kernel
theorem mj_wn1 : Cond.static Lib.Math.min.name ∈ mj_ww := by decide +kernel
theorem mj_wn3 : Cond.code Lib.Math.min.name Lib.Math.min.code 2 (some .int) ∈ mj_ww := by decide +kernel
theorem mj_wa1 : Cond.native arraycopyName ∈ mj_ww := by decide +kernel
theorem mj_wa2 : Cond.static arraycopyName ∈ mj_ww := by decide +kernel
theorem mj_wa3 : Cond.initialized "java/lang/System" ∈ mj_ww := by decide +kernel
theorem mj_wy1 : Cond.arrayClass .int ∈ mj_ww := by decide +kernel
theorem mj_wy2 : Cond.arrayClass .boolean ∈ mj_ww := by decide +kernel
section MJP
variable {p : Program} {l : Launch} {e : Env} {R : Room} {s : State} {m : MethodId} {args : Array Value} {below : List Frame} {meth : Method} {c : Code} {H : Heap} {locs : List Loc} {ce sl : Nat} {Q : State → Prop}
variable {cc : ByteArray} {pc pc' nL L len dc ds : Nat} {ls : Array Slot} {b0 : Nat} {ex : Nat → Nat} {dA : Nat → ClassId} {D : va_G} {xs : Nat → Int32} {own r1 r2 : Nat} {M M' : mj_M} {lo lo' : mj_L} {st st' : List Value} {ini : Bool} {ins : Instr} {g : JFrame}
/-- how many cells there are: no more than were made, no fewer than are known -/
theorem mj_size (hP : va_P D vwCl (mj_ws b0 ex dA M) H) (hS : va_S (fun a => b0 ≤ a) s.heap H locs) (hb0 : b0 ≤ s.heap.size) (hq : s.heap.size + ce = b0 + M.length) (k : H.size = b0 + M.length → W p l e R s m args below meth c H locs ce sl Q g) : W p l e R s m args below meth c H locs ce sl Q g := by
  intro T hT X
  refine k ?_ T hT X
  have h1 := X.heapSize
  rw [hT] at h1
  refine Nat.le_antisymm (by omega) ?_
  cases hM : M.length with
  | zero => have := hS.1; omega
  | succ n =>
    have hlt : n < (mj_ws b0 ex dA M).length := by rw [mj_ws_len]; omega
    have h2 := (hP n _ (List.getElem?_eq_getElem hlt)).lt
    have h3 : ((mj_ws b0 ex dA M)[n]).1 = b0 + n := by simp [mj_ws]
    rw [h3] at h2
    omega
theorem mj_me_len (h : mj_me L xs own ini ins len r1 r2 M pc lo st = some (dc, ds, M', pc', lo', st')) : M'.length = M.length + dc ∧ lo' = lo := by
  unfold mj_me at h
  repeat' (split at h)
  all_goals first
    | (cases h; done)
    | (cases h; refine ⟨?_, rfl⟩; simp; done)
    | (cases h; refine ⟨?_, rfl⟩; simp; omega)
set_option maxHeartbeats 4000000 in
theorem mj_me_ok (C : mj_Cx b0 ex dA D L xs p R m c cc nL s args own) (hini : ini = true → meth.name = "<init>") (hP : va_P D vwCl (mj_ws b0 ex dA M) H) (hq : s.heap.size + ce = b0 + M.length) (hS : va_S (fun a => b0 ≤ a) s.heap H locs) (hl : ls.size = nL)
    (hdg : decode cc pc = .ok (ins, len)) (hc : mj_ck own ins r1 r2 = true) (h : mj_me L xs own ini ins len r1 r2 M pc lo st = some (dc, ds, M', pc', lo', st')) (hce : ce + dc ≤ R.cells) (hsl : sl + ds ≤ R.slots)
    (k : ∀ (H1 : Heap) (locs1 : List Loc), va_P D vwCl (mj_ws b0 ex dA M') H1 → va_S (fun a => b0 ≤ a) s.heap H1 locs1 → W p l e R s m args below meth c H1 locs1 (ce + dc) (sl + ds) Q (F0 m pc' ls (mj_ts b0 ex st'))) :
    W p l e R s m args below meth c H locs ce sl Q (F0 m pc ls (mj_ts b0 ex st)) := by
  have C0 := C
  obtain ⟨hx, hb, hml, hown, hts, hK, hb0, hX, hfr, hlo⟩ := C
  have key : ∀ {H1 : Heap} {q : Nat} {x : va_E}, va_P D vwCl ((mj_ws b0 ex dA M).set q (b0 + q, mj_te b0 ex dA x)) H1 → va_P D vwCl (mj_ws b0 ex dA (M.set q x)) H1 := fun h => by rw [← mj_ws_set]; exact h
  have hK0 : ∀ {H9 : Heap}, va_P D vwCl (mj_ws b0 ex dA M) H9 → va_P D vwCl (mj_ws b0 ex dA M) H9 := fun h => h
  unfold mj_me at h
  split at h
  · -- getfield
    split at h
    · rename_i hM
      split at h
      · rename_i hh
        obtain ⟨rfl, h7⟩ := hh
        split at h
        · rename_i hv
          cases h
          exact mj_getf C0 hP hdg hc h7 hM hv (k H locs hP hS)
        · cases h
      · cases h
    · cases h
  · -- getfield of a text
    split at h
    · rename_i hh
      obtain ⟨rfl, h1, h2⟩ := hh
      have hw := mj_ck_getx hc
      obtain ⟨a1, a2, a3⟩ := hX.2.1 _ h1 h2
      cases hb2 : Nat.beq r2 0 with
      | true =>
        rw [hb2] at h hw
        cases h
        rw [mj_ts_x (show _ ≠ 3 from Nat.ne_of_gt (Nat.lt_of_lt_of_le (by decide) h1))]
        exact vk_getf hx hb a1 hS hown (hts _ hw) (fun _ h9 => h9) hdg (k H locs hP hS)
      | false =>
        rw [hb2] at h hw
        cases h
        rw [mj_ts_x (show _ ≠ 3 from Nat.ne_of_gt (Nat.lt_of_lt_of_le (by decide) h1))]
        refine vk_getf hx hb a2 hS hown (hts _ hw) (fun _ h9 => h9) hdg ?_
        have k2 := k H locs hP hS
        rw [cond_false, mj_ts_x (show _ ≠ 3 from Nat.ne_of_gt (Nat.lt_of_lt_of_le (by decide) (Nat.le_trans h1 (Nat.le_add_right _ 20))))] at k2
        exact k2
    · cases h
  · -- putfield
    split at h
    · rename_i hM
      split at h
      · rename_i hh
        obtain ⟨⟨rfl, h7⟩, h1, h2, h3⟩ := hh
        cases h
        exact mj_putf C0 hini hP hS hdg hc h7 hM h1 h2 h3 (fun H1 locs1 g1 g3 => k H1 locs1 g1 g3)
      · cases h
    · cases h
  · -- getstatic
    split at h
    · rename_i h7
      split at h
      · rename_i hr
        split at h
        · rename_i h2
          cases h
          exact mj_gets C0 hS hdg hc h7 hr h2 (k H locs hP hS)
        · cases h
      · cases h
    · cases h
  · -- ldc
    split at h
    · rename_i h7
      split at h
      · rename_i hv
        split at h
        · cases h
        · rename_i h2
          cases h
          exact lv_ldc hx hb hown (hts _ ((mj_ck_ldi hc h7 hv).resolve_left h2)) hdg (k H locs hP hS)
      · rename_i hv
        split at h
        · rename_i h2
          subst h2
          cases h
          exact mj_ldS C0 hdg hc h7 hv (k H locs hP hS)
        · cases h
      · cases h
    · cases h
  · -- ldc_w
    split at h
    · rename_i h7
      split at h
      · rename_i hv
        cases h
        exact lv_ldcw hx hb hown (hts _ (mj_ck_ldw hc h7 hv)) hdg (k H locs hP hS)
      · cases h
    · cases h
  · -- ldc2_w
    split at h
    · rename_i h7
      split at h
      · rename_i hv
        cases h
        exact lv_ldc2 hx hb hown (hts _ (mj_ck_ld2 hc h7 hv)) hdg (k H locs hP hS)
      · cases h
    · cases h
  · -- iaload
    split at h
    · rename_i hM
      split at h
      · rename_i hi
        cases h
        exact va_iald (cl := vwCl) hx hb hK hP _ 0 (mj_ws_get hM) rfl (mj_vi_ok hi) hdg (k H locs hP hS)
      · cases h
    · cases h
  · split at h
    · rename_i hM
      split at h
      · rename_i hi
        cases h
        rw [show mj_ts b0 ex (.int _ :: .retAddr _ :: _) = .int _ :: .ref (ex _) :: mj_ts b0 ex _ from congrArg (List.cons _) (mj_ts_x (mj_xa_ne hM))]
        exact va_ti hx hb (hX.1 _ _ hM) hS (mj_vi_ok hi) rfl hdg (k H locs hP hS)
      · cases h
    · cases h
  · -- baload
    split at h
    · rename_i hM
      split at h
      · rename_i hi
        cases h
        exact va_zald (cl := vwCl) hx hb hK hP _ 1 (mj_ws_get hM) rfl (mj_vi_ok hi) hdg (k H locs hP hS)
      · cases h
    · cases h
  · split at h
    · rename_i hM
      split at h
      · rename_i hi
        cases h
        rw [show mj_ts b0 ex (.int _ :: .retAddr _ :: _) = .int _ :: .ref (ex _) :: mj_ts b0 ex _ from congrArg (List.cons _) (mj_ts_x (mj_xa_ne hM))]
        exact va_tb hx hb (hX.1 _ _ hM) hS (mj_vi_ok hi) rfl hdg (k H locs hP hS)
      · cases h
    · cases h
  · -- aaload
    split at h
    · rename_i n g hM
      split at h
      · rename_i hi
        split at h
        · rename_i r hg
          cases h
          refine W.aald (v := Value.ref (b0 + r)) (ty := .array .int) hx hb (hP _ _ (mj_ws_get hM)) ((hK.2 2 _ rfl).1 n (fun j => va_rf ((g j).map (fun k => b0 + k)))) rfl (fun z => by cases z) (by show ¬ (_ < 0 ∨ (arrV _ _ _).slots.size ≤ _); rw [arrV_size]; exact mj_vi_ok hi) ?_ rfl rfl hdg (k H locs hP hS)
          show (arrV _ _ _).slots[_]? = _
          rw [arrV_read _ _ (Nat.not_le.mp fun z => mj_vi_ok hi (Or.inr z))]
          show some (va_rf ((g _).map (fun k => b0 + k))) = _
          rw [hg]
          rfl
        · cases h
      · cases h
    · cases h
  · -- arraylength
    split at h
    · rename_i n x hM
      cases h
      obtain f | f | f | f | f := x <;> exact va_alen (cl := vwCl) hx hb hK hP _ 0 (mj_ws_get hM) rfl rfl hdg (k H locs hP hS)
    · rename_i n x hM
      cases h
      obtain f | f | f | f | f := x <;> exact va_alen (cl := vwCl) hx hb hK hP _ 1 (mj_ws_get hM) rfl rfl hdg (k H locs hP hS)
    · rename_i n x hM
      cases h
      obtain f | f | f | f | f := x <;> exact va_alen (cl := vwCl) hx hb hK hP _ 2 (mj_ws_get hM) rfl rfl hdg (k H locs hP hS)
    · cases h
  · split at h
    · rename_i hM
      cases h
      rw [mj_ts_x (mj_xa_ne hM)]
      exact va_tlen hx hb (hX.1 _ _ hM) hS rfl hdg (k H locs hP hS)
    · cases h
  · -- iastore
    split at h
    · rename_i hM
      split at h
      · rename_i hi
        cases h
        exact va_iast (cl := vwCl) hx hb hK hP mj_ws_D hS _ 0 (mj_ws_get hM) rfl (mj_vi_ok hi) hdg (fun H1 locs1 g1 _ g3 => k H1 locs1 (key g1) g3)
      · cases h
    · cases h
  · -- bastore
    split at h
    · rename_i hM
      split at h
      · rename_i hi
        cases h
        exact va_zast (cl := vwCl) hx hb hK hP mj_ws_D hS _ 1 (mj_ws_get hM) rfl (mj_vi_ok hi) hdg (fun H1 locs1 g1 _ g3 => k H1 locs1 (key g1) g3)
      · cases h
    · cases h
  · -- newarray
    split at h
    · cases h
    · rename_i hh
      cases h
      exact mj_size hP hS hb0 hq (fun hz => mj_newa (z := 0) C0 hP hz hS hdg mj_wy1 rfl rfl (fun z => z) (fun z => hh (Or.inl z)) (Nat.not_lt.mp fun z => hh (Or.inr z)) hce hsl (fun H1 g1 _ g3 => k H1 locs g1 g3))
  · split at h
    · cases h
    · rename_i hh
      cases h
      exact mj_size hP hS hb0 hq (fun hz => mj_newa (z := 0) C0 hP hz hS hdg mj_wy2 rfl rfl (fun z => z) (fun z => hh (Or.inl z)) (by have := Nat.not_lt.mp fun z => hh (Or.inr z); show _ * 1 ≤ _; omega) hce hsl (fun H1 g1 _ g3 => k H1 locs g1 g3))
  · -- multianewarray
    split at h
    · cases h
    · rename_i hh
      cases h
      exact mj_size hP hS hb0 hq (fun hz => mj_mna C0 hP hz hS mj_wy1 hdg hc (Nat.not_le.mp fun z => hh (Or.inr (Or.inr (Or.inr (Or.inr z))))) (fun z => hh (Or.inl z)) (fun z => hh (Or.inr (Or.inl z))) (Nat.not_lt.mp fun z => hh (Or.inr (Or.inr (Or.inl z)))) (Nat.not_lt.mp fun z => hh (Or.inr (Or.inr (Or.inr (Or.inl z))))) hce hsl (fun H1 g1 _ g3 => k H1 locs g1 g3))
  · -- new
    split at h
    · rename_i h7
      cases h
      exact mj_size hP hS hb0 hq (fun hz => mj_newo C0 hP hz hS hdg hc h7 hce hsl (fun H1 g1 _ g3 => k H1 locs g1 g3))
    · cases h
  · -- Object.<init>
    split at h
    · rename_i hh
      obtain ⟨rfl, h8⟩ := hh
      cases h
      exact mj_obj C0 hl mj_wo1 mj_wo2 hdg hc h8 (k H locs hP hS)
    · cases h
  · -- arraycopy
    split at h
    · rename_i hh
      obtain ⟨rfl, h8⟩ := hh
      split at h
      · rename_i h0 h1
        split at h
        · cases h
        · rename_i hn
          cases h
          exact mj_acp C0 hP hS hl mj_wa1 mj_wa2 mj_wa3 hdg hc h8 h0 h1 hn (fun H1 locs1 g1 g3 => k H1 locs1 g1 g3)
      · cases h
    · cases h
  · -- max, min
    split at h
    · rename_i hh
      obtain ⟨rfl, h8⟩ := hh
      cases h
      exact mj_max C0 hl hce hsl mj_wm1 mj_wm2 mj_wm3 hdg hc h8 (k H locs hP hS)
    · split at h
      · rename_i hh
        obtain ⟨rfl, h8⟩ := hh
        cases h
        exact mj_min C0 hl hce hsl mj_wn1 mj_wm2 mj_wn3 hdg hc h8 (k H locs hP hS)
      · cases h
  · cases h
end MJP
