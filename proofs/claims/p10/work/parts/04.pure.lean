section MJR
variable {p : Program} {l : Launch} {e : Env} {R : Room} {s : State} {m : MethodId} {args : Array Value} {below : List Frame} {meth : Method} {c : Code} {H : Heap} {locs : List Loc} {cells slots : Nat} {Q : State → Prop}
variable {cc : ByteArray} {pc pc' nL dc ds len : Nat} {ls : Array Slot} {b0 : Nat} {ex : Nat → Nat} {M M' : mj_M} {lo lo' : mj_L} {st st' : List Value} {ins : Instr}
theorem mj_jp_eq {M M' : mj_M} {pc pc' dc ds : Nat} {off : Int} {lo lo' : mj_L} {st st' : List Value} (h : mj_jp M pc off lo st = some (dc, ds, M', pc', lo', st')) : dc = 0 ∧ ds = 0 ∧ M' = M ∧ lo' = lo ∧ st' = st ∧ (pc : Int) + off = (pc' : Int) := by
  unfold mj_jp at h
  split at h
  · cases h
    exact ⟨rfl, rfl, rfl, rfl, rfl, by omega⟩
  · cases h
theorem mj_br_eq {M M' : mj_M} {pc pc' dc ds : Nat} {off : Int} {lo lo' : mj_L} {st st' : List Value} {t : Bool} (h : mj_br M pc off lo st t = some (dc, ds, M', pc', lo', st')) : ∃ tgt : Nat, dc = 0 ∧ ds = 0 ∧ M' = M ∧ lo' = lo ∧ st' = st ∧ (pc : Int) + off = (tgt : Int) ∧ (t = true → pc' = tgt) ∧ (t = false → pc' = pc + 3) := by
  unfold mj_br at h
  split at h
  · cases t
    · cases h
      exact ⟨((pc : Int) + off).toNat, rfl, rfl, rfl, rfl, rfl, by omega, fun q => (by cases q), fun _ => rfl⟩
    · cases h
      exact ⟨((pc : Int) + off).toNat, rfl, rfl, rfl, rfl, rfl, by omega, fun _ => rfl, fun q => (by cases q)⟩
  · cases h
set_option maxHeartbeats 4000000 in
theorem mj_pu_ok (hx : p.tables.exec = Jvm.exec) (hb : c.code = cc) (hl : lv_has ls nL (mj_tl b0 ex lo)) (hdg : decode cc pc = .ok (ins, len)) (h : mj_pu ins len nL M pc lo st = some (dc, ds, M', pc', lo', st')) :
    dc = 0 ∧ ds = 0 ∧ M' = M ∧ ((∀ ls' : Array Slot, lv_has ls' nL (mj_tl b0 ex lo') → W p l e R s m args below meth c H locs cells slots Q (F0 m pc' ls' (mj_ts b0 ex st'))) → W p l e R s m args below meth c H locs cells slots Q (F0 m pc ls (mj_ts b0 ex st))) := by
  unfold mj_pu at h
  split at h
  · cases h; exact ⟨rfl, rfl, rfl, fun k => lv_iconst hx hb hdg rfl (k ls hl)⟩
  · cases h; exact ⟨rfl, rfl, rfl, fun k => lv_bipush hx hb hdg rfl (k ls hl)⟩
  · cases h; exact ⟨rfl, rfl, rfl, fun k => lv_sipush hx hb hdg rfl (k ls hl)⟩
  · cases h; exact ⟨rfl, rfl, rfl, fun k => lv_lconst hx hb hdg rfl (k ls hl)⟩
  · cases h; exact ⟨rfl, rfl, rfl, fun k => lv_null hx hb hdg (k ls hl)⟩
  · split at h
    · rename_i hlk
      cases h; exact ⟨rfl, rfl, rfl, fun k => lv_iload_n hx hb hdg rfl (mj_lv hl hlk) (k ls hl)⟩
    · cases h
  · split at h
    · rename_i hlk
      cases h; exact ⟨rfl, rfl, rfl, fun k => lv_iload hx hb hdg (mj_lv hl hlk) (k ls hl)⟩
    · cases h
  · split at h
    · rename_i hlk
      cases h; exact ⟨rfl, rfl, rfl, fun k => lv_lload_n hx hb hdg rfl (mj_lv hl hlk) (k ls hl)⟩
    · cases h
  · split at h
    · rename_i hlk
      cases h; exact ⟨rfl, rfl, rfl, fun k => lv_lload hx hb hdg (mj_lv hl hlk) (k ls hl)⟩
    · cases h
  · split at h
    · rename_i hlk
      cases h; exact ⟨rfl, rfl, rfl, fun k => lv_aload_n hx hb hdg rfl (mj_lv hl hlk) (k ls hl)⟩
    · rename_i x hlk
      cases h
      refine ⟨rfl, rfl, rfl, fun k => ?_⟩
      have h9 := mj_lv hl hlk
      have k2 := k ls hl
      rw [show mj_tv b0 ex (.retAddr x) = mj_ev ex x from rfl] at h9
      rw [show mj_ts b0 ex (.retAddr x :: st) = mj_ev ex x :: mj_ts b0 ex st from rfl] at k2
      rcases mj_ev_or ex x with e9 | ⟨a9, e9⟩
      · rw [e9] at h9 k2
        exact lv_aload_nN hx hb hdg rfl h9 k2
      · rw [e9] at h9 k2
        exact lv_aload_n hx hb hdg rfl h9 k2
    · cases h
  · split at h
    · rename_i hlk
      cases h; exact ⟨rfl, rfl, rfl, fun k => lv_aload hx hb hdg (mj_lv hl hlk) (k ls hl)⟩
    · rename_i x hlk
      cases h
      refine ⟨rfl, rfl, rfl, fun k => ?_⟩
      have h9 := mj_lv hl hlk
      have k2 := k ls hl
      rw [show mj_tv b0 ex (.retAddr x) = mj_ev ex x from rfl] at h9
      rw [show mj_ts b0 ex (.retAddr x :: st) = mj_ev ex x :: mj_ts b0 ex st from rfl] at k2
      rcases mj_ev_or ex x with e9 | ⟨a9, e9⟩
      · rw [e9] at h9 k2
        exact lv_aloadN hx hb hdg h9 k2
      · rw [e9] at h9 k2
        exact lv_aload hx hb hdg h9 k2
    · cases h
  · split at h
    · rename_i hn
      cases h; exact ⟨rfl, rfl, rfl, fun k => lv_istore_n hx hb hdg rfl hl hn (mj_tl_s1 b0 ex lo _ (.int _)) (fun ls' hl' => k ls' hl')⟩
    · cases h
  · split at h
    · rename_i hn
      cases h; exact ⟨rfl, rfl, rfl, fun k => lv_istore hx hb hdg hl hn (mj_tl_s1 b0 ex lo _ (.int _)) (fun ls' hl' => k ls' hl')⟩
    · cases h
  · split at h
    · rename_i hn
      cases h; exact ⟨rfl, rfl, rfl, fun k => lv_lstore_n hx hb hdg rfl hl hn (mj_tl_s2 b0 ex lo _ (.long _)) (fun ls' hl' => k ls' hl')⟩
    · cases h
  · split at h
    · rename_i hn
      cases h; exact ⟨rfl, rfl, rfl, fun k => lv_lstore hx hb hdg hl hn (mj_tl_s2 b0 ex lo _ (.long _)) (fun ls' hl' => k ls' hl')⟩
    · cases h
  · split at h
    · rename_i hn
      cases h; exact ⟨rfl, rfl, rfl, fun k => lv_astore_n hx hb hdg rfl hl hn (mj_tl_s1 b0 ex lo _ (.ref _)) (fun ls' hl' => k ls' hl')⟩
    · cases h
  · split at h
    · rename_i hn
      cases h; exact ⟨rfl, rfl, rfl, fun k => lv_astore hx hb hdg hl hn (mj_tl_s1 b0 ex lo _ (.ref _)) (fun ls' hl' => k ls' hl')⟩
    · cases h
  · split at h
    · rename_i hlk
      split at h
      · rename_i hn
        cases h
        refine ⟨rfl, rfl, rfl, fun k => ?_⟩
        obtain ⟨k0, hk0⟩ := List.getElem?_of_mem (List.mem_map.mpr ⟨_, mj_lk_mem hlk, rfl⟩ : _ ∈ mj_tl b0 ex lo)
        exact lv_iinc hx hb hdg hl hk0 rfl hn (mj_tl_s1 b0 ex lo _ (.int _)) (fun ls' hl' => k ls' hl')
      · cases h
    · cases h
  · cases h; exact ⟨rfl, rfl, rfl, fun k => lv_iadd hx hb hdg (k ls hl)⟩
  · cases h; exact ⟨rfl, rfl, rfl, fun k => lv_isub hx hb hdg (k ls hl)⟩
  · cases h; exact ⟨rfl, rfl, rfl, fun k => lv_imul hx hb hdg (k ls hl)⟩
  · split at h
    · cases h
    · rename_i hne
      cases h; exact ⟨rfl, rfl, rfl, fun k => lv_idiv hx hb hdg hne (k ls hl)⟩
  · split at h
    · cases h
    · rename_i hne
      cases h; exact ⟨rfl, rfl, rfl, fun k => lv_irem hx hb hdg hne (k ls hl)⟩
  · cases h; exact ⟨rfl, rfl, rfl, fun k => lv_iand hx hb hdg (k ls hl)⟩
  · cases h; exact ⟨rfl, rfl, rfl, fun k => lv_ior hx hb hdg (k ls hl)⟩
  · cases h; exact ⟨rfl, rfl, rfl, fun k => lv_ishl hx hb hdg (k ls hl)⟩
  · cases h; exact ⟨rfl, rfl, rfl, fun k => lv_ishr hx hb hdg (k ls hl)⟩
  · cases h; exact ⟨rfl, rfl, rfl, fun k => lv_iushr hx hb hdg rfl (k ls hl)⟩
  · cases h; exact ⟨rfl, rfl, rfl, fun k => lv_ineg hx hb hdg (k ls hl)⟩
  · cases h; exact ⟨rfl, rfl, rfl, fun k => lv_ladd hx hb hdg (k ls hl)⟩
  · cases h; exact ⟨rfl, rfl, rfl, fun k => lv_lsub hx hb hdg (k ls hl)⟩
  · cases h; exact ⟨rfl, rfl, rfl, fun k => lv_lmul hx hb hdg (k ls hl)⟩
  · split at h
    · cases h
    · rename_i hne
      cases h; exact ⟨rfl, rfl, rfl, fun k => lv_ldiv hx hb hdg hne (k ls hl)⟩
  · split at h
    · cases h
    · rename_i hne
      cases h; exact ⟨rfl, rfl, rfl, fun k => lv_lrem hx hb hdg hne (k ls hl)⟩
  · cases h; exact ⟨rfl, rfl, rfl, fun k => W.lcmp hx hb hdg (k ls hl)⟩
  · cases h; exact ⟨rfl, rfl, rfl, fun k => lv_i2l hx hb hdg rfl (k ls hl)⟩
  · cases h; exact ⟨rfl, rfl, rfl, fun k => lv_l2i hx hb hdg rfl (k ls hl)⟩
  · cases h; exact ⟨rfl, rfl, rfl, fun k => lv_i2b hx hb hdg rfl (k ls hl)⟩
  · cases h; exact ⟨rfl, rfl, rfl, fun k => lv_i2s hx hb hdg rfl (k ls hl)⟩
  · cases h; exact ⟨rfl, rfl, rfl, fun k => lv_i2c hx hb hdg rfl (k ls hl)⟩
  · split at h
    · rename_i hv
      cases h; exact ⟨rfl, rfl, rfl, fun k => lv_dup hx hb hdg (by rw [mj_tv_cat']; exact hv) (k ls hl)⟩
    · cases h
  · split at h
    · rename_i hv
      cases h; exact ⟨rfl, rfl, rfl, fun k => lv_dup2_11 hx hb hdg (by rw [mj_tv_cat']; exact hv.1) (by rw [mj_tv_cat']; exact hv.2) (k ls hl)⟩
    · cases h
  · split at h
    · rename_i hv
      cases h; exact ⟨rfl, rfl, rfl, fun k => lv_pop hx hb hdg (by rw [mj_tv_cat']; exact hv) (k ls hl)⟩
    · cases h
  · split at h
    · rename_i hv
      cases h; exact ⟨rfl, rfl, rfl, fun k => lv_pop2_2 hx hb hdg (by rw [mj_tv_cat']; exact hv) (k ls hl)⟩
    · cases h
  · obtain ⟨rfl, rfl, rfl, rfl, rfl, ht⟩ := mj_jp_eq h
    exact ⟨rfl, rfl, rfl, fun k => lv_goto hx hb hdg ht (k ls hl)⟩
  · obtain ⟨tgt, rfl, rfl, rfl, rfl, rfl, ht, hT, hF⟩ := mj_br_eq h
    exact ⟨rfl, rfl, rfl, fun k => lv_if_eq hx hb hdg ht (fun q => by rw [← hT (decide_eq_true q)]; exact k ls hl) (fun q => by rw [← hF (decide_eq_false q)]; exact k ls hl)⟩
  · obtain ⟨tgt, rfl, rfl, rfl, rfl, rfl, ht, hT, hF⟩ := mj_br_eq h
    exact ⟨rfl, rfl, rfl, fun k => lv_if_ne hx hb hdg ht (fun q => by rw [← hT (decide_eq_true q)]; exact k ls hl) (fun q => by rw [← hF (decide_eq_false (not_not_intro q))]; exact k ls hl)⟩
  · obtain ⟨tgt, rfl, rfl, rfl, rfl, rfl, ht, hT, hF⟩ := mj_br_eq h
    exact ⟨rfl, rfl, rfl, fun k => lv_if_lt hx hb hdg ht (fun q => by rw [← hT (decide_eq_true q)]; exact k ls hl) (fun q => by rw [← hF (decide_eq_false q)]; exact k ls hl)⟩
  · obtain ⟨tgt, rfl, rfl, rfl, rfl, rfl, ht, hT, hF⟩ := mj_br_eq h
    exact ⟨rfl, rfl, rfl, fun k => lv_if_ge hx hb hdg ht (fun q => by rw [← hT (decide_eq_true q)]; exact k ls hl) (fun q => by rw [← hF (decide_eq_false q)]; exact k ls hl)⟩
  · obtain ⟨tgt, rfl, rfl, rfl, rfl, rfl, ht, hT, hF⟩ := mj_br_eq h
    exact ⟨rfl, rfl, rfl, fun k => lv_if_gt hx hb hdg ht (fun q => by rw [← hT (decide_eq_true q)]; exact k ls hl) (fun q => by rw [← hF (decide_eq_false q)]; exact k ls hl)⟩
  · obtain ⟨tgt, rfl, rfl, rfl, rfl, rfl, ht, hT, hF⟩ := mj_br_eq h
    exact ⟨rfl, rfl, rfl, fun k => lv_if_le hx hb hdg ht (fun q => by rw [← hT (decide_eq_true q)]; exact k ls hl) (fun q => by rw [← hF (decide_eq_false q)]; exact k ls hl)⟩
  · obtain ⟨tgt, rfl, rfl, rfl, rfl, rfl, ht, hT, hF⟩ := mj_br_eq h
    exact ⟨rfl, rfl, rfl, fun k => lv_icmp_eq hx hb hdg ht (fun q => by rw [← hT (decide_eq_true q)]; exact k ls hl) (fun q => by rw [← hF (decide_eq_false q)]; exact k ls hl)⟩
  · obtain ⟨tgt, rfl, rfl, rfl, rfl, rfl, ht, hT, hF⟩ := mj_br_eq h
    exact ⟨rfl, rfl, rfl, fun k => lv_icmp_ne hx hb hdg ht (fun q => by rw [← hT (decide_eq_true q)]; exact k ls hl) (fun q => by rw [← hF (decide_eq_false (not_not_intro q))]; exact k ls hl)⟩
  · obtain ⟨tgt, rfl, rfl, rfl, rfl, rfl, ht, hT, hF⟩ := mj_br_eq h
    exact ⟨rfl, rfl, rfl, fun k => lv_icmp_lt hx hb hdg ht (fun q => by rw [← hT (decide_eq_true q)]; exact k ls hl) (fun q => by rw [← hF (decide_eq_false q)]; exact k ls hl)⟩
  · obtain ⟨tgt, rfl, rfl, rfl, rfl, rfl, ht, hT, hF⟩ := mj_br_eq h
    exact ⟨rfl, rfl, rfl, fun k => lv_icmp_ge hx hb hdg ht (fun q => by rw [← hT (decide_eq_true q)]; exact k ls hl) (fun q => by rw [← hF (decide_eq_false q)]; exact k ls hl)⟩
  · obtain ⟨tgt, rfl, rfl, rfl, rfl, rfl, ht, hT, hF⟩ := mj_br_eq h
    exact ⟨rfl, rfl, rfl, fun k => lv_icmp_gt hx hb hdg ht (fun q => by rw [← hT (decide_eq_true q)]; exact k ls hl) (fun q => by rw [← hF (decide_eq_false q)]; exact k ls hl)⟩
  · obtain ⟨tgt, rfl, rfl, rfl, rfl, rfl, ht, hT, hF⟩ := mj_br_eq h
    exact ⟨rfl, rfl, rfl, fun k => lv_icmp_le hx hb hdg ht (fun q => by rw [← hT (decide_eq_true q)]; exact k ls hl) (fun q => by rw [← hF (decide_eq_false q)]; exact k ls hl)⟩
  · split at h
    · rename_i hc
      obtain ⟨rfl, rfl, rfl, rfl, rfl, ht⟩ := mj_jp_eq h
      exact ⟨rfl, rfl, rfl, fun k => lv_tableOut hx hb hdg hc ht (k ls hl)⟩
    · rename_i hc
      split at h
      · rename_i ho
        obtain ⟨rfl, rfl, rfl, rfl, rfl, ht⟩ := mj_jp_eq h
        exact ⟨rfl, rfl, rfl, fun k => lv_tableIn hx hb hdg (fun q => hc (Or.inl q)) (fun q => hc (Or.inr q)) ho ht (k ls hl)⟩
      · cases h
  · split at h
    · rename_i hp
      obtain ⟨rfl, rfl, rfl, rfl, rfl, ht⟩ := mj_jp_eq h
      exact ⟨rfl, rfl, rfl, fun k => lv_lookup hx hb hdg hp rfl ht (k ls hl)⟩
    · cases h
  · cases h
end MJR
