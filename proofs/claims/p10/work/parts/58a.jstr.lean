/-! TEXTS OF BEFORE: their letters -/
def hw_l (k : Nat) : List Int32 := mj_stb.getD (k - 10) []
def hw_c (k j : Nat) : Int32 := (hw_l k).getD j 0
section JS
variable {L own nL i : Nat} {xs : Nat → Int32} {ini : Bool} {J : mj_JT}
variable {M : mj_M} {pc pc' len r1 r2 : Nat} {lo lo' : mj_L} {st : List Value}
theorem js_coder (R1 : mj_R1 L xs i own nL ini 0 0 J) {k n : Nat} (h1 : 10 ≤ k) (h2 : k < 23) (hc : mj_cd i pc = some (.getfield n, 3, 100, 0)) (kk : J 0 0 M (pc + 3) lo (hv 0 :: st)) : J 0 0 M pc lo (.retAddr k :: st) :=
  jr R1 hc (by simp [mj_st, mj_pu, mj_me, h1, h2, mj_go]) kk
theorem js_value (R1 : mj_R1 L xs i own nL ini 0 0 J) {k n : Nat} (h1 : 10 ≤ k) (h2 : k < 23) (hc : mj_cd i pc = some (.getfield n, 3, 100, 1)) (kk : J 0 0 M (pc + 3) lo (.retAddr (k + 20) :: st)) : J 0 0 M pc lo (.retAddr k :: st) :=
  jr R1 hc (by simp [mj_st, mj_pu, mj_me, h1, h2, mj_go]; rfl) kk
theorem js_compact (R1 : mj_R1 L xs i own nL ini 0 0 J) {n : Nat} (hc : mj_cd i pc = some (.getstatic n, 3, 2, 0)) (kk : J 0 0 M (pc + 3) lo (hv 1 :: st)) : J 0 0 M pc lo st := jr R1 hc rfl kk
theorem js_format (R1 : mj_R1 L xs i own nL ini 0 0 J) {n : Nat} (hc : mj_cd i pc = some (.getstatic n, 3, 3, 0)) (kk : J 0 0 M (pc + 3) lo (.retAddr 3 :: st)) : J 0 0 M pc lo st := jr R1 hc rfl kk
theorem js_xa {k : Nat} (h1 : 10 ≤ k) (h2 : k < 23) : mj_xa L xs (k + 20) = some (.byte, (hw_l k).length, fun j => hw_c k j) := by
  unfold mj_xa
  rw [show Nat.beq (k + 20) 0 = false by rw [← Bool.not_eq_true, Nat.beq_eq]; omega, show Nat.beq (k + 20) 1 = false by rw [← Bool.not_eq_true, Nat.beq_eq]; omega, show Nat.beq (k + 20) 2 = false by rw [← Bool.not_eq_true, Nat.beq_eq]; omega, show (Nat.ble 30 (k + 20) && Nat.blt (k + 20) 43) = true by rw [Bool.and_eq_true, Nat.ble_eq, Nat.blt_eq]; omega]
  simp only [cond_false, cond_true]
  unfold hw_c hw_l
  rw [show k + 20 - 30 = k - 10 by omega]
theorem js_len (R1 : mj_R1 L xs i own nL ini 0 0 J) {k : Nat} (h1 : 10 ≤ k) (h2 : k < 23) (hc : mj_cd i pc = some (.arraylength, 1, r1, r2)) (kk : J 0 0 M (pc + 1) lo (hv ((hw_l k).length : Int) :: st)) : J 0 0 M pc lo (.retAddr (k + 20) :: st) :=
  jr R1 hc (by simp [mj_st, mj_pu, mj_me, js_xa h1 h2, mj_go]; rfl) kk
theorem js_load (R1 : mj_R1 L xs i own nL ini 0 0 J) {k j : Nat} (h1 : 10 ≤ k) (h2 : k < 23) (hj : j < (hw_l k).length) (hl : (hw_l k).length ≤ 1000) (hc : mj_cd i pc = some (.baload, 1, r1, r2)) (kk : J 0 0 M (pc + 1) lo (hv (hw_c k j).toInt :: st)) : J 0 0 M pc lo (hv (j : Int) :: .retAddr (k + 20) :: st) := by
  obtain ⟨a, b⟩ := hvi (x := (j : Int)) (n := (hw_l k).length) (by omega) (by omega) (by omega)
  refine jr R1 hc (M' := M) (pc' := pc + 1) (lo' := lo) (st' := .int (hw_c k j) :: st) (by simp [mj_st, mj_pu, mj_me, js_xa h1 h2, a, b, mj_go]) ?_
  rw [show Value.int (hw_c k j) = hv (hw_c k j).toInt from congrArg Value.int (Int32.ofInt_toInt _).symm]
  exact kk
theorem js_shr (R1 : mj_R1 L xs i own nL ini 0 0 J) {a : Int} (hc : mj_cd i pc = some (.ishr, 1, r1, r2)) (kk : J 0 0 M (pc + 1) lo (hv a :: st)) : J 0 0 M pc lo (hv 0 :: hv a :: st) := by
  refine jr R1 hc rfl ?_
  have e : Int32.ofInt a >>> (Int32.ofInt 0 &&& 31) = Int32.ofInt a := by
    rw [show (Int32.ofInt 0 &&& 31) = (0 : Int32) from by decide]
    simp
  rw [e]
  exact kk
theorem hw_tab : (List.range 13).all (fun i => decide ((mj_stb.getD i []).length ≤ 100) && (List.range (mj_stb.getD i []).length).all (fun j => decide (((mj_stb.getD i []).getD j 0 &&& 255).toUInt32 % 65536 = ((mj_stb.getD i []).getD j 0).toUInt32) && (decide (((mj_stb.getD i []).getD j 0 &&& 255) = ((mj_stb.getD i []).getD j 0)) && (decide (0 ≤ ((mj_stb.getD i []).getD j 0).toInt) && decide (((mj_stb.getD i []).getD j 0).toInt ≤ 127))))) = true := by decide +kernel
theorem hw_len {k : Nat} (h1 : 10 ≤ k) (h2 : k < 23) : (hw_l k).length ≤ 100 := by
  have h := List.all_eq_true.mp hw_tab (k - 10) (List.mem_range.mpr (by omega))
  exact of_decide_eq_true (Bool.and_eq_true_iff.mp h).1
theorem hw_ok {k j : Nat} (h1 : 10 ≤ k) (h2 : k < 23) (hj : j < (hw_l k).length) : (hw_c k j &&& 255).toUInt32 % 65536 = (hw_c k j).toUInt32 ∧ hw_c k j &&& 255 = hw_c k j ∧ 0 ≤ (hw_c k j).toInt ∧ (hw_c k j).toInt ≤ 127 := by
  have h := List.all_eq_true.mp hw_tab (k - 10) (List.mem_range.mpr (by omega))
  have h := List.all_eq_true.mp (Bool.and_eq_true_iff.mp h).2 j (List.mem_range.mpr hj)
  simp only [Bool.and_eq_true, decide_eq_true_eq] at h
  exact ⟨h.1, h.2.1, h.2.2.1, h.2.2.2⟩
theorem js_and (R1 : mj_R1 L xs i own nL ini 0 0 J) {k j : Nat} (h1 : 10 ≤ k) (h2 : k < 23) (hj : j < (hw_l k).length) (hc : mj_cd i pc = some (.iand, 1, r1, r2)) (kk : J 0 0 M (pc + 1) lo (hv (hw_c k j).toInt :: st)) : J 0 0 M pc lo (hv 255 :: hv (hw_c k j).toInt :: st) := by
  refine jr R1 hc rfl ?_
  rw [show Int32.ofInt (hw_c k j).toInt &&& Int32.ofInt 255 = Int32.ofInt (hw_c k j).toInt by rw [Int32.ofInt_toInt]; exact (hw_ok h1 h2 hj).2.1]
  exact kk
theorem js_i2c (R1 : mj_R1 L xs i own nL ini 0 0 J) {k j : Nat} (h1 : 10 ≤ k) (h2 : k < 23) (hj : j < (hw_l k).length) (hc : mj_cd i pc = some (.i2c, 1, r1, r2)) (kk : J 0 0 M (pc + 1) lo (hv (hw_c k j).toInt :: st)) : J 0 0 M pc lo (hv (hw_c k j).toInt :: st) := by
  refine jr R1 hc rfl ?_
  have e : ((Int32.ofInt (hw_c k j).toInt).toUInt32 % 65536).toInt32 = Int32.ofInt (hw_c k j).toInt := by
    obtain ⟨a, b, -, -⟩ := hw_ok h1 h2 hj
    rw [Int32.ofInt_toInt]
    rw [b] at a
    rw [a]
    rfl
  rw [e]
  exact kk
theorem js_retbyte {Qr : Option Value → mj_M → Prop} (R3 : mj_R3 i (mj_rt i) 0 0 Qr J) (hc : mj_cd i pc = some (.ireturn, 1, r1, r2)) (ht : mj_rt i = some .byte) (k : Qr (some (hv 0)) M) : J 0 0 M pc lo [hv 0] :=
  R3 0 0 M pc lo [hv 0] _ _ _ _ (some (hv 0)) hc (by rw [ht]; rfl) rfl (Nat.le_refl 0) k
theorem js_retchar {Qr : Option Value → mj_M → Prop} (R3 : mj_R3 i (mj_rt i) 0 0 Qr J) {x : Int} (hx : 0 ≤ x ∧ x ≤ 127) (hc : mj_cd i pc = some (.ireturn, 1, r1, r2)) (ht : mj_rt i = some .char) (k : Qr (some (hv x)) M) : J 0 0 M pc lo [hv x] :=
  R3 0 0 M pc lo [hv x] _ _ _ _ (some (hv x)) hc (by
    rw [ht]
    have e : narrow .char (.int (Int32.ofInt x)) = .int (Int32.ofInt x) := by
      have key : ∀ n : Nat, n < 128 → narrow .char (.int (Int32.ofInt (n : Int))) = .int (Int32.ofInt (n : Int)) := by decide
      have h := key x.toNat (by omega)
      rw [show ((x.toNat : Nat) : Int) = x by omega] at h
      exact h
    show (if narrow .char (.int (Int32.ofInt x)) = .int (Int32.ofInt x) then some (some (Value.int (Int32.ofInt x))) else none) = _
    exact if_pos e) rfl (Nat.le_refl 0) k
theorem js_ldc (R1 : mj_R1 L xs i own nL ini 0 0 J) {n k : Nat} (h9 : r1 < 999) (hk : mj_cv r1 = .retAddr k) (hc : mj_cd i pc = some (.ldc n, 2, r1, 2)) (kk : J 0 0 M (pc + 2) lo (.retAddr k :: st)) : J 0 0 M pc lo st :=
  jr R1 hc (by simp [mj_st, mj_pu, mj_me, h9, hk, mj_go]) kk
theorem js_reta {Qr : Option Value → mj_M → Prop} (R3 : mj_R3 i (mj_rt i) 0 0 Qr J) {k : Nat} {c : String} (hc : mj_cd i pc = some (.areturn, 1, r1, r2)) (ht : mj_rt i = some (.object c)) (kk : Qr (some (.retAddr k)) M) : J 0 0 M pc lo [.retAddr k] :=
  R3 0 0 M pc lo [.retAddr k] _ _ _ _ (some (.retAddr k)) hc (by rw [ht]; rfl) rfl (Nat.le_refl 0) kk
end JS
