/-! WHAT A TEXT IS: its tokens -/
def hp_bl (c : Int) : Bool := decide (c = 32) || decide (c = 10)
def hp_dg (c : Int) : Bool := decide (48 ≤ c) && decide (c ≤ 57)
def hp_lt (c : Int) : Bool := decide (97 ≤ c) && decide (c ≤ 122)
def hp_sg (c : Int) : Bool := decide (c = 40) || (decide (c = 41) || (decide (c = 59) || (decide (c = 43) || (decide (c = 45) || (decide (c = 42) || (decide (c = 60) || decide (c = 61)))))))
/-- the first place from p on where P fails, or the end -/
def hp_rf (P : Int → Bool) (b : Nat → Int) : Nat → Nat → Nat
  | 0, p => p
  | k + 1, p => if P (b p) = true then hp_rf P b k (p + 1) else p
def hp_rn (P : Int → Bool) (b : Nat → Int) (n p : Nat) : Nat := hp_rf P b (n - p) p
theorem hp_rn_out {P : Int → Bool} {b : Nat → Int} {n p : Nat} (h : n ≤ p) : hp_rn P b n p = p := by
  unfold hp_rn
  rw [show n - p = 0 by omega]
  rfl
theorem hp_rn_no {P : Int → Bool} {b : Nat → Int} {n p : Nat} (h : P (b p) = false) : hp_rn P b n p = p := by
  unfold hp_rn
  cases n - p with
  | zero => rfl
  | succ k =>
    show (if P (b p) = true then _ else p) = p
    rw [h]
    rfl
theorem hp_rn_go {P : Int → Bool} {b : Nat → Int} {n p : Nat} (h1 : p < n) (h : P (b p) = true) : hp_rn P b n p = hp_rn P b n (p + 1) := by
  unfold hp_rn
  rw [show n - p = (n - (p + 1)) + 1 by omega]
  show (if P (b p) = true then _ else p) = _
  rw [h]
  rfl
theorem hp_rf_ge {P : Int → Bool} {b : Nat → Int} : ∀ (k p : Nat), p ≤ hp_rf P b k p ∧ hp_rf P b k p ≤ p + k ∧ (∀ j, p ≤ j → j < hp_rf P b k p → P (b j) = true) ∧ (hp_rf P b k p < p + k → P (b (hp_rf P b k p)) = false)
  | 0, p => ⟨Nat.le_refl _, Nat.le_refl _, fun j h1 h2 => absurd h2 (by show ¬ j < p; omega), fun h => absurd h (by show ¬ p < p + 0; omega)⟩
  | k + 1, p => by
    unfold hp_rf
    split
    · rename_i hp
      obtain ⟨a, b2, c, d⟩ := hp_rf_ge (P := P) (b := b) k (p + 1)
      refine ⟨by omega, by omega, fun j h1 h2 => ?_, fun h => d (by omega)⟩
      by_cases e : j = p
      · rw [e]; exact hp
      · exact c j (by omega) h2
    · rename_i hp
      exact ⟨Nat.le_refl _, by omega, fun j h1 h2 => absurd h2 (by omega), fun _ => by simpa using hp⟩
theorem hp_rn_ge {P : Int → Bool} {b : Nat → Int} {n p : Nat} : p ≤ hp_rn P b n p := (hp_rf_ge (n - p) p).1
theorem hp_rn_le {P : Int → Bool} {b : Nat → Int} {n p : Nat} (h : p ≤ n) : hp_rn P b n p ≤ n := by
  have := (hp_rf_ge (P := P) (b := b) (n - p) p).2.1
  unfold hp_rn
  omega
theorem hp_rn_all {P : Int → Bool} {b : Nat → Int} {n p j : Nat} (h1 : p ≤ j) (h2 : j < hp_rn P b n p) : P (b j) = true := (hp_rf_ge (n - p) p).2.2.1 j h1 h2
theorem hp_rn_end {P : Int → Bool} {b : Nat → Int} {n p : Nat} (h : hp_rn P b n p < n) : P (b (hp_rn P b n p)) = false := by
  by_cases hp : p ≤ n
  · exact (hp_rf_ge (P := P) (b := b) (n - p) p).2.2.2 (by unfold hp_rn at h; omega)
  · have := hp_rn_ge (P := P) (b := b) (n := n) (p := p)
    omega
/-- the words, in the order of their numbers -/
def hp_w (k : Nat) : List Int := match k with
  | 0 => [115, 105, 122, 101]
  | 1 => [102, 108, 111, 111, 114]
  | 2 => [110, 105, 103, 104, 116]
  | 3 => [110, 117, 109, 98, 101, 114]
  | 4 => [111, 119, 101, 115]
  | 5 => [115, 112, 97, 99, 101]
  | 6 => [114, 101, 110, 116, 115]
  | 7 => [108, 101, 97, 107, 115]
  | 8 => [109, 105, 110, 100, 115]
  | 9 => [111, 114]
  | 10 => [97, 110, 100]
  | _ => [110, 111, 116]
def hp_is (b : Nat → Int) (p q : Nat) (w : List Int) : Prop := q = p + w.length ∧ ∀ j, j < w.length → b (p + j) = w.getD j 0
def hp_isb (b : Nat → Int) (p q : Nat) (w : List Int) : Bool := decide (q = p + w.length) && (List.range w.length).all (fun j => decide (b (p + j) = w.getD j 0))
theorem hp_isb_ok {b : Nat → Int} {p q : Nat} {w : List Int} : hp_isb b p q w = true ↔ hp_is b p q w := by
  unfold hp_isb hp_is
  simp only [Bool.and_eq_true, decide_eq_true_eq, List.all_eq_true, List.mem_range]
/-- the number of the word from p to q; 12: none -/
def hp_wf (b : Nat → Int) (p q : Nat) : Nat → Nat → Nat
  | 0, k => k
  | m + 1, k => if hp_isb b p q (hp_w k) = true then k else hp_wf b p q m (k + 1)
def hp_wd (b : Nat → Int) (p q : Nat) : Nat := hp_wf b p q 12 0
theorem hp_wf_ok {b : Nat → Int} {p q : Nat} : ∀ (m k : Nat), k ≤ hp_wf b p q m k ∧ hp_wf b p q m k ≤ k + m ∧ (hp_wf b p q m k < k + m → hp_is b p q (hp_w (hp_wf b p q m k))) ∧ ∀ j, k ≤ j → j < hp_wf b p q m k → ¬ hp_is b p q (hp_w j)
  | 0, k => ⟨Nat.le_refl _, Nat.le_refl _, fun h => absurd h (by show ¬ k < k + 0; omega), fun j h1 h2 => absurd h2 (by show ¬ j < k; omega)⟩
  | m + 1, k => by
    unfold hp_wf
    split
    · rename_i h
      exact ⟨Nat.le_refl _, by omega, fun _ => hp_isb_ok.mp h, fun j h1 h2 => absurd h2 (by omega)⟩
    · rename_i h
      obtain ⟨a, b2, c, d⟩ := hp_wf_ok (b := b) (p := p) (q := q) m (k + 1)
      refine ⟨by omega, by omega, fun g => c (by omega), fun j h1 h2 => ?_⟩
      by_cases e : j = k
      · rw [e, ← hp_isb_ok]; exact h
      · exact d j (by omega) h2
theorem hp_wd_le {b : Nat → Int} {p q : Nat} : hp_wd b p q ≤ 12 := (hp_wf_ok 12 0).2.1
/-- a token's sort, by its place; where it ends -/
def hp_cs (b : Nat → Int) (n p : Nat) : Int := if n ≤ p then 302 else
  if hp_lt (b p) = true then (if hp_wd b p (hp_rn hp_lt b n p) = 12 then 303 else if hp_wd b p (hp_rn hp_lt b n p) < 6 then 300 else 256 + (hp_wd b p (hp_rn hp_lt b n p) : Int)) else
  if hp_dg (b p) = true then (if 4 < hp_rn hp_dg b n p - p then 303 else 301) else if hp_sg (b p) = true then b p else 303
def hp_en (b : Nat → Int) (n p : Nat) : Nat := if n ≤ p then p else if hp_lt (b p) = true then hp_rn hp_lt b n p else if hp_dg (b p) = true then hp_rn hp_dg b n p else p + 1
def hp_E (b : Nat → Int) (n : Nat) : Nat → Nat
  | 0 => 0
  | k + 1 => hp_en b n (hp_rn hp_bl b n (hp_E b n k))
def hp_P (b : Nat → Int) (n k : Nat) : Nat := hp_rn hp_bl b n (hp_E b n k)
def hp_tk (b : Nat → Int) (n k : Nat) : Int := hp_cs b n (hp_P b n k)
theorem hp_en_le {b : Nat → Int} {n p : Nat} (h : p ≤ n) : hp_en b n p ≤ n ∧ p ≤ hp_en b n p ∧ (p < n → p < hp_en b n p) := by
  unfold hp_en
  split
  · exact ⟨h, Nat.le_refl _, fun g => absurd g (by omega)⟩
  · split
    · rename_i h1 h2
      have e := hp_rn_go (n := n) (p := p) (by omega) h2
      have := hp_rn_ge (P := hp_lt) (b := b) (n := n) (p := p + 1)
      exact ⟨hp_rn_le h, hp_rn_ge, fun _ => by omega⟩
    · split
      · rename_i h1 h2 h3
        have e := hp_rn_go (n := n) (p := p) (by omega) h3
        have := hp_rn_ge (P := hp_dg) (b := b) (n := n) (p := p + 1)
        exact ⟨hp_rn_le h, hp_rn_ge, fun _ => by omega⟩
      · exact ⟨by omega, by omega, fun _ => by omega⟩
theorem hp_E_le {b : Nat → Int} {n : Nat} : ∀ k, hp_E b n k ≤ n
  | 0 => Nat.zero_le _
  | k + 1 => (hp_en_le (hp_rn_le (hp_E_le k))).1
theorem hp_P_le {b : Nat → Int} {n k : Nat} : hp_P b n k ≤ n := hp_rn_le (hp_E_le k)
theorem hp_P_ge {b : Nat → Int} {n : Nat} : ∀ k, k ≤ hp_P b n k ∨ hp_P b n k = n
  | 0 => Or.inl (Nat.zero_le _)
  | k + 1 => by
    have h1 : hp_P b n k ≤ n := hp_P_le
    have h2 := hp_en_le (b := b) h1
    have h3 : hp_en b n (hp_P b n k) ≤ hp_P b n (k + 1) := hp_rn_ge
    have h4 : hp_P b n (k + 1) ≤ n := hp_P_le
    by_cases e : hp_P b n k = n
    · exact Or.inr (by omega)
    · rcases hp_P_ge (b := b) (n := n) k with h | h
      · have := h2.2.2 (by omega)
        exact Or.inl (by omega)
      · exact absurd h e
theorem hp_P_stay {b : Nat → Int} {n k : Nat} (h : hp_P b n k = n) : hp_P b n (k + 1) = n := by
  have h2 := hp_en_le (b := b) (n := n) (p := hp_P b n k) (by omega)
  have h3 : hp_en b n (hp_P b n k) ≤ hp_P b n (k + 1) := hp_rn_ge
  have h4 : hp_P b n (k + 1) ≤ n := hp_P_le
  omega
/-- the number of the last token, which is the end -/
def hp_tf (b : Nat → Int) (n : Nat) : Nat → Nat → Nat
  | 0, k => k
  | m + 1, k => if hp_P b n k = n then k else hp_tf b n m (k + 1)
def hp_T (b : Nat → Int) (n : Nat) : Nat := hp_tf b n n 0
theorem hp_tf_ok {b : Nat → Int} {n : Nat} : ∀ (m k : Nat), n ≤ k + m → k ≤ hp_tf b n m k ∧ hp_tf b n m k ≤ k + m ∧ hp_P b n (hp_tf b n m k) = n ∧ ∀ j, k ≤ j → j < hp_tf b n m k → hp_P b n j < n
  | 0, k, h => by
    have h1 : hp_P b n k ≤ n := hp_P_le
    refine ⟨Nat.le_refl _, Nat.le_refl _, ?_, fun j h1 h2 => absurd h2 (by show ¬ j < k; omega)⟩
    show hp_P b n k = n
    rcases hp_P_ge (b := b) (n := n) k with g | g
    · omega
    · exact g
  | m + 1, k, h => by
    unfold hp_tf
    split
    · rename_i g
      exact ⟨Nat.le_refl _, by omega, g, fun j h1 h2 => absurd h2 (by omega)⟩
    · rename_i g
      obtain ⟨a, b2, c, d⟩ := hp_tf_ok (b := b) (n := n) m (k + 1) (by omega)
      refine ⟨by omega, by omega, c, fun j h1 h2 => ?_⟩
      by_cases e : j = k
      · subst e
        have h1 : hp_P b n j ≤ n := hp_P_le
        omega
      · exact d j (by omega) h2
theorem hp_T_le {b : Nat → Int} {n : Nat} : hp_T b n ≤ n := by
  have := (hp_tf_ok (b := b) (n := n) n 0 (by omega)).2.1
  unfold hp_T
  omega
theorem hp_T_lt {b : Nat → Int} {n k : Nat} (h : k < hp_T b n) : hp_P b n k < n := (hp_tf_ok (b := b) (n := n) n 0 (by omega)).2.2.2 k (Nat.zero_le _) h
theorem hp_T_P {b : Nat → Int} {n : Nat} : ∀ {k : Nat}, hp_T b n ≤ k → hp_P b n k = n := by
  intro k h
  induction k with
  | zero =>
    have h0 : hp_T b n = 0 := by omega
    have := (hp_tf_ok (b := b) (n := n) n 0 (by omega)).2.2.1
    rw [show hp_tf b n n 0 = hp_T b n from rfl, h0] at this
    exact this
  | succ k ih =>
    by_cases e : hp_T b n = k + 1
    · have := (hp_tf_ok (b := b) (n := n) n 0 (by omega)).2.2.1
      rw [show hp_tf b n n 0 = hp_T b n from rfl, e] at this
      exact this
    · exact hp_P_stay (ih (by omega))
theorem hp_tk_T {b : Nat → Int} {n k : Nat} (h : hp_T b n ≤ k) : hp_tk b n k = 302 := by
  unfold hp_tk hp_cs
  rw [hp_T_P h, if_pos (Nat.le_refl _)]
theorem hp_cs_302 {b : Nat → Int} {n p : Nat} (h : hp_cs b n p = 302) : n ≤ p := by
  unfold hp_cs at h
  split at h
  · assumption
  · split at h
    · have := hp_wd_le (b := b) (p := p) (q := hp_rn hp_lt b n p)
      split at h
      · omega
      · split at h
        · omega
        · omega
    · split at h
      · split at h <;> omega
      · split at h
        · rename_i h1 h2 h3 h4
          rw [h] at h4
          exact absurd h4 (by decide)
        · omega
/-! THE PARSER: numbers of tokens, and the place of the first fault (none: -1). Modes: 0 .. 4 the levels, 5 ONE, 6 .. 10 what follows at a level -/
def hp_jn (t : Int) (l : Nat) : Prop := match l with
  | 0 => t = 265
  | 1 => t = 266
  | 2 => t = 60 ∨ t = 61
  | 3 => t = 43 ∨ t = 45
  | _ => t = 42
def hp_jb (t : Int) (l : Nat) : Bool := match l with
  | 0 => decide (t = 265)
  | 1 => decide (t = 266)
  | 2 => decide (t = 60) || decide (t = 61)
  | 3 => decide (t = 43) || decide (t = 45)
  | _ => decide (t = 42)
abbrev hp_S : Type := Nat × Int
def hp_need (tk pc : Nat → Int) (t : Int) (s : hp_S) : hp_S := if s.2 ≠ -1 then s else if tk s.1 = t then (s.1 + 1, s.2) else (s.1, pc s.1)
def hp_px (tk pc : Nat → Int) : Nat → Nat → Nat → hp_S → hp_S
  | 0, _, _, s => s
  | n + 1, m, o, s =>
    if s.2 ≠ -1 then s else
    if m = 5 then
      (if tk s.1 = 301 ∨ tk s.1 = 300 then (s.1 + 1, s.2) else
      if tk s.1 = 45 then (if 5 ≤ o then (s.1, pc s.1) else hp_px tk pc n 5 (o + 1) (s.1 + 1, s.2)) else
      if tk s.1 = 40 then (if 5 ≤ o then (s.1, pc s.1) else hp_need tk pc 41 (hp_px tk pc n 0 (o + 1) (s.1 + 1, s.2))) else (s.1, pc s.1))
    else if m < 5 then
      (if m = 2 ∧ tk s.1 = 267 then (if 5 ≤ o then (s.1, pc s.1) else hp_px tk pc n 2 (o + 1) (s.1 + 1, s.2)) else
      hp_px tk pc n (6 + m) o (hp_px tk pc n (m + 1) o s))
    else
      (if hp_jb (tk s.1) (m - 6) = true then
        (if m = 8 then hp_px tk pc n 3 o (s.1 + 1, s.2) else hp_px tk pc n m o (hp_px tk pc n (m - 5) o (s.1 + 1, s.2))) else s)
theorem hp_px_f {tk pc : Nat → Int} {s : hp_S} (h : s.2 ≠ -1) : ∀ (n m o : Nat), hp_px tk pc n m o s = s
  | 0, _, _ => rfl
  | n + 1, m, o => by
    unfold hp_px
    rw [if_pos h]
theorem hp_need_f {tk pc : Nat → Int} {s : hp_S} {t : Int} (h : s.2 ≠ -1) : hp_need tk pc t s = s := by
  unfold hp_need
  rw [if_pos h]
def hp_wt (m : Nat) : Nat := if m ≤ 5 then 6 - m else 7
/-- fuel enough -/
def hp_fu (T m k : Nat) : Nat := 16 * (T + 1 - k) + hp_wt m
/-- what holds of each result: no way back, ahead if there is no fault, never past the end -/
def hp_ok (pc : Nat → Int) (T m : Nat) (s s' : hp_S) : Prop := s.1 ≤ s'.1 ∧ s'.1 ≤ T ∧ (s'.2 = -1 → m ≤ 5 → s.1 < s'.1) ∧ (s'.2 = -1 ∨ s'.2 = pc s'.1)
theorem hp_need_ok {tk pc : Nat → Int} {T : Nat} (hT : ∀ k, T ≤ k → tk k = 302) {t : Int} (ht : t ≠ 302) {s : hp_S} (hk : s.1 ≤ T) (hs : s.2 = -1 ∨ s.2 = pc s.1) : s.1 ≤ (hp_need tk pc t s).1 ∧ (hp_need tk pc t s).1 ≤ T ∧ ((hp_need tk pc t s).2 = -1 ∨ (hp_need tk pc t s).2 = pc (hp_need tk pc t s).1) := by
  unfold hp_need
  split
  · exact ⟨Nat.le_refl _, hk, hs⟩
  · rename_i h
    split
    · rename_i e
      have : ¬ T ≤ s.1 := fun g => ht (by rw [← e, hT _ g])
      have h2 : s.2 = -1 := by omega
      exact ⟨Nat.le_succ _, by show s.1 + 1 ≤ T; omega, Or.inl h2⟩
    · exact ⟨Nat.le_refl _, hk, Or.inr rfl⟩
theorem hp_ok_fail {pc : Nat → Int} {T m k : Nat} (hpc : ∀ k, 0 ≤ pc k) (h : k ≤ T) : hp_ok pc T m (k, -1) (k, pc k) := by
  refine ⟨Nat.le_refl _, h, fun g _ => ?_, Or.inr rfl⟩
  have := hpc k
  simp only at g
  omega
theorem hp_px_ok {tk pc : Nat → Int} {T : Nat} (hT : ∀ k, T ≤ k → tk k = 302) (hpc : ∀ k, 0 ≤ pc k) : ∀ (n m o : Nat) (s : hp_S), m ≤ 10 → s.1 ≤ T → s.2 = -1 → hp_fu T m s.1 ≤ n → hp_ok pc T m s (hp_px tk pc n m o s)
  | 0, m, o, s, _, h1, _, h2 => by
    unfold hp_fu at h2
    omega
  | n + 1, m, o, s, hm, h1, hf, h2 => by
    have ih := hp_px_ok (tk := tk) (pc := pc) hT hpc n
    obtain ⟨k, f⟩ := s
    simp only at h1 hf h2
    subst hf
    have lt : ∀ t, tk k = t → t ≠ 302 → k < T := fun t e1 e2 => by
      by_cases g : T ≤ k
      · rw [hT k g] at e1
        exact absurd e1.symm e2
      · omega
    have fu5 : ∀ (m' : Nat), m' ≤ 5 → hp_fu T m' (k + 1) ≤ 16 * (T + 1 - (k + 1)) + 6 := fun m' h => by
      unfold hp_fu hp_wt
      rw [if_pos h]
      omega
    have fu7 : ∀ (m' k' : Nat), 5 < m' → k + 1 ≤ k' → hp_fu T m' k' ≤ 16 * (T + 1 - (k + 1)) + 7 := fun m' k' h g => by
      unfold hp_fu hp_wt
      rw [if_neg (by omega)]
      omega
    have hfu : k < T → 16 * (T + 1 - (k + 1)) + 16 ≤ 16 * (T + 1 - k) := fun h => by omega
    have h2' : 16 * (T + 1 - k) + hp_wt m ≤ n + 1 := h2
    have hw1 : 1 ≤ hp_wt m := by unfold hp_wt; split <;> omega
    unfold hp_px
    rw [if_neg (by simp)]
    split
    · rename_i e
      subst e
      split
      · rename_i e
        have hk : k < T := e.elim (fun g => lt _ g (by decide)) (fun g => lt _ g (by decide))
        exact ⟨Nat.le_succ _, hk, fun _ _ => Nat.lt_succ_self _, Or.inl rfl⟩
      · split
        · rename_i e
          have hk := lt _ e (by decide)
          split
          · exact hp_ok_fail hpc h1
          · obtain ⟨a, b, c, d⟩ := ih 5 (o + 1) (k + 1, -1) (by omega) hk rfl (by have := fu5 5 (by omega); have := hfu hk; simp only; omega)
            simp only at a c
            exact ⟨by simp only; omega, b, fun g h => by simp only; omega, d⟩
        · split
          · rename_i e
            have hk := lt _ e (by decide)
            split
            · exact hp_ok_fail hpc h1
            · obtain ⟨a, b, c, d⟩ := ih 0 (o + 1) (k + 1, -1) (by omega) hk rfl (by have := fu5 0 (by omega); have := hfu hk; simp only; omega)
              obtain ⟨a2, b2, c2⟩ := hp_need_ok hT (t := 41) (by decide) b d
              simp only at a
              exact ⟨by simp only; omega, b2, fun _ _ => by simp only; omega, c2⟩
          · exact hp_ok_fail hpc h1
    · rename_i hm5
      split
      · rename_i hlt
        split
        · rename_i e
          have hk := lt _ e.2 (by decide)
          split
          · exact hp_ok_fail hpc h1
          · obtain ⟨a, b, c, d⟩ := ih 2 (o + 1) (k + 1, -1) (by omega) hk rfl (by have := fu5 2 (by omega); have := hfu hk; simp only; omega)
            simp only at a c
            exact ⟨by simp only; omega, b, fun g h => by simp only; omega, d⟩
        · obtain ⟨a, b, c, d⟩ := ih (m + 1) o (k, -1) (by omega) h1 rfl (by
            show hp_fu T (m + 1) k ≤ n
            unfold hp_fu hp_wt
            unfold hp_wt at h2'
            rw [if_pos (by omega)] at h2' ⊢
            omega)
          simp only at a c
          generalize hp_px tk pc n (m + 1) o (k, -1) = s1 at a b c d
          by_cases hf1 : s1.2 = -1
          · have hlt1 := c hf1 (by omega)
            obtain ⟨a2, b2, c2, d2⟩ := ih (6 + m) o s1 (by omega) b hf1 (by
              have := fu7 (6 + m) s1.1 (by omega) (by omega)
              have := hfu (by omega)
              omega)
            exact ⟨by simp only; omega, b2, fun _ _ => by simp only; omega, d2⟩
          · rw [hp_px_f hf1]
            exact ⟨a, b, fun g => absurd g hf1, d⟩
      · rename_i hge
        split
        · rename_i hj
          have hk : k < T := by
            by_cases g : T ≤ k
            · rw [hT k g] at hj
              exfalso
              revert hj
              unfold hp_jb
              split <;> decide
            · omega
          split
          · obtain ⟨a, b, c, d⟩ := ih 3 o (k + 1, -1) (by omega) hk rfl (by have := fu5 3 (by omega); have := hfu hk; simp only; omega)
            simp only at a c
            exact ⟨by simp only; omega, b, fun g h => by omega, d⟩
          · obtain ⟨a, b, c, d⟩ := ih (m - 5) o (k + 1, -1) (by omega) hk rfl (by have := fu5 (m - 5) (by omega); have := hfu hk; simp only; omega)
            simp only at a c
            generalize hp_px tk pc n (m - 5) o (k + 1, -1) = s1 at a b c d
            by_cases hf1 : s1.2 = -1
            · obtain ⟨a2, b2, c2, d2⟩ := ih m o s1 hm b hf1 (by
                have := fu7 m s1.1 (by omega) (by omega)
                have := hfu hk
                omega)
              exact ⟨by simp only; omega, b2, fun g h => by omega, d2⟩
            · rw [hp_px_f hf1]
              exact ⟨by simp only; omega, b, fun g => absurd g hf1, d⟩
        · exact ⟨Nat.le_refl _, h1, fun _ h => by omega, Or.inl rfl⟩
/-- a whole text -/
def hp_part (tk pc : Nat → Int) (F : Nat) (t : Int) (s : hp_S) : hp_S := hp_need tk pc 59 (hp_px tk pc F 0 0 (hp_need tk pc t s))
def hp_text (b : Nat → Int) (n : Nat) : hp_S :=
  hp_need (hp_tk b n) (fun k => (hp_P b n k : Int)) 302 (hp_part (hp_tk b n) (fun k => (hp_P b n k : Int)) 3000 264 (hp_part (hp_tk b n) (fun k => (hp_P b n k : Int)) 3000 263 (hp_part (hp_tk b n) (fun k => (hp_P b n k : Int)) 3000 262 (0, -1))))
