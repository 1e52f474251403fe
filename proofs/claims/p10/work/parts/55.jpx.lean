/-! THE PARSER, A STEP AT A TIME -/
theorem hx_need {tkf pcf : Nat → Int} {T : Nat} {t : Int} {S P : Nat → Int} {s : hp_S} (hSk : ∀ j : Nat, j ≤ T → S j = tkf j) (hPk : ∀ j : Nat, j ≤ T → P j = pcf j) (hTk : ∀ j, T ≤ j → tkf j = 302) (ht : t ≠ 302) (hk : s.1 ≤ T) :
    (if S ((s.1 : Nat) : Int).toNat = t then (if s.2 = -1 ∧ ((s.1 : Nat) : Int) + 1 < (T : Int) + 1 then ((s.1 : Nat) : Int) + 1 else ((s.1 : Nat) : Int)) else ((s.1 : Nat) : Int)) = (((hp_need tkf pcf t s).1 : Nat) : Int) ∧
    (if S ((s.1 : Nat) : Int).toNat = t then s.2 else (if s.2 = -1 then P ((s.1 : Nat) : Int).toNat else s.2)) = (hp_need tkf pcf t s).2 := by
  rw [ha_tn, hSk _ hk, hPk _ hk]
  unfold hp_need
  by_cases h1 : s.2 = -1
  · rw [if_neg (by omega : ¬ s.2 ≠ -1)]
    by_cases h2 : tkf s.1 = t
    · have h3 : s.1 < T := by
        by_cases g : T ≤ s.1
        · exact absurd (h2.symm.trans (hTk _ g)) ht
        · omega
      rw [if_pos h2, if_pos h2, if_pos h2, if_pos (by omega)]
      exact ⟨rfl, rfl⟩
    · rw [if_neg h2, if_neg h2, if_neg h2, if_pos h1]
      exact ⟨rfl, rfl⟩
  · rw [if_pos h1]
    by_cases h2 : tkf s.1 = t
    · simp [h1, h2]
    · simp [h1, h2]
theorem hx_num {tkf pcf : Nat → Int} {N q k : Nat} (h : tkf k = 301 ∨ tkf k = 300) : hp_px tkf pcf (N + 1) 5 q (k, -1) = (k + 1, -1) := by
  unfold hp_px
  rw [if_neg (by simp), if_pos rfl, if_pos h]
theorem hx_neg {tkf pcf : Nat → Int} {N q k : Nat} (h : tkf k = 45) : hp_px tkf pcf (N + 1) 5 q (k, -1) = if 5 ≤ q then (k, pcf k) else hp_px tkf pcf N 5 (q + 1) (k + 1, -1) := by
  conv => lhs; unfold hp_px
  rw [if_neg (by simp), if_pos rfl, if_neg (by simp only; omega), if_pos h]
theorem hx_par {tkf pcf : Nat → Int} {N q k : Nat} (h : tkf k = 40) : hp_px tkf pcf (N + 1) 5 q (k, -1) = if 5 ≤ q then (k, pcf k) else hp_need tkf pcf 41 (hp_px tkf pcf N 0 (q + 1) (k + 1, -1)) := by
  conv => lhs; unfold hp_px
  rw [if_neg (by simp), if_pos rfl, if_neg (by simp only; omega), if_neg (by simp only; omega), if_pos h]
theorem hx_no {tkf pcf : Nat → Int} {N q k : Nat} (h1 : ¬ tkf k = 301) (h2 : ¬ tkf k = 300) (h3 : ¬ tkf k = 45) (h4 : ¬ tkf k = 40) : hp_px tkf pcf (N + 1) 5 q (k, -1) = (k, pcf k) := by
  unfold hp_px
  rw [if_neg (by simp), if_pos rfl, if_neg (by simp only; omega), if_neg h3, if_neg h4]
theorem hx_not {tkf pcf : Nat → Int} {N q k : Nat} (h : tkf k = 267) : hp_px tkf pcf (N + 1) 2 q (k, -1) = if 5 ≤ q then (k, pcf k) else hp_px tkf pcf N 2 (q + 1) (k + 1, -1) := by
  conv => lhs; unfold hp_px
  rw [if_neg (by simp), if_neg (by decide), if_pos (by decide), if_pos ⟨rfl, h⟩]
theorem hx_lev {tkf pcf : Nat → Int} {N m q k : Nat} (hm : m < 5) (h : ¬ (m = 2 ∧ tkf k = 267)) : hp_px tkf pcf (N + 1) m q (k, -1) = hp_px tkf pcf N (6 + m) q (hp_px tkf pcf N (m + 1) q (k, -1)) := by
  conv => lhs; unfold hp_px
  rw [if_neg (by simp), if_neg (by omega), if_pos hm, if_neg h]
theorem hx_stop {tkf pcf : Nat → Int} {N l q k : Nat} (hl : l < 5) (h : hp_jb (tkf k) l = false) : hp_px tkf pcf (N + 1) (6 + l) q (k, -1) = (k, -1) := by
  unfold hp_px
  rw [if_neg (by simp), if_neg (by omega), if_neg (by omega), show 6 + l - 6 = l by omega]
  simp only [h]
  rfl
theorem hx_two {tkf pcf : Nat → Int} {N q k : Nat} (h : hp_jb (tkf k) 2 = true) : hp_px tkf pcf (N + 1) 8 q (k, -1) = hp_px tkf pcf N 3 q (k + 1, -1) := by
  conv => lhs; unfold hp_px
  rw [if_neg (by simp), if_neg (by omega), if_neg (by omega), if_pos h, if_pos rfl]
theorem hx_more {tkf pcf : Nat → Int} {N l q k : Nat} (hl : l < 5) (h2 : l ≠ 2) (h : hp_jb (tkf k) l = true) : hp_px tkf pcf (N + 1) (6 + l) q (k, -1) = hp_px tkf pcf N (6 + l) q (hp_px tkf pcf N (l + 1) q (k + 1, -1)) := by
  conv => lhs; unfold hp_px
  rw [if_neg (by simp), if_neg (by omega), if_neg (by omega), show 6 + l - 6 = l by omega, if_pos h, if_neg (by omega), show 6 + l - 5 = l + 1 by omega]
/-- what a part of the parser leaves: the tokens' number and the fault; the steps are of no account -/
def hq (B : mj_M) (n : Int) (T : Nat) (S P V E : Nat → Int) (s : hp_S) : Option Value → mj_M → Prop := fun rv M' => rv = none ∧ ∃ sc' ST', (0 ≤ sc' ∧ sc' ≤ 160) ∧ M' = rd B n ((T : Int) + 1) ((s.1 : Nat) : Int) s.2 sc' S P V ST' E
def hgE (lch : Launch) (B : mj_M) (n : Int) (T : Nat) (S P V E tkf pcf : Nat → Int) (N : Nat) : Prop := ∀ (d m q k : Nat) (sc : Int) (ST : Nat → Int), m ≤ 5 → q ≤ 5 → k ≤ T → (0 ≤ sc ∧ sc ≤ 160) → hp_fu T m k ≤ N → 9 - m + 8 * (5 - q) ≤ d → mj_Me lch 29 d 0 0 [.ref 18, hv (m : Int), hv (q : Int)] (rd B n ((T : Int) + 1) (k : Int) (-1) sc S P V ST E) (hq B n T S P V E (hp_px tkf pcf N m q (k, -1)))
def hgO (lch : Launch) (B : mj_M) (n : Int) (T : Nat) (S P V E tkf pcf : Nat → Int) (N : Nat) : Prop := ∀ (d q k : Nat) (sc : Int) (ST : Nat → Int), q ≤ 5 → k ≤ T → (0 ≤ sc ∧ sc ≤ 160) → hp_fu T 5 k ≤ N → 3 + 8 * (5 - q) ≤ d → mj_Me lch 36 d 0 0 [.ref 18, hv (q : Int)] (rd B n ((T : Int) + 1) (k : Int) (-1) sc S P V ST E) (hq B n T S P V E (hp_px tkf pcf N 5 q (k, -1)))
theorem hx_fu {T m k : Nat} (hm : m ≤ 5) : hp_fu T m k = 16 * (T + 1 - k) + (6 - m) := by
  unfold hp_fu hp_wt
  rw [if_pos hm]
theorem hx_fu7 {T m k : Nat} (hm : 5 < m) : hp_fu T m k = 16 * (T + 1 - k) + 7 := by
  unfold hp_fu hp_wt
  rw [if_neg (by omega)]
theorem hx_bd {T m : Nat} {pcf : Nat → Int} {s s' : hp_S} (hT9 : T ≤ 160) (hpc : ∀ j, 0 ≤ pcf j ∧ pcf j ≤ 160) (h : hp_ok pcf T m s s') : (0 ≤ ((s'.1 : Nat) : Int) ∧ ((s'.1 : Nat) : Int) ≤ 160) ∧ (-1 ≤ s'.2 ∧ s'.2 ≤ 160) := by
  obtain ⟨-, h2, -, h4⟩ := h
  refine ⟨by omega, ?_⟩
  rcases h4 with h4 | h4
  · rw [h4]; omega
  · rw [h4]
    have := hpc s'.1
    omega
