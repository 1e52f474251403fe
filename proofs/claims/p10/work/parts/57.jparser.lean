/-! THE PARSER OF THE CLASS -/
theorem ha_par {lch : Launch} {B : mj_M} {n : Int} {T : Nat} {S P V E : Nat → Int} {tkf pcf : Nat → Int} (hB : 25 ≤ B.length) (hT9 : T ≤ 160) (hS : ∀ j, hr (S j)) (hP : ∀ j, hr (P j)) (hSk : ∀ j : Nat, j ≤ T → S j = tkf j) (hPk : ∀ j : Nat, j ≤ T → P j = pcf j) (hTk : ∀ j, T ≤ j → tkf j = 302) (hpc : ∀ j, 0 ≤ pcf j ∧ pcf j ≤ 160) : ∀ N : Nat, hgE lch B n T S P V E tkf pcf N ∧ hgO lch B n T S P V E tkf pcf N := by
  intro N
  induction N using Nat.strongRecOn with
  | ind N ih =>
    cases N with
    | zero =>
      refine ⟨fun d m q k sc ST hm hq hk hsc hfu hd => ?_, fun d q k sc ST hq hk hsc hfu hd => ?_⟩
      · exfalso
        rw [hx_fu hm] at hfu
        omega
      · exfalso
        rw [hx_fu (by omega)] at hfu
        omega
    | succ N =>
      have hO1 := ha_one hB hT9 hS hP hSk hPk hTk hpc (ih N (Nat.lt_succ_self N)).1 (ih N (Nat.lt_succ_self N)).2
      have hE : ∀ N', N' < N + 1 → hgE lch B n T S P V E tkf pcf N' := fun N' h => (ih N' h).1
      refine ⟨fun d m q k sc ST hm hq hk hsc hfu hd => ?_, hO1⟩
      match m, hm, hfu, hd with
      | 0, _, hfu, hd => exact ha_exp0 hB hT9 hS hP hSk hPk hTk hpc hE hO1 d q k sc ST hq hk hsc hfu hd
      | 1, _, hfu, hd => exact ha_exp1 hB hT9 hS hP hSk hPk hTk hpc hE hO1 d q k sc ST hq hk hsc hfu hd
      | 2, _, hfu, hd => exact ha_exp2 hB hT9 hS hP hSk hPk hTk hpc hE hO1 d q k sc ST hq hk hsc hfu hd
      | 3, _, hfu, hd => exact ha_exp3 hB hT9 hS hP hSk hPk hTk hpc hE hO1 d q k sc ST hq hk hsc hfu hd
      | 4, _, hfu, hd => exact ha_exp4 hB hT9 hS hP hSk hPk hTk hpc hE hO1 d q k sc ST hq hk hsc hfu hd
      | 5, _, hfu, hd => exact ha_exp5 hB hT9 hS hP hSk hPk hTk hpc hE hO1 d q k sc ST hq hk hsc hfu hd
      | m + 6, h, _, _ => exact absurd h (by omega)
