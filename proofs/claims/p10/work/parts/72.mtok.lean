/-! THE MODEL'S TOKENS AGAINST WHAT A TEXT IS -/
section MT
variable {b : Nat → Int} {n k q : Nat} {to wo : Int}
theorem hp_rn_ng {P : Int → Bool} {b : Nat → Int} {n p : Nat} (h1 : p < n) (h : P (b p) = true) : p + 1 ≤ hp_rn P b n p := by
  rw [hp_rn_go h1 h]
  exact hp_rn_ge
theorem mt_sort (hm : mt b n k q to wo) : (to = 0 ∧ hp_tk b n k = 302) ∨ (to = 1 ∧ hp_P b n k < n ∧ hp_lt (b (hp_P b n k)) = true ∧ q = hp_rn hp_lt b n (hp_P b n k) ∧ ((hp_wd b (hp_P b n k) q = 12 ∧ hp_tk b n k = 303) ∨ (hp_wd b (hp_P b n k) q < 6 ∧ hp_tk b n k = 300) ∨ (6 ≤ hp_wd b (hp_P b n k) q ∧ hp_wd b (hp_P b n k) q < 12 ∧ hp_tk b n k = 256 + (hp_wd b (hp_P b n k) q : Int)))) ∨
    (to = 2 ∧ hp_tk b n k = 301) ∨ (to = 4 ∧ hp_tk b n k = 303) ∨ (to = 3 ∧ hp_tk b n k = wo ∧ hp_sg wo = true) := by
  obtain ⟨h, -⟩ := hm
  rcases h with ⟨h1, h2, h3⟩ | ⟨h1, h2, h3, h4⟩ | ⟨h1, h2, h3, h4, h5⟩ | ⟨h1, h2, h3, h4, h5, h6, h7⟩ | ⟨h1, h2, h3, h4, h5, h6⟩
  · refine Or.inl ⟨h2, ?_⟩
    unfold hp_tk hp_cs
    rw [if_pos h1]
  · have hq : q = hp_rn hp_lt b n (hp_P b n k) := by omega
    refine Or.inr (Or.inl ⟨h3, h1, h2, hq, ?_⟩)
    have e := hp_cs_lt h1 h2
    rw [← hq] at e
    have hw := hp_wd_le (b := b) (p := hp_P b n k) (q := q)
    show (_ ∧ hp_cs b n (hp_P b n k) = 303) ∨ (_ ∧ hp_cs b n (hp_P b n k) = 300) ∨ (_ ∧ _ ∧ hp_cs b n (hp_P b n k) = _)
    rw [← e]
    by_cases g1 : hp_wd b (hp_P b n k) q = 12
    · exact Or.inl ⟨g1, by rw [if_pos g1]⟩
    · by_cases g2 : hp_wd b (hp_P b n k) q < 6
      · exact Or.inr (Or.inl ⟨g2, by rw [if_neg g1, if_pos g2]⟩)
      · exact Or.inr (Or.inr ⟨by omega, by omega, by rw [if_neg g1, if_neg g2]⟩)
  · have e := hp_cs_dg h1 h3
    by_cases g : 4 < hp_rn hp_dg b n (hp_P b n k) - hp_P b n k
    · rw [if_pos g] at e h5
      exact Or.inr (Or.inr (Or.inr (Or.inl ⟨h5, e.symm⟩)))
    · rw [if_neg g] at e h5
      exact Or.inr (Or.inr (Or.inl ⟨h5, e.symm⟩))
  · have e := hp_cs_sg h1 h2 h3 h4
    refine Or.inr (Or.inr (Or.inr (Or.inr ⟨h5, ?_, ?_⟩)))
    · rw [h6]; exact e.symm
    · rw [h6]; exact h4
  · have e := hp_cs_wr h1 h2 h3 h4
    exact Or.inr (Or.inr (Or.inr (Or.inl ⟨h5, e.symm⟩)))
theorem mt_he (hm : mt b n k q to wo) (h : hp_tk b n k ≠ 303) : q = hp_E b n (k + 1) := by
  obtain ⟨h0, hbd⟩ := hm
  have hPn : hp_P b n k ≤ n := hp_P_le
  show q = hp_en b n (hp_P b n k)
  rcases h0 with ⟨h1, h2, h3⟩ | ⟨h1, h2, h3, h4⟩ | ⟨h1, h2, h3, h4, h5⟩ | ⟨h1, h2, h3, h4, h5, h6, h7⟩ | ⟨h1, h2, h3, h4, h5, h6⟩
  · unfold hp_en
    rw [if_pos h1]
    omega
  · rw [hp_en_lt h1 h2]; omega
  · rw [hp_en_dg h1 h3]; omega
  · rw [hp_en_ot h1 h2 h3]; omega
  · exact absurd (hp_cs_wr h1 h2 h3 h4).symm h
theorem mt_nx (hm : mt b n k q to wo) (h : hp_tk b n k ≠ 303) : hp_rn hp_bl b n q = hp_P b n (k + 1) := by
  rw [mt_he hm h]
  rfl
theorem mt_qn (hm : mt b n k q to wo) : q ≤ n := by
  have := hm.2.1.2
  omega
theorem mt_pq (hm : mt b n k q to wo) : hp_P b n k ≤ q := by
  have hPn : hp_P b n k ≤ n := hp_P_le
  rcases hm.1 with ⟨h1, h2, h3⟩ | ⟨h1, h2, h3, h4⟩ | ⟨h1, h2, h3, h4, h5⟩ | ⟨h1, h2, h3, h4, h5, h6, h7⟩ | ⟨h1, h2, h3, h4, h5, h6⟩
  · omega
  · have := hp_rn_ge (P := hp_lt) (b := b) (n := n) (p := hp_P b n k)
    omega
  · have := hp_rn_ge (P := hp_dg) (b := b) (n := n) (p := hp_P b n k)
    omega
  · omega
  · omega
theorem mt_sg {c : Int} (hm : mt b n k q to wo) (hc : hp_sg c = true) : (to = 3 ∧ wo = c) ↔ hp_tk b n k = c := by
  have h9 := hp_sg_iff.mp hc
  constructor
  · rintro ⟨h1, h2⟩
    rcases mt_sort hm with ⟨a, _⟩ | ⟨a, _⟩ | ⟨a, _⟩ | ⟨a, _⟩ | ⟨a, e, _⟩
    · omega
    · omega
    · omega
    · omega
    · omega
  · intro h
    rcases mt_sort hm with ⟨a, e⟩ | ⟨a, _, _, _, e⟩ | ⟨a, e⟩ | ⟨a, e⟩ | ⟨a, e, _⟩
    · omega
    · rcases e with ⟨_, e⟩ | ⟨_, e⟩ | ⟨_, _, e⟩ <;> omega
    · omega
    · omega
    · exact ⟨a, by omega⟩
theorem mt_num (hm : mt b n k q to wo) : to = 2 ↔ hp_tk b n k = 301 := by
  rcases mt_sort hm with ⟨a, e⟩ | ⟨a, _, _, _, e⟩ | ⟨a, e⟩ | ⟨a, e⟩ | ⟨a, e, g⟩
  · omega
  · rcases e with ⟨_, e⟩ | ⟨_, e⟩ | ⟨_, _, e⟩ <;> omega
  · omega
  · omega
  · have := hp_sg_iff.mp g
    omega
theorem mt_end (hm : mt b n k q to wo) : to = 0 ↔ hp_tk b n k = 302 := by
  rcases mt_sort hm with ⟨a, e⟩ | ⟨a, _, _, _, e⟩ | ⟨a, e⟩ | ⟨a, e⟩ | ⟨a, e, g⟩
  · omega
  · rcases e with ⟨_, e⟩ | ⟨_, e⟩ | ⟨_, _, e⟩ <;> omega
  · omega
  · omega
  · have := hp_sg_iff.mp g
    omega
theorem mt_one (hm : mt b n k q to wo) : (to = 1 → hp_tk b n k = 300 ∨ hp_tk b n k = 303 ∨ (262 ≤ hp_tk b n k ∧ hp_tk b n k ≤ 267)) ∧ (hp_tk b n k = 300 → to = 1) := by
  rcases mt_sort hm with ⟨a, e⟩ | ⟨a, _, _, _, e⟩ | ⟨a, e⟩ | ⟨a, e⟩ | ⟨a, e, g⟩
  · omega
  · rcases e with ⟨_, e⟩ | ⟨_, e⟩ | ⟨_, _, e⟩ <;> omega
  · omega
  · omega
  · have := hp_sg_iff.mp g
    omega
/-! words -/
theorem hp_is_inj {p : Nat} {w w' : List Int} (h : hp_is b p q w) (h' : hp_is b p q w') : w = w' := by
  obtain ⟨a, c⟩ := h
  obtain ⟨a', c'⟩ := h'
  have hl : w.length = w'.length := by omega
  refine List.ext_getElem hl (fun j h1 h2 => ?_)
  have e1 := c j h1
  have e2 := c' j h2
  rw [e1] at e2
  rw [List.getD_eq_getElem?_getD, List.getD_eq_getElem?_getD, List.getElem?_eq_getElem h1, List.getElem?_eq_getElem h2] at e2
  exact e2
theorem hp_w_inj : ∀ i, i < 12 → ∀ j, j < 12 → hp_w i = hp_w j → i = j := by decide
theorem hp_wd_iff {p j : Nat} (hj : j < 12) : hp_isb b p q (hp_w j) = true ↔ hp_wd b p q = j := by
  constructor
  · intro h
    exact hw_first hj (fun i hi z => by
      have := hp_w_inj i (by omega) j hj (hp_is_inj (hp_isb_ok.mp z) (hp_isb_ok.mp h))
      omega) h
  · intro h
    obtain ⟨-, -, c, -⟩ := hp_wf_ok (b := b) (p := p) (q := q) 12 0
    have c2 := c (by show hp_wd b p q < 0 + 12; omega)
    rw [show hp_wf b p q 12 0 = hp_wd b p q from rfl, h] at c2
    exact hp_isb_ok.mpr c2
def mw8 (b : Nat → Int) (p q : Nat) (w0 w1 w2 w3 w4 w5 w6 w7 : Int) : Prop := q ≤ p + 8 ∧ mil b p q 0 w0 = true ∧ mil b p q 1 w1 = true ∧ mil b p q 2 w2 = true ∧ mil b p q 3 w3 = true ∧ mil b p q 4 w4 = true ∧ mil b p q 5 w5 = true ∧ mil b p q 6 w6 = true ∧ mil b p q 7 w7 = true
theorem mil_0 {p i : Nat} (hp : p + i ≤ q) (hl : ∀ j, p ≤ j → j < q → hp_lt (b j) = true) : mil b p q i 0 = true ↔ q = p + i := by
  unfold mil
  by_cases h : p + i < q
  · rw [if_pos h, decide_eq_true_eq]
    have := hp_lt_iff.mp (hl (p + i) (by omega) h)
    omega
  · rw [if_neg h]
    simp
    omega
theorem mil_1 {p i : Nat} {w : Int} (hw : w ≠ 0) : mil b p q i w = true ↔ p + i < q ∧ b (p + i) = w := by
  unfold mil
  by_cases h : p + i < q
  · rw [if_pos h, decide_eq_true_eq]
    exact ⟨fun z => ⟨h, z⟩, fun z => z.2⟩
  · rw [if_neg h]
    simp [h, hw]
theorem mil_9 {p i : Nat} (h : q ≤ p + i) : mil b p q i 0 = true := by
  unfold mil
  rw [if_neg (by omega)]
  simp
end MT
