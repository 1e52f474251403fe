/-! THE TWELVE WORDS -/
theorem mw_0 {b : Nat → Int} {p q : Nat} (hl : ∀ j, p ≤ j → j < q → hp_lt (b j) = true) : mw8 b p q 115 105 122 101 0 0 0 0 ↔ hp_wd b p q = 0 := by
  rw [← hp_wd_iff (by decide), hp_isb_ok]
  unfold mw8
  constructor
  · rintro ⟨h8, m0, m1, m2, m3, m4, m5, m6, m7⟩
    have n0 := (mil_1 (by decide)).mp m0
    have n1 := (mil_1 (by decide)).mp m1
    have n2 := (mil_1 (by decide)).mp m2
    have n3 := (mil_1 (by decide)).mp m3
    have e := (mil_0 (by omega) hl).mp m4
    refine ⟨e, fun j hj => ?_⟩
    have hj9 : j < 4 := hj
    rcases (by omega : j = 0 ∨ j = 1 ∨ j = 2 ∨ j = 3) with rfl | rfl | rfl | rfl
    · exact n0.2
    · exact n1.2
    · exact n2.2
    · exact n3.2
  · rintro ⟨e, h⟩
    have e9 : q = p + 4 := e
    have n0 : b (p + 0) = 115 := h 0 (by decide)
    have n1 : b (p + 1) = 105 := h 1 (by decide)
    have n2 : b (p + 2) = 122 := h 2 (by decide)
    have n3 : b (p + 3) = 101 := h 3 (by decide)
    exact ⟨by omega, (mil_1 (by decide)).mpr ⟨by omega, n0⟩, (mil_1 (by decide)).mpr ⟨by omega, n1⟩, (mil_1 (by decide)).mpr ⟨by omega, n2⟩, (mil_1 (by decide)).mpr ⟨by omega, n3⟩, mil_9 (by omega), mil_9 (by omega), mil_9 (by omega), mil_9 (by omega)⟩
theorem mw_1 {b : Nat → Int} {p q : Nat} (hl : ∀ j, p ≤ j → j < q → hp_lt (b j) = true) : mw8 b p q 102 108 111 111 114 0 0 0 ↔ hp_wd b p q = 1 := by
  rw [← hp_wd_iff (by decide), hp_isb_ok]
  unfold mw8
  constructor
  · rintro ⟨h8, m0, m1, m2, m3, m4, m5, m6, m7⟩
    have n0 := (mil_1 (by decide)).mp m0
    have n1 := (mil_1 (by decide)).mp m1
    have n2 := (mil_1 (by decide)).mp m2
    have n3 := (mil_1 (by decide)).mp m3
    have n4 := (mil_1 (by decide)).mp m4
    have e := (mil_0 (by omega) hl).mp m5
    refine ⟨e, fun j hj => ?_⟩
    have hj9 : j < 5 := hj
    rcases (by omega : j = 0 ∨ j = 1 ∨ j = 2 ∨ j = 3 ∨ j = 4) with rfl | rfl | rfl | rfl | rfl
    · exact n0.2
    · exact n1.2
    · exact n2.2
    · exact n3.2
    · exact n4.2
  · rintro ⟨e, h⟩
    have e9 : q = p + 5 := e
    have n0 : b (p + 0) = 102 := h 0 (by decide)
    have n1 : b (p + 1) = 108 := h 1 (by decide)
    have n2 : b (p + 2) = 111 := h 2 (by decide)
    have n3 : b (p + 3) = 111 := h 3 (by decide)
    have n4 : b (p + 4) = 114 := h 4 (by decide)
    exact ⟨by omega, (mil_1 (by decide)).mpr ⟨by omega, n0⟩, (mil_1 (by decide)).mpr ⟨by omega, n1⟩, (mil_1 (by decide)).mpr ⟨by omega, n2⟩, (mil_1 (by decide)).mpr ⟨by omega, n3⟩, (mil_1 (by decide)).mpr ⟨by omega, n4⟩, mil_9 (by omega), mil_9 (by omega), mil_9 (by omega)⟩
theorem mw_2 {b : Nat → Int} {p q : Nat} (hl : ∀ j, p ≤ j → j < q → hp_lt (b j) = true) : mw8 b p q 110 105 103 104 116 0 0 0 ↔ hp_wd b p q = 2 := by
  rw [← hp_wd_iff (by decide), hp_isb_ok]
  unfold mw8
  constructor
  · rintro ⟨h8, m0, m1, m2, m3, m4, m5, m6, m7⟩
    have n0 := (mil_1 (by decide)).mp m0
    have n1 := (mil_1 (by decide)).mp m1
    have n2 := (mil_1 (by decide)).mp m2
    have n3 := (mil_1 (by decide)).mp m3
    have n4 := (mil_1 (by decide)).mp m4
    have e := (mil_0 (by omega) hl).mp m5
    refine ⟨e, fun j hj => ?_⟩
    have hj9 : j < 5 := hj
    rcases (by omega : j = 0 ∨ j = 1 ∨ j = 2 ∨ j = 3 ∨ j = 4) with rfl | rfl | rfl | rfl | rfl
    · exact n0.2
    · exact n1.2
    · exact n2.2
    · exact n3.2
    · exact n4.2
  · rintro ⟨e, h⟩
    have e9 : q = p + 5 := e
    have n0 : b (p + 0) = 110 := h 0 (by decide)
    have n1 : b (p + 1) = 105 := h 1 (by decide)
    have n2 : b (p + 2) = 103 := h 2 (by decide)
    have n3 : b (p + 3) = 104 := h 3 (by decide)
    have n4 : b (p + 4) = 116 := h 4 (by decide)
    exact ⟨by omega, (mil_1 (by decide)).mpr ⟨by omega, n0⟩, (mil_1 (by decide)).mpr ⟨by omega, n1⟩, (mil_1 (by decide)).mpr ⟨by omega, n2⟩, (mil_1 (by decide)).mpr ⟨by omega, n3⟩, (mil_1 (by decide)).mpr ⟨by omega, n4⟩, mil_9 (by omega), mil_9 (by omega), mil_9 (by omega)⟩
theorem mw_3 {b : Nat → Int} {p q : Nat} (hl : ∀ j, p ≤ j → j < q → hp_lt (b j) = true) : mw8 b p q 110 117 109 98 101 114 0 0 ↔ hp_wd b p q = 3 := by
  rw [← hp_wd_iff (by decide), hp_isb_ok]
  unfold mw8
  constructor
  · rintro ⟨h8, m0, m1, m2, m3, m4, m5, m6, m7⟩
    have n0 := (mil_1 (by decide)).mp m0
    have n1 := (mil_1 (by decide)).mp m1
    have n2 := (mil_1 (by decide)).mp m2
    have n3 := (mil_1 (by decide)).mp m3
    have n4 := (mil_1 (by decide)).mp m4
    have n5 := (mil_1 (by decide)).mp m5
    have e := (mil_0 (by omega) hl).mp m6
    refine ⟨e, fun j hj => ?_⟩
    have hj9 : j < 6 := hj
    rcases (by omega : j = 0 ∨ j = 1 ∨ j = 2 ∨ j = 3 ∨ j = 4 ∨ j = 5) with rfl | rfl | rfl | rfl | rfl | rfl
    · exact n0.2
    · exact n1.2
    · exact n2.2
    · exact n3.2
    · exact n4.2
    · exact n5.2
  · rintro ⟨e, h⟩
    have e9 : q = p + 6 := e
    have n0 : b (p + 0) = 110 := h 0 (by decide)
    have n1 : b (p + 1) = 117 := h 1 (by decide)
    have n2 : b (p + 2) = 109 := h 2 (by decide)
    have n3 : b (p + 3) = 98 := h 3 (by decide)
    have n4 : b (p + 4) = 101 := h 4 (by decide)
    have n5 : b (p + 5) = 114 := h 5 (by decide)
    exact ⟨by omega, (mil_1 (by decide)).mpr ⟨by omega, n0⟩, (mil_1 (by decide)).mpr ⟨by omega, n1⟩, (mil_1 (by decide)).mpr ⟨by omega, n2⟩, (mil_1 (by decide)).mpr ⟨by omega, n3⟩, (mil_1 (by decide)).mpr ⟨by omega, n4⟩, (mil_1 (by decide)).mpr ⟨by omega, n5⟩, mil_9 (by omega), mil_9 (by omega)⟩
theorem mw_4 {b : Nat → Int} {p q : Nat} (hl : ∀ j, p ≤ j → j < q → hp_lt (b j) = true) : mw8 b p q 111 119 101 115 0 0 0 0 ↔ hp_wd b p q = 4 := by
  rw [← hp_wd_iff (by decide), hp_isb_ok]
  unfold mw8
  constructor
  · rintro ⟨h8, m0, m1, m2, m3, m4, m5, m6, m7⟩
    have n0 := (mil_1 (by decide)).mp m0
    have n1 := (mil_1 (by decide)).mp m1
    have n2 := (mil_1 (by decide)).mp m2
    have n3 := (mil_1 (by decide)).mp m3
    have e := (mil_0 (by omega) hl).mp m4
    refine ⟨e, fun j hj => ?_⟩
    have hj9 : j < 4 := hj
    rcases (by omega : j = 0 ∨ j = 1 ∨ j = 2 ∨ j = 3) with rfl | rfl | rfl | rfl
    · exact n0.2
    · exact n1.2
    · exact n2.2
    · exact n3.2
  · rintro ⟨e, h⟩
    have e9 : q = p + 4 := e
    have n0 : b (p + 0) = 111 := h 0 (by decide)
    have n1 : b (p + 1) = 119 := h 1 (by decide)
    have n2 : b (p + 2) = 101 := h 2 (by decide)
    have n3 : b (p + 3) = 115 := h 3 (by decide)
    exact ⟨by omega, (mil_1 (by decide)).mpr ⟨by omega, n0⟩, (mil_1 (by decide)).mpr ⟨by omega, n1⟩, (mil_1 (by decide)).mpr ⟨by omega, n2⟩, (mil_1 (by decide)).mpr ⟨by omega, n3⟩, mil_9 (by omega), mil_9 (by omega), mil_9 (by omega), mil_9 (by omega)⟩
theorem mw_5 {b : Nat → Int} {p q : Nat} (hl : ∀ j, p ≤ j → j < q → hp_lt (b j) = true) : mw8 b p q 115 112 97 99 101 0 0 0 ↔ hp_wd b p q = 5 := by
  rw [← hp_wd_iff (by decide), hp_isb_ok]
  unfold mw8
  constructor
  · rintro ⟨h8, m0, m1, m2, m3, m4, m5, m6, m7⟩
    have n0 := (mil_1 (by decide)).mp m0
    have n1 := (mil_1 (by decide)).mp m1
    have n2 := (mil_1 (by decide)).mp m2
    have n3 := (mil_1 (by decide)).mp m3
    have n4 := (mil_1 (by decide)).mp m4
    have e := (mil_0 (by omega) hl).mp m5
    refine ⟨e, fun j hj => ?_⟩
    have hj9 : j < 5 := hj
    rcases (by omega : j = 0 ∨ j = 1 ∨ j = 2 ∨ j = 3 ∨ j = 4) with rfl | rfl | rfl | rfl | rfl
    · exact n0.2
    · exact n1.2
    · exact n2.2
    · exact n3.2
    · exact n4.2
  · rintro ⟨e, h⟩
    have e9 : q = p + 5 := e
    have n0 : b (p + 0) = 115 := h 0 (by decide)
    have n1 : b (p + 1) = 112 := h 1 (by decide)
    have n2 : b (p + 2) = 97 := h 2 (by decide)
    have n3 : b (p + 3) = 99 := h 3 (by decide)
    have n4 : b (p + 4) = 101 := h 4 (by decide)
    exact ⟨by omega, (mil_1 (by decide)).mpr ⟨by omega, n0⟩, (mil_1 (by decide)).mpr ⟨by omega, n1⟩, (mil_1 (by decide)).mpr ⟨by omega, n2⟩, (mil_1 (by decide)).mpr ⟨by omega, n3⟩, (mil_1 (by decide)).mpr ⟨by omega, n4⟩, mil_9 (by omega), mil_9 (by omega), mil_9 (by omega)⟩
theorem mw_6 {b : Nat → Int} {p q : Nat} (hl : ∀ j, p ≤ j → j < q → hp_lt (b j) = true) : mw8 b p q 114 101 110 116 115 0 0 0 ↔ hp_wd b p q = 6 := by
  rw [← hp_wd_iff (by decide), hp_isb_ok]
  unfold mw8
  constructor
  · rintro ⟨h8, m0, m1, m2, m3, m4, m5, m6, m7⟩
    have n0 := (mil_1 (by decide)).mp m0
    have n1 := (mil_1 (by decide)).mp m1
    have n2 := (mil_1 (by decide)).mp m2
    have n3 := (mil_1 (by decide)).mp m3
    have n4 := (mil_1 (by decide)).mp m4
    have e := (mil_0 (by omega) hl).mp m5
    refine ⟨e, fun j hj => ?_⟩
    have hj9 : j < 5 := hj
    rcases (by omega : j = 0 ∨ j = 1 ∨ j = 2 ∨ j = 3 ∨ j = 4) with rfl | rfl | rfl | rfl | rfl
    · exact n0.2
    · exact n1.2
    · exact n2.2
    · exact n3.2
    · exact n4.2
  · rintro ⟨e, h⟩
    have e9 : q = p + 5 := e
    have n0 : b (p + 0) = 114 := h 0 (by decide)
    have n1 : b (p + 1) = 101 := h 1 (by decide)
    have n2 : b (p + 2) = 110 := h 2 (by decide)
    have n3 : b (p + 3) = 116 := h 3 (by decide)
    have n4 : b (p + 4) = 115 := h 4 (by decide)
    exact ⟨by omega, (mil_1 (by decide)).mpr ⟨by omega, n0⟩, (mil_1 (by decide)).mpr ⟨by omega, n1⟩, (mil_1 (by decide)).mpr ⟨by omega, n2⟩, (mil_1 (by decide)).mpr ⟨by omega, n3⟩, (mil_1 (by decide)).mpr ⟨by omega, n4⟩, mil_9 (by omega), mil_9 (by omega), mil_9 (by omega)⟩
theorem mw_7 {b : Nat → Int} {p q : Nat} (hl : ∀ j, p ≤ j → j < q → hp_lt (b j) = true) : mw8 b p q 108 101 97 107 115 0 0 0 ↔ hp_wd b p q = 7 := by
  rw [← hp_wd_iff (by decide), hp_isb_ok]
  unfold mw8
  constructor
  · rintro ⟨h8, m0, m1, m2, m3, m4, m5, m6, m7⟩
    have n0 := (mil_1 (by decide)).mp m0
    have n1 := (mil_1 (by decide)).mp m1
    have n2 := (mil_1 (by decide)).mp m2
    have n3 := (mil_1 (by decide)).mp m3
    have n4 := (mil_1 (by decide)).mp m4
    have e := (mil_0 (by omega) hl).mp m5
    refine ⟨e, fun j hj => ?_⟩
    have hj9 : j < 5 := hj
    rcases (by omega : j = 0 ∨ j = 1 ∨ j = 2 ∨ j = 3 ∨ j = 4) with rfl | rfl | rfl | rfl | rfl
    · exact n0.2
    · exact n1.2
    · exact n2.2
    · exact n3.2
    · exact n4.2
  · rintro ⟨e, h⟩
    have e9 : q = p + 5 := e
    have n0 : b (p + 0) = 108 := h 0 (by decide)
    have n1 : b (p + 1) = 101 := h 1 (by decide)
    have n2 : b (p + 2) = 97 := h 2 (by decide)
    have n3 : b (p + 3) = 107 := h 3 (by decide)
    have n4 : b (p + 4) = 115 := h 4 (by decide)
    exact ⟨by omega, (mil_1 (by decide)).mpr ⟨by omega, n0⟩, (mil_1 (by decide)).mpr ⟨by omega, n1⟩, (mil_1 (by decide)).mpr ⟨by omega, n2⟩, (mil_1 (by decide)).mpr ⟨by omega, n3⟩, (mil_1 (by decide)).mpr ⟨by omega, n4⟩, mil_9 (by omega), mil_9 (by omega), mil_9 (by omega)⟩
theorem mw_8 {b : Nat → Int} {p q : Nat} (hl : ∀ j, p ≤ j → j < q → hp_lt (b j) = true) : mw8 b p q 109 105 110 100 115 0 0 0 ↔ hp_wd b p q = 8 := by
  rw [← hp_wd_iff (by decide), hp_isb_ok]
  unfold mw8
  constructor
  · rintro ⟨h8, m0, m1, m2, m3, m4, m5, m6, m7⟩
    have n0 := (mil_1 (by decide)).mp m0
    have n1 := (mil_1 (by decide)).mp m1
    have n2 := (mil_1 (by decide)).mp m2
    have n3 := (mil_1 (by decide)).mp m3
    have n4 := (mil_1 (by decide)).mp m4
    have e := (mil_0 (by omega) hl).mp m5
    refine ⟨e, fun j hj => ?_⟩
    have hj9 : j < 5 := hj
    rcases (by omega : j = 0 ∨ j = 1 ∨ j = 2 ∨ j = 3 ∨ j = 4) with rfl | rfl | rfl | rfl | rfl
    · exact n0.2
    · exact n1.2
    · exact n2.2
    · exact n3.2
    · exact n4.2
  · rintro ⟨e, h⟩
    have e9 : q = p + 5 := e
    have n0 : b (p + 0) = 109 := h 0 (by decide)
    have n1 : b (p + 1) = 105 := h 1 (by decide)
    have n2 : b (p + 2) = 110 := h 2 (by decide)
    have n3 : b (p + 3) = 100 := h 3 (by decide)
    have n4 : b (p + 4) = 115 := h 4 (by decide)
    exact ⟨by omega, (mil_1 (by decide)).mpr ⟨by omega, n0⟩, (mil_1 (by decide)).mpr ⟨by omega, n1⟩, (mil_1 (by decide)).mpr ⟨by omega, n2⟩, (mil_1 (by decide)).mpr ⟨by omega, n3⟩, (mil_1 (by decide)).mpr ⟨by omega, n4⟩, mil_9 (by omega), mil_9 (by omega), mil_9 (by omega)⟩
theorem mw_9 {b : Nat → Int} {p q : Nat} (hl : ∀ j, p ≤ j → j < q → hp_lt (b j) = true) : mw8 b p q 111 114 0 0 0 0 0 0 ↔ hp_wd b p q = 9 := by
  rw [← hp_wd_iff (by decide), hp_isb_ok]
  unfold mw8
  constructor
  · rintro ⟨h8, m0, m1, m2, m3, m4, m5, m6, m7⟩
    have n0 := (mil_1 (by decide)).mp m0
    have n1 := (mil_1 (by decide)).mp m1
    have e := (mil_0 (by omega) hl).mp m2
    refine ⟨e, fun j hj => ?_⟩
    have hj9 : j < 2 := hj
    rcases (by omega : j = 0 ∨ j = 1) with rfl | rfl
    · exact n0.2
    · exact n1.2
  · rintro ⟨e, h⟩
    have e9 : q = p + 2 := e
    have n0 : b (p + 0) = 111 := h 0 (by decide)
    have n1 : b (p + 1) = 114 := h 1 (by decide)
    exact ⟨by omega, (mil_1 (by decide)).mpr ⟨by omega, n0⟩, (mil_1 (by decide)).mpr ⟨by omega, n1⟩, mil_9 (by omega), mil_9 (by omega), mil_9 (by omega), mil_9 (by omega), mil_9 (by omega), mil_9 (by omega)⟩
theorem mw_10 {b : Nat → Int} {p q : Nat} (hl : ∀ j, p ≤ j → j < q → hp_lt (b j) = true) : mw8 b p q 97 110 100 0 0 0 0 0 ↔ hp_wd b p q = 10 := by
  rw [← hp_wd_iff (by decide), hp_isb_ok]
  unfold mw8
  constructor
  · rintro ⟨h8, m0, m1, m2, m3, m4, m5, m6, m7⟩
    have n0 := (mil_1 (by decide)).mp m0
    have n1 := (mil_1 (by decide)).mp m1
    have n2 := (mil_1 (by decide)).mp m2
    have e := (mil_0 (by omega) hl).mp m3
    refine ⟨e, fun j hj => ?_⟩
    have hj9 : j < 3 := hj
    rcases (by omega : j = 0 ∨ j = 1 ∨ j = 2) with rfl | rfl | rfl
    · exact n0.2
    · exact n1.2
    · exact n2.2
  · rintro ⟨e, h⟩
    have e9 : q = p + 3 := e
    have n0 : b (p + 0) = 97 := h 0 (by decide)
    have n1 : b (p + 1) = 110 := h 1 (by decide)
    have n2 : b (p + 2) = 100 := h 2 (by decide)
    exact ⟨by omega, (mil_1 (by decide)).mpr ⟨by omega, n0⟩, (mil_1 (by decide)).mpr ⟨by omega, n1⟩, (mil_1 (by decide)).mpr ⟨by omega, n2⟩, mil_9 (by omega), mil_9 (by omega), mil_9 (by omega), mil_9 (by omega), mil_9 (by omega)⟩
theorem mw_11 {b : Nat → Int} {p q : Nat} (hl : ∀ j, p ≤ j → j < q → hp_lt (b j) = true) : mw8 b p q 110 111 116 0 0 0 0 0 ↔ hp_wd b p q = 11 := by
  rw [← hp_wd_iff (by decide), hp_isb_ok]
  unfold mw8
  constructor
  · rintro ⟨h8, m0, m1, m2, m3, m4, m5, m6, m7⟩
    have n0 := (mil_1 (by decide)).mp m0
    have n1 := (mil_1 (by decide)).mp m1
    have n2 := (mil_1 (by decide)).mp m2
    have e := (mil_0 (by omega) hl).mp m3
    refine ⟨e, fun j hj => ?_⟩
    have hj9 : j < 3 := hj
    rcases (by omega : j = 0 ∨ j = 1 ∨ j = 2) with rfl | rfl | rfl
    · exact n0.2
    · exact n1.2
    · exact n2.2
  · rintro ⟨e, h⟩
    have e9 : q = p + 3 := e
    have n0 : b (p + 0) = 110 := h 0 (by decide)
    have n1 : b (p + 1) = 111 := h 1 (by decide)
    have n2 : b (p + 2) = 116 := h 2 (by decide)
    exact ⟨by omega, (mil_1 (by decide)).mpr ⟨by omega, n0⟩, (mil_1 (by decide)).mpr ⟨by omega, n1⟩, (mil_1 (by decide)).mpr ⟨by omega, n2⟩, mil_9 (by omega), mil_9 (by omega), mil_9 (by omega), mil_9 (by omega), mil_9 (by omega)⟩
theorem mv_0 {b : Nat → Int} {n k q : Nat} {to wo : Int} (hm : mt b n k q to wo) (h1 : to = 1) : (to = 1 ∧ mw8 b (hp_P b n k) q 115 105 122 101 0 0 0 0) ↔ hp_wd b (hp_P b n k) q = 0 := by
  rcases mt_sort hm with ⟨z, _⟩ | ⟨z, _, _, e, f⟩ | ⟨z, _⟩ | ⟨z, _⟩ | ⟨z, _⟩
  · omega
  · have := mw_0 (b := b) (fun j a1 a2 => hp_rn_all (n := n) a1 (by rw [← e]; exact a2))
    exact ⟨fun y => this.mp y.2, fun y => ⟨h1, this.mpr y⟩⟩
  · omega
  · omega
  · omega
theorem mv_1 {b : Nat → Int} {n k q : Nat} {to wo : Int} (hm : mt b n k q to wo) (h1 : to = 1) : (to = 1 ∧ mw8 b (hp_P b n k) q 102 108 111 111 114 0 0 0) ↔ hp_wd b (hp_P b n k) q = 1 := by
  rcases mt_sort hm with ⟨z, _⟩ | ⟨z, _, _, e, f⟩ | ⟨z, _⟩ | ⟨z, _⟩ | ⟨z, _⟩
  · omega
  · have := mw_1 (b := b) (fun j a1 a2 => hp_rn_all (n := n) a1 (by rw [← e]; exact a2))
    exact ⟨fun y => this.mp y.2, fun y => ⟨h1, this.mpr y⟩⟩
  · omega
  · omega
  · omega
theorem mv_2 {b : Nat → Int} {n k q : Nat} {to wo : Int} (hm : mt b n k q to wo) (h1 : to = 1) : (to = 1 ∧ mw8 b (hp_P b n k) q 110 105 103 104 116 0 0 0) ↔ hp_wd b (hp_P b n k) q = 2 := by
  rcases mt_sort hm with ⟨z, _⟩ | ⟨z, _, _, e, f⟩ | ⟨z, _⟩ | ⟨z, _⟩ | ⟨z, _⟩
  · omega
  · have := mw_2 (b := b) (fun j a1 a2 => hp_rn_all (n := n) a1 (by rw [← e]; exact a2))
    exact ⟨fun y => this.mp y.2, fun y => ⟨h1, this.mpr y⟩⟩
  · omega
  · omega
  · omega
theorem mv_3 {b : Nat → Int} {n k q : Nat} {to wo : Int} (hm : mt b n k q to wo) (h1 : to = 1) : (to = 1 ∧ mw8 b (hp_P b n k) q 110 117 109 98 101 114 0 0) ↔ hp_wd b (hp_P b n k) q = 3 := by
  rcases mt_sort hm with ⟨z, _⟩ | ⟨z, _, _, e, f⟩ | ⟨z, _⟩ | ⟨z, _⟩ | ⟨z, _⟩
  · omega
  · have := mw_3 (b := b) (fun j a1 a2 => hp_rn_all (n := n) a1 (by rw [← e]; exact a2))
    exact ⟨fun y => this.mp y.2, fun y => ⟨h1, this.mpr y⟩⟩
  · omega
  · omega
  · omega
theorem mv_4 {b : Nat → Int} {n k q : Nat} {to wo : Int} (hm : mt b n k q to wo) (h1 : to = 1) : (to = 1 ∧ mw8 b (hp_P b n k) q 111 119 101 115 0 0 0 0) ↔ hp_wd b (hp_P b n k) q = 4 := by
  rcases mt_sort hm with ⟨z, _⟩ | ⟨z, _, _, e, f⟩ | ⟨z, _⟩ | ⟨z, _⟩ | ⟨z, _⟩
  · omega
  · have := mw_4 (b := b) (fun j a1 a2 => hp_rn_all (n := n) a1 (by rw [← e]; exact a2))
    exact ⟨fun y => this.mp y.2, fun y => ⟨h1, this.mpr y⟩⟩
  · omega
  · omega
  · omega
theorem mv_5 {b : Nat → Int} {n k q : Nat} {to wo : Int} (hm : mt b n k q to wo) (h1 : to = 1) : (to = 1 ∧ mw8 b (hp_P b n k) q 115 112 97 99 101 0 0 0) ↔ hp_wd b (hp_P b n k) q = 5 := by
  rcases mt_sort hm with ⟨z, _⟩ | ⟨z, _, _, e, f⟩ | ⟨z, _⟩ | ⟨z, _⟩ | ⟨z, _⟩
  · omega
  · have := mw_5 (b := b) (fun j a1 a2 => hp_rn_all (n := n) a1 (by rw [← e]; exact a2))
    exact ⟨fun y => this.mp y.2, fun y => ⟨h1, this.mpr y⟩⟩
  · omega
  · omega
  · omega
theorem mv_6 {b : Nat → Int} {n k q : Nat} {to wo : Int} (hm : mt b n k q to wo) : (to = 1 ∧ mw8 b (hp_P b n k) q 114 101 110 116 115 0 0 0) ↔ hp_tk b n k = 262 := by
  constructor
  · rintro ⟨h1, h2⟩
    rcases mt_sort hm with ⟨z, _⟩ | ⟨z, _, _, e, f⟩ | ⟨z, _⟩ | ⟨z, _⟩ | ⟨z, _⟩
    · omega
    · have := (mw_6 (fun j a1 a2 => hp_rn_all a1 (by rw [← e]; exact a2))).mp h2
      rcases f with ⟨f, g⟩ | ⟨f, g⟩ | ⟨f, f2, g⟩ <;> omega
    · omega
    · omega
    · omega
  · intro h
    rcases mt_sort hm with ⟨z, g⟩ | ⟨z, _, _, e, f⟩ | ⟨z, g⟩ | ⟨z, g⟩ | ⟨z, g, g2⟩
    · omega
    · refine ⟨z, (mw_6 (fun j a1 a2 => hp_rn_all a1 (by rw [← e]; exact a2))).mpr ?_⟩
      rcases f with ⟨f, g⟩ | ⟨f, g⟩ | ⟨f, f2, g⟩ <;> omega
    · omega
    · omega
    · have := hp_sg_iff.mp g2
      omega
theorem mv_7 {b : Nat → Int} {n k q : Nat} {to wo : Int} (hm : mt b n k q to wo) : (to = 1 ∧ mw8 b (hp_P b n k) q 108 101 97 107 115 0 0 0) ↔ hp_tk b n k = 263 := by
  constructor
  · rintro ⟨h1, h2⟩
    rcases mt_sort hm with ⟨z, _⟩ | ⟨z, _, _, e, f⟩ | ⟨z, _⟩ | ⟨z, _⟩ | ⟨z, _⟩
    · omega
    · have := (mw_7 (fun j a1 a2 => hp_rn_all a1 (by rw [← e]; exact a2))).mp h2
      rcases f with ⟨f, g⟩ | ⟨f, g⟩ | ⟨f, f2, g⟩ <;> omega
    · omega
    · omega
    · omega
  · intro h
    rcases mt_sort hm with ⟨z, g⟩ | ⟨z, _, _, e, f⟩ | ⟨z, g⟩ | ⟨z, g⟩ | ⟨z, g, g2⟩
    · omega
    · refine ⟨z, (mw_7 (fun j a1 a2 => hp_rn_all a1 (by rw [← e]; exact a2))).mpr ?_⟩
      rcases f with ⟨f, g⟩ | ⟨f, g⟩ | ⟨f, f2, g⟩ <;> omega
    · omega
    · omega
    · have := hp_sg_iff.mp g2
      omega
theorem mv_8 {b : Nat → Int} {n k q : Nat} {to wo : Int} (hm : mt b n k q to wo) : (to = 1 ∧ mw8 b (hp_P b n k) q 109 105 110 100 115 0 0 0) ↔ hp_tk b n k = 264 := by
  constructor
  · rintro ⟨h1, h2⟩
    rcases mt_sort hm with ⟨z, _⟩ | ⟨z, _, _, e, f⟩ | ⟨z, _⟩ | ⟨z, _⟩ | ⟨z, _⟩
    · omega
    · have := (mw_8 (fun j a1 a2 => hp_rn_all a1 (by rw [← e]; exact a2))).mp h2
      rcases f with ⟨f, g⟩ | ⟨f, g⟩ | ⟨f, f2, g⟩ <;> omega
    · omega
    · omega
    · omega
  · intro h
    rcases mt_sort hm with ⟨z, g⟩ | ⟨z, _, _, e, f⟩ | ⟨z, g⟩ | ⟨z, g⟩ | ⟨z, g, g2⟩
    · omega
    · refine ⟨z, (mw_8 (fun j a1 a2 => hp_rn_all a1 (by rw [← e]; exact a2))).mpr ?_⟩
      rcases f with ⟨f, g⟩ | ⟨f, g⟩ | ⟨f, f2, g⟩ <;> omega
    · omega
    · omega
    · have := hp_sg_iff.mp g2
      omega
theorem mv_9 {b : Nat → Int} {n k q : Nat} {to wo : Int} (hm : mt b n k q to wo) : (to = 1 ∧ mw8 b (hp_P b n k) q 111 114 0 0 0 0 0 0) ↔ hp_tk b n k = 265 := by
  constructor
  · rintro ⟨h1, h2⟩
    rcases mt_sort hm with ⟨z, _⟩ | ⟨z, _, _, e, f⟩ | ⟨z, _⟩ | ⟨z, _⟩ | ⟨z, _⟩
    · omega
    · have := (mw_9 (fun j a1 a2 => hp_rn_all a1 (by rw [← e]; exact a2))).mp h2
      rcases f with ⟨f, g⟩ | ⟨f, g⟩ | ⟨f, f2, g⟩ <;> omega
    · omega
    · omega
    · omega
  · intro h
    rcases mt_sort hm with ⟨z, g⟩ | ⟨z, _, _, e, f⟩ | ⟨z, g⟩ | ⟨z, g⟩ | ⟨z, g, g2⟩
    · omega
    · refine ⟨z, (mw_9 (fun j a1 a2 => hp_rn_all a1 (by rw [← e]; exact a2))).mpr ?_⟩
      rcases f with ⟨f, g⟩ | ⟨f, g⟩ | ⟨f, f2, g⟩ <;> omega
    · omega
    · omega
    · have := hp_sg_iff.mp g2
      omega
theorem mv_10 {b : Nat → Int} {n k q : Nat} {to wo : Int} (hm : mt b n k q to wo) : (to = 1 ∧ mw8 b (hp_P b n k) q 97 110 100 0 0 0 0 0) ↔ hp_tk b n k = 266 := by
  constructor
  · rintro ⟨h1, h2⟩
    rcases mt_sort hm with ⟨z, _⟩ | ⟨z, _, _, e, f⟩ | ⟨z, _⟩ | ⟨z, _⟩ | ⟨z, _⟩
    · omega
    · have := (mw_10 (fun j a1 a2 => hp_rn_all a1 (by rw [← e]; exact a2))).mp h2
      rcases f with ⟨f, g⟩ | ⟨f, g⟩ | ⟨f, f2, g⟩ <;> omega
    · omega
    · omega
    · omega
  · intro h
    rcases mt_sort hm with ⟨z, g⟩ | ⟨z, _, _, e, f⟩ | ⟨z, g⟩ | ⟨z, g⟩ | ⟨z, g, g2⟩
    · omega
    · refine ⟨z, (mw_10 (fun j a1 a2 => hp_rn_all a1 (by rw [← e]; exact a2))).mpr ?_⟩
      rcases f with ⟨f, g⟩ | ⟨f, g⟩ | ⟨f, f2, g⟩ <;> omega
    · omega
    · omega
    · have := hp_sg_iff.mp g2
      omega
theorem mv_11 {b : Nat → Int} {n k q : Nat} {to wo : Int} (hm : mt b n k q to wo) : (to = 1 ∧ mw8 b (hp_P b n k) q 110 111 116 0 0 0 0 0) ↔ hp_tk b n k = 267 := by
  constructor
  · rintro ⟨h1, h2⟩
    rcases mt_sort hm with ⟨z, _⟩ | ⟨z, _, _, e, f⟩ | ⟨z, _⟩ | ⟨z, _⟩ | ⟨z, _⟩
    · omega
    · have := (mw_11 (fun j a1 a2 => hp_rn_all a1 (by rw [← e]; exact a2))).mp h2
      rcases f with ⟨f, g⟩ | ⟨f, g⟩ | ⟨f, f2, g⟩ <;> omega
    · omega
    · omega
    · omega
  · intro h
    rcases mt_sort hm with ⟨z, g⟩ | ⟨z, _, _, e, f⟩ | ⟨z, g⟩ | ⟨z, g⟩ | ⟨z, g, g2⟩
    · omega
    · refine ⟨z, (mw_11 (fun j a1 a2 => hp_rn_all a1 (by rw [← e]; exact a2))).mpr ?_⟩
      rcases f with ⟨f, g⟩ | ⟨f, g⟩ | ⟨f, f2, g⟩ <;> omega
    · omega
    · omega
    · have := hp_sg_iff.mp g2
      omega
theorem mt_300 {b : Nat → Int} {n k q : Nat} {to wo : Int} (hm : mt b n k q to wo) (h1 : to = 1) : hp_tk b n k = 300 ↔ hp_wd b (hp_P b n k) q < 6 := by
  rcases mt_sort hm with ⟨z, _⟩ | ⟨z, _, _, e, f⟩ | ⟨z, _⟩ | ⟨z, _⟩ | ⟨z, _⟩
  · omega
  · rcases f with ⟨f, g⟩ | ⟨f, g⟩ | ⟨f, f2, g⟩ <;> omega
  · omega
  · omega
  · omega
