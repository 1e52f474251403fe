def mj_cd (i : Nat) : Nat → Option (Instr × Nat × Nat × Nat) := bif Nat.blt i mj_N then (bif Nat.blt i 97 then (fun i => (bif Nat.blt i 49 then (fun i => (bif Nat.blt i 25 then (fun i => (bif Nat.blt i 13 then (fun i => (bif Nat.blt i 7 then (fun i => (bif Nat.blt i 4 then (fun i => (bif Nat.blt i 2 then (fun i => (bif Nat.blt i 1 then (fun i => mj_cd0) else (fun i => mj_cd1)) i) else (fun i => (bif Nat.blt i 3 then (fun i => mj_cd2) else (fun i => mj_cd3)) i)) i) else (fun i => (bif Nat.blt i 6 then (fun i => (bif Nat.blt i 5 then (fun i => mj_cd4) else (fun i => mj_cd5)) i) else (fun i => mj_cd6)) i)) i) else (fun i => (bif Nat.blt i 10 then (fun i => (bif Nat.blt i 9 then (fun i => (bif Nat.blt i 8 then (fun i => mj_cd7) else (fun i => mj_cd8)) i) else (fun i => mj_cd9)) i) else (fun i => (bif Nat.blt i 12 then (fun i => (bif Nat.blt i 11 then (fun i => mj_cd10) else (fun i => mj_cd11)) i) else (fun i => mj_cd12)) i)) i)) i) else (fun i => (bif Nat.blt i 19 then (fun i => (bif Nat.blt i 16 then (fun i => (bif Nat.blt i 15 then (fun i => (bif Nat.blt i 14 then (fun i => mj_cd13) else (fun i => mj_cd14)) i) else (fun i => mj_cd15)) i) else (fun i => (bif Nat.blt i 18 then (fun i => (bif Nat.blt i 17 then (fun i => mj_cd16) else (fun i => mj_cd17)) i) else (fun i => mj_cd18)) i)) i) else (fun i => (bif Nat.blt i 22 then (fun i => (bif Nat.blt i 21 then (fun i => (bif Nat.blt i 20 then (fun i => mj_cd19) else (fun i => mj_cd20)) i) else (fun i => mj_cd21)) i) else (fun i => (bif Nat.blt i 24 then (fun i => (bif Nat.blt i 23 then (fun i => mj_cd22) else (fun i => mj_cd23)) i) else (fun i => mj_cd24)) i)) i)) i)) i) else (fun i => (bif Nat.blt i 37 then (fun i => (bif Nat.blt i 31 then (fun i => (bif Nat.blt i 28 then (fun i => (bif Nat.blt i 27 then (fun i => (bif Nat.blt i 26 then (fun i => mj_cd25) else (fun i => mj_cd26)) i) else (fun i => mj_cd27)) i) else (fun i => (bif Nat.blt i 30 then (fun i => (bif Nat.blt i 29 then (fun i => mj_cd28) else (fun i => mj_cd29)) i) else (fun i => mj_cd30)) i)) i) else (fun i => (bif Nat.blt i 34 then (fun i => (bif Nat.blt i 33 then (fun i => (bif Nat.blt i 32 then (fun i => mj_cd31) else (fun i => mj_cd32)) i) else (fun i => mj_cd33)) i) else (fun i => (bif Nat.blt i 36 then (fun i => (bif Nat.blt i 35 then (fun i => mj_cd34) else (fun i => mj_cd35)) i) else (fun i => mj_cd36)) i)) i)) i) else (fun i => (bif Nat.blt i 43 then (fun i => (bif Nat.blt i 40 then (fun i => (bif Nat.blt i 39 then (fun i => (bif Nat.blt i 38 then (fun i => mj_cd37) else (fun i => mj_cd38)) i) else (fun i => mj_cd39)) i) else (fun i => (bif Nat.blt i 42 then (fun i => (bif Nat.blt i 41 then (fun i => mj_cd40) else (fun i => mj_cd41)) i) else (fun i => mj_cd42)) i)) i) else (fun i => (bif Nat.blt i 46 then (fun i => (bif Nat.blt i 45 then (fun i => (bif Nat.blt i 44 then (fun i => mj_cd43) else (fun i => mj_cd44)) i) else (fun i => mj_cd45)) i) else (fun i => (bif Nat.blt i 48 then (fun i => (bif Nat.blt i 47 then (fun i => mj_cd46) else (fun i => mj_cd47)) i) else (fun i => mj_cd48)) i)) i)) i)) i)) i) else (fun i => (bif Nat.blt i 73 then (fun i => (bif Nat.blt i 61 then (fun i => (bif Nat.blt i 55 then (fun i => (bif Nat.blt i 52 then (fun i => (bif Nat.blt i 51 then (fun i => (bif Nat.blt i 50 then (fun i => mj_cd49) else (fun i => mj_cd50)) i) else (fun i => mj_cd51)) i) else (fun i => (bif Nat.blt i 54 then (fun i => (bif Nat.blt i 53 then (fun i => mj_cd52) else (fun i => mj_cd53)) i) else (fun i => mj_cd54)) i)) i) else (fun i => (bif Nat.blt i 58 then (fun i => (bif Nat.blt i 57 then (fun i => (bif Nat.blt i 56 then (fun i => mj_cd55) else (fun i => mj_cd56)) i) else (fun i => mj_cd57)) i) else (fun i => (bif Nat.blt i 60 then (fun i => (bif Nat.blt i 59 then (fun i => mj_cd58) else (fun i => mj_cd59)) i) else (fun i => mj_cd60)) i)) i)) i) else (fun i => (bif Nat.blt i 67 then (fun i => (bif Nat.blt i 64 then (fun i => (bif Nat.blt i 63 then (fun i => (bif Nat.blt i 62 then (fun i => mj_cd61) else (fun i => mj_cd62)) i) else (fun i => mj_cd63)) i) else (fun i => (bif Nat.blt i 66 then (fun i => (bif Nat.blt i 65 then (fun i => mj_cd64) else (fun i => mj_cd65)) i) else (fun i => mj_cd66)) i)) i) else (fun i => (bif Nat.blt i 70 then (fun i => (bif Nat.blt i 69 then (fun i => (bif Nat.blt i 68 then (fun i => mj_cd67) else (fun i => mj_cd68)) i) else (fun i => mj_cd69)) i) else (fun i => (bif Nat.blt i 72 then (fun i => (bif Nat.blt i 71 then (fun i => mj_cd70) else (fun i => mj_cd71)) i) else (fun i => mj_cd72)) i)) i)) i)) i) else (fun i => (bif Nat.blt i 85 then (fun i => (bif Nat.blt i 79 then (fun i => (bif Nat.blt i 76 then (fun i => (bif Nat.blt i 75 then (fun i => (bif Nat.blt i 74 then (fun i => mj_cd73) else (fun i => mj_cd74)) i) else (fun i => mj_cd75)) i) else (fun i => (bif Nat.blt i 78 then (fun i => (bif Nat.blt i 77 then (fun i => mj_cd76) else (fun i => mj_cd77)) i) else (fun i => mj_cd78)) i)) i) else (fun i => (bif Nat.blt i 82 then (fun i => (bif Nat.blt i 81 then (fun i => (bif Nat.blt i 80 then (fun i => mj_cd79) else (fun i => mj_cd80)) i) else (fun i => mj_cd81)) i) else (fun i => (bif Nat.blt i 84 then (fun i => (bif Nat.blt i 83 then (fun i => mj_cd82) else (fun i => mj_cd83)) i) else (fun i => mj_cd84)) i)) i)) i) else (fun i => (bif Nat.blt i 91 then (fun i => (bif Nat.blt i 88 then (fun i => (bif Nat.blt i 87 then (fun i => (bif Nat.blt i 86 then (fun i => mj_cd85) else (fun i => mj_cd86)) i) else (fun i => mj_cd87)) i) else (fun i => (bif Nat.blt i 90 then (fun i => (bif Nat.blt i 89 then (fun i => mj_cd88) else (fun i => mj_cd89)) i) else (fun i => mj_cd90)) i)) i) else (fun i => (bif Nat.blt i 94 then (fun i => (bif Nat.blt i 93 then (fun i => (bif Nat.blt i 92 then (fun i => mj_cd91) else (fun i => mj_cd92)) i) else (fun i => mj_cd93)) i) else (fun i => (bif Nat.blt i 96 then (fun i => (bif Nat.blt i 95 then (fun i => mj_cd94) else (fun i => mj_cd95)) i) else (fun i => mj_cd96)) i)) i)) i)) i)) i)) i) else (fun i => (bif Nat.blt i 145 then (fun i => (bif Nat.blt i 121 then (fun i => (bif Nat.blt i 109 then (fun i => (bif Nat.blt i 103 then (fun i => (bif Nat.blt i 100 then (fun i => (bif Nat.blt i 99 then (fun i => (bif Nat.blt i 98 then (fun i => mj_cd97) else (fun i => mj_cd98)) i) else (fun i => mj_cd99)) i) else (fun i => (bif Nat.blt i 102 then (fun i => (bif Nat.blt i 101 then (fun i => mj_cd100) else (fun i => mj_cd101)) i) else (fun i => mj_cd102)) i)) i) else (fun i => (bif Nat.blt i 106 then (fun i => (bif Nat.blt i 105 then (fun i => (bif Nat.blt i 104 then (fun i => mj_cd103) else (fun i => mj_cd104)) i) else (fun i => mj_cd105)) i) else (fun i => (bif Nat.blt i 108 then (fun i => (bif Nat.blt i 107 then (fun i => mj_cd106) else (fun i => mj_cd107)) i) else (fun i => mj_cd108)) i)) i)) i) else (fun i => (bif Nat.blt i 115 then (fun i => (bif Nat.blt i 112 then (fun i => (bif Nat.blt i 111 then (fun i => (bif Nat.blt i 110 then (fun i => mj_cd109) else (fun i => mj_cd110)) i) else (fun i => mj_cd111)) i) else (fun i => (bif Nat.blt i 114 then (fun i => (bif Nat.blt i 113 then (fun i => mj_cd112) else (fun i => mj_cd113)) i) else (fun i => mj_cd114)) i)) i) else (fun i => (bif Nat.blt i 118 then (fun i => (bif Nat.blt i 117 then (fun i => (bif Nat.blt i 116 then (fun i => mj_cd115) else (fun i => mj_cd116)) i) else (fun i => mj_cd117)) i) else (fun i => (bif Nat.blt i 120 then (fun i => (bif Nat.blt i 119 then (fun i => mj_cd118) else (fun i => mj_cd119)) i) else (fun i => mj_cd120)) i)) i)) i)) i) else (fun i => (bif Nat.blt i 133 then (fun i => (bif Nat.blt i 127 then (fun i => (bif Nat.blt i 124 then (fun i => (bif Nat.blt i 123 then (fun i => (bif Nat.blt i 122 then (fun i => mj_cd121) else (fun i => mj_cd122)) i) else (fun i => mj_cd123)) i) else (fun i => (bif Nat.blt i 126 then (fun i => (bif Nat.blt i 125 then (fun i => mj_cd124) else (fun i => mj_cd125)) i) else (fun i => mj_cd126)) i)) i) else (fun i => (bif Nat.blt i 130 then (fun i => (bif Nat.blt i 129 then (fun i => (bif Nat.blt i 128 then (fun i => mj_cd127) else (fun i => mj_cd128)) i) else (fun i => mj_cd129)) i) else (fun i => (bif Nat.blt i 132 then (fun i => (bif Nat.blt i 131 then (fun i => mj_cd130) else (fun i => mj_cd131)) i) else (fun i => mj_cd132)) i)) i)) i) else (fun i => (bif Nat.blt i 139 then (fun i => (bif Nat.blt i 136 then (fun i => (bif Nat.blt i 135 then (fun i => (bif Nat.blt i 134 then (fun i => mj_cd133) else (fun i => mj_cd134)) i) else (fun i => mj_cd135)) i) else (fun i => (bif Nat.blt i 138 then (fun i => (bif Nat.blt i 137 then (fun i => mj_cd136) else (fun i => mj_cd137)) i) else (fun i => mj_cd138)) i)) i) else (fun i => (bif Nat.blt i 142 then (fun i => (bif Nat.blt i 141 then (fun i => (bif Nat.blt i 140 then (fun i => mj_cd139) else (fun i => mj_cd140)) i) else (fun i => mj_cd141)) i) else (fun i => (bif Nat.blt i 144 then (fun i => (bif Nat.blt i 143 then (fun i => mj_cd142) else (fun i => mj_cd143)) i) else (fun i => mj_cd144)) i)) i)) i)) i)) i) else (fun i => (bif Nat.blt i 169 then (fun i => (bif Nat.blt i 157 then (fun i => (bif Nat.blt i 151 then (fun i => (bif Nat.blt i 148 then (fun i => (bif Nat.blt i 147 then (fun i => (bif Nat.blt i 146 then (fun i => mj_cd145) else (fun i => mj_cd146)) i) else (fun i => mj_cd147)) i) else (fun i => (bif Nat.blt i 150 then (fun i => (bif Nat.blt i 149 then (fun i => mj_cd148) else (fun i => mj_cd149)) i) else (fun i => mj_cd150)) i)) i) else (fun i => (bif Nat.blt i 154 then (fun i => (bif Nat.blt i 153 then (fun i => (bif Nat.blt i 152 then (fun i => mj_cd151) else (fun i => mj_cd152)) i) else (fun i => mj_cd153)) i) else (fun i => (bif Nat.blt i 156 then (fun i => (bif Nat.blt i 155 then (fun i => mj_cd154) else (fun i => mj_cd155)) i) else (fun i => mj_cd156)) i)) i)) i) else (fun i => (bif Nat.blt i 163 then (fun i => (bif Nat.blt i 160 then (fun i => (bif Nat.blt i 159 then (fun i => (bif Nat.blt i 158 then (fun i => mj_cd157) else (fun i => mj_cd158)) i) else (fun i => mj_cd159)) i) else (fun i => (bif Nat.blt i 162 then (fun i => (bif Nat.blt i 161 then (fun i => mj_cd160) else (fun i => mj_cd161)) i) else (fun i => mj_cd162)) i)) i) else (fun i => (bif Nat.blt i 166 then (fun i => (bif Nat.blt i 165 then (fun i => (bif Nat.blt i 164 then (fun i => mj_cd163) else (fun i => mj_cd164)) i) else (fun i => mj_cd165)) i) else (fun i => (bif Nat.blt i 168 then (fun i => (bif Nat.blt i 167 then (fun i => mj_cd166) else (fun i => mj_cd167)) i) else (fun i => mj_cd168)) i)) i)) i)) i) else (fun i => (bif Nat.blt i 181 then (fun i => (bif Nat.blt i 175 then (fun i => (bif Nat.blt i 172 then (fun i => (bif Nat.blt i 171 then (fun i => (bif Nat.blt i 170 then (fun i => mj_cd169) else (fun i => mj_cd170)) i) else (fun i => mj_cd171)) i) else (fun i => (bif Nat.blt i 174 then (fun i => (bif Nat.blt i 173 then (fun i => mj_cd172) else (fun i => mj_cd173)) i) else (fun i => mj_cd174)) i)) i) else (fun i => (bif Nat.blt i 178 then (fun i => (bif Nat.blt i 177 then (fun i => (bif Nat.blt i 176 then (fun i => mj_cd175) else (fun i => mj_cd176)) i) else (fun i => mj_cd177)) i) else (fun i => (bif Nat.blt i 180 then (fun i => (bif Nat.blt i 179 then (fun i => mj_cd178) else (fun i => mj_cd179)) i) else (fun i => mj_cd180)) i)) i)) i) else (fun i => (bif Nat.blt i 187 then (fun i => (bif Nat.blt i 184 then (fun i => (bif Nat.blt i 183 then (fun i => (bif Nat.blt i 182 then (fun i => mj_cd181) else (fun i => mj_cd182)) i) else (fun i => mj_cd183)) i) else (fun i => (bif Nat.blt i 186 then (fun i => (bif Nat.blt i 185 then (fun i => mj_cd184) else (fun i => mj_cd185)) i) else (fun i => mj_cd186)) i)) i) else (fun i => (bif Nat.blt i 190 then (fun i => (bif Nat.blt i 189 then (fun i => (bif Nat.blt i 188 then (fun i => mj_cd187) else (fun i => mj_cd188)) i) else (fun i => mj_cd189)) i) else (fun i => (bif Nat.blt i 192 then (fun i => (bif Nat.blt i 191 then (fun i => mj_cd190) else (fun i => mj_cd191)) i) else (fun i => mj_cd192)) i)) i)) i)) i)) i)) i)) i else mj_cdL
theorem mj_tok_ok {cc : ByteArray} {own : Nat} {cd : Nat → Option (Instr × Nat × Nat × Nat)} {n : Nat} (h : mj_tok cc own cd n = true) (hz : ∀ pc, ¬ pc < n → cd pc = none) : ∀ pc q, cd pc = some q → decode cc pc = .ok (q.1, q.2.1) ∧ mj_ck own q.1 q.2.2.1 q.2.2.2 = true := by
  intro pc q hq
  by_cases hl : pc < n
  · have h1 := List.all_eq_true.mp h pc (List.mem_range.mpr hl)
    rw [hq] at h1
    simp only [Bool.and_eq_true, decide_eq_true_eq] at h1
    exact h1
  · rw [hz pc hl] at hq
    cases hq
theorem mj_nlt {n pc : Nat} (h : ¬ pc < n) : Nat.blt pc n = false := by
  rw [← Bool.not_eq_true, Nat.blt_eq]
  exact h
theorem mj_co0 : ∀ pc q, mj_cd 0 pc = some q → decode (mj_cc 0) pc = .ok (q.1, q.2.1) ∧ mj_ck (mj_ow 0) q.1 q.2.2.1 q.2.2.2 = true := mj_tok_ok mj_ck0 (fun pc h => by show mj_cd0 pc = none; unfold mj_cd0; rw [mj_nlt h]; rfl)
theorem mj_co1 : ∀ pc q, mj_cd 1 pc = some q → decode (mj_cc 1) pc = .ok (q.1, q.2.1) ∧ mj_ck (mj_ow 1) q.1 q.2.2.1 q.2.2.2 = true := mj_tok_ok mj_ck1 (fun pc h => by show mj_cd1 pc = none; unfold mj_cd1; rw [mj_nlt h]; rfl)
theorem mj_co2 : ∀ pc q, mj_cd 2 pc = some q → decode (mj_cc 2) pc = .ok (q.1, q.2.1) ∧ mj_ck (mj_ow 2) q.1 q.2.2.1 q.2.2.2 = true := mj_tok_ok mj_ck2 (fun pc h => by show mj_cd2 pc = none; unfold mj_cd2; rw [mj_nlt h]; rfl)
theorem mj_co3 : ∀ pc q, mj_cd 3 pc = some q → decode (mj_cc 3) pc = .ok (q.1, q.2.1) ∧ mj_ck (mj_ow 3) q.1 q.2.2.1 q.2.2.2 = true := mj_tok_ok mj_ck3 (fun pc h => by show mj_cd3 pc = none; unfold mj_cd3; rw [mj_nlt h]; rfl)
theorem mj_co4 : ∀ pc q, mj_cd 4 pc = some q → decode (mj_cc 4) pc = .ok (q.1, q.2.1) ∧ mj_ck (mj_ow 4) q.1 q.2.2.1 q.2.2.2 = true := mj_tok_ok mj_ck4 (fun pc h => by show mj_cd4 pc = none; unfold mj_cd4; rw [mj_nlt h]; rfl)
theorem mj_co5 : ∀ pc q, mj_cd 5 pc = some q → decode (mj_cc 5) pc = .ok (q.1, q.2.1) ∧ mj_ck (mj_ow 5) q.1 q.2.2.1 q.2.2.2 = true := mj_tok_ok mj_ck5 (fun pc h => by show mj_cd5 pc = none; unfold mj_cd5; rw [mj_nlt h]; rfl)
theorem mj_co6 : ∀ pc q, mj_cd 6 pc = some q → decode (mj_cc 6) pc = .ok (q.1, q.2.1) ∧ mj_ck (mj_ow 6) q.1 q.2.2.1 q.2.2.2 = true := mj_tok_ok mj_ck6 (fun pc h => by show mj_cd6 pc = none; unfold mj_cd6; rw [mj_nlt h]; rfl)
theorem mj_co7 : ∀ pc q, mj_cd 7 pc = some q → decode (mj_cc 7) pc = .ok (q.1, q.2.1) ∧ mj_ck (mj_ow 7) q.1 q.2.2.1 q.2.2.2 = true := mj_tok_ok mj_ck7 (fun pc h => by show mj_cd7 pc = none; unfold mj_cd7; rw [mj_nlt h]; rfl)
theorem mj_co8 : ∀ pc q, mj_cd 8 pc = some q → decode (mj_cc 8) pc = .ok (q.1, q.2.1) ∧ mj_ck (mj_ow 8) q.1 q.2.2.1 q.2.2.2 = true := mj_tok_ok mj_ck8 (fun pc h => by show mj_cd8 pc = none; unfold mj_cd8; rw [mj_nlt h]; rfl)
theorem mj_co9 : ∀ pc q, mj_cd 9 pc = some q → decode (mj_cc 9) pc = .ok (q.1, q.2.1) ∧ mj_ck (mj_ow 9) q.1 q.2.2.1 q.2.2.2 = true := mj_tok_ok mj_ck9 (fun pc h => by show mj_cd9 pc = none; unfold mj_cd9; rw [mj_nlt h]; rfl)
theorem mj_co10 : ∀ pc q, mj_cd 10 pc = some q → decode (mj_cc 10) pc = .ok (q.1, q.2.1) ∧ mj_ck (mj_ow 10) q.1 q.2.2.1 q.2.2.2 = true := mj_tok_ok mj_ck10 (fun pc h => by show mj_cd10 pc = none; unfold mj_cd10; rw [mj_nlt h]; rfl)
theorem mj_co11 : ∀ pc q, mj_cd 11 pc = some q → decode (mj_cc 11) pc = .ok (q.1, q.2.1) ∧ mj_ck (mj_ow 11) q.1 q.2.2.1 q.2.2.2 = true := mj_tok_ok mj_ck11 (fun pc h => by show mj_cd11 pc = none; unfold mj_cd11; rw [mj_nlt h]; rfl)
theorem mj_co12 : ∀ pc q, mj_cd 12 pc = some q → decode (mj_cc 12) pc = .ok (q.1, q.2.1) ∧ mj_ck (mj_ow 12) q.1 q.2.2.1 q.2.2.2 = true := mj_tok_ok mj_ck12 (fun pc h => by show mj_cd12 pc = none; unfold mj_cd12; rw [mj_nlt h]; rfl)
theorem mj_co13 : ∀ pc q, mj_cd 13 pc = some q → decode (mj_cc 13) pc = .ok (q.1, q.2.1) ∧ mj_ck (mj_ow 13) q.1 q.2.2.1 q.2.2.2 = true := mj_tok_ok mj_ck13 (fun pc h => by show mj_cd13 pc = none; unfold mj_cd13; rw [mj_nlt h]; rfl)
theorem mj_co14 : ∀ pc q, mj_cd 14 pc = some q → decode (mj_cc 14) pc = .ok (q.1, q.2.1) ∧ mj_ck (mj_ow 14) q.1 q.2.2.1 q.2.2.2 = true := mj_tok_ok mj_ck14 (fun pc h => by show mj_cd14 pc = none; unfold mj_cd14; rw [mj_nlt h]; rfl)
theorem mj_co15 : ∀ pc q, mj_cd 15 pc = some q → decode (mj_cc 15) pc = .ok (q.1, q.2.1) ∧ mj_ck (mj_ow 15) q.1 q.2.2.1 q.2.2.2 = true := mj_tok_ok mj_ck15 (fun pc h => by show mj_cd15 pc = none; unfold mj_cd15; rw [mj_nlt h]; rfl)
theorem mj_co16 : ∀ pc q, mj_cd 16 pc = some q → decode (mj_cc 16) pc = .ok (q.1, q.2.1) ∧ mj_ck (mj_ow 16) q.1 q.2.2.1 q.2.2.2 = true := mj_tok_ok mj_ck16 (fun pc h => by show mj_cd16 pc = none; unfold mj_cd16; rw [mj_nlt h]; rfl)
theorem mj_co17 : ∀ pc q, mj_cd 17 pc = some q → decode (mj_cc 17) pc = .ok (q.1, q.2.1) ∧ mj_ck (mj_ow 17) q.1 q.2.2.1 q.2.2.2 = true := mj_tok_ok mj_ck17 (fun pc h => by show mj_cd17 pc = none; unfold mj_cd17; rw [mj_nlt h]; rfl)
theorem mj_co18 : ∀ pc q, mj_cd 18 pc = some q → decode (mj_cc 18) pc = .ok (q.1, q.2.1) ∧ mj_ck (mj_ow 18) q.1 q.2.2.1 q.2.2.2 = true := mj_tok_ok mj_ck18 (fun pc h => by show mj_cd18 pc = none; unfold mj_cd18; rw [mj_nlt h]; rfl)
theorem mj_co19 : ∀ pc q, mj_cd 19 pc = some q → decode (mj_cc 19) pc = .ok (q.1, q.2.1) ∧ mj_ck (mj_ow 19) q.1 q.2.2.1 q.2.2.2 = true := mj_tok_ok mj_ck19 (fun pc h => by show mj_cd19 pc = none; unfold mj_cd19; rw [mj_nlt h]; rfl)
theorem mj_co20 : ∀ pc q, mj_cd 20 pc = some q → decode (mj_cc 20) pc = .ok (q.1, q.2.1) ∧ mj_ck (mj_ow 20) q.1 q.2.2.1 q.2.2.2 = true := mj_tok_ok mj_ck20 (fun pc h => by show mj_cd20 pc = none; unfold mj_cd20; rw [mj_nlt h]; rfl)
theorem mj_co21 : ∀ pc q, mj_cd 21 pc = some q → decode (mj_cc 21) pc = .ok (q.1, q.2.1) ∧ mj_ck (mj_ow 21) q.1 q.2.2.1 q.2.2.2 = true := mj_tok_ok mj_ck21 (fun pc h => by show mj_cd21 pc = none; unfold mj_cd21; rw [mj_nlt h]; rfl)
theorem mj_co22 : ∀ pc q, mj_cd 22 pc = some q → decode (mj_cc 22) pc = .ok (q.1, q.2.1) ∧ mj_ck (mj_ow 22) q.1 q.2.2.1 q.2.2.2 = true := mj_tok_ok mj_ck22 (fun pc h => by show mj_cd22 pc = none; unfold mj_cd22; rw [mj_nlt h]; rfl)
theorem mj_co23 : ∀ pc q, mj_cd 23 pc = some q → decode (mj_cc 23) pc = .ok (q.1, q.2.1) ∧ mj_ck (mj_ow 23) q.1 q.2.2.1 q.2.2.2 = true := mj_tok_ok mj_ck23 (fun pc h => by show mj_cd23 pc = none; unfold mj_cd23; rw [mj_nlt h]; rfl)
theorem mj_co24 : ∀ pc q, mj_cd 24 pc = some q → decode (mj_cc 24) pc = .ok (q.1, q.2.1) ∧ mj_ck (mj_ow 24) q.1 q.2.2.1 q.2.2.2 = true := mj_tok_ok mj_ck24 (fun pc h => by show mj_cd24 pc = none; unfold mj_cd24; rw [mj_nlt h]; rfl)
theorem mj_co25 : ∀ pc q, mj_cd 25 pc = some q → decode (mj_cc 25) pc = .ok (q.1, q.2.1) ∧ mj_ck (mj_ow 25) q.1 q.2.2.1 q.2.2.2 = true := mj_tok_ok mj_ck25 (fun pc h => by show mj_cd25 pc = none; unfold mj_cd25; rw [mj_nlt h]; rfl)
theorem mj_co26 : ∀ pc q, mj_cd 26 pc = some q → decode (mj_cc 26) pc = .ok (q.1, q.2.1) ∧ mj_ck (mj_ow 26) q.1 q.2.2.1 q.2.2.2 = true := mj_tok_ok mj_ck26 (fun pc h => by show mj_cd26 pc = none; unfold mj_cd26; rw [mj_nlt h]; rfl)
theorem mj_co27 : ∀ pc q, mj_cd 27 pc = some q → decode (mj_cc 27) pc = .ok (q.1, q.2.1) ∧ mj_ck (mj_ow 27) q.1 q.2.2.1 q.2.2.2 = true := mj_tok_ok mj_ck27 (fun pc h => by show mj_cd27 pc = none; unfold mj_cd27; rw [mj_nlt h]; rfl)
theorem mj_co28 : ∀ pc q, mj_cd 28 pc = some q → decode (mj_cc 28) pc = .ok (q.1, q.2.1) ∧ mj_ck (mj_ow 28) q.1 q.2.2.1 q.2.2.2 = true := mj_tok_ok mj_ck28 (fun pc h => by show mj_cd28 pc = none; unfold mj_cd28; rw [mj_nlt h]; rfl)
theorem mj_co29 : ∀ pc q, mj_cd 29 pc = some q → decode (mj_cc 29) pc = .ok (q.1, q.2.1) ∧ mj_ck (mj_ow 29) q.1 q.2.2.1 q.2.2.2 = true := mj_tok_ok mj_ck29 (fun pc h => by show mj_cd29 pc = none; unfold mj_cd29; rw [mj_nlt h]; rfl)
theorem mj_co30 : ∀ pc q, mj_cd 30 pc = some q → decode (mj_cc 30) pc = .ok (q.1, q.2.1) ∧ mj_ck (mj_ow 30) q.1 q.2.2.1 q.2.2.2 = true := mj_tok_ok mj_ck30 (fun pc h => by show mj_cd30 pc = none; unfold mj_cd30; rw [mj_nlt h]; rfl)
theorem mj_co31 : ∀ pc q, mj_cd 31 pc = some q → decode (mj_cc 31) pc = .ok (q.1, q.2.1) ∧ mj_ck (mj_ow 31) q.1 q.2.2.1 q.2.2.2 = true := mj_tok_ok mj_ck31 (fun pc h => by show mj_cd31 pc = none; unfold mj_cd31; rw [mj_nlt h]; rfl)
theorem mj_co32 : ∀ pc q, mj_cd 32 pc = some q → decode (mj_cc 32) pc = .ok (q.1, q.2.1) ∧ mj_ck (mj_ow 32) q.1 q.2.2.1 q.2.2.2 = true := mj_tok_ok mj_ck32 (fun pc h => by show mj_cd32 pc = none; unfold mj_cd32; rw [mj_nlt h]; rfl)
theorem mj_co33 : ∀ pc q, mj_cd 33 pc = some q → decode (mj_cc 33) pc = .ok (q.1, q.2.1) ∧ mj_ck (mj_ow 33) q.1 q.2.2.1 q.2.2.2 = true := mj_tok_ok mj_ck33 (fun pc h => by show mj_cd33 pc = none; unfold mj_cd33; rw [mj_nlt h]; rfl)
theorem mj_co34 : ∀ pc q, mj_cd 34 pc = some q → decode (mj_cc 34) pc = .ok (q.1, q.2.1) ∧ mj_ck (mj_ow 34) q.1 q.2.2.1 q.2.2.2 = true := mj_tok_ok mj_ck34 (fun pc h => by show mj_cd34 pc = none; unfold mj_cd34; rw [mj_nlt h]; rfl)
theorem mj_co35 : ∀ pc q, mj_cd 35 pc = some q → decode (mj_cc 35) pc = .ok (q.1, q.2.1) ∧ mj_ck (mj_ow 35) q.1 q.2.2.1 q.2.2.2 = true := mj_tok_ok mj_ck35 (fun pc h => by show mj_cd35 pc = none; unfold mj_cd35; rw [mj_nlt h]; rfl)
theorem mj_co36 : ∀ pc q, mj_cd 36 pc = some q → decode (mj_cc 36) pc = .ok (q.1, q.2.1) ∧ mj_ck (mj_ow 36) q.1 q.2.2.1 q.2.2.2 = true := mj_tok_ok mj_ck36 (fun pc h => by show mj_cd36 pc = none; unfold mj_cd36; rw [mj_nlt h]; rfl)
theorem mj_co37 : ∀ pc q, mj_cd 37 pc = some q → decode (mj_cc 37) pc = .ok (q.1, q.2.1) ∧ mj_ck (mj_ow 37) q.1 q.2.2.1 q.2.2.2 = true := mj_tok_ok mj_ck37 (fun pc h => by show mj_cd37 pc = none; unfold mj_cd37; rw [mj_nlt h]; rfl)
theorem mj_co38 : ∀ pc q, mj_cd 38 pc = some q → decode (mj_cc 38) pc = .ok (q.1, q.2.1) ∧ mj_ck (mj_ow 38) q.1 q.2.2.1 q.2.2.2 = true := mj_tok_ok mj_ck38 (fun pc h => by show mj_cd38 pc = none; unfold mj_cd38; rw [mj_nlt h]; rfl)
theorem mj_co39 : ∀ pc q, mj_cd 39 pc = some q → decode (mj_cc 39) pc = .ok (q.1, q.2.1) ∧ mj_ck (mj_ow 39) q.1 q.2.2.1 q.2.2.2 = true := mj_tok_ok mj_ck39 (fun pc h => by show mj_cd39 pc = none; unfold mj_cd39; rw [mj_nlt h]; rfl)
theorem mj_co40 : ∀ pc q, mj_cd 40 pc = some q → decode (mj_cc 40) pc = .ok (q.1, q.2.1) ∧ mj_ck (mj_ow 40) q.1 q.2.2.1 q.2.2.2 = true := mj_tok_ok mj_ck40 (fun pc h => by show mj_cd40 pc = none; unfold mj_cd40; rw [mj_nlt h]; rfl)
theorem mj_co41 : ∀ pc q, mj_cd 41 pc = some q → decode (mj_cc 41) pc = .ok (q.1, q.2.1) ∧ mj_ck (mj_ow 41) q.1 q.2.2.1 q.2.2.2 = true := mj_tok_ok mj_ck41 (fun pc h => by show mj_cd41 pc = none; unfold mj_cd41; rw [mj_nlt h]; rfl)
theorem mj_co42 : ∀ pc q, mj_cd 42 pc = some q → decode (mj_cc 42) pc = .ok (q.1, q.2.1) ∧ mj_ck (mj_ow 42) q.1 q.2.2.1 q.2.2.2 = true := mj_tok_ok mj_ck42 (fun pc h => by show mj_cd42 pc = none; unfold mj_cd42; rw [mj_nlt h]; rfl)
theorem mj_co43 : ∀ pc q, mj_cd 43 pc = some q → decode (mj_cc 43) pc = .ok (q.1, q.2.1) ∧ mj_ck (mj_ow 43) q.1 q.2.2.1 q.2.2.2 = true := mj_tok_ok mj_ck43 (fun pc h => by show mj_cd43 pc = none; unfold mj_cd43; rw [mj_nlt h]; rfl)
theorem mj_co44 : ∀ pc q, mj_cd 44 pc = some q → decode (mj_cc 44) pc = .ok (q.1, q.2.1) ∧ mj_ck (mj_ow 44) q.1 q.2.2.1 q.2.2.2 = true := mj_tok_ok mj_ck44 (fun pc h => by show mj_cd44 pc = none; unfold mj_cd44; rw [mj_nlt h]; rfl)
theorem mj_co45 : ∀ pc q, mj_cd 45 pc = some q → decode (mj_cc 45) pc = .ok (q.1, q.2.1) ∧ mj_ck (mj_ow 45) q.1 q.2.2.1 q.2.2.2 = true := mj_tok_ok mj_ck45 (fun pc h => by show mj_cd45 pc = none; unfold mj_cd45; rw [mj_nlt h]; rfl)
theorem mj_co46 : ∀ pc q, mj_cd 46 pc = some q → decode (mj_cc 46) pc = .ok (q.1, q.2.1) ∧ mj_ck (mj_ow 46) q.1 q.2.2.1 q.2.2.2 = true := mj_tok_ok mj_ck46 (fun pc h => by show mj_cd46 pc = none; unfold mj_cd46; rw [mj_nlt h]; rfl)
theorem mj_co47 : ∀ pc q, mj_cd 47 pc = some q → decode (mj_cc 47) pc = .ok (q.1, q.2.1) ∧ mj_ck (mj_ow 47) q.1 q.2.2.1 q.2.2.2 = true := mj_tok_ok mj_ck47 (fun pc h => by show mj_cd47 pc = none; unfold mj_cd47; rw [mj_nlt h]; rfl)
theorem mj_co48 : ∀ pc q, mj_cd 48 pc = some q → decode (mj_cc 48) pc = .ok (q.1, q.2.1) ∧ mj_ck (mj_ow 48) q.1 q.2.2.1 q.2.2.2 = true := mj_tok_ok mj_ck48 (fun pc h => by show mj_cd48 pc = none; unfold mj_cd48; rw [mj_nlt h]; rfl)
theorem mj_co49 : ∀ pc q, mj_cd 49 pc = some q → decode (mj_cc 49) pc = .ok (q.1, q.2.1) ∧ mj_ck (mj_ow 49) q.1 q.2.2.1 q.2.2.2 = true := mj_tok_ok mj_ck49 (fun pc h => by show mj_cd49 pc = none; unfold mj_cd49; rw [mj_nlt h]; rfl)
theorem mj_co50 : ∀ pc q, mj_cd 50 pc = some q → decode (mj_cc 50) pc = .ok (q.1, q.2.1) ∧ mj_ck (mj_ow 50) q.1 q.2.2.1 q.2.2.2 = true := mj_tok_ok mj_ck50 (fun pc h => by show mj_cd50 pc = none; unfold mj_cd50; rw [mj_nlt h]; rfl)
theorem mj_co51 : ∀ pc q, mj_cd 51 pc = some q → decode (mj_cc 51) pc = .ok (q.1, q.2.1) ∧ mj_ck (mj_ow 51) q.1 q.2.2.1 q.2.2.2 = true := mj_tok_ok mj_ck51 (fun pc h => by show mj_cd51 pc = none; unfold mj_cd51; rw [mj_nlt h]; rfl)
theorem mj_co52 : ∀ pc q, mj_cd 52 pc = some q → decode (mj_cc 52) pc = .ok (q.1, q.2.1) ∧ mj_ck (mj_ow 52) q.1 q.2.2.1 q.2.2.2 = true := mj_tok_ok mj_ck52 (fun pc h => by show mj_cd52 pc = none; unfold mj_cd52; rw [mj_nlt h]; rfl)
theorem mj_co53 : ∀ pc q, mj_cd 53 pc = some q → decode (mj_cc 53) pc = .ok (q.1, q.2.1) ∧ mj_ck (mj_ow 53) q.1 q.2.2.1 q.2.2.2 = true := mj_tok_ok mj_ck53 (fun pc h => by show mj_cd53 pc = none; unfold mj_cd53; rw [mj_nlt h]; rfl)
theorem mj_co54 : ∀ pc q, mj_cd 54 pc = some q → decode (mj_cc 54) pc = .ok (q.1, q.2.1) ∧ mj_ck (mj_ow 54) q.1 q.2.2.1 q.2.2.2 = true := mj_tok_ok mj_ck54 (fun pc h => by show mj_cd54 pc = none; unfold mj_cd54; rw [mj_nlt h]; rfl)
theorem mj_co55 : ∀ pc q, mj_cd 55 pc = some q → decode (mj_cc 55) pc = .ok (q.1, q.2.1) ∧ mj_ck (mj_ow 55) q.1 q.2.2.1 q.2.2.2 = true := mj_tok_ok mj_ck55 (fun pc h => by show mj_cd55 pc = none; unfold mj_cd55; rw [mj_nlt h]; rfl)
theorem mj_co56 : ∀ pc q, mj_cd 56 pc = some q → decode (mj_cc 56) pc = .ok (q.1, q.2.1) ∧ mj_ck (mj_ow 56) q.1 q.2.2.1 q.2.2.2 = true := mj_tok_ok mj_ck56 (fun pc h => by show mj_cd56 pc = none; unfold mj_cd56; rw [mj_nlt h]; rfl)
theorem mj_co57 : ∀ pc q, mj_cd 57 pc = some q → decode (mj_cc 57) pc = .ok (q.1, q.2.1) ∧ mj_ck (mj_ow 57) q.1 q.2.2.1 q.2.2.2 = true := mj_tok_ok mj_ck57 (fun pc h => by show mj_cd57 pc = none; unfold mj_cd57; rw [mj_nlt h]; rfl)
theorem mj_co58 : ∀ pc q, mj_cd 58 pc = some q → decode (mj_cc 58) pc = .ok (q.1, q.2.1) ∧ mj_ck (mj_ow 58) q.1 q.2.2.1 q.2.2.2 = true := mj_tok_ok mj_ck58 (fun pc h => by show mj_cd58 pc = none; unfold mj_cd58; rw [mj_nlt h]; rfl)
theorem mj_co59 : ∀ pc q, mj_cd 59 pc = some q → decode (mj_cc 59) pc = .ok (q.1, q.2.1) ∧ mj_ck (mj_ow 59) q.1 q.2.2.1 q.2.2.2 = true := mj_tok_ok mj_ck59 (fun pc h => by show mj_cd59 pc = none; unfold mj_cd59; rw [mj_nlt h]; rfl)
theorem mj_co60 : ∀ pc q, mj_cd 60 pc = some q → decode (mj_cc 60) pc = .ok (q.1, q.2.1) ∧ mj_ck (mj_ow 60) q.1 q.2.2.1 q.2.2.2 = true := mj_tok_ok mj_ck60 (fun pc h => by show mj_cd60 pc = none; unfold mj_cd60; rw [mj_nlt h]; rfl)
theorem mj_co61 : ∀ pc q, mj_cd 61 pc = some q → decode (mj_cc 61) pc = .ok (q.1, q.2.1) ∧ mj_ck (mj_ow 61) q.1 q.2.2.1 q.2.2.2 = true := mj_tok_ok mj_ck61 (fun pc h => by show mj_cd61 pc = none; unfold mj_cd61; rw [mj_nlt h]; rfl)
theorem mj_co62 : ∀ pc q, mj_cd 62 pc = some q → decode (mj_cc 62) pc = .ok (q.1, q.2.1) ∧ mj_ck (mj_ow 62) q.1 q.2.2.1 q.2.2.2 = true := mj_tok_ok mj_ck62 (fun pc h => by show mj_cd62 pc = none; unfold mj_cd62; rw [mj_nlt h]; rfl)
theorem mj_co63 : ∀ pc q, mj_cd 63 pc = some q → decode (mj_cc 63) pc = .ok (q.1, q.2.1) ∧ mj_ck (mj_ow 63) q.1 q.2.2.1 q.2.2.2 = true := mj_tok_ok mj_ck63 (fun pc h => by show mj_cd63 pc = none; unfold mj_cd63; rw [mj_nlt h]; rfl)
theorem mj_co64 : ∀ pc q, mj_cd 64 pc = some q → decode (mj_cc 64) pc = .ok (q.1, q.2.1) ∧ mj_ck (mj_ow 64) q.1 q.2.2.1 q.2.2.2 = true := mj_tok_ok mj_ck64 (fun pc h => by show mj_cd64 pc = none; unfold mj_cd64; rw [mj_nlt h]; rfl)
theorem mj_co65 : ∀ pc q, mj_cd 65 pc = some q → decode (mj_cc 65) pc = .ok (q.1, q.2.1) ∧ mj_ck (mj_ow 65) q.1 q.2.2.1 q.2.2.2 = true := mj_tok_ok mj_ck65 (fun pc h => by show mj_cd65 pc = none; unfold mj_cd65; rw [mj_nlt h]; rfl)
theorem mj_co66 : ∀ pc q, mj_cd 66 pc = some q → decode (mj_cc 66) pc = .ok (q.1, q.2.1) ∧ mj_ck (mj_ow 66) q.1 q.2.2.1 q.2.2.2 = true := mj_tok_ok mj_ck66 (fun pc h => by show mj_cd66 pc = none; unfold mj_cd66; rw [mj_nlt h]; rfl)
theorem mj_co67 : ∀ pc q, mj_cd 67 pc = some q → decode (mj_cc 67) pc = .ok (q.1, q.2.1) ∧ mj_ck (mj_ow 67) q.1 q.2.2.1 q.2.2.2 = true := mj_tok_ok mj_ck67 (fun pc h => by show mj_cd67 pc = none; unfold mj_cd67; rw [mj_nlt h]; rfl)
theorem mj_co68 : ∀ pc q, mj_cd 68 pc = some q → decode (mj_cc 68) pc = .ok (q.1, q.2.1) ∧ mj_ck (mj_ow 68) q.1 q.2.2.1 q.2.2.2 = true := mj_tok_ok mj_ck68 (fun pc h => by show mj_cd68 pc = none; unfold mj_cd68; rw [mj_nlt h]; rfl)
theorem mj_co69 : ∀ pc q, mj_cd 69 pc = some q → decode (mj_cc 69) pc = .ok (q.1, q.2.1) ∧ mj_ck (mj_ow 69) q.1 q.2.2.1 q.2.2.2 = true := mj_tok_ok mj_ck69 (fun pc h => by show mj_cd69 pc = none; unfold mj_cd69; rw [mj_nlt h]; rfl)
theorem mj_co70 : ∀ pc q, mj_cd 70 pc = some q → decode (mj_cc 70) pc = .ok (q.1, q.2.1) ∧ mj_ck (mj_ow 70) q.1 q.2.2.1 q.2.2.2 = true := mj_tok_ok mj_ck70 (fun pc h => by show mj_cd70 pc = none; unfold mj_cd70; rw [mj_nlt h]; rfl)
theorem mj_co71 : ∀ pc q, mj_cd 71 pc = some q → decode (mj_cc 71) pc = .ok (q.1, q.2.1) ∧ mj_ck (mj_ow 71) q.1 q.2.2.1 q.2.2.2 = true := mj_tok_ok mj_ck71 (fun pc h => by show mj_cd71 pc = none; unfold mj_cd71; rw [mj_nlt h]; rfl)
theorem mj_co72 : ∀ pc q, mj_cd 72 pc = some q → decode (mj_cc 72) pc = .ok (q.1, q.2.1) ∧ mj_ck (mj_ow 72) q.1 q.2.2.1 q.2.2.2 = true := mj_tok_ok mj_ck72 (fun pc h => by show mj_cd72 pc = none; unfold mj_cd72; rw [mj_nlt h]; rfl)
theorem mj_co73 : ∀ pc q, mj_cd 73 pc = some q → decode (mj_cc 73) pc = .ok (q.1, q.2.1) ∧ mj_ck (mj_ow 73) q.1 q.2.2.1 q.2.2.2 = true := mj_tok_ok mj_ck73 (fun pc h => by show mj_cd73 pc = none; unfold mj_cd73; rw [mj_nlt h]; rfl)
theorem mj_co74 : ∀ pc q, mj_cd 74 pc = some q → decode (mj_cc 74) pc = .ok (q.1, q.2.1) ∧ mj_ck (mj_ow 74) q.1 q.2.2.1 q.2.2.2 = true := mj_tok_ok mj_ck74 (fun pc h => by show mj_cd74 pc = none; unfold mj_cd74; rw [mj_nlt h]; rfl)
theorem mj_co75 : ∀ pc q, mj_cd 75 pc = some q → decode (mj_cc 75) pc = .ok (q.1, q.2.1) ∧ mj_ck (mj_ow 75) q.1 q.2.2.1 q.2.2.2 = true := mj_tok_ok mj_ck75 (fun pc h => by show mj_cd75 pc = none; unfold mj_cd75; rw [mj_nlt h]; rfl)
theorem mj_co76 : ∀ pc q, mj_cd 76 pc = some q → decode (mj_cc 76) pc = .ok (q.1, q.2.1) ∧ mj_ck (mj_ow 76) q.1 q.2.2.1 q.2.2.2 = true := mj_tok_ok mj_ck76 (fun pc h => by show mj_cd76 pc = none; unfold mj_cd76; rw [mj_nlt h]; rfl)
theorem mj_co77 : ∀ pc q, mj_cd 77 pc = some q → decode (mj_cc 77) pc = .ok (q.1, q.2.1) ∧ mj_ck (mj_ow 77) q.1 q.2.2.1 q.2.2.2 = true := mj_tok_ok mj_ck77 (fun pc h => by show mj_cd77 pc = none; unfold mj_cd77; rw [mj_nlt h]; rfl)
theorem mj_co78 : ∀ pc q, mj_cd 78 pc = some q → decode (mj_cc 78) pc = .ok (q.1, q.2.1) ∧ mj_ck (mj_ow 78) q.1 q.2.2.1 q.2.2.2 = true := mj_tok_ok mj_ck78 (fun pc h => by show mj_cd78 pc = none; unfold mj_cd78; rw [mj_nlt h]; rfl)
theorem mj_co79 : ∀ pc q, mj_cd 79 pc = some q → decode (mj_cc 79) pc = .ok (q.1, q.2.1) ∧ mj_ck (mj_ow 79) q.1 q.2.2.1 q.2.2.2 = true := mj_tok_ok mj_ck79 (fun pc h => by show mj_cd79 pc = none; unfold mj_cd79; rw [mj_nlt h]; rfl)
theorem mj_co80 : ∀ pc q, mj_cd 80 pc = some q → decode (mj_cc 80) pc = .ok (q.1, q.2.1) ∧ mj_ck (mj_ow 80) q.1 q.2.2.1 q.2.2.2 = true := mj_tok_ok mj_ck80 (fun pc h => by show mj_cd80 pc = none; unfold mj_cd80; rw [mj_nlt h]; rfl)
theorem mj_co81 : ∀ pc q, mj_cd 81 pc = some q → decode (mj_cc 81) pc = .ok (q.1, q.2.1) ∧ mj_ck (mj_ow 81) q.1 q.2.2.1 q.2.2.2 = true := mj_tok_ok mj_ck81 (fun pc h => by show mj_cd81 pc = none; unfold mj_cd81; rw [mj_nlt h]; rfl)
theorem mj_co82 : ∀ pc q, mj_cd 82 pc = some q → decode (mj_cc 82) pc = .ok (q.1, q.2.1) ∧ mj_ck (mj_ow 82) q.1 q.2.2.1 q.2.2.2 = true := mj_tok_ok mj_ck82 (fun pc h => by show mj_cd82 pc = none; unfold mj_cd82; rw [mj_nlt h]; rfl)
theorem mj_co83 : ∀ pc q, mj_cd 83 pc = some q → decode (mj_cc 83) pc = .ok (q.1, q.2.1) ∧ mj_ck (mj_ow 83) q.1 q.2.2.1 q.2.2.2 = true := mj_tok_ok mj_ck83 (fun pc h => by show mj_cd83 pc = none; unfold mj_cd83; rw [mj_nlt h]; rfl)
theorem mj_co84 : ∀ pc q, mj_cd 84 pc = some q → decode (mj_cc 84) pc = .ok (q.1, q.2.1) ∧ mj_ck (mj_ow 84) q.1 q.2.2.1 q.2.2.2 = true := mj_tok_ok mj_ck84 (fun pc h => by show mj_cd84 pc = none; unfold mj_cd84; rw [mj_nlt h]; rfl)
theorem mj_co85 : ∀ pc q, mj_cd 85 pc = some q → decode (mj_cc 85) pc = .ok (q.1, q.2.1) ∧ mj_ck (mj_ow 85) q.1 q.2.2.1 q.2.2.2 = true := mj_tok_ok mj_ck85 (fun pc h => by show mj_cd85 pc = none; unfold mj_cd85; rw [mj_nlt h]; rfl)
theorem mj_co86 : ∀ pc q, mj_cd 86 pc = some q → decode (mj_cc 86) pc = .ok (q.1, q.2.1) ∧ mj_ck (mj_ow 86) q.1 q.2.2.1 q.2.2.2 = true := mj_tok_ok mj_ck86 (fun pc h => by show mj_cd86 pc = none; unfold mj_cd86; rw [mj_nlt h]; rfl)
theorem mj_co87 : ∀ pc q, mj_cd 87 pc = some q → decode (mj_cc 87) pc = .ok (q.1, q.2.1) ∧ mj_ck (mj_ow 87) q.1 q.2.2.1 q.2.2.2 = true := mj_tok_ok mj_ck87 (fun pc h => by show mj_cd87 pc = none; unfold mj_cd87; rw [mj_nlt h]; rfl)
theorem mj_co88 : ∀ pc q, mj_cd 88 pc = some q → decode (mj_cc 88) pc = .ok (q.1, q.2.1) ∧ mj_ck (mj_ow 88) q.1 q.2.2.1 q.2.2.2 = true := mj_tok_ok mj_ck88 (fun pc h => by show mj_cd88 pc = none; unfold mj_cd88; rw [mj_nlt h]; rfl)
theorem mj_co89 : ∀ pc q, mj_cd 89 pc = some q → decode (mj_cc 89) pc = .ok (q.1, q.2.1) ∧ mj_ck (mj_ow 89) q.1 q.2.2.1 q.2.2.2 = true := mj_tok_ok mj_ck89 (fun pc h => by show mj_cd89 pc = none; unfold mj_cd89; rw [mj_nlt h]; rfl)
theorem mj_co90 : ∀ pc q, mj_cd 90 pc = some q → decode (mj_cc 90) pc = .ok (q.1, q.2.1) ∧ mj_ck (mj_ow 90) q.1 q.2.2.1 q.2.2.2 = true := mj_tok_ok mj_ck90 (fun pc h => by show mj_cd90 pc = none; unfold mj_cd90; rw [mj_nlt h]; rfl)
theorem mj_co91 : ∀ pc q, mj_cd 91 pc = some q → decode (mj_cc 91) pc = .ok (q.1, q.2.1) ∧ mj_ck (mj_ow 91) q.1 q.2.2.1 q.2.2.2 = true := mj_tok_ok mj_ck91 (fun pc h => by show mj_cd91 pc = none; unfold mj_cd91; rw [mj_nlt h]; rfl)
theorem mj_co92 : ∀ pc q, mj_cd 92 pc = some q → decode (mj_cc 92) pc = .ok (q.1, q.2.1) ∧ mj_ck (mj_ow 92) q.1 q.2.2.1 q.2.2.2 = true := mj_tok_ok mj_ck92 (fun pc h => by show mj_cd92 pc = none; unfold mj_cd92; rw [mj_nlt h]; rfl)
theorem mj_co93 : ∀ pc q, mj_cd 93 pc = some q → decode (mj_cc 93) pc = .ok (q.1, q.2.1) ∧ mj_ck (mj_ow 93) q.1 q.2.2.1 q.2.2.2 = true := mj_tok_ok mj_ck93 (fun pc h => by show mj_cd93 pc = none; unfold mj_cd93; rw [mj_nlt h]; rfl)
theorem mj_co94 : ∀ pc q, mj_cd 94 pc = some q → decode (mj_cc 94) pc = .ok (q.1, q.2.1) ∧ mj_ck (mj_ow 94) q.1 q.2.2.1 q.2.2.2 = true := mj_tok_ok mj_ck94 (fun pc h => by show mj_cd94 pc = none; unfold mj_cd94; rw [mj_nlt h]; rfl)
theorem mj_co95 : ∀ pc q, mj_cd 95 pc = some q → decode (mj_cc 95) pc = .ok (q.1, q.2.1) ∧ mj_ck (mj_ow 95) q.1 q.2.2.1 q.2.2.2 = true := mj_tok_ok mj_ck95 (fun pc h => by show mj_cd95 pc = none; unfold mj_cd95; rw [mj_nlt h]; rfl)
theorem mj_co96 : ∀ pc q, mj_cd 96 pc = some q → decode (mj_cc 96) pc = .ok (q.1, q.2.1) ∧ mj_ck (mj_ow 96) q.1 q.2.2.1 q.2.2.2 = true := mj_tok_ok mj_ck96 (fun pc h => by show mj_cd96 pc = none; unfold mj_cd96; rw [mj_nlt h]; rfl)
theorem mj_co97 : ∀ pc q, mj_cd 97 pc = some q → decode (mj_cc 97) pc = .ok (q.1, q.2.1) ∧ mj_ck (mj_ow 97) q.1 q.2.2.1 q.2.2.2 = true := mj_tok_ok mj_ck97 (fun pc h => by show mj_cd97 pc = none; unfold mj_cd97; rw [mj_nlt h]; rfl)
theorem mj_co98 : ∀ pc q, mj_cd 98 pc = some q → decode (mj_cc 98) pc = .ok (q.1, q.2.1) ∧ mj_ck (mj_ow 98) q.1 q.2.2.1 q.2.2.2 = true := mj_tok_ok mj_ck98 (fun pc h => by show mj_cd98 pc = none; unfold mj_cd98; rw [mj_nlt h]; rfl)
theorem mj_co99 : ∀ pc q, mj_cd 99 pc = some q → decode (mj_cc 99) pc = .ok (q.1, q.2.1) ∧ mj_ck (mj_ow 99) q.1 q.2.2.1 q.2.2.2 = true := mj_tok_ok mj_ck99 (fun pc h => by show mj_cd99 pc = none; unfold mj_cd99; rw [mj_nlt h]; rfl)
theorem mj_co100 : ∀ pc q, mj_cd 100 pc = some q → decode (mj_cc 100) pc = .ok (q.1, q.2.1) ∧ mj_ck (mj_ow 100) q.1 q.2.2.1 q.2.2.2 = true := mj_tok_ok mj_ck100 (fun pc h => by show mj_cd100 pc = none; unfold mj_cd100; rw [mj_nlt h]; rfl)
theorem mj_co101 : ∀ pc q, mj_cd 101 pc = some q → decode (mj_cc 101) pc = .ok (q.1, q.2.1) ∧ mj_ck (mj_ow 101) q.1 q.2.2.1 q.2.2.2 = true := mj_tok_ok mj_ck101 (fun pc h => by show mj_cd101 pc = none; unfold mj_cd101; rw [mj_nlt h]; rfl)
theorem mj_co102 : ∀ pc q, mj_cd 102 pc = some q → decode (mj_cc 102) pc = .ok (q.1, q.2.1) ∧ mj_ck (mj_ow 102) q.1 q.2.2.1 q.2.2.2 = true := mj_tok_ok mj_ck102 (fun pc h => by show mj_cd102 pc = none; unfold mj_cd102; rw [mj_nlt h]; rfl)
theorem mj_co103 : ∀ pc q, mj_cd 103 pc = some q → decode (mj_cc 103) pc = .ok (q.1, q.2.1) ∧ mj_ck (mj_ow 103) q.1 q.2.2.1 q.2.2.2 = true := mj_tok_ok mj_ck103 (fun pc h => by show mj_cd103 pc = none; unfold mj_cd103; rw [mj_nlt h]; rfl)
theorem mj_co104 : ∀ pc q, mj_cd 104 pc = some q → decode (mj_cc 104) pc = .ok (q.1, q.2.1) ∧ mj_ck (mj_ow 104) q.1 q.2.2.1 q.2.2.2 = true := mj_tok_ok mj_ck104 (fun pc h => by show mj_cd104 pc = none; unfold mj_cd104; rw [mj_nlt h]; rfl)
theorem mj_co105 : ∀ pc q, mj_cd 105 pc = some q → decode (mj_cc 105) pc = .ok (q.1, q.2.1) ∧ mj_ck (mj_ow 105) q.1 q.2.2.1 q.2.2.2 = true := mj_tok_ok mj_ck105 (fun pc h => by show mj_cd105 pc = none; unfold mj_cd105; rw [mj_nlt h]; rfl)
theorem mj_co106 : ∀ pc q, mj_cd 106 pc = some q → decode (mj_cc 106) pc = .ok (q.1, q.2.1) ∧ mj_ck (mj_ow 106) q.1 q.2.2.1 q.2.2.2 = true := mj_tok_ok mj_ck106 (fun pc h => by show mj_cd106 pc = none; unfold mj_cd106; rw [mj_nlt h]; rfl)
theorem mj_co107 : ∀ pc q, mj_cd 107 pc = some q → decode (mj_cc 107) pc = .ok (q.1, q.2.1) ∧ mj_ck (mj_ow 107) q.1 q.2.2.1 q.2.2.2 = true := mj_tok_ok mj_ck107 (fun pc h => by show mj_cd107 pc = none; unfold mj_cd107; rw [mj_nlt h]; rfl)
theorem mj_co108 : ∀ pc q, mj_cd 108 pc = some q → decode (mj_cc 108) pc = .ok (q.1, q.2.1) ∧ mj_ck (mj_ow 108) q.1 q.2.2.1 q.2.2.2 = true := mj_tok_ok mj_ck108 (fun pc h => by show mj_cd108 pc = none; unfold mj_cd108; rw [mj_nlt h]; rfl)
theorem mj_co109 : ∀ pc q, mj_cd 109 pc = some q → decode (mj_cc 109) pc = .ok (q.1, q.2.1) ∧ mj_ck (mj_ow 109) q.1 q.2.2.1 q.2.2.2 = true := mj_tok_ok mj_ck109 (fun pc h => by show mj_cd109 pc = none; unfold mj_cd109; rw [mj_nlt h]; rfl)
theorem mj_co110 : ∀ pc q, mj_cd 110 pc = some q → decode (mj_cc 110) pc = .ok (q.1, q.2.1) ∧ mj_ck (mj_ow 110) q.1 q.2.2.1 q.2.2.2 = true := mj_tok_ok mj_ck110 (fun pc h => by show mj_cd110 pc = none; unfold mj_cd110; rw [mj_nlt h]; rfl)
theorem mj_co111 : ∀ pc q, mj_cd 111 pc = some q → decode (mj_cc 111) pc = .ok (q.1, q.2.1) ∧ mj_ck (mj_ow 111) q.1 q.2.2.1 q.2.2.2 = true := mj_tok_ok mj_ck111 (fun pc h => by show mj_cd111 pc = none; unfold mj_cd111; rw [mj_nlt h]; rfl)
theorem mj_co112 : ∀ pc q, mj_cd 112 pc = some q → decode (mj_cc 112) pc = .ok (q.1, q.2.1) ∧ mj_ck (mj_ow 112) q.1 q.2.2.1 q.2.2.2 = true := mj_tok_ok mj_ck112 (fun pc h => by show mj_cd112 pc = none; unfold mj_cd112; rw [mj_nlt h]; rfl)
theorem mj_co113 : ∀ pc q, mj_cd 113 pc = some q → decode (mj_cc 113) pc = .ok (q.1, q.2.1) ∧ mj_ck (mj_ow 113) q.1 q.2.2.1 q.2.2.2 = true := mj_tok_ok mj_ck113 (fun pc h => by show mj_cd113 pc = none; unfold mj_cd113; rw [mj_nlt h]; rfl)
theorem mj_co114 : ∀ pc q, mj_cd 114 pc = some q → decode (mj_cc 114) pc = .ok (q.1, q.2.1) ∧ mj_ck (mj_ow 114) q.1 q.2.2.1 q.2.2.2 = true := mj_tok_ok mj_ck114 (fun pc h => by show mj_cd114 pc = none; unfold mj_cd114; rw [mj_nlt h]; rfl)
theorem mj_co115 : ∀ pc q, mj_cd 115 pc = some q → decode (mj_cc 115) pc = .ok (q.1, q.2.1) ∧ mj_ck (mj_ow 115) q.1 q.2.2.1 q.2.2.2 = true := mj_tok_ok mj_ck115 (fun pc h => by show mj_cd115 pc = none; unfold mj_cd115; rw [mj_nlt h]; rfl)
theorem mj_co116 : ∀ pc q, mj_cd 116 pc = some q → decode (mj_cc 116) pc = .ok (q.1, q.2.1) ∧ mj_ck (mj_ow 116) q.1 q.2.2.1 q.2.2.2 = true := mj_tok_ok mj_ck116 (fun pc h => by show mj_cd116 pc = none; unfold mj_cd116; rw [mj_nlt h]; rfl)
theorem mj_co117 : ∀ pc q, mj_cd 117 pc = some q → decode (mj_cc 117) pc = .ok (q.1, q.2.1) ∧ mj_ck (mj_ow 117) q.1 q.2.2.1 q.2.2.2 = true := mj_tok_ok mj_ck117 (fun pc h => by show mj_cd117 pc = none; unfold mj_cd117; rw [mj_nlt h]; rfl)
theorem mj_co118 : ∀ pc q, mj_cd 118 pc = some q → decode (mj_cc 118) pc = .ok (q.1, q.2.1) ∧ mj_ck (mj_ow 118) q.1 q.2.2.1 q.2.2.2 = true := mj_tok_ok mj_ck118 (fun pc h => by show mj_cd118 pc = none; unfold mj_cd118; rw [mj_nlt h]; rfl)
theorem mj_co119 : ∀ pc q, mj_cd 119 pc = some q → decode (mj_cc 119) pc = .ok (q.1, q.2.1) ∧ mj_ck (mj_ow 119) q.1 q.2.2.1 q.2.2.2 = true := mj_tok_ok mj_ck119 (fun pc h => by show mj_cd119 pc = none; unfold mj_cd119; rw [mj_nlt h]; rfl)
theorem mj_co120 : ∀ pc q, mj_cd 120 pc = some q → decode (mj_cc 120) pc = .ok (q.1, q.2.1) ∧ mj_ck (mj_ow 120) q.1 q.2.2.1 q.2.2.2 = true := mj_tok_ok mj_ck120 (fun pc h => by show mj_cd120 pc = none; unfold mj_cd120; rw [mj_nlt h]; rfl)
theorem mj_co121 : ∀ pc q, mj_cd 121 pc = some q → decode (mj_cc 121) pc = .ok (q.1, q.2.1) ∧ mj_ck (mj_ow 121) q.1 q.2.2.1 q.2.2.2 = true := mj_tok_ok mj_ck121 (fun pc h => by show mj_cd121 pc = none; unfold mj_cd121; rw [mj_nlt h]; rfl)
theorem mj_co122 : ∀ pc q, mj_cd 122 pc = some q → decode (mj_cc 122) pc = .ok (q.1, q.2.1) ∧ mj_ck (mj_ow 122) q.1 q.2.2.1 q.2.2.2 = true := mj_tok_ok mj_ck122 (fun pc h => by show mj_cd122 pc = none; unfold mj_cd122; rw [mj_nlt h]; rfl)
theorem mj_co123 : ∀ pc q, mj_cd 123 pc = some q → decode (mj_cc 123) pc = .ok (q.1, q.2.1) ∧ mj_ck (mj_ow 123) q.1 q.2.2.1 q.2.2.2 = true := mj_tok_ok mj_ck123 (fun pc h => by show mj_cd123 pc = none; unfold mj_cd123; rw [mj_nlt h]; rfl)
theorem mj_co124 : ∀ pc q, mj_cd 124 pc = some q → decode (mj_cc 124) pc = .ok (q.1, q.2.1) ∧ mj_ck (mj_ow 124) q.1 q.2.2.1 q.2.2.2 = true := mj_tok_ok mj_ck124 (fun pc h => by show mj_cd124 pc = none; unfold mj_cd124; rw [mj_nlt h]; rfl)
theorem mj_co125 : ∀ pc q, mj_cd 125 pc = some q → decode (mj_cc 125) pc = .ok (q.1, q.2.1) ∧ mj_ck (mj_ow 125) q.1 q.2.2.1 q.2.2.2 = true := mj_tok_ok mj_ck125 (fun pc h => by show mj_cd125 pc = none; unfold mj_cd125; rw [mj_nlt h]; rfl)
theorem mj_co126 : ∀ pc q, mj_cd 126 pc = some q → decode (mj_cc 126) pc = .ok (q.1, q.2.1) ∧ mj_ck (mj_ow 126) q.1 q.2.2.1 q.2.2.2 = true := mj_tok_ok mj_ck126 (fun pc h => by show mj_cd126 pc = none; unfold mj_cd126; rw [mj_nlt h]; rfl)
theorem mj_co127 : ∀ pc q, mj_cd 127 pc = some q → decode (mj_cc 127) pc = .ok (q.1, q.2.1) ∧ mj_ck (mj_ow 127) q.1 q.2.2.1 q.2.2.2 = true := mj_tok_ok mj_ck127 (fun pc h => by show mj_cd127 pc = none; unfold mj_cd127; rw [mj_nlt h]; rfl)
theorem mj_co128 : ∀ pc q, mj_cd 128 pc = some q → decode (mj_cc 128) pc = .ok (q.1, q.2.1) ∧ mj_ck (mj_ow 128) q.1 q.2.2.1 q.2.2.2 = true := mj_tok_ok mj_ck128 (fun pc h => by show mj_cd128 pc = none; unfold mj_cd128; rw [mj_nlt h]; rfl)
theorem mj_co129 : ∀ pc q, mj_cd 129 pc = some q → decode (mj_cc 129) pc = .ok (q.1, q.2.1) ∧ mj_ck (mj_ow 129) q.1 q.2.2.1 q.2.2.2 = true := mj_tok_ok mj_ck129 (fun pc h => by show mj_cd129 pc = none; unfold mj_cd129; rw [mj_nlt h]; rfl)
theorem mj_co130 : ∀ pc q, mj_cd 130 pc = some q → decode (mj_cc 130) pc = .ok (q.1, q.2.1) ∧ mj_ck (mj_ow 130) q.1 q.2.2.1 q.2.2.2 = true := mj_tok_ok mj_ck130 (fun pc h => by show mj_cd130 pc = none; unfold mj_cd130; rw [mj_nlt h]; rfl)
theorem mj_co131 : ∀ pc q, mj_cd 131 pc = some q → decode (mj_cc 131) pc = .ok (q.1, q.2.1) ∧ mj_ck (mj_ow 131) q.1 q.2.2.1 q.2.2.2 = true := mj_tok_ok mj_ck131 (fun pc h => by show mj_cd131 pc = none; unfold mj_cd131; rw [mj_nlt h]; rfl)
theorem mj_co132 : ∀ pc q, mj_cd 132 pc = some q → decode (mj_cc 132) pc = .ok (q.1, q.2.1) ∧ mj_ck (mj_ow 132) q.1 q.2.2.1 q.2.2.2 = true := mj_tok_ok mj_ck132 (fun pc h => by show mj_cd132 pc = none; unfold mj_cd132; rw [mj_nlt h]; rfl)
theorem mj_co133 : ∀ pc q, mj_cd 133 pc = some q → decode (mj_cc 133) pc = .ok (q.1, q.2.1) ∧ mj_ck (mj_ow 133) q.1 q.2.2.1 q.2.2.2 = true := mj_tok_ok mj_ck133 (fun pc h => by show mj_cd133 pc = none; unfold mj_cd133; rw [mj_nlt h]; rfl)
theorem mj_co134 : ∀ pc q, mj_cd 134 pc = some q → decode (mj_cc 134) pc = .ok (q.1, q.2.1) ∧ mj_ck (mj_ow 134) q.1 q.2.2.1 q.2.2.2 = true := mj_tok_ok mj_ck134 (fun pc h => by show mj_cd134 pc = none; unfold mj_cd134; rw [mj_nlt h]; rfl)
theorem mj_co135 : ∀ pc q, mj_cd 135 pc = some q → decode (mj_cc 135) pc = .ok (q.1, q.2.1) ∧ mj_ck (mj_ow 135) q.1 q.2.2.1 q.2.2.2 = true := mj_tok_ok mj_ck135 (fun pc h => by show mj_cd135 pc = none; unfold mj_cd135; rw [mj_nlt h]; rfl)
theorem mj_co136 : ∀ pc q, mj_cd 136 pc = some q → decode (mj_cc 136) pc = .ok (q.1, q.2.1) ∧ mj_ck (mj_ow 136) q.1 q.2.2.1 q.2.2.2 = true := mj_tok_ok mj_ck136 (fun pc h => by show mj_cd136 pc = none; unfold mj_cd136; rw [mj_nlt h]; rfl)
theorem mj_co137 : ∀ pc q, mj_cd 137 pc = some q → decode (mj_cc 137) pc = .ok (q.1, q.2.1) ∧ mj_ck (mj_ow 137) q.1 q.2.2.1 q.2.2.2 = true := mj_tok_ok mj_ck137 (fun pc h => by show mj_cd137 pc = none; unfold mj_cd137; rw [mj_nlt h]; rfl)
theorem mj_co138 : ∀ pc q, mj_cd 138 pc = some q → decode (mj_cc 138) pc = .ok (q.1, q.2.1) ∧ mj_ck (mj_ow 138) q.1 q.2.2.1 q.2.2.2 = true := mj_tok_ok mj_ck138 (fun pc h => by show mj_cd138 pc = none; unfold mj_cd138; rw [mj_nlt h]; rfl)
theorem mj_co139 : ∀ pc q, mj_cd 139 pc = some q → decode (mj_cc 139) pc = .ok (q.1, q.2.1) ∧ mj_ck (mj_ow 139) q.1 q.2.2.1 q.2.2.2 = true := mj_tok_ok mj_ck139 (fun pc h => by show mj_cd139 pc = none; unfold mj_cd139; rw [mj_nlt h]; rfl)
theorem mj_co140 : ∀ pc q, mj_cd 140 pc = some q → decode (mj_cc 140) pc = .ok (q.1, q.2.1) ∧ mj_ck (mj_ow 140) q.1 q.2.2.1 q.2.2.2 = true := mj_tok_ok mj_ck140 (fun pc h => by show mj_cd140 pc = none; unfold mj_cd140; rw [mj_nlt h]; rfl)
theorem mj_co141 : ∀ pc q, mj_cd 141 pc = some q → decode (mj_cc 141) pc = .ok (q.1, q.2.1) ∧ mj_ck (mj_ow 141) q.1 q.2.2.1 q.2.2.2 = true := mj_tok_ok mj_ck141 (fun pc h => by show mj_cd141 pc = none; unfold mj_cd141; rw [mj_nlt h]; rfl)
theorem mj_co142 : ∀ pc q, mj_cd 142 pc = some q → decode (mj_cc 142) pc = .ok (q.1, q.2.1) ∧ mj_ck (mj_ow 142) q.1 q.2.2.1 q.2.2.2 = true := mj_tok_ok mj_ck142 (fun pc h => by show mj_cd142 pc = none; unfold mj_cd142; rw [mj_nlt h]; rfl)
theorem mj_co143 : ∀ pc q, mj_cd 143 pc = some q → decode (mj_cc 143) pc = .ok (q.1, q.2.1) ∧ mj_ck (mj_ow 143) q.1 q.2.2.1 q.2.2.2 = true := mj_tok_ok mj_ck143 (fun pc h => by show mj_cd143 pc = none; unfold mj_cd143; rw [mj_nlt h]; rfl)
theorem mj_co144 : ∀ pc q, mj_cd 144 pc = some q → decode (mj_cc 144) pc = .ok (q.1, q.2.1) ∧ mj_ck (mj_ow 144) q.1 q.2.2.1 q.2.2.2 = true := mj_tok_ok mj_ck144 (fun pc h => by show mj_cd144 pc = none; unfold mj_cd144; rw [mj_nlt h]; rfl)
theorem mj_co145 : ∀ pc q, mj_cd 145 pc = some q → decode (mj_cc 145) pc = .ok (q.1, q.2.1) ∧ mj_ck (mj_ow 145) q.1 q.2.2.1 q.2.2.2 = true := mj_tok_ok mj_ck145 (fun pc h => by show mj_cd145 pc = none; unfold mj_cd145; rw [mj_nlt h]; rfl)
theorem mj_co146 : ∀ pc q, mj_cd 146 pc = some q → decode (mj_cc 146) pc = .ok (q.1, q.2.1) ∧ mj_ck (mj_ow 146) q.1 q.2.2.1 q.2.2.2 = true := mj_tok_ok mj_ck146 (fun pc h => by show mj_cd146 pc = none; unfold mj_cd146; rw [mj_nlt h]; rfl)
theorem mj_co147 : ∀ pc q, mj_cd 147 pc = some q → decode (mj_cc 147) pc = .ok (q.1, q.2.1) ∧ mj_ck (mj_ow 147) q.1 q.2.2.1 q.2.2.2 = true := mj_tok_ok mj_ck147 (fun pc h => by show mj_cd147 pc = none; unfold mj_cd147; rw [mj_nlt h]; rfl)
theorem mj_co148 : ∀ pc q, mj_cd 148 pc = some q → decode (mj_cc 148) pc = .ok (q.1, q.2.1) ∧ mj_ck (mj_ow 148) q.1 q.2.2.1 q.2.2.2 = true := mj_tok_ok mj_ck148 (fun pc h => by show mj_cd148 pc = none; unfold mj_cd148; rw [mj_nlt h]; rfl)
theorem mj_co149 : ∀ pc q, mj_cd 149 pc = some q → decode (mj_cc 149) pc = .ok (q.1, q.2.1) ∧ mj_ck (mj_ow 149) q.1 q.2.2.1 q.2.2.2 = true := mj_tok_ok mj_ck149 (fun pc h => by show mj_cd149 pc = none; unfold mj_cd149; rw [mj_nlt h]; rfl)
theorem mj_co150 : ∀ pc q, mj_cd 150 pc = some q → decode (mj_cc 150) pc = .ok (q.1, q.2.1) ∧ mj_ck (mj_ow 150) q.1 q.2.2.1 q.2.2.2 = true := mj_tok_ok mj_ck150 (fun pc h => by show mj_cd150 pc = none; unfold mj_cd150; rw [mj_nlt h]; rfl)
theorem mj_co151 : ∀ pc q, mj_cd 151 pc = some q → decode (mj_cc 151) pc = .ok (q.1, q.2.1) ∧ mj_ck (mj_ow 151) q.1 q.2.2.1 q.2.2.2 = true := mj_tok_ok mj_ck151 (fun pc h => by show mj_cd151 pc = none; unfold mj_cd151; rw [mj_nlt h]; rfl)
theorem mj_co152 : ∀ pc q, mj_cd 152 pc = some q → decode (mj_cc 152) pc = .ok (q.1, q.2.1) ∧ mj_ck (mj_ow 152) q.1 q.2.2.1 q.2.2.2 = true := mj_tok_ok mj_ck152 (fun pc h => by show mj_cd152 pc = none; unfold mj_cd152; rw [mj_nlt h]; rfl)
theorem mj_co153 : ∀ pc q, mj_cd 153 pc = some q → decode (mj_cc 153) pc = .ok (q.1, q.2.1) ∧ mj_ck (mj_ow 153) q.1 q.2.2.1 q.2.2.2 = true := mj_tok_ok mj_ck153 (fun pc h => by show mj_cd153 pc = none; unfold mj_cd153; rw [mj_nlt h]; rfl)
theorem mj_co154 : ∀ pc q, mj_cd 154 pc = some q → decode (mj_cc 154) pc = .ok (q.1, q.2.1) ∧ mj_ck (mj_ow 154) q.1 q.2.2.1 q.2.2.2 = true := mj_tok_ok mj_ck154 (fun pc h => by show mj_cd154 pc = none; unfold mj_cd154; rw [mj_nlt h]; rfl)
theorem mj_co155 : ∀ pc q, mj_cd 155 pc = some q → decode (mj_cc 155) pc = .ok (q.1, q.2.1) ∧ mj_ck (mj_ow 155) q.1 q.2.2.1 q.2.2.2 = true := mj_tok_ok mj_ck155 (fun pc h => by show mj_cd155 pc = none; unfold mj_cd155; rw [mj_nlt h]; rfl)
theorem mj_co156 : ∀ pc q, mj_cd 156 pc = some q → decode (mj_cc 156) pc = .ok (q.1, q.2.1) ∧ mj_ck (mj_ow 156) q.1 q.2.2.1 q.2.2.2 = true := mj_tok_ok mj_ck156 (fun pc h => by show mj_cd156 pc = none; unfold mj_cd156; rw [mj_nlt h]; rfl)
theorem mj_co157 : ∀ pc q, mj_cd 157 pc = some q → decode (mj_cc 157) pc = .ok (q.1, q.2.1) ∧ mj_ck (mj_ow 157) q.1 q.2.2.1 q.2.2.2 = true := mj_tok_ok mj_ck157 (fun pc h => by show mj_cd157 pc = none; unfold mj_cd157; rw [mj_nlt h]; rfl)
theorem mj_co158 : ∀ pc q, mj_cd 158 pc = some q → decode (mj_cc 158) pc = .ok (q.1, q.2.1) ∧ mj_ck (mj_ow 158) q.1 q.2.2.1 q.2.2.2 = true := mj_tok_ok mj_ck158 (fun pc h => by show mj_cd158 pc = none; unfold mj_cd158; rw [mj_nlt h]; rfl)
theorem mj_co159 : ∀ pc q, mj_cd 159 pc = some q → decode (mj_cc 159) pc = .ok (q.1, q.2.1) ∧ mj_ck (mj_ow 159) q.1 q.2.2.1 q.2.2.2 = true := mj_tok_ok mj_ck159 (fun pc h => by show mj_cd159 pc = none; unfold mj_cd159; rw [mj_nlt h]; rfl)
theorem mj_co160 : ∀ pc q, mj_cd 160 pc = some q → decode (mj_cc 160) pc = .ok (q.1, q.2.1) ∧ mj_ck (mj_ow 160) q.1 q.2.2.1 q.2.2.2 = true := mj_tok_ok mj_ck160 (fun pc h => by show mj_cd160 pc = none; unfold mj_cd160; rw [mj_nlt h]; rfl)
theorem mj_co161 : ∀ pc q, mj_cd 161 pc = some q → decode (mj_cc 161) pc = .ok (q.1, q.2.1) ∧ mj_ck (mj_ow 161) q.1 q.2.2.1 q.2.2.2 = true := mj_tok_ok mj_ck161 (fun pc h => by show mj_cd161 pc = none; unfold mj_cd161; rw [mj_nlt h]; rfl)
theorem mj_co162 : ∀ pc q, mj_cd 162 pc = some q → decode (mj_cc 162) pc = .ok (q.1, q.2.1) ∧ mj_ck (mj_ow 162) q.1 q.2.2.1 q.2.2.2 = true := mj_tok_ok mj_ck162 (fun pc h => by show mj_cd162 pc = none; unfold mj_cd162; rw [mj_nlt h]; rfl)
theorem mj_co163 : ∀ pc q, mj_cd 163 pc = some q → decode (mj_cc 163) pc = .ok (q.1, q.2.1) ∧ mj_ck (mj_ow 163) q.1 q.2.2.1 q.2.2.2 = true := mj_tok_ok mj_ck163 (fun pc h => by show mj_cd163 pc = none; unfold mj_cd163; rw [mj_nlt h]; rfl)
theorem mj_co164 : ∀ pc q, mj_cd 164 pc = some q → decode (mj_cc 164) pc = .ok (q.1, q.2.1) ∧ mj_ck (mj_ow 164) q.1 q.2.2.1 q.2.2.2 = true := mj_tok_ok mj_ck164 (fun pc h => by show mj_cd164 pc = none; unfold mj_cd164; rw [mj_nlt h]; rfl)
theorem mj_co165 : ∀ pc q, mj_cd 165 pc = some q → decode (mj_cc 165) pc = .ok (q.1, q.2.1) ∧ mj_ck (mj_ow 165) q.1 q.2.2.1 q.2.2.2 = true := mj_tok_ok mj_ck165 (fun pc h => by show mj_cd165 pc = none; unfold mj_cd165; rw [mj_nlt h]; rfl)
theorem mj_co166 : ∀ pc q, mj_cd 166 pc = some q → decode (mj_cc 166) pc = .ok (q.1, q.2.1) ∧ mj_ck (mj_ow 166) q.1 q.2.2.1 q.2.2.2 = true := mj_tok_ok mj_ck166 (fun pc h => by show mj_cd166 pc = none; unfold mj_cd166; rw [mj_nlt h]; rfl)
theorem mj_co167 : ∀ pc q, mj_cd 167 pc = some q → decode (mj_cc 167) pc = .ok (q.1, q.2.1) ∧ mj_ck (mj_ow 167) q.1 q.2.2.1 q.2.2.2 = true := mj_tok_ok mj_ck167 (fun pc h => by show mj_cd167 pc = none; unfold mj_cd167; rw [mj_nlt h]; rfl)
theorem mj_co168 : ∀ pc q, mj_cd 168 pc = some q → decode (mj_cc 168) pc = .ok (q.1, q.2.1) ∧ mj_ck (mj_ow 168) q.1 q.2.2.1 q.2.2.2 = true := mj_tok_ok mj_ck168 (fun pc h => by show mj_cd168 pc = none; unfold mj_cd168; rw [mj_nlt h]; rfl)
theorem mj_co169 : ∀ pc q, mj_cd 169 pc = some q → decode (mj_cc 169) pc = .ok (q.1, q.2.1) ∧ mj_ck (mj_ow 169) q.1 q.2.2.1 q.2.2.2 = true := mj_tok_ok mj_ck169 (fun pc h => by show mj_cd169 pc = none; unfold mj_cd169; rw [mj_nlt h]; rfl)
theorem mj_co170 : ∀ pc q, mj_cd 170 pc = some q → decode (mj_cc 170) pc = .ok (q.1, q.2.1) ∧ mj_ck (mj_ow 170) q.1 q.2.2.1 q.2.2.2 = true := mj_tok_ok mj_ck170 (fun pc h => by show mj_cd170 pc = none; unfold mj_cd170; rw [mj_nlt h]; rfl)
theorem mj_co171 : ∀ pc q, mj_cd 171 pc = some q → decode (mj_cc 171) pc = .ok (q.1, q.2.1) ∧ mj_ck (mj_ow 171) q.1 q.2.2.1 q.2.2.2 = true := mj_tok_ok mj_ck171 (fun pc h => by show mj_cd171 pc = none; unfold mj_cd171; rw [mj_nlt h]; rfl)
theorem mj_co172 : ∀ pc q, mj_cd 172 pc = some q → decode (mj_cc 172) pc = .ok (q.1, q.2.1) ∧ mj_ck (mj_ow 172) q.1 q.2.2.1 q.2.2.2 = true := mj_tok_ok mj_ck172 (fun pc h => by show mj_cd172 pc = none; unfold mj_cd172; rw [mj_nlt h]; rfl)
theorem mj_co173 : ∀ pc q, mj_cd 173 pc = some q → decode (mj_cc 173) pc = .ok (q.1, q.2.1) ∧ mj_ck (mj_ow 173) q.1 q.2.2.1 q.2.2.2 = true := mj_tok_ok mj_ck173 (fun pc h => by show mj_cd173 pc = none; unfold mj_cd173; rw [mj_nlt h]; rfl)
theorem mj_co174 : ∀ pc q, mj_cd 174 pc = some q → decode (mj_cc 174) pc = .ok (q.1, q.2.1) ∧ mj_ck (mj_ow 174) q.1 q.2.2.1 q.2.2.2 = true := mj_tok_ok mj_ck174 (fun pc h => by show mj_cd174 pc = none; unfold mj_cd174; rw [mj_nlt h]; rfl)
theorem mj_co175 : ∀ pc q, mj_cd 175 pc = some q → decode (mj_cc 175) pc = .ok (q.1, q.2.1) ∧ mj_ck (mj_ow 175) q.1 q.2.2.1 q.2.2.2 = true := mj_tok_ok mj_ck175 (fun pc h => by show mj_cd175 pc = none; unfold mj_cd175; rw [mj_nlt h]; rfl)
theorem mj_co176 : ∀ pc q, mj_cd 176 pc = some q → decode (mj_cc 176) pc = .ok (q.1, q.2.1) ∧ mj_ck (mj_ow 176) q.1 q.2.2.1 q.2.2.2 = true := mj_tok_ok mj_ck176 (fun pc h => by show mj_cd176 pc = none; unfold mj_cd176; rw [mj_nlt h]; rfl)
theorem mj_co177 : ∀ pc q, mj_cd 177 pc = some q → decode (mj_cc 177) pc = .ok (q.1, q.2.1) ∧ mj_ck (mj_ow 177) q.1 q.2.2.1 q.2.2.2 = true := mj_tok_ok mj_ck177 (fun pc h => by show mj_cd177 pc = none; unfold mj_cd177; rw [mj_nlt h]; rfl)
theorem mj_co178 : ∀ pc q, mj_cd 178 pc = some q → decode (mj_cc 178) pc = .ok (q.1, q.2.1) ∧ mj_ck (mj_ow 178) q.1 q.2.2.1 q.2.2.2 = true := mj_tok_ok mj_ck178 (fun pc h => by show mj_cd178 pc = none; unfold mj_cd178; rw [mj_nlt h]; rfl)
theorem mj_co179 : ∀ pc q, mj_cd 179 pc = some q → decode (mj_cc 179) pc = .ok (q.1, q.2.1) ∧ mj_ck (mj_ow 179) q.1 q.2.2.1 q.2.2.2 = true := mj_tok_ok mj_ck179 (fun pc h => by show mj_cd179 pc = none; unfold mj_cd179; rw [mj_nlt h]; rfl)
theorem mj_co180 : ∀ pc q, mj_cd 180 pc = some q → decode (mj_cc 180) pc = .ok (q.1, q.2.1) ∧ mj_ck (mj_ow 180) q.1 q.2.2.1 q.2.2.2 = true := mj_tok_ok mj_ck180 (fun pc h => by show mj_cd180 pc = none; unfold mj_cd180; rw [mj_nlt h]; rfl)
theorem mj_co181 : ∀ pc q, mj_cd 181 pc = some q → decode (mj_cc 181) pc = .ok (q.1, q.2.1) ∧ mj_ck (mj_ow 181) q.1 q.2.2.1 q.2.2.2 = true := mj_tok_ok mj_ck181 (fun pc h => by show mj_cd181 pc = none; unfold mj_cd181; rw [mj_nlt h]; rfl)
theorem mj_co182 : ∀ pc q, mj_cd 182 pc = some q → decode (mj_cc 182) pc = .ok (q.1, q.2.1) ∧ mj_ck (mj_ow 182) q.1 q.2.2.1 q.2.2.2 = true := mj_tok_ok mj_ck182 (fun pc h => by show mj_cd182 pc = none; unfold mj_cd182; rw [mj_nlt h]; rfl)
theorem mj_co183 : ∀ pc q, mj_cd 183 pc = some q → decode (mj_cc 183) pc = .ok (q.1, q.2.1) ∧ mj_ck (mj_ow 183) q.1 q.2.2.1 q.2.2.2 = true := mj_tok_ok mj_ck183 (fun pc h => by show mj_cd183 pc = none; unfold mj_cd183; rw [mj_nlt h]; rfl)
theorem mj_co184 : ∀ pc q, mj_cd 184 pc = some q → decode (mj_cc 184) pc = .ok (q.1, q.2.1) ∧ mj_ck (mj_ow 184) q.1 q.2.2.1 q.2.2.2 = true := mj_tok_ok mj_ck184 (fun pc h => by show mj_cd184 pc = none; unfold mj_cd184; rw [mj_nlt h]; rfl)
theorem mj_co185 : ∀ pc q, mj_cd 185 pc = some q → decode (mj_cc 185) pc = .ok (q.1, q.2.1) ∧ mj_ck (mj_ow 185) q.1 q.2.2.1 q.2.2.2 = true := mj_tok_ok mj_ck185 (fun pc h => by show mj_cd185 pc = none; unfold mj_cd185; rw [mj_nlt h]; rfl)
theorem mj_co186 : ∀ pc q, mj_cd 186 pc = some q → decode (mj_cc 186) pc = .ok (q.1, q.2.1) ∧ mj_ck (mj_ow 186) q.1 q.2.2.1 q.2.2.2 = true := mj_tok_ok mj_ck186 (fun pc h => by show mj_cd186 pc = none; unfold mj_cd186; rw [mj_nlt h]; rfl)
theorem mj_co187 : ∀ pc q, mj_cd 187 pc = some q → decode (mj_cc 187) pc = .ok (q.1, q.2.1) ∧ mj_ck (mj_ow 187) q.1 q.2.2.1 q.2.2.2 = true := mj_tok_ok mj_ck187 (fun pc h => by show mj_cd187 pc = none; unfold mj_cd187; rw [mj_nlt h]; rfl)
theorem mj_co188 : ∀ pc q, mj_cd 188 pc = some q → decode (mj_cc 188) pc = .ok (q.1, q.2.1) ∧ mj_ck (mj_ow 188) q.1 q.2.2.1 q.2.2.2 = true := mj_tok_ok mj_ck188 (fun pc h => by show mj_cd188 pc = none; unfold mj_cd188; rw [mj_nlt h]; rfl)
theorem mj_co189 : ∀ pc q, mj_cd 189 pc = some q → decode (mj_cc 189) pc = .ok (q.1, q.2.1) ∧ mj_ck (mj_ow 189) q.1 q.2.2.1 q.2.2.2 = true := mj_tok_ok mj_ck189 (fun pc h => by show mj_cd189 pc = none; unfold mj_cd189; rw [mj_nlt h]; rfl)
theorem mj_co190 : ∀ pc q, mj_cd 190 pc = some q → decode (mj_cc 190) pc = .ok (q.1, q.2.1) ∧ mj_ck (mj_ow 190) q.1 q.2.2.1 q.2.2.2 = true := mj_tok_ok mj_ck190 (fun pc h => by show mj_cd190 pc = none; unfold mj_cd190; rw [mj_nlt h]; rfl)
theorem mj_co191 : ∀ pc q, mj_cd 191 pc = some q → decode (mj_cc 191) pc = .ok (q.1, q.2.1) ∧ mj_ck (mj_ow 191) q.1 q.2.2.1 q.2.2.2 = true := mj_tok_ok mj_ck191 (fun pc h => by show mj_cd191 pc = none; unfold mj_cd191; rw [mj_nlt h]; rfl)
theorem mj_co192 : ∀ pc q, mj_cd 192 pc = some q → decode (mj_cc 192) pc = .ok (q.1, q.2.1) ∧ mj_ck (mj_ow 192) q.1 q.2.2.1 q.2.2.2 = true := mj_tok_ok mj_ck192 (fun pc h => by show mj_cd192 pc = none; unfold mj_cd192; rw [mj_nlt h]; rfl)
theorem mj_cp0 : ∀ j, j < 16 → ∀ pc q, mj_cd (0 + j) pc = some q → decode (mj_cc (0 + j)) pc = .ok (q.1, q.2.1) ∧ mj_ck (mj_ow (0 + j)) q.1 q.2.2.1 q.2.2.2 = true
  | 0, _ => mj_co0
  | 1, _ => mj_co1
  | 2, _ => mj_co2
  | 3, _ => mj_co3
  | 4, _ => mj_co4
  | 5, _ => mj_co5
  | 6, _ => mj_co6
  | 7, _ => mj_co7
  | 8, _ => mj_co8
  | 9, _ => mj_co9
  | 10, _ => mj_co10
  | 11, _ => mj_co11
  | 12, _ => mj_co12
  | 13, _ => mj_co13
  | 14, _ => mj_co14
  | 15, _ => mj_co15
  | j + 16, h => absurd h (by omega)
theorem mj_cp1 : ∀ j, j < 16 → ∀ pc q, mj_cd (16 + j) pc = some q → decode (mj_cc (16 + j)) pc = .ok (q.1, q.2.1) ∧ mj_ck (mj_ow (16 + j)) q.1 q.2.2.1 q.2.2.2 = true
  | 0, _ => mj_co16
  | 1, _ => mj_co17
  | 2, _ => mj_co18
  | 3, _ => mj_co19
  | 4, _ => mj_co20
  | 5, _ => mj_co21
  | 6, _ => mj_co22
  | 7, _ => mj_co23
  | 8, _ => mj_co24
  | 9, _ => mj_co25
  | 10, _ => mj_co26
  | 11, _ => mj_co27
  | 12, _ => mj_co28
  | 13, _ => mj_co29
  | 14, _ => mj_co30
  | 15, _ => mj_co31
  | j + 16, h => absurd h (by omega)
theorem mj_cp2 : ∀ j, j < 16 → ∀ pc q, mj_cd (32 + j) pc = some q → decode (mj_cc (32 + j)) pc = .ok (q.1, q.2.1) ∧ mj_ck (mj_ow (32 + j)) q.1 q.2.2.1 q.2.2.2 = true
  | 0, _ => mj_co32
  | 1, _ => mj_co33
  | 2, _ => mj_co34
  | 3, _ => mj_co35
  | 4, _ => mj_co36
  | 5, _ => mj_co37
  | 6, _ => mj_co38
  | 7, _ => mj_co39
  | 8, _ => mj_co40
  | 9, _ => mj_co41
  | 10, _ => mj_co42
  | 11, _ => mj_co43
  | 12, _ => mj_co44
  | 13, _ => mj_co45
  | 14, _ => mj_co46
  | 15, _ => mj_co47
  | j + 16, h => absurd h (by omega)
theorem mj_cp3 : ∀ j, j < 16 → ∀ pc q, mj_cd (48 + j) pc = some q → decode (mj_cc (48 + j)) pc = .ok (q.1, q.2.1) ∧ mj_ck (mj_ow (48 + j)) q.1 q.2.2.1 q.2.2.2 = true
  | 0, _ => mj_co48
  | 1, _ => mj_co49
  | 2, _ => mj_co50
  | 3, _ => mj_co51
  | 4, _ => mj_co52
  | 5, _ => mj_co53
  | 6, _ => mj_co54
  | 7, _ => mj_co55
  | 8, _ => mj_co56
  | 9, _ => mj_co57
  | 10, _ => mj_co58
  | 11, _ => mj_co59
  | 12, _ => mj_co60
  | 13, _ => mj_co61
  | 14, _ => mj_co62
  | 15, _ => mj_co63
  | j + 16, h => absurd h (by omega)
theorem mj_cp4 : ∀ j, j < 16 → ∀ pc q, mj_cd (64 + j) pc = some q → decode (mj_cc (64 + j)) pc = .ok (q.1, q.2.1) ∧ mj_ck (mj_ow (64 + j)) q.1 q.2.2.1 q.2.2.2 = true
  | 0, _ => mj_co64
  | 1, _ => mj_co65
  | 2, _ => mj_co66
  | 3, _ => mj_co67
  | 4, _ => mj_co68
  | 5, _ => mj_co69
  | 6, _ => mj_co70
  | 7, _ => mj_co71
  | 8, _ => mj_co72
  | 9, _ => mj_co73
  | 10, _ => mj_co74
  | 11, _ => mj_co75
  | 12, _ => mj_co76
  | 13, _ => mj_co77
  | 14, _ => mj_co78
  | 15, _ => mj_co79
  | j + 16, h => absurd h (by omega)
theorem mj_cp5 : ∀ j, j < 16 → ∀ pc q, mj_cd (80 + j) pc = some q → decode (mj_cc (80 + j)) pc = .ok (q.1, q.2.1) ∧ mj_ck (mj_ow (80 + j)) q.1 q.2.2.1 q.2.2.2 = true
  | 0, _ => mj_co80
  | 1, _ => mj_co81
  | 2, _ => mj_co82
  | 3, _ => mj_co83
  | 4, _ => mj_co84
  | 5, _ => mj_co85
  | 6, _ => mj_co86
  | 7, _ => mj_co87
  | 8, _ => mj_co88
  | 9, _ => mj_co89
  | 10, _ => mj_co90
  | 11, _ => mj_co91
  | 12, _ => mj_co92
  | 13, _ => mj_co93
  | 14, _ => mj_co94
  | 15, _ => mj_co95
  | j + 16, h => absurd h (by omega)
theorem mj_cp6 : ∀ j, j < 16 → ∀ pc q, mj_cd (96 + j) pc = some q → decode (mj_cc (96 + j)) pc = .ok (q.1, q.2.1) ∧ mj_ck (mj_ow (96 + j)) q.1 q.2.2.1 q.2.2.2 = true
  | 0, _ => mj_co96
  | 1, _ => mj_co97
  | 2, _ => mj_co98
  | 3, _ => mj_co99
  | 4, _ => mj_co100
  | 5, _ => mj_co101
  | 6, _ => mj_co102
  | 7, _ => mj_co103
  | 8, _ => mj_co104
  | 9, _ => mj_co105
  | 10, _ => mj_co106
  | 11, _ => mj_co107
  | 12, _ => mj_co108
  | 13, _ => mj_co109
  | 14, _ => mj_co110
  | 15, _ => mj_co111
  | j + 16, h => absurd h (by omega)
theorem mj_cp7 : ∀ j, j < 16 → ∀ pc q, mj_cd (112 + j) pc = some q → decode (mj_cc (112 + j)) pc = .ok (q.1, q.2.1) ∧ mj_ck (mj_ow (112 + j)) q.1 q.2.2.1 q.2.2.2 = true
  | 0, _ => mj_co112
  | 1, _ => mj_co113
  | 2, _ => mj_co114
  | 3, _ => mj_co115
  | 4, _ => mj_co116
  | 5, _ => mj_co117
  | 6, _ => mj_co118
  | 7, _ => mj_co119
  | 8, _ => mj_co120
  | 9, _ => mj_co121
  | 10, _ => mj_co122
  | 11, _ => mj_co123
  | 12, _ => mj_co124
  | 13, _ => mj_co125
  | 14, _ => mj_co126
  | 15, _ => mj_co127
  | j + 16, h => absurd h (by omega)
theorem mj_cp8 : ∀ j, j < 16 → ∀ pc q, mj_cd (128 + j) pc = some q → decode (mj_cc (128 + j)) pc = .ok (q.1, q.2.1) ∧ mj_ck (mj_ow (128 + j)) q.1 q.2.2.1 q.2.2.2 = true
  | 0, _ => mj_co128
  | 1, _ => mj_co129
  | 2, _ => mj_co130
  | 3, _ => mj_co131
  | 4, _ => mj_co132
  | 5, _ => mj_co133
  | 6, _ => mj_co134
  | 7, _ => mj_co135
  | 8, _ => mj_co136
  | 9, _ => mj_co137
  | 10, _ => mj_co138
  | 11, _ => mj_co139
  | 12, _ => mj_co140
  | 13, _ => mj_co141
  | 14, _ => mj_co142
  | 15, _ => mj_co143
  | j + 16, h => absurd h (by omega)
theorem mj_cp9 : ∀ j, j < 16 → ∀ pc q, mj_cd (144 + j) pc = some q → decode (mj_cc (144 + j)) pc = .ok (q.1, q.2.1) ∧ mj_ck (mj_ow (144 + j)) q.1 q.2.2.1 q.2.2.2 = true
  | 0, _ => mj_co144
  | 1, _ => mj_co145
  | 2, _ => mj_co146
  | 3, _ => mj_co147
  | 4, _ => mj_co148
  | 5, _ => mj_co149
  | 6, _ => mj_co150
  | 7, _ => mj_co151
  | 8, _ => mj_co152
  | 9, _ => mj_co153
  | 10, _ => mj_co154
  | 11, _ => mj_co155
  | 12, _ => mj_co156
  | 13, _ => mj_co157
  | 14, _ => mj_co158
  | 15, _ => mj_co159
  | j + 16, h => absurd h (by omega)
theorem mj_cp10 : ∀ j, j < 16 → ∀ pc q, mj_cd (160 + j) pc = some q → decode (mj_cc (160 + j)) pc = .ok (q.1, q.2.1) ∧ mj_ck (mj_ow (160 + j)) q.1 q.2.2.1 q.2.2.2 = true
  | 0, _ => mj_co160
  | 1, _ => mj_co161
  | 2, _ => mj_co162
  | 3, _ => mj_co163
  | 4, _ => mj_co164
  | 5, _ => mj_co165
  | 6, _ => mj_co166
  | 7, _ => mj_co167
  | 8, _ => mj_co168
  | 9, _ => mj_co169
  | 10, _ => mj_co170
  | 11, _ => mj_co171
  | 12, _ => mj_co172
  | 13, _ => mj_co173
  | 14, _ => mj_co174
  | 15, _ => mj_co175
  | j + 16, h => absurd h (by omega)
theorem mj_cp11 : ∀ j, j < 16 → ∀ pc q, mj_cd (176 + j) pc = some q → decode (mj_cc (176 + j)) pc = .ok (q.1, q.2.1) ∧ mj_ck (mj_ow (176 + j)) q.1 q.2.2.1 q.2.2.2 = true
  | 0, _ => mj_co176
  | 1, _ => mj_co177
  | 2, _ => mj_co178
  | 3, _ => mj_co179
  | 4, _ => mj_co180
  | 5, _ => mj_co181
  | 6, _ => mj_co182
  | 7, _ => mj_co183
  | 8, _ => mj_co184
  | 9, _ => mj_co185
  | 10, _ => mj_co186
  | 11, _ => mj_co187
  | 12, _ => mj_co188
  | 13, _ => mj_co189
  | 14, _ => mj_co190
  | 15, _ => mj_co191
  | j + 16, h => absurd h (by omega)
theorem mj_cp12 : ∀ j, j < 1 → ∀ pc q, mj_cd (192 + j) pc = some q → decode (mj_cc (192 + j)) pc = .ok (q.1, q.2.1) ∧ mj_ck (mj_ow (192 + j)) q.1 q.2.2.1 q.2.2.2 = true
  | 0, _ => mj_co192
  | j + 1, h => absurd h (by omega)
theorem mj_cpa : ∀ i, i < mj_N → ∀ pc q, mj_cd i pc = some q → decode (mj_cc i) pc = .ok (q.1, q.2.1) ∧ mj_ck (mj_ow i) q.1 q.2.2.1 q.2.2.2 = true := by
  intro i hi
  have hi : i < 193 := hi
  by_cases h0 : i < 16
  · have := mj_cp0 (i - 0) (by omega)
    rw [show 0 + (i - 0) = i by omega] at this
    exact this
  by_cases h1 : i < 32
  · have := mj_cp1 (i - 16) (by omega)
    rw [show 16 + (i - 16) = i by omega] at this
    exact this
  by_cases h2 : i < 48
  · have := mj_cp2 (i - 32) (by omega)
    rw [show 32 + (i - 32) = i by omega] at this
    exact this
  by_cases h3 : i < 64
  · have := mj_cp3 (i - 48) (by omega)
    rw [show 48 + (i - 48) = i by omega] at this
    exact this
  by_cases h4 : i < 80
  · have := mj_cp4 (i - 64) (by omega)
    rw [show 64 + (i - 64) = i by omega] at this
    exact this
  by_cases h5 : i < 96
  · have := mj_cp5 (i - 80) (by omega)
    rw [show 80 + (i - 80) = i by omega] at this
    exact this
  by_cases h6 : i < 112
  · have := mj_cp6 (i - 96) (by omega)
    rw [show 96 + (i - 96) = i by omega] at this
    exact this
  by_cases h7 : i < 128
  · have := mj_cp7 (i - 112) (by omega)
    rw [show 112 + (i - 112) = i by omega] at this
    exact this
  by_cases h8 : i < 144
  · have := mj_cp8 (i - 128) (by omega)
    rw [show 128 + (i - 128) = i by omega] at this
    exact this
  by_cases h9 : i < 160
  · have := mj_cp9 (i - 144) (by omega)
    rw [show 144 + (i - 144) = i by omega] at this
    exact this
  by_cases h10 : i < 176
  · have := mj_cp10 (i - 160) (by omega)
    rw [show 160 + (i - 160) = i by omega] at this
    exact this
  by_cases h11 : i < 192
  · have := mj_cp11 (i - 176) (by omega)
    rw [show 176 + (i - 176) = i by omega] at this
    exact this
  by_cases h12 : i < 193
  · have := mj_cp12 (i - 192) (by omega)
    rw [show 192 + (i - 192) = i by omega] at this
    exact this
  omega
theorem mj_tokr_ok {cc : ByteArray} {own : Nat} {cd : Nat → Option (Instr × Nat × Nat × Nat)} {a n : Nat} (h : mj_tokr cc own cd a n = true) : ∀ j, j < n → ∀ q, cd (a + j) = some q → decode cc (a + j) = .ok (q.1, q.2.1) ∧ mj_ck own q.1 q.2.2.1 q.2.2.2 = true := by
  intro j hl q hq
  have h1 := List.all_eq_true.mp h j (List.mem_range.mpr hl)
  rw [hq] at h1
  simp only [Bool.and_eq_true, decide_eq_true_eq] at h1
  exact h1
theorem mj_coL : ∀ pc q, mj_cdL pc = some q → decode code pc = .ok (q.1, q.2.1) ∧ mj_ck 16 q.1 q.2.2.1 q.2.2.2 = true := by
  intro pc q hq
  by_cases h0 : pc < 100
  · have := mj_tokr_ok mj_ckL0 (pc - 0) (by omega) q
    rw [show 0 + (pc - 0) = pc by omega] at this
    exact this hq
  by_cases h1 : pc < 200
  · have := mj_tokr_ok mj_ckL1 (pc - 100) (by omega) q
    rw [show 100 + (pc - 100) = pc by omega] at this
    exact this hq
  by_cases h2 : pc < 300
  · have := mj_tokr_ok mj_ckL2 (pc - 200) (by omega) q
    rw [show 200 + (pc - 200) = pc by omega] at this
    exact this hq
  by_cases h3 : pc < 400
  · have := mj_tokr_ok mj_ckL3 (pc - 300) (by omega) q
    rw [show 300 + (pc - 300) = pc by omega] at this
    exact this hq
  by_cases h4 : pc < 500
  · have := mj_tokr_ok mj_ckL4 (pc - 400) (by omega) q
    rw [show 400 + (pc - 400) = pc by omega] at this
    exact this hq
  by_cases h5 : pc < 600
  · have := mj_tokr_ok mj_ckL5 (pc - 500) (by omega) q
    rw [show 500 + (pc - 500) = pc by omega] at this
    exact this hq
  by_cases h6 : pc < 700
  · have := mj_tokr_ok mj_ckL6 (pc - 600) (by omega) q
    rw [show 600 + (pc - 600) = pc by omega] at this
    exact this hq
  by_cases h7 : pc < 800
  · have := mj_tokr_ok mj_ckL7 (pc - 700) (by omega) q
    rw [show 700 + (pc - 700) = pc by omega] at this
    exact this hq
  by_cases h8 : pc < 900
  · have := mj_tokr_ok mj_ckL8 (pc - 800) (by omega) q
    rw [show 800 + (pc - 800) = pc by omega] at this
    exact this hq
  by_cases h9 : pc < 1000
  · have := mj_tokr_ok mj_ckL9 (pc - 900) (by omega) q
    rw [show 900 + (pc - 900) = pc by omega] at this
    exact this hq
  by_cases h10 : pc < 1100
  · have := mj_tokr_ok mj_ckL10 (pc - 1000) (by omega) q
    rw [show 1000 + (pc - 1000) = pc by omega] at this
    exact this hq
  have hz : mj_cdL pc = none := by unfold mj_cdL; rw [mj_nlt (n := 1049) (by omega)]; rfl
  rw [hz] at hq
  cases hq
