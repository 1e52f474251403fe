/-! EACH CONTRACT HOLDS -/
section KH
variable {lch : Launch}
theorem kz_g0 : kz_e0.2.2.2.2.2.2.1 = 1 := rfl
theorem kz_g1 : kz_e1.2.2.2.2.2.2.1 = 2 := rfl
theorem kz_g2 : kz_e2.2.2.2.2.2.2.1 = 3 := rfl
theorem kz_g3 : kz_e3.2.2.2.2.2.2.1 = 4 := rfl
theorem kz_g4 : kz_e4.2.2.2.2.2.2.1 = 5 := rfl
theorem kz_g5 : kz_e5.2.2.2.2.2.2.1 = 6 := rfl
theorem kz_g6 : kz_e6.2.2.2.2.2.2.1 = 7 := rfl
theorem kz_g7 : kz_e7.2.2.2.2.2.2.1 = 8 := rfl
theorem kz_g8 : kz_e8.2.2.2.2.2.2.1 = 9 := rfl
theorem kz_g9 : kz_e9.2.2.2.2.2.2.1 = 10 := rfl
theorem kz_g10 : kz_e10.2.2.2.2.2.2.1 = 11 := rfl
theorem kz_g11 : kz_e11.2.2.2.2.2.2.1 = 12 := rfl
theorem kz_g12 : kz_e12.2.2.2.2.2.2.1 = 13 := rfl
theorem kz_g13 : kz_e13.2.2.2.2.2.2.1 = 14 := rfl
theorem kz_g14 : kz_e14.2.2.2.2.2.2.1 = 15 := rfl
theorem kz_g15 : kz_e15.2.2.2.2.2.2.1 = 16 := rfl
theorem kz_g16 : kz_e16.2.2.2.2.2.2.1 = 17 := rfl
theorem kz_g17 : kz_e17.2.2.2.2.2.2.1 = 18 := rfl
theorem kz_g18 : kz_e18.2.2.2.2.2.2.1 = 19 := rfl
theorem kz_g19 : kz_e19.2.2.2.2.2.2.1 = 20 := rfl
theorem kz_g20 : kz_e20.2.2.2.2.2.2.1 = 21 := rfl
theorem kz_g21 : kz_e21.2.2.2.2.2.2.1 = 22 := rfl
theorem kz_g22 : kz_e22.2.2.2.2.2.2.1 = 23 := rfl
theorem kz_g23 : kz_e23.2.2.2.2.2.2.1 = 24 := rfl
theorem kz_g24 : kz_e24.2.2.2.2.2.2.1 = 25 := rfl
theorem kz_g25 : kz_e25.2.2.2.2.2.2.1 = 26 := rfl
theorem kz_g26 : kz_e26.2.2.2.2.2.2.1 = 27 := rfl
theorem kz_g27 : kz_e27.2.2.2.2.2.2.1 = 28 := rfl
theorem kz_g28 : kz_e28.2.2.2.2.2.2.1 = 29 := rfl
theorem kz_g29 : kz_e29.2.2.2.2.2.2.1 = 30 := rfl
theorem kz_g30 : kz_e30.2.2.2.2.2.2.1 = 30 := rfl
theorem kz_g31 : kz_e31.2.2.2.2.2.2.1 = 30 := rfl
theorem kz_g32 : kz_e32.2.2.2.2.2.2.1 = 30 := rfl
theorem kz_g33 : kz_e33.2.2.2.2.2.2.1 = 30 := rfl
theorem kz_g34 : kz_e34.2.2.2.2.2.2.1 = 30 := rfl
theorem kz_g35 : kz_e35.2.2.2.2.2.2.1 = 31 := rfl
theorem kz_g36 : kz_e36.2.2.2.2.2.2.1 = 32 := rfl
theorem kz_g37 : kz_e37.2.2.2.2.2.2.1 = 33 := rfl
theorem kz_g38 : kz_e38.2.2.2.2.2.2.1 = 34 := rfl
theorem kz_g39 : kz_e39.2.2.2.2.2.2.1 = 35 := rfl
theorem kz_g40 : kz_e40.2.2.2.2.2.2.1 = 36 := rfl
theorem kz_g41 : kz_e41.2.2.2.2.2.2.1 = 37 := rfl
theorem kz_g42 : kz_e42.2.2.2.2.2.2.1 = 38 := rfl
theorem kz_g43 : kz_e43.2.2.2.2.2.2.1 = 39 := rfl
theorem kz_g44 : kz_e44.2.2.2.2.2.2.1 = 40 := rfl
theorem kz_g45 : kz_e45.2.2.2.2.2.2.1 = 41 := rfl
theorem kz_g46 : kz_e46.2.2.2.2.2.2.1 = 41 := rfl
theorem kz_g47 : kz_e47.2.2.2.2.2.2.1 = 42 := rfl
theorem kz_g48 : kz_e48.2.2.2.2.2.2.1 = 43 := rfl
theorem kz_g49 : kz_e49.2.2.2.2.2.2.1 = 44 := rfl
theorem kz_g50 : kz_e50.2.2.2.2.2.2.1 = 45 := rfl
theorem kz_g51 : kz_e51.2.2.2.2.2.2.1 = 46 := rfl
theorem kz_g52 : kz_e52.2.2.2.2.2.2.1 = 47 := rfl
theorem kz_g53 : kz_e53.2.2.2.2.2.2.1 = 48 := rfl
theorem kz_g54 : kz_e54.2.2.2.2.2.2.1 = 49 := rfl
theorem kz_g55 : kz_e55.2.2.2.2.2.2.1 = 50 := rfl
theorem kz_g56 : kz_e56.2.2.2.2.2.2.1 = 51 := rfl
theorem kz_g57 : kz_e57.2.2.2.2.2.2.1 = 52 := rfl
theorem kz_g58 : kz_e58.2.2.2.2.2.2.1 = 53 := rfl
theorem kz_g59 : kz_e59.2.2.2.2.2.2.1 = 54 := rfl
theorem kz_g60 : kz_e60.2.2.2.2.2.2.1 = 55 := rfl
theorem kz_g61 : kz_e61.2.2.2.2.2.2.1 = 56 := rfl
theorem kz_g62 : kz_e62.2.2.2.2.2.2.1 = 57 := rfl
theorem kz_g63 : kz_e63.2.2.2.2.2.2.1 = 58 := rfl
theorem kz_g64 : kz_e64.2.2.2.2.2.2.1 = 59 := rfl
theorem kz_g65 : kz_e65.2.2.2.2.2.2.1 = 60 := rfl
theorem kz_g66 : kz_e66.2.2.2.2.2.2.1 = 61 := rfl
theorem kz_g67 : kz_e67.2.2.2.2.2.2.1 = 62 := rfl
theorem kz_g68 : kz_e68.2.2.2.2.2.2.1 = 63 := rfl
theorem kz_g69 : kz_e69.2.2.2.2.2.2.1 = 64 := rfl
theorem kz_g70 : kz_e70.2.2.2.2.2.2.1 = 65 := rfl
theorem kz_g71 : kz_e71.2.2.2.2.2.2.1 = 66 := rfl
theorem kz_g72 : kz_e72.2.2.2.2.2.2.1 = 67 := rfl
theorem kz_g73 : kz_e73.2.2.2.2.2.2.1 = 68 := rfl
theorem kz_g74 : kz_e74.2.2.2.2.2.2.1 = 69 := rfl
theorem kz_g75 : kz_e75.2.2.2.2.2.2.1 = 70 := rfl
theorem kz_g76 : kz_e76.2.2.2.2.2.2.1 = 71 := rfl
theorem kz_g77 : kz_e77.2.2.2.2.2.2.1 = 72 := rfl
theorem kz_g78 : kz_e78.2.2.2.2.2.2.1 = 73 := rfl
theorem kz_g79 : kz_e79.2.2.2.2.2.2.1 = 74 := rfl
theorem kz_g80 : kz_e80.2.2.2.2.2.2.1 = 75 := rfl
theorem kz_g81 : kz_e81.2.2.2.2.2.2.1 = 76 := rfl
theorem kz_g82 : kz_e82.2.2.2.2.2.2.1 = 77 := rfl
theorem kz_g83 : kz_e83.2.2.2.2.2.2.1 = 78 := rfl
theorem kz_g84 : kz_e84.2.2.2.2.2.2.1 = 79 := rfl
theorem kz_g85 : kz_e85.2.2.2.2.2.2.1 = 80 := rfl
theorem kz_g86 : kz_e86.2.2.2.2.2.2.1 = 81 := rfl
theorem kz_g87 : kz_e87.2.2.2.2.2.2.1 = 82 := rfl
theorem kz_g88 : kz_e88.2.2.2.2.2.2.1 = 83 := rfl
theorem kz_g89 : kz_e89.2.2.2.2.2.2.1 = 84 := rfl
theorem kz_g90 : kz_e90.2.2.2.2.2.2.1 = 85 := rfl
theorem kz_g91 : kz_e91.2.2.2.2.2.2.1 = 86 := rfl
theorem kz_g92 : kz_e92.2.2.2.2.2.2.1 = 87 := rfl
theorem kz_g93 : kz_e93.2.2.2.2.2.2.1 = 88 := rfl
theorem kz_g94 : kz_e94.2.2.2.2.2.2.1 = 89 := rfl
theorem kz_g95 : kz_e95.2.2.2.2.2.2.1 = 90 := rfl
theorem kz_g96 : kz_e96.2.2.2.2.2.2.1 = 91 := rfl
theorem kz_g97 : kz_e97.2.2.2.2.2.2.1 = 92 := rfl
theorem kz_g98 : kz_e98.2.2.2.2.2.2.1 = 93 := rfl
theorem kz_g99 : kz_e99.2.2.2.2.2.2.1 = 94 := rfl
theorem kz_g100 : kz_e100.2.2.2.2.2.2.1 = 95 := rfl
theorem kz_g101 : kz_e101.2.2.2.2.2.2.1 = 96 := rfl
theorem kz_g102 : kz_e102.2.2.2.2.2.2.1 = 97 := rfl
theorem kz_g103 : kz_e103.2.2.2.2.2.2.1 = 98 := rfl
theorem kz_g104 : kz_e104.2.2.2.2.2.2.1 = 99 := rfl
theorem kz_g105 : kz_e105.2.2.2.2.2.2.1 = 100 := rfl
theorem kz_g106 : kz_e106.2.2.2.2.2.2.1 = 101 := rfl
theorem kz_g107 : kz_e107.2.2.2.2.2.2.1 = 102 := rfl
theorem kz_g108 : kz_e108.2.2.2.2.2.2.1 = 103 := rfl
theorem kz_g109 : kz_e109.2.2.2.2.2.2.1 = 104 := rfl
theorem kz_g110 : kz_e110.2.2.2.2.2.2.1 = 105 := rfl
theorem kz_g111 : kz_e111.2.2.2.2.2.2.1 = 106 := rfl
theorem kz_g112 : kz_e112.2.2.2.2.2.2.1 = 107 := rfl
theorem kz_g113 : kz_e113.2.2.2.2.2.2.1 = 108 := rfl
theorem kz_g114 : kz_e114.2.2.2.2.2.2.1 = 109 := rfl
theorem kz_g115 : kz_e115.2.2.2.2.2.2.1 = 110 := rfl
theorem kz_g116 : kz_e116.2.2.2.2.2.2.1 = 111 := rfl
theorem kz_g117 : kz_e117.2.2.2.2.2.2.1 = 112 := rfl
theorem kz_g118 : kz_e118.2.2.2.2.2.2.1 = 113 := rfl
theorem kz_g119 : kz_e119.2.2.2.2.2.2.1 = 114 := rfl
theorem kz_g120 : kz_e120.2.2.2.2.2.2.1 = 115 := rfl
theorem kz_g121 : kz_e121.2.2.2.2.2.2.1 = 116 := rfl
theorem kz_g122 : kz_e122.2.2.2.2.2.2.1 = 117 := rfl
theorem kz_g123 : kz_e123.2.2.2.2.2.2.1 = 118 := rfl
theorem kz_g124 : kz_e124.2.2.2.2.2.2.1 = 119 := rfl
theorem kz_g125 : kz_e125.2.2.2.2.2.2.1 = 120 := rfl
theorem kz_g126 : kz_e126.2.2.2.2.2.2.1 = 121 := rfl
theorem kz_g127 : kz_e127.2.2.2.2.2.2.1 = 122 := rfl
theorem kz_g128 : kz_e128.2.2.2.2.2.2.1 = 123 := rfl
theorem kz_g129 : kz_e129.2.2.2.2.2.2.1 = 124 := rfl
theorem kz_g130 : kz_e130.2.2.2.2.2.2.1 = 125 := rfl
theorem kz_g131 : kz_e131.2.2.2.2.2.2.1 = 126 := rfl
theorem kz_g132 : kz_e132.2.2.2.2.2.2.1 = 127 := rfl
theorem kz_l0_ok : ∀ nd ∈ kz_l0, ak_chN kz_M kz_CF kz_K kz_t0 101 kz_e0 kz_l0 3000 nd = true := fun _ h => nomatch h
theorem kz_h0 : ak_holds lch kz_M kz_CF kz_K (101, kz_e0) := by
  refine ak_one_ok kz_W0 kz_E0.1 kz_E0.2 kz_l0_ok ?_
  unfold kz_t0
  exact (fun _ h => nomatch h)
theorem kz_l1_ok : ∀ nd ∈ kz_l1, ak_chN kz_M kz_CF kz_K kz_t1 95 kz_e1 kz_l1 3000 nd = true := fun _ h => nomatch h
theorem kz_h1 : ak_holds lch kz_M kz_CF kz_K (95, kz_e1) := by
  refine ak_one_ok kz_W1 kz_E1.1 kz_E1.2 kz_l1_ok ?_
  unfold kz_t1
  exact List.forall_mem_cons.mpr ⟨⟨by rw [kz_g0, kz_g1]; decide, kz_h0⟩, (fun _ h => nomatch h)⟩
theorem kz_l2_ok : ∀ nd ∈ kz_l2, ak_chN kz_M kz_CF kz_K kz_t2 174 kz_e2 kz_l2 3000 nd = true := fun _ h => nomatch h
theorem kz_h2 : ak_holds lch kz_M kz_CF kz_K (174, kz_e2) := by
  refine ak_one_ok kz_W2 kz_E2.1 kz_E2.2 kz_l2_ok ?_
  unfold kz_t2
  exact (fun _ h => nomatch h)
theorem kz_l3_ok : ∀ nd ∈ kz_l3, ak_chN kz_M kz_CF kz_K kz_t3 168 kz_e3 kz_l3 3000 nd = true := fun _ h => nomatch h
theorem kz_h3 : ak_holds lch kz_M kz_CF kz_K (168, kz_e3) := by
  refine ak_one_ok kz_W3 kz_E3.1 kz_E3.2 kz_l3_ok ?_
  unfold kz_t3
  exact List.forall_mem_cons.mpr ⟨⟨by rw [kz_g2, kz_g3]; decide, kz_h2⟩, (fun _ h => nomatch h)⟩
theorem kz_l4_ok : ∀ nd ∈ kz_l4, ak_chN kz_M kz_CF kz_K kz_t4 0 kz_e4 kz_l4 3000 nd = true := fun _ h => nomatch h
theorem kz_h4 : ak_holds lch kz_M kz_CF kz_K (0, kz_e4) := by
  refine ak_one_ok kz_W4 kz_E4.1 kz_E4.2 kz_l4_ok ?_
  unfold kz_t4
  exact (fun _ h => nomatch h)
theorem kz_l5_ok : ∀ nd ∈ kz_l5, ak_chN kz_M kz_CF kz_K kz_t5 70 kz_e5 kz_l5 3000 nd = true := fun _ h => nomatch h
theorem kz_h5 : ak_holds lch kz_M kz_CF kz_K (70, kz_e5) := by
  refine ak_one_ok kz_W5 kz_E5.1 kz_E5.2 kz_l5_ok ?_
  unfold kz_t5
  exact List.forall_mem_cons.mpr ⟨⟨by rw [kz_g4, kz_g5]; decide, kz_h4⟩, (fun _ h => nomatch h)⟩
theorem kz_l6_ok : ∀ nd ∈ kz_l6, ak_chN kz_M kz_CF kz_K kz_t6 121 kz_e6 kz_l6 3000 nd = true := fun _ h => nomatch h
theorem kz_h6 : ak_holds lch kz_M kz_CF kz_K (121, kz_e6) := by
  refine ak_one_ok kz_W6 kz_E6.1 kz_E6.2 kz_l6_ok ?_
  unfold kz_t6
  exact (fun _ h => nomatch h)
theorem kz_l7_ok : ∀ nd ∈ kz_l7, ak_chN kz_M kz_CF kz_K kz_t7 5 kz_e7 kz_l7 3000 nd = true := fun _ h => nomatch h
theorem kz_h7 : ak_holds lch kz_M kz_CF kz_K (5, kz_e7) := by
  refine ak_one_ok kz_W7 kz_E7.1 kz_E7.2 kz_l7_ok ?_
  unfold kz_t7
  exact (fun _ h => nomatch h)
theorem kz_l8_ok : ∀ nd ∈ kz_l8, ak_chN kz_M kz_CF kz_K kz_t8 10 kz_e8 kz_l8 3000 nd = true := by
  unfold kz_l8
  exact List.forall_mem_cons.mpr ⟨kz_N8_0, (fun _ h => nomatch h)⟩
theorem kz_h8 : ak_holds lch kz_M kz_CF kz_K (10, kz_e8) := by
  refine ak_one_ok kz_W8 kz_E8.1 kz_E8.2 kz_l8_ok ?_
  unfold kz_t8
  exact (fun _ h => nomatch h)
theorem kz_l9_ok : ∀ nd ∈ kz_l9, ak_chN kz_M kz_CF kz_K kz_t9 85 kz_e9 kz_l9 3000 nd = true := fun _ h => nomatch h
theorem kz_h9 : ak_holds lch kz_M kz_CF kz_K (85, kz_e9) := by
  refine ak_one_ok kz_W9 kz_E9.1 kz_E9.2 kz_l9_ok ?_
  unfold kz_t9
  exact List.forall_mem_cons.mpr ⟨⟨by rw [kz_g7, kz_g9]; decide, kz_h7⟩, List.forall_mem_cons.mpr ⟨⟨by rw [kz_g8, kz_g9]; decide, kz_h8⟩, (fun _ h => nomatch h)⟩⟩
theorem kz_l10_ok : ∀ nd ∈ kz_l10, ak_chN kz_M kz_CF kz_K kz_t10 176 kz_e10 kz_l10 3000 nd = true := by
  unfold kz_l10
  exact List.forall_mem_cons.mpr ⟨kz_N10_0, (fun _ h => nomatch h)⟩
theorem kz_h10 : ak_holds lch kz_M kz_CF kz_K (176, kz_e10) := by
  refine ak_one_ok kz_W10 kz_E10.1 kz_E10.2 kz_l10_ok ?_
  unfold kz_t10
  exact (fun _ h => nomatch h)
theorem kz_l11_ok : ∀ nd ∈ kz_l11, ak_chN kz_M kz_CF kz_K kz_t11 129 kz_e11 kz_l11 3000 nd = true := fun _ h => nomatch h
theorem kz_h11 : ak_holds lch kz_M kz_CF kz_K (129, kz_e11) := by
  refine ak_one_ok kz_W11 kz_E11.1 kz_E11.2 kz_l11_ok ?_
  unfold kz_t11
  exact (fun _ h => nomatch h)
theorem kz_l12_ok : ∀ nd ∈ kz_l12, ak_chN kz_M kz_CF kz_K kz_t12 148 kz_e12 kz_l12 3000 nd = true := fun _ h => nomatch h
theorem kz_h12 : ak_holds lch kz_M kz_CF kz_K (148, kz_e12) := by
  refine ak_one_ok kz_W12 kz_E12.1 kz_E12.2 kz_l12_ok ?_
  unfold kz_t12
  exact List.forall_mem_cons.mpr ⟨⟨by rw [kz_g10, kz_g12]; decide, kz_h10⟩, List.forall_mem_cons.mpr ⟨⟨by rw [kz_g11, kz_g12]; decide, kz_h11⟩, (fun _ h => nomatch h)⟩⟩
theorem kz_l13_ok : ∀ nd ∈ kz_l13, ak_chN kz_M kz_CF kz_K kz_t13 54 kz_e13 kz_l13 3000 nd = true := by
  unfold kz_l13
  exact List.forall_mem_cons.mpr ⟨kz_N13_0, (fun _ h => nomatch h)⟩
theorem kz_h13 : ak_holds lch kz_M kz_CF kz_K (54, kz_e13) := by
  refine ak_one_ok kz_W13 kz_E13.1 kz_E13.2 kz_l13_ok ?_
  unfold kz_t13
  exact (fun _ h => nomatch h)
theorem kz_l14_ok : ∀ nd ∈ kz_l14, ak_chN kz_M kz_CF kz_K kz_t14 16 kz_e14 kz_l14 3000 nd = true := fun _ h => nomatch h
theorem kz_h14 : ak_holds lch kz_M kz_CF kz_K (16, kz_e14) := by
  refine ak_one_ok kz_W14 kz_E14.1 kz_E14.2 kz_l14_ok ?_
  unfold kz_t14
  exact List.forall_mem_cons.mpr ⟨⟨by rw [kz_g13, kz_g14]; decide, kz_h13⟩, (fun _ h => nomatch h)⟩
theorem kz_l15_ok : ∀ nd ∈ kz_l15, ak_chN kz_M kz_CF kz_K kz_t15 15 kz_e15 kz_l15 3000 nd = true := fun _ h => nomatch h
theorem kz_h15 : ak_holds lch kz_M kz_CF kz_K (15, kz_e15) := by
  refine ak_one_ok kz_W15 kz_E15.1 kz_E15.2 kz_l15_ok ?_
  unfold kz_t15
  exact List.forall_mem_cons.mpr ⟨⟨by rw [kz_g14, kz_g15]; decide, kz_h14⟩, (fun _ h => nomatch h)⟩
theorem kz_l16_ok : ∀ nd ∈ kz_l16, ak_chN kz_M kz_CF kz_K kz_t16 9 kz_e16 kz_l16 3000 nd = true := fun _ h => nomatch h
theorem kz_h16 : ak_holds lch kz_M kz_CF kz_K (9, kz_e16) := by
  refine ak_one_ok kz_W16 kz_E16.1 kz_E16.2 kz_l16_ok ?_
  unfold kz_t16
  exact List.forall_mem_cons.mpr ⟨⟨by rw [kz_g14, kz_g16]; decide, kz_h14⟩, (fun _ h => nomatch h)⟩
theorem kz_l17_ok : ∀ nd ∈ kz_l17, ak_chN kz_M kz_CF kz_K kz_t17 12 kz_e17 kz_l17 3000 nd = true := fun _ h => nomatch h
theorem kz_h17 : ak_holds lch kz_M kz_CF kz_K (12, kz_e17) := by
  refine ak_one_ok kz_W17 kz_E17.1 kz_E17.2 kz_l17_ok ?_
  unfold kz_t17
  exact List.forall_mem_cons.mpr ⟨⟨by rw [kz_g14, kz_g17]; decide, kz_h14⟩, (fun _ h => nomatch h)⟩
theorem kz_l18_ok : ∀ nd ∈ kz_l18, ak_chN kz_M kz_CF kz_K kz_t18 104 kz_e18 kz_l18 3000 nd = true := fun _ h => nomatch h
theorem kz_h18 : ak_holds lch kz_M kz_CF kz_K (104, kz_e18) := by
  refine ak_one_ok kz_W18 kz_E18.1 kz_E18.2 kz_l18_ok ?_
  unfold kz_t18
  exact List.forall_mem_cons.mpr ⟨⟨by rw [kz_g7, kz_g18]; decide, kz_h7⟩, List.forall_mem_cons.mpr ⟨⟨by rw [kz_g15, kz_g18]; decide, kz_h15⟩, List.forall_mem_cons.mpr ⟨⟨by rw [kz_g16, kz_g18]; decide, kz_h16⟩, List.forall_mem_cons.mpr ⟨⟨by rw [kz_g17, kz_g18]; decide, kz_h17⟩, (fun _ h => nomatch h)⟩⟩⟩⟩
theorem kz_l19_ok : ∀ nd ∈ kz_l19, ak_chN kz_M kz_CF kz_K kz_t19 154 kz_e19 kz_l19 3000 nd = true := by
  unfold kz_l19
  exact List.forall_mem_cons.mpr ⟨kz_N19_1, List.forall_mem_cons.mpr ⟨kz_N19_4, List.forall_mem_cons.mpr ⟨kz_N19_5, List.forall_mem_cons.mpr ⟨kz_N19_6, List.forall_mem_cons.mpr ⟨kz_N19_7, List.forall_mem_cons.mpr ⟨kz_N19_8, List.forall_mem_cons.mpr ⟨kz_N19_9, List.forall_mem_cons.mpr ⟨kz_N19_10, List.forall_mem_cons.mpr ⟨kz_N19_11, List.forall_mem_cons.mpr ⟨kz_N19_12, List.forall_mem_cons.mpr ⟨kz_N19_13, List.forall_mem_cons.mpr ⟨kz_N19_14, List.forall_mem_cons.mpr ⟨kz_N19_15, List.forall_mem_cons.mpr ⟨kz_N19_16, List.forall_mem_cons.mpr ⟨kz_N19_17, List.forall_mem_cons.mpr ⟨kz_N19_18, List.forall_mem_cons.mpr ⟨kz_N19_19, List.forall_mem_cons.mpr ⟨kz_N19_20, List.forall_mem_cons.mpr ⟨kz_N19_21, List.forall_mem_cons.mpr ⟨kz_N19_22, List.forall_mem_cons.mpr ⟨kz_N19_23, List.forall_mem_cons.mpr ⟨kz_N19_24, List.forall_mem_cons.mpr ⟨kz_N19_25, List.forall_mem_cons.mpr ⟨kz_N19_26, List.forall_mem_cons.mpr ⟨kz_N19_27, List.forall_mem_cons.mpr ⟨kz_N19_28, List.forall_mem_cons.mpr ⟨kz_N19_29, List.forall_mem_cons.mpr ⟨kz_N19_30, List.forall_mem_cons.mpr ⟨kz_N19_31, List.forall_mem_cons.mpr ⟨kz_N19_32, List.forall_mem_cons.mpr ⟨kz_N19_33, List.forall_mem_cons.mpr ⟨kz_N19_34, List.forall_mem_cons.mpr ⟨kz_N19_35, List.forall_mem_cons.mpr ⟨kz_N19_36, List.forall_mem_cons.mpr ⟨kz_N19_37, List.forall_mem_cons.mpr ⟨kz_N19_38, List.forall_mem_cons.mpr ⟨kz_N19_39, List.forall_mem_cons.mpr ⟨kz_N19_40, List.forall_mem_cons.mpr ⟨kz_N19_41, List.forall_mem_cons.mpr ⟨kz_N19_42, List.forall_mem_cons.mpr ⟨kz_N19_43, List.forall_mem_cons.mpr ⟨kz_N19_44, List.forall_mem_cons.mpr ⟨kz_N19_45, List.forall_mem_cons.mpr ⟨kz_N19_46, List.forall_mem_cons.mpr ⟨kz_N19_47, List.forall_mem_cons.mpr ⟨kz_N19_48, List.forall_mem_cons.mpr ⟨kz_N19_49, List.forall_mem_cons.mpr ⟨kz_N19_50, List.forall_mem_cons.mpr ⟨kz_N19_51, List.forall_mem_cons.mpr ⟨kz_N19_52, List.forall_mem_cons.mpr ⟨kz_N19_53, List.forall_mem_cons.mpr ⟨kz_N19_54, List.forall_mem_cons.mpr ⟨kz_N19_55, List.forall_mem_cons.mpr ⟨kz_N19_56, List.forall_mem_cons.mpr ⟨kz_N19_57, List.forall_mem_cons.mpr ⟨kz_N19_58, List.forall_mem_cons.mpr ⟨kz_N19_59, List.forall_mem_cons.mpr ⟨kz_N19_60, List.forall_mem_cons.mpr ⟨kz_N19_61, List.forall_mem_cons.mpr ⟨kz_N19_62, List.forall_mem_cons.mpr ⟨kz_N19_63, List.forall_mem_cons.mpr ⟨kz_N19_64, List.forall_mem_cons.mpr ⟨kz_N19_65, List.forall_mem_cons.mpr ⟨kz_N19_66, List.forall_mem_cons.mpr ⟨kz_N19_67, List.forall_mem_cons.mpr ⟨kz_N19_68, List.forall_mem_cons.mpr ⟨kz_N19_69, List.forall_mem_cons.mpr ⟨kz_N19_70, List.forall_mem_cons.mpr ⟨kz_N19_71, List.forall_mem_cons.mpr ⟨kz_N19_72, List.forall_mem_cons.mpr ⟨kz_N19_73, List.forall_mem_cons.mpr ⟨kz_N19_74, List.forall_mem_cons.mpr ⟨kz_N19_75, List.forall_mem_cons.mpr ⟨kz_N19_76, List.forall_mem_cons.mpr ⟨kz_N19_77, List.forall_mem_cons.mpr ⟨kz_N19_78, List.forall_mem_cons.mpr ⟨kz_N19_79, List.forall_mem_cons.mpr ⟨kz_N19_80, List.forall_mem_cons.mpr ⟨kz_N19_81, List.forall_mem_cons.mpr ⟨kz_N19_82, List.forall_mem_cons.mpr ⟨kz_N19_83, List.forall_mem_cons.mpr ⟨kz_N19_84, List.forall_mem_cons.mpr ⟨kz_N19_85, List.forall_mem_cons.mpr ⟨kz_N19_86, List.forall_mem_cons.mpr ⟨kz_N19_87, List.forall_mem_cons.mpr ⟨kz_N19_88, List.forall_mem_cons.mpr ⟨kz_N19_89, List.forall_mem_cons.mpr ⟨kz_N19_90, List.forall_mem_cons.mpr ⟨kz_N19_91, List.forall_mem_cons.mpr ⟨kz_N19_92, List.forall_mem_cons.mpr ⟨kz_N19_93, List.forall_mem_cons.mpr ⟨kz_N19_94, List.forall_mem_cons.mpr ⟨kz_N19_95, List.forall_mem_cons.mpr ⟨kz_N19_96, List.forall_mem_cons.mpr ⟨kz_N19_97, List.forall_mem_cons.mpr ⟨kz_N19_98, List.forall_mem_cons.mpr ⟨kz_N19_99, List.forall_mem_cons.mpr ⟨kz_N19_100, List.forall_mem_cons.mpr ⟨kz_N19_101, List.forall_mem_cons.mpr ⟨kz_N19_102, List.forall_mem_cons.mpr ⟨kz_N19_103, List.forall_mem_cons.mpr ⟨kz_N19_104, List.forall_mem_cons.mpr ⟨kz_N19_105, List.forall_mem_cons.mpr ⟨kz_N19_106, List.forall_mem_cons.mpr ⟨kz_N19_107, List.forall_mem_cons.mpr ⟨kz_N19_108, List.forall_mem_cons.mpr ⟨kz_N19_109, List.forall_mem_cons.mpr ⟨kz_N19_110, List.forall_mem_cons.mpr ⟨kz_N19_111, List.forall_mem_cons.mpr ⟨kz_N19_112, List.forall_mem_cons.mpr ⟨kz_N19_113, List.forall_mem_cons.mpr ⟨kz_N19_114, List.forall_mem_cons.mpr ⟨kz_N19_115, List.forall_mem_cons.mpr ⟨kz_N19_116, List.forall_mem_cons.mpr ⟨kz_N19_117, List.forall_mem_cons.mpr ⟨kz_N19_118, List.forall_mem_cons.mpr ⟨kz_N19_119, List.forall_mem_cons.mpr ⟨kz_N19_120, List.forall_mem_cons.mpr ⟨kz_N19_121, List.forall_mem_cons.mpr ⟨kz_N19_122, List.forall_mem_cons.mpr ⟨kz_N19_123, List.forall_mem_cons.mpr ⟨kz_N19_124, List.forall_mem_cons.mpr ⟨kz_N19_125, List.forall_mem_cons.mpr ⟨kz_N19_126, List.forall_mem_cons.mpr ⟨kz_N19_127, List.forall_mem_cons.mpr ⟨kz_N19_128, List.forall_mem_cons.mpr ⟨kz_N19_129, List.forall_mem_cons.mpr ⟨kz_N19_130, List.forall_mem_cons.mpr ⟨kz_N19_131, List.forall_mem_cons.mpr ⟨kz_N19_132, List.forall_mem_cons.mpr ⟨kz_N19_133, List.forall_mem_cons.mpr ⟨kz_N19_134, List.forall_mem_cons.mpr ⟨kz_N19_135, List.forall_mem_cons.mpr ⟨kz_N19_136, List.forall_mem_cons.mpr ⟨kz_N19_137, List.forall_mem_cons.mpr ⟨kz_N19_138, List.forall_mem_cons.mpr ⟨kz_N19_139, List.forall_mem_cons.mpr ⟨kz_N19_140, List.forall_mem_cons.mpr ⟨kz_N19_141, List.forall_mem_cons.mpr ⟨kz_N19_142, List.forall_mem_cons.mpr ⟨kz_N19_143, List.forall_mem_cons.mpr ⟨kz_N19_144, List.forall_mem_cons.mpr ⟨kz_N19_145, List.forall_mem_cons.mpr ⟨kz_N19_146, List.forall_mem_cons.mpr ⟨kz_N19_147, List.forall_mem_cons.mpr ⟨kz_N19_148, List.forall_mem_cons.mpr ⟨kz_N19_149, List.forall_mem_cons.mpr ⟨kz_N19_150, List.forall_mem_cons.mpr ⟨kz_N19_151, List.forall_mem_cons.mpr ⟨kz_N19_152, List.forall_mem_cons.mpr ⟨kz_N19_153, List.forall_mem_cons.mpr ⟨kz_N19_154, List.forall_mem_cons.mpr ⟨kz_N19_155, List.forall_mem_cons.mpr ⟨kz_N19_156, List.forall_mem_cons.mpr ⟨kz_N19_157, List.forall_mem_cons.mpr ⟨kz_N19_158, List.forall_mem_cons.mpr ⟨kz_N19_159, List.forall_mem_cons.mpr ⟨kz_N19_160, List.forall_mem_cons.mpr ⟨kz_N19_161, List.forall_mem_cons.mpr ⟨kz_N19_162, List.forall_mem_cons.mpr ⟨kz_N19_163, List.forall_mem_cons.mpr ⟨kz_N19_0, List.forall_mem_cons.mpr ⟨kz_N19_2, List.forall_mem_cons.mpr ⟨kz_N19_3, (fun _ h => nomatch h)⟩⟩⟩⟩⟩⟩⟩⟩⟩⟩⟩⟩⟩⟩⟩⟩⟩⟩⟩⟩⟩⟩⟩⟩⟩⟩⟩⟩⟩⟩⟩⟩⟩⟩⟩⟩⟩⟩⟩⟩⟩⟩⟩⟩⟩⟩⟩⟩⟩⟩⟩⟩⟩⟩⟩⟩⟩⟩⟩⟩⟩⟩⟩⟩⟩⟩⟩⟩⟩⟩⟩⟩⟩⟩⟩⟩⟩⟩⟩⟩⟩⟩⟩⟩⟩⟩⟩⟩⟩⟩⟩⟩⟩⟩⟩⟩⟩⟩⟩⟩⟩⟩⟩⟩⟩⟩⟩⟩⟩⟩⟩⟩⟩⟩⟩⟩⟩⟩⟩⟩⟩⟩⟩⟩⟩⟩⟩⟩⟩⟩⟩⟩⟩⟩⟩⟩⟩⟩⟩⟩⟩⟩⟩⟩⟩⟩⟩⟩⟩⟩⟩⟩⟩⟩⟩⟩⟩⟩⟩⟩⟩⟩⟩⟩
theorem kz_h19 : ak_holds lch kz_M kz_CF kz_K (154, kz_e19) := by
  refine ak_one_ok kz_W19 kz_E19.1 kz_E19.2 kz_l19_ok ?_
  unfold kz_t19
  exact (fun _ h => nomatch h)
theorem kz_l20_ok : ∀ nd ∈ kz_l20, ak_chN kz_M kz_CF kz_K kz_t20 142 kz_e20 kz_l20 3000 nd = true := fun _ h => nomatch h
theorem kz_h20 : ak_holds lch kz_M kz_CF kz_K (142, kz_e20) := by
  refine ak_one_ok kz_W20 kz_E20.1 kz_E20.2 kz_l20_ok ?_
  unfold kz_t20
  exact (fun _ h => nomatch h)
theorem kz_l21_ok : ∀ nd ∈ kz_l21, ak_chN kz_M kz_CF kz_K kz_t21 142 kz_e21 kz_l21 3000 nd = true := fun _ h => nomatch h
theorem kz_h21 : ak_holds lch kz_M kz_CF kz_K (142, kz_e21) := by
  refine ak_one_ok kz_W21 kz_E21.1 kz_E21.2 kz_l21_ok ?_
  unfold kz_t21
  exact (fun _ h => nomatch h)
theorem kz_l22_ok : ∀ nd ∈ kz_l22, ak_chN kz_M kz_CF kz_K kz_t22 142 kz_e22 kz_l22 3000 nd = true := fun _ h => nomatch h
theorem kz_h22 : ak_holds lch kz_M kz_CF kz_K (142, kz_e22) := by
  refine ak_one_ok kz_W22 kz_E22.1 kz_E22.2 kz_l22_ok ?_
  unfold kz_t22
  exact (fun _ h => nomatch h)
theorem kz_l23_ok : ∀ nd ∈ kz_l23, ak_chN kz_M kz_CF kz_K kz_t23 142 kz_e23 kz_l23 3000 nd = true := fun _ h => nomatch h
theorem kz_h23 : ak_holds lch kz_M kz_CF kz_K (142, kz_e23) := by
  refine ak_one_ok kz_W23 kz_E23.1 kz_E23.2 kz_l23_ok ?_
  unfold kz_t23
  exact (fun _ h => nomatch h)
theorem kz_l24_ok : ∀ nd ∈ kz_l24, ak_chN kz_M kz_CF kz_K kz_t24 142 kz_e24 kz_l24 3000 nd = true := fun _ h => nomatch h
theorem kz_h24 : ak_holds lch kz_M kz_CF kz_K (142, kz_e24) := by
  refine ak_one_ok kz_W24 kz_E24.1 kz_E24.2 kz_l24_ok ?_
  unfold kz_t24
  exact (fun _ h => nomatch h)
theorem kz_l25_ok : ∀ nd ∈ kz_l25, ak_chN kz_M kz_CF kz_K kz_t25 142 kz_e25 kz_l25 3000 nd = true := fun _ h => nomatch h
theorem kz_h25 : ak_holds lch kz_M kz_CF kz_K (142, kz_e25) := by
  refine ak_one_ok kz_W25 kz_E25.1 kz_E25.2 kz_l25_ok ?_
  unfold kz_t25
  exact (fun _ h => nomatch h)
theorem kz_l26_ok : ∀ nd ∈ kz_l26, ak_chN kz_M kz_CF kz_K kz_t26 142 kz_e26 kz_l26 3000 nd = true := fun _ h => nomatch h
theorem kz_h26 : ak_holds lch kz_M kz_CF kz_K (142, kz_e26) := by
  refine ak_one_ok kz_W26 kz_E26.1 kz_E26.2 kz_l26_ok ?_
  unfold kz_t26
  exact (fun _ h => nomatch h)
theorem kz_l27_ok : ∀ nd ∈ kz_l27, ak_chN kz_M kz_CF kz_K kz_t27 142 kz_e27 kz_l27 3000 nd = true := fun _ h => nomatch h
theorem kz_h27 : ak_holds lch kz_M kz_CF kz_K (142, kz_e27) := by
  refine ak_one_ok kz_W27 kz_E27.1 kz_E27.2 kz_l27_ok ?_
  unfold kz_t27
  exact (fun _ h => nomatch h)
theorem kz_l28_ok : ∀ nd ∈ kz_l28, ak_chN kz_M kz_CF kz_K kz_t28 142 kz_e28 kz_l28 3000 nd = true := fun _ h => nomatch h
theorem kz_h28 : ak_holds lch kz_M kz_CF kz_K (142, kz_e28) := by
  refine ak_one_ok kz_W28 kz_E28.1 kz_E28.2 kz_l28_ok ?_
  unfold kz_t28
  exact (fun _ h => nomatch h)
theorem kz_l29_ok : ∀ nd ∈ kz_l29, ak_chN kz_M kz_CF kz_K kz_t29 105 kz_e29 kz_l29 3000 nd = true := by
  unfold kz_l29
  exact List.forall_mem_cons.mpr ⟨kz_N29_0, List.forall_mem_cons.mpr ⟨kz_N29_1, List.forall_mem_cons.mpr ⟨kz_N29_2, List.forall_mem_cons.mpr ⟨kz_N29_4, List.forall_mem_cons.mpr ⟨kz_N29_3, (fun _ h => nomatch h)⟩⟩⟩⟩⟩
theorem kz_l30_ok : ∀ nd ∈ kz_l30, ak_chN kz_M kz_CF kz_K kz_t30 107 kz_e30 kz_l30 3000 nd = true := fun _ h => nomatch h
theorem kz_l31_ok : ∀ nd ∈ kz_l31, ak_chN kz_M kz_CF kz_K kz_t31 112 kz_e31 kz_l31 3000 nd = true := by
  unfold kz_l31
  exact List.forall_mem_cons.mpr ⟨kz_N31_0, List.forall_mem_cons.mpr ⟨kz_N31_1, List.forall_mem_cons.mpr ⟨kz_N31_2, List.forall_mem_cons.mpr ⟨kz_N31_4, List.forall_mem_cons.mpr ⟨kz_N31_5, List.forall_mem_cons.mpr ⟨kz_N31_6, List.forall_mem_cons.mpr ⟨kz_N31_7, List.forall_mem_cons.mpr ⟨kz_N31_8, List.forall_mem_cons.mpr ⟨kz_N31_9, List.forall_mem_cons.mpr ⟨kz_N31_10, List.forall_mem_cons.mpr ⟨kz_N31_14, List.forall_mem_cons.mpr ⟨kz_N31_15, List.forall_mem_cons.mpr ⟨kz_N31_16, List.forall_mem_cons.mpr ⟨kz_N31_17, List.forall_mem_cons.mpr ⟨kz_N31_18, List.forall_mem_cons.mpr ⟨kz_N31_19, List.forall_mem_cons.mpr ⟨kz_N31_21, List.forall_mem_cons.mpr ⟨kz_N31_22, List.forall_mem_cons.mpr ⟨kz_N31_23, List.forall_mem_cons.mpr ⟨kz_N31_24, List.forall_mem_cons.mpr ⟨kz_N31_25, List.forall_mem_cons.mpr ⟨kz_N31_26, List.forall_mem_cons.mpr ⟨kz_N31_27, List.forall_mem_cons.mpr ⟨kz_N31_30, List.forall_mem_cons.mpr ⟨kz_N31_31, List.forall_mem_cons.mpr ⟨kz_N31_32, List.forall_mem_cons.mpr ⟨kz_N31_33, List.forall_mem_cons.mpr ⟨kz_N31_3, List.forall_mem_cons.mpr ⟨kz_N31_11, List.forall_mem_cons.mpr ⟨kz_N31_12, List.forall_mem_cons.mpr ⟨kz_N31_13, List.forall_mem_cons.mpr ⟨kz_N31_20, List.forall_mem_cons.mpr ⟨kz_N31_28, List.forall_mem_cons.mpr ⟨kz_N31_29, (fun _ h => nomatch h)⟩⟩⟩⟩⟩⟩⟩⟩⟩⟩⟩⟩⟩⟩⟩⟩⟩⟩⟩⟩⟩⟩⟩⟩⟩⟩⟩⟩⟩⟩⟩⟩⟩⟩
theorem kz_l32_ok : ∀ nd ∈ kz_l32, ak_chN kz_M kz_CF kz_K kz_t32 123 kz_e32 kz_l32 3000 nd = true := by
  unfold kz_l32
  exact List.forall_mem_cons.mpr ⟨kz_N32_0, List.forall_mem_cons.mpr ⟨kz_N32_1, List.forall_mem_cons.mpr ⟨kz_N32_2, List.forall_mem_cons.mpr ⟨kz_N32_4, List.forall_mem_cons.mpr ⟨kz_N32_5, List.forall_mem_cons.mpr ⟨kz_N32_6, List.forall_mem_cons.mpr ⟨kz_N32_7, List.forall_mem_cons.mpr ⟨kz_N32_8, List.forall_mem_cons.mpr ⟨kz_N32_9, List.forall_mem_cons.mpr ⟨kz_N32_10, List.forall_mem_cons.mpr ⟨kz_N32_14, List.forall_mem_cons.mpr ⟨kz_N32_15, List.forall_mem_cons.mpr ⟨kz_N32_16, List.forall_mem_cons.mpr ⟨kz_N32_17, List.forall_mem_cons.mpr ⟨kz_N32_18, List.forall_mem_cons.mpr ⟨kz_N32_19, List.forall_mem_cons.mpr ⟨kz_N32_21, List.forall_mem_cons.mpr ⟨kz_N32_22, List.forall_mem_cons.mpr ⟨kz_N32_23, List.forall_mem_cons.mpr ⟨kz_N32_24, List.forall_mem_cons.mpr ⟨kz_N32_25, List.forall_mem_cons.mpr ⟨kz_N32_26, List.forall_mem_cons.mpr ⟨kz_N32_27, List.forall_mem_cons.mpr ⟨kz_N32_30, List.forall_mem_cons.mpr ⟨kz_N32_31, List.forall_mem_cons.mpr ⟨kz_N32_32, List.forall_mem_cons.mpr ⟨kz_N32_33, List.forall_mem_cons.mpr ⟨kz_N32_3, List.forall_mem_cons.mpr ⟨kz_N32_11, List.forall_mem_cons.mpr ⟨kz_N32_12, List.forall_mem_cons.mpr ⟨kz_N32_13, List.forall_mem_cons.mpr ⟨kz_N32_20, List.forall_mem_cons.mpr ⟨kz_N32_28, List.forall_mem_cons.mpr ⟨kz_N32_29, (fun _ h => nomatch h)⟩⟩⟩⟩⟩⟩⟩⟩⟩⟩⟩⟩⟩⟩⟩⟩⟩⟩⟩⟩⟩⟩⟩⟩⟩⟩⟩⟩⟩⟩⟩⟩⟩⟩
theorem kz_l33_ok : ∀ nd ∈ kz_l33, ak_chN kz_M kz_CF kz_K kz_t33 156 kz_e33 kz_l33 3000 nd = true := fun _ h => nomatch h
theorem kz_l34_ok : ∀ nd ∈ kz_l34, ak_chN kz_M kz_CF kz_K kz_t34 172 kz_e34 kz_l34 3000 nd = true := by
  unfold kz_l34
  exact List.forall_mem_cons.mpr ⟨kz_N34_0, List.forall_mem_cons.mpr ⟨kz_N34_2, List.forall_mem_cons.mpr ⟨kz_N34_3, List.forall_mem_cons.mpr ⟨kz_N34_4, List.forall_mem_cons.mpr ⟨kz_N34_1, (fun _ h => nomatch h)⟩⟩⟩⟩⟩
noncomputable def kz_G29 : List (Nat × ak_En × List ak_Nd) := [(105, kz_e29, kz_l29), (107, kz_e30, kz_l30), (112, kz_e31, kz_l31), (123, kz_e32, kz_l32), (156, kz_e33, kz_l33), (172, kz_e34, kz_l34)]
theorem kz_G29_ok : ∀ s ∈ kz_G29, ak_holds lch kz_M kz_CF kz_K (s.1, s.2.1) := by
  refine ak_grp_ok (g := 30) (tb := kz_t29) (n := 3000) ?_ ?_ ?_
  · unfold kz_G29
    exact List.forall_mem_cons.mpr ⟨⟨kz_g29, kz_W29, kz_E29.1, kz_E29.2, kz_l29_ok⟩, List.forall_mem_cons.mpr ⟨⟨kz_g30, kz_W30, kz_E30.1, kz_E30.2, kz_l30_ok⟩, List.forall_mem_cons.mpr ⟨⟨kz_g31, kz_W31, kz_E31.1, kz_E31.2, kz_l31_ok⟩, List.forall_mem_cons.mpr ⟨⟨kz_g32, kz_W32, kz_E32.1, kz_E32.2, kz_l32_ok⟩, List.forall_mem_cons.mpr ⟨⟨kz_g33, kz_W33, kz_E33.1, kz_E33.2, kz_l33_ok⟩, List.forall_mem_cons.mpr ⟨⟨kz_g34, kz_W34, kz_E34.1, kz_E34.2, kz_l34_ok⟩, (fun _ h => nomatch h)⟩⟩⟩⟩⟩⟩
  · unfold kz_t29
    exact List.forall_mem_cons.mpr ⟨fun e => absurd (kz_g19.symm.trans e) (by decide), List.forall_mem_cons.mpr ⟨fun e => absurd (kz_g22.symm.trans e) (by decide), List.forall_mem_cons.mpr ⟨fun e => absurd (kz_g23.symm.trans e) (by decide), List.forall_mem_cons.mpr ⟨fun e => absurd (kz_g24.symm.trans e) (by decide), List.forall_mem_cons.mpr ⟨fun e => absurd (kz_g25.symm.trans e) (by decide), List.forall_mem_cons.mpr ⟨fun e => absurd (kz_g26.symm.trans e) (by decide), List.forall_mem_cons.mpr ⟨fun e => absurd (kz_g27.symm.trans e) (by decide), List.forall_mem_cons.mpr ⟨fun e => absurd (kz_g28.symm.trans e) (by decide), List.forall_mem_cons.mpr ⟨fun _ => ⟨(105, kz_e29, kz_l29), List.mem_of_getElem? (i := 0) rfl, rfl⟩, List.forall_mem_cons.mpr ⟨fun _ => ⟨(107, kz_e30, kz_l30), List.mem_of_getElem? (i := 1) rfl, rfl⟩, List.forall_mem_cons.mpr ⟨fun _ => ⟨(112, kz_e31, kz_l31), List.mem_of_getElem? (i := 2) rfl, rfl⟩, List.forall_mem_cons.mpr ⟨fun _ => ⟨(123, kz_e32, kz_l32), List.mem_of_getElem? (i := 3) rfl, rfl⟩, List.forall_mem_cons.mpr ⟨fun _ => ⟨(156, kz_e33, kz_l33), List.mem_of_getElem? (i := 4) rfl, rfl⟩, List.forall_mem_cons.mpr ⟨fun _ => ⟨(172, kz_e34, kz_l34), List.mem_of_getElem? (i := 5) rfl, rfl⟩, (fun _ h => nomatch h)⟩⟩⟩⟩⟩⟩⟩⟩⟩⟩⟩⟩⟩⟩
  · unfold kz_t29
    exact List.forall_mem_cons.mpr ⟨fun _ => kz_h19, List.forall_mem_cons.mpr ⟨fun _ => kz_h22, List.forall_mem_cons.mpr ⟨fun _ => kz_h23, List.forall_mem_cons.mpr ⟨fun _ => kz_h24, List.forall_mem_cons.mpr ⟨fun _ => kz_h25, List.forall_mem_cons.mpr ⟨fun _ => kz_h26, List.forall_mem_cons.mpr ⟨fun _ => kz_h27, List.forall_mem_cons.mpr ⟨fun _ => kz_h28, List.forall_mem_cons.mpr ⟨fun e => absurd kz_g29 e, List.forall_mem_cons.mpr ⟨fun e => absurd kz_g30 e, List.forall_mem_cons.mpr ⟨fun e => absurd kz_g31 e, List.forall_mem_cons.mpr ⟨fun e => absurd kz_g32 e, List.forall_mem_cons.mpr ⟨fun e => absurd kz_g33 e, List.forall_mem_cons.mpr ⟨fun e => absurd kz_g34 e, (fun _ h => nomatch h)⟩⟩⟩⟩⟩⟩⟩⟩⟩⟩⟩⟩⟩⟩
theorem kz_h29 : ak_holds lch kz_M kz_CF kz_K (105, kz_e29) := kz_G29_ok (105, kz_e29, kz_l29) (List.mem_of_getElem? (i := 0) rfl)
theorem kz_h30 : ak_holds lch kz_M kz_CF kz_K (107, kz_e30) := kz_G29_ok (107, kz_e30, kz_l30) (List.mem_of_getElem? (i := 1) rfl)
theorem kz_h31 : ak_holds lch kz_M kz_CF kz_K (112, kz_e31) := kz_G29_ok (112, kz_e31, kz_l31) (List.mem_of_getElem? (i := 2) rfl)
theorem kz_h32 : ak_holds lch kz_M kz_CF kz_K (123, kz_e32) := kz_G29_ok (123, kz_e32, kz_l32) (List.mem_of_getElem? (i := 3) rfl)
theorem kz_h33 : ak_holds lch kz_M kz_CF kz_K (156, kz_e33) := kz_G29_ok (156, kz_e33, kz_l33) (List.mem_of_getElem? (i := 4) rfl)
theorem kz_h34 : ak_holds lch kz_M kz_CF kz_K (172, kz_e34) := kz_G29_ok (172, kz_e34, kz_l34) (List.mem_of_getElem? (i := 5) rfl)
theorem kz_l35_ok : ∀ nd ∈ kz_l35, ak_chN kz_M kz_CF kz_K kz_t35 161 kz_e35 kz_l35 3000 nd = true := fun _ h => nomatch h
theorem kz_h35 : ak_holds lch kz_M kz_CF kz_K (161, kz_e35) := by
  refine ak_one_ok kz_W35 kz_E35.1 kz_E35.2 kz_l35_ok ?_
  unfold kz_t35
  exact List.forall_mem_cons.mpr ⟨⟨by rw [kz_g19, kz_g35]; decide, kz_h19⟩, List.forall_mem_cons.mpr ⟨⟨by rw [kz_g32, kz_g35]; decide, kz_h32⟩, (fun _ h => nomatch h)⟩⟩
theorem kz_l36_ok : ∀ nd ∈ kz_l36, ak_chN kz_M kz_CF kz_K kz_t36 142 kz_e36 kz_l36 3000 nd = true := fun _ h => nomatch h
theorem kz_h36 : ak_holds lch kz_M kz_CF kz_K (142, kz_e36) := by
  refine ak_one_ok kz_W36 kz_E36.1 kz_E36.2 kz_l36_ok ?_
  unfold kz_t36
  exact (fun _ h => nomatch h)
theorem kz_l37_ok : ∀ nd ∈ kz_l37, ak_chN kz_M kz_CF kz_K kz_t37 164 kz_e37 kz_l37 3000 nd = true := by
  unfold kz_l37
  exact List.forall_mem_cons.mpr ⟨kz_N37_0, List.forall_mem_cons.mpr ⟨kz_N37_1, List.forall_mem_cons.mpr ⟨kz_N37_2, List.forall_mem_cons.mpr ⟨kz_N37_3, List.forall_mem_cons.mpr ⟨kz_N37_4, List.forall_mem_cons.mpr ⟨kz_N37_5, List.forall_mem_cons.mpr ⟨kz_N37_6, List.forall_mem_cons.mpr ⟨kz_N37_7, List.forall_mem_cons.mpr ⟨kz_N37_8, (fun _ h => nomatch h)⟩⟩⟩⟩⟩⟩⟩⟩⟩
theorem kz_h37 : ak_holds lch kz_M kz_CF kz_K (164, kz_e37) := by
  refine ak_one_ok kz_W37 kz_E37.1 kz_E37.2 kz_l37_ok ?_
  unfold kz_t37
  exact List.forall_mem_cons.mpr ⟨⟨by rw [kz_g19, kz_g37]; decide, kz_h19⟩, List.forall_mem_cons.mpr ⟨⟨by rw [kz_g20, kz_g37]; decide, kz_h20⟩, List.forall_mem_cons.mpr ⟨⟨by rw [kz_g21, kz_g37]; decide, kz_h21⟩, List.forall_mem_cons.mpr ⟨⟨by rw [kz_g35, kz_g37]; decide, kz_h35⟩, List.forall_mem_cons.mpr ⟨⟨by rw [kz_g36, kz_g37]; decide, kz_h36⟩, (fun _ h => nomatch h)⟩⟩⟩⟩⟩
theorem kz_l38_ok : ∀ nd ∈ kz_l38, ak_chN kz_M kz_CF kz_K kz_t38 106 kz_e38 kz_l38 3000 nd = true := fun _ h => nomatch h
theorem kz_h38 : ak_holds lch kz_M kz_CF kz_K (106, kz_e38) := by
  refine ak_one_ok kz_W38 kz_E38.1 kz_E38.2 kz_l38_ok ?_
  unfold kz_t38
  exact List.forall_mem_cons.mpr ⟨⟨by rw [kz_g37, kz_g38]; decide, kz_h37⟩, (fun _ h => nomatch h)⟩
theorem kz_l39_ok : ∀ nd ∈ kz_l39, ak_chN kz_M kz_CF kz_K kz_t39 162 kz_e39 kz_l39 3000 nd = true := fun _ h => nomatch h
theorem kz_h39 : ak_holds lch kz_M kz_CF kz_K (162, kz_e39) := by
  refine ak_one_ok kz_W39 kz_E39.1 kz_E39.2 kz_l39_ok ?_
  unfold kz_t39
  exact List.forall_mem_cons.mpr ⟨⟨by rw [kz_g38, kz_g39]; decide, kz_h38⟩, (fun _ h => nomatch h)⟩
theorem kz_l40_ok : ∀ nd ∈ kz_l40, ak_chN kz_M kz_CF kz_K kz_t40 180 kz_e40 kz_l40 3000 nd = true := fun _ h => nomatch h
theorem kz_h40 : ak_holds lch kz_M kz_CF kz_K (180, kz_e40) := by
  refine ak_one_ok kz_W40 kz_E40.1 kz_E40.2 kz_l40_ok ?_
  unfold kz_t40
  exact List.forall_mem_cons.mpr ⟨⟨by rw [kz_g11, kz_g40]; decide, kz_h11⟩, List.forall_mem_cons.mpr ⟨⟨by rw [kz_g38, kz_g40]; decide, kz_h38⟩, List.forall_mem_cons.mpr ⟨⟨by rw [kz_g39, kz_g40]; decide, kz_h39⟩, (fun _ h => nomatch h)⟩⟩⟩
theorem kz_l41_ok : ∀ nd ∈ kz_l41, ak_chN kz_M kz_CF kz_K kz_t41 102 kz_e41 kz_l41 3000 nd = true := fun _ h => nomatch h
theorem kz_h41 : ak_holds lch kz_M kz_CF kz_K (102, kz_e41) := by
  refine ak_one_ok kz_W41 kz_E41.1 kz_E41.2 kz_l41_ok ?_
  unfold kz_t41
  exact List.forall_mem_cons.mpr ⟨⟨by rw [kz_g8, kz_g41]; decide, kz_h8⟩, (fun _ h => nomatch h)⟩
theorem kz_l42_ok : ∀ nd ∈ kz_l42, ak_chN kz_M kz_CF kz_K kz_t42 175 kz_e42 kz_l42 3000 nd = true := fun _ h => nomatch h
theorem kz_h42 : ak_holds lch kz_M kz_CF kz_K (175, kz_e42) := by
  refine ak_one_ok kz_W42 kz_E42.1 kz_E42.2 kz_l42_ok ?_
  unfold kz_t42
  exact List.forall_mem_cons.mpr ⟨⟨by rw [kz_g10, kz_g42]; decide, kz_h10⟩, (fun _ h => nomatch h)⟩
theorem kz_l43_ok : ∀ nd ∈ kz_l43, ak_chN kz_M kz_CF kz_K kz_t43 72 kz_e43 kz_l43 3000 nd = true := fun _ h => nomatch h
theorem kz_h43 : ak_holds lch kz_M kz_CF kz_K (72, kz_e43) := by
  refine ak_one_ok kz_W43 kz_E43.1 kz_E43.2 kz_l43_ok ?_
  unfold kz_t43
  exact (fun _ h => nomatch h)
theorem kz_l44_ok : ∀ nd ∈ kz_l44, ak_chN kz_M kz_CF kz_K kz_t44 126 kz_e44 kz_l44 3000 nd = true := fun _ h => nomatch h
theorem kz_h44 : ak_holds lch kz_M kz_CF kz_K (126, kz_e44) := by
  refine ak_one_ok kz_W44 kz_E44.1 kz_E44.2 kz_l44_ok ?_
  unfold kz_t44
  exact (fun _ h => nomatch h)
theorem kz_l45_ok : ∀ nd ∈ kz_l45, ak_chN kz_M kz_CF kz_K kz_t45 29 kz_e45 kz_l45 3000 nd = true := by
  unfold kz_l45
  exact List.forall_mem_cons.mpr ⟨kz_N45_0, (fun _ h => nomatch h)⟩
theorem kz_l46_ok : ∀ nd ∈ kz_l46, ak_chN kz_M kz_CF kz_K kz_t46 36 kz_e46 kz_l46 3000 nd = true := fun _ h => nomatch h
noncomputable def kz_G45 : List (Nat × ak_En × List ak_Nd) := [(29, kz_e45, kz_l45), (36, kz_e46, kz_l46)]
theorem kz_G45_ok : ∀ s ∈ kz_G45, ak_holds lch kz_M kz_CF kz_K (s.1, s.2.1) := by
  refine ak_grp_ok (g := 41) (tb := kz_t45) (n := 3000) ?_ ?_ ?_
  · unfold kz_G45
    exact List.forall_mem_cons.mpr ⟨⟨kz_g45, kz_W45, kz_E45.1, kz_E45.2, kz_l45_ok⟩, List.forall_mem_cons.mpr ⟨⟨kz_g46, kz_W46, kz_E46.1, kz_E46.2, kz_l46_ok⟩, (fun _ h => nomatch h)⟩⟩
  · unfold kz_t45
    exact List.forall_mem_cons.mpr ⟨fun _ => ⟨(29, kz_e45, kz_l45), List.mem_of_getElem? (i := 0) rfl, rfl⟩, List.forall_mem_cons.mpr ⟨fun _ => ⟨(36, kz_e46, kz_l46), List.mem_of_getElem? (i := 1) rfl, rfl⟩, (fun _ h => nomatch h)⟩⟩
  · unfold kz_t45
    exact List.forall_mem_cons.mpr ⟨fun e => absurd kz_g45 e, List.forall_mem_cons.mpr ⟨fun e => absurd kz_g46 e, (fun _ h => nomatch h)⟩⟩
theorem kz_h45 : ak_holds lch kz_M kz_CF kz_K (29, kz_e45) := kz_G45_ok (29, kz_e45, kz_l45) (List.mem_of_getElem? (i := 0) rfl)
theorem kz_h46 : ak_holds lch kz_M kz_CF kz_K (36, kz_e46) := kz_G45_ok (36, kz_e46, kz_l46) (List.mem_of_getElem? (i := 1) rfl)
theorem kz_l47_ok : ∀ nd ∈ kz_l47, ak_chN kz_M kz_CF kz_K kz_t47 27 kz_e47 kz_l47 3000 nd = true := by
  unfold kz_l47
  exact List.forall_mem_cons.mpr ⟨kz_N47_0, (fun _ h => nomatch h)⟩
theorem kz_h47 : ak_holds lch kz_M kz_CF kz_K (27, kz_e47) := by
  refine ak_one_ok kz_W47 kz_E47.1 kz_E47.2 kz_l47_ok ?_
  unfold kz_t47
  exact (fun _ h => nomatch h)
theorem kz_l48_ok : ∀ nd ∈ kz_l48, ak_chN kz_M kz_CF kz_K kz_t48 28 kz_e48 kz_l48 3000 nd = true := by
  unfold kz_l48
  exact List.forall_mem_cons.mpr ⟨kz_N48_0, List.forall_mem_cons.mpr ⟨kz_N48_1, List.forall_mem_cons.mpr ⟨kz_N48_2, List.forall_mem_cons.mpr ⟨kz_N48_3, List.forall_mem_cons.mpr ⟨kz_N48_4, List.forall_mem_cons.mpr ⟨kz_N48_5, List.forall_mem_cons.mpr ⟨kz_N48_6, List.forall_mem_cons.mpr ⟨kz_N48_7, List.forall_mem_cons.mpr ⟨kz_N48_8, List.forall_mem_cons.mpr ⟨kz_N48_9, List.forall_mem_cons.mpr ⟨kz_N48_10, List.forall_mem_cons.mpr ⟨kz_N48_11, List.forall_mem_cons.mpr ⟨kz_N48_12, List.forall_mem_cons.mpr ⟨kz_N48_13, List.forall_mem_cons.mpr ⟨kz_N48_14, List.forall_mem_cons.mpr ⟨kz_N48_15, List.forall_mem_cons.mpr ⟨kz_N48_16, List.forall_mem_cons.mpr ⟨kz_N48_17, List.forall_mem_cons.mpr ⟨kz_N48_18, List.forall_mem_cons.mpr ⟨kz_N48_19, List.forall_mem_cons.mpr ⟨kz_N48_20, List.forall_mem_cons.mpr ⟨kz_N48_21, List.forall_mem_cons.mpr ⟨kz_N48_22, List.forall_mem_cons.mpr ⟨kz_N48_23, (fun _ h => nomatch h)⟩⟩⟩⟩⟩⟩⟩⟩⟩⟩⟩⟩⟩⟩⟩⟩⟩⟩⟩⟩⟩⟩⟩⟩
theorem kz_h48 : ak_holds lch kz_M kz_CF kz_K (28, kz_e48) := by
  refine ak_one_ok kz_W48 kz_E48.1 kz_E48.2 kz_l48_ok ?_
  unfold kz_t48
  exact (fun _ h => nomatch h)
theorem kz_l49_ok : ∀ nd ∈ kz_l49, ak_chN kz_M kz_CF kz_K kz_t49 26 kz_e49 kz_l49 3000 nd = true := by
  unfold kz_l49
  exact List.forall_mem_cons.mpr ⟨kz_N49_0, (fun _ h => nomatch h)⟩
theorem kz_h49 : ak_holds lch kz_M kz_CF kz_K (26, kz_e49) := by
  refine ak_one_ok kz_W49 kz_E49.1 kz_E49.2 kz_l49_ok ?_
  unfold kz_t49
  exact List.forall_mem_cons.mpr ⟨⟨by rw [kz_g47, kz_g49]; decide, kz_h47⟩, List.forall_mem_cons.mpr ⟨⟨by rw [kz_g48, kz_g49]; decide, kz_h48⟩, (fun _ h => nomatch h)⟩⟩
theorem kz_l50_ok : ∀ nd ∈ kz_l50, ak_chN kz_M kz_CF kz_K kz_t50 39 kz_e50 kz_l50 3000 nd = true := by
  unfold kz_l50
  exact List.forall_mem_cons.mpr ⟨kz_N50_0, List.forall_mem_cons.mpr ⟨kz_N50_1, List.forall_mem_cons.mpr ⟨kz_N50_2, List.forall_mem_cons.mpr ⟨kz_N50_3, (fun _ h => nomatch h)⟩⟩⟩⟩
theorem kz_h50 : ak_holds lch kz_M kz_CF kz_K (39, kz_e50) := by
  refine ak_one_ok kz_W50 kz_E50.1 kz_E50.2 kz_l50_ok ?_
  unfold kz_t50
  exact List.forall_mem_cons.mpr ⟨⟨by rw [kz_g45, kz_g50]; decide, kz_h45⟩, List.forall_mem_cons.mpr ⟨⟨by rw [kz_g49, kz_g50]; decide, kz_h49⟩, (fun _ h => nomatch h)⟩⟩
theorem kz_l51_ok : ∀ nd ∈ kz_l51, ak_chN kz_M kz_CF kz_K kz_t51 100 kz_e51 kz_l51 3000 nd = true := fun _ h => nomatch h
theorem kz_h51 : ak_holds lch kz_M kz_CF kz_K (100, kz_e51) := by
  refine ak_one_ok kz_W51 kz_E51.1 kz_E51.2 kz_l51_ok ?_
  unfold kz_t51
  exact List.forall_mem_cons.mpr ⟨⟨by rw [kz_g50, kz_g51]; decide, kz_h50⟩, (fun _ h => nomatch h)⟩
theorem kz_l52_ok : ∀ nd ∈ kz_l52, ak_chN kz_M kz_CF kz_K kz_t52 173 kz_e52 kz_l52 3000 nd = true := by
  unfold kz_l52
  exact List.forall_mem_cons.mpr ⟨kz_N52_0, (fun _ h => nomatch h)⟩
theorem kz_h52 : ak_holds lch kz_M kz_CF kz_K (173, kz_e52) := by
  refine ak_one_ok kz_W52 kz_E52.1 kz_E52.2 kz_l52_ok ?_
  unfold kz_t52
  exact List.forall_mem_cons.mpr ⟨⟨by rw [kz_g37, kz_g52]; decide, kz_h37⟩, (fun _ h => nomatch h)⟩
theorem kz_l53_ok : ∀ nd ∈ kz_l53, ak_chN kz_M kz_CF kz_K kz_t53 75 kz_e53 kz_l53 3000 nd = true := fun _ h => nomatch h
theorem kz_h53 : ak_holds lch kz_M kz_CF kz_K (75, kz_e53) := by
  refine ak_one_ok kz_W53 kz_E53.1 kz_E53.2 kz_l53_ok ?_
  unfold kz_t53
  exact (fun _ h => nomatch h)
theorem kz_l54_ok : ∀ nd ∈ kz_l54, ak_chN kz_M kz_CF kz_K kz_t54 130 kz_e54 kz_l54 3000 nd = true := fun _ h => nomatch h
theorem kz_h54 : ak_holds lch kz_M kz_CF kz_K (130, kz_e54) := by
  refine ak_one_ok kz_W54 kz_E54.1 kz_E54.2 kz_l54_ok ?_
  unfold kz_t54
  exact (fun _ h => nomatch h)
theorem kz_l55_ok : ∀ nd ∈ kz_l55, ak_chN kz_M kz_CF kz_K kz_t55 8 kz_e55 kz_l55 3000 nd = true := fun _ h => nomatch h
theorem kz_h55 : ak_holds lch kz_M kz_CF kz_K (8, kz_e55) := by
  refine ak_one_ok kz_W55 kz_E55.1 kz_E55.2 kz_l55_ok ?_
  unfold kz_t55
  exact List.forall_mem_cons.mpr ⟨⟨by rw [kz_g8, kz_g55]; decide, kz_h8⟩, List.forall_mem_cons.mpr ⟨⟨by rw [kz_g16, kz_g55]; decide, kz_h16⟩, List.forall_mem_cons.mpr ⟨⟨by rw [kz_g17, kz_g55]; decide, kz_h17⟩, (fun _ h => nomatch h)⟩⟩⟩
theorem kz_l56_ok : ∀ nd ∈ kz_l56, ak_chN kz_M kz_CF kz_K kz_t56 83 kz_e56 kz_l56 3000 nd = true := fun _ h => nomatch h
theorem kz_h56 : ak_holds lch kz_M kz_CF kz_K (83, kz_e56) := by
  refine ak_one_ok kz_W56 kz_E56.1 kz_E56.2 kz_l56_ok ?_
  unfold kz_t56
  exact List.forall_mem_cons.mpr ⟨⟨by rw [kz_g55, kz_g56]; decide, kz_h55⟩, (fun _ h => nomatch h)⟩
theorem kz_l57_ok : ∀ nd ∈ kz_l57, ak_chN kz_M kz_CF kz_K kz_t57 147 kz_e57 kz_l57 3000 nd = true := fun _ h => nomatch h
theorem kz_h57 : ak_holds lch kz_M kz_CF kz_K (147, kz_e57) := by
  refine ak_one_ok kz_W57 kz_E57.1 kz_E57.2 kz_l57_ok ?_
  unfold kz_t57
  exact List.forall_mem_cons.mpr ⟨⟨by rw [kz_g10, kz_g57]; decide, kz_h10⟩, (fun _ h => nomatch h)⟩
theorem kz_l58_ok : ∀ nd ∈ kz_l58, ak_chN kz_M kz_CF kz_K kz_t58 131 kz_e58 kz_l58 3000 nd = true := by
  unfold kz_l58
  exact List.forall_mem_cons.mpr ⟨kz_N58_0, List.forall_mem_cons.mpr ⟨kz_N58_1, (fun _ h => nomatch h)⟩⟩
theorem kz_h58 : ak_holds lch kz_M kz_CF kz_K (131, kz_e58) := by
  refine ak_one_ok kz_W58 kz_E58.1 kz_E58.2 kz_l58_ok ?_
  unfold kz_t58
  exact List.forall_mem_cons.mpr ⟨⟨by rw [kz_g38, kz_g58]; decide, kz_h38⟩, List.forall_mem_cons.mpr ⟨⟨by rw [kz_g39, kz_g58]; decide, kz_h39⟩, (fun _ h => nomatch h)⟩⟩
theorem kz_l59_ok : ∀ nd ∈ kz_l59, ak_chN kz_M kz_CF kz_K kz_t59 146 kz_e59 kz_l59 3000 nd = true := fun _ h => nomatch h
theorem kz_h59 : ak_holds lch kz_M kz_CF kz_K (146, kz_e59) := by
  refine ak_one_ok kz_W59 kz_E59.1 kz_E59.2 kz_l59_ok ?_
  unfold kz_t59
  exact List.forall_mem_cons.mpr ⟨⟨by rw [kz_g57, kz_g59]; decide, kz_h57⟩, List.forall_mem_cons.mpr ⟨⟨by rw [kz_g58, kz_g59]; decide, kz_h58⟩, (fun _ h => nomatch h)⟩⟩
theorem kz_l60_ok : ∀ nd ∈ kz_l60, ak_chN kz_M kz_CF kz_K kz_t60 18 kz_e60 kz_l60 3000 nd = true := by
  unfold kz_l60
  exact List.forall_mem_cons.mpr ⟨kz_N60_0, List.forall_mem_cons.mpr ⟨kz_N60_1, List.forall_mem_cons.mpr ⟨kz_N60_2, List.forall_mem_cons.mpr ⟨kz_N60_3, List.forall_mem_cons.mpr ⟨kz_N60_4, List.forall_mem_cons.mpr ⟨kz_N60_5, List.forall_mem_cons.mpr ⟨kz_N60_6, List.forall_mem_cons.mpr ⟨kz_N60_7, List.forall_mem_cons.mpr ⟨kz_N60_8, List.forall_mem_cons.mpr ⟨kz_N60_9, List.forall_mem_cons.mpr ⟨kz_N60_10, List.forall_mem_cons.mpr ⟨kz_N60_11, List.forall_mem_cons.mpr ⟨kz_N60_12, List.forall_mem_cons.mpr ⟨kz_N60_13, List.forall_mem_cons.mpr ⟨kz_N60_14, List.forall_mem_cons.mpr ⟨kz_N60_15, List.forall_mem_cons.mpr ⟨kz_N60_16, (fun _ h => nomatch h)⟩⟩⟩⟩⟩⟩⟩⟩⟩⟩⟩⟩⟩⟩⟩⟩⟩
theorem kz_h60 : ak_holds lch kz_M kz_CF kz_K (18, kz_e60) := by
  refine ak_one_ok kz_W60 kz_E60.1 kz_E60.2 kz_l60_ok ?_
  unfold kz_t60
  exact List.forall_mem_cons.mpr ⟨⟨by rw [kz_g15, kz_g60]; decide, kz_h15⟩, List.forall_mem_cons.mpr ⟨⟨by rw [kz_g55, kz_g60]; decide, kz_h55⟩, (fun _ h => nomatch h)⟩⟩
theorem kz_l61_ok : ∀ nd ∈ kz_l61, ak_chN kz_M kz_CF kz_K kz_t61 103 kz_e61 kz_l61 3000 nd = true := fun _ h => nomatch h
theorem kz_h61 : ak_holds lch kz_M kz_CF kz_K (103, kz_e61) := by
  refine ak_one_ok kz_W61 kz_E61.1 kz_E61.2 kz_l61_ok ?_
  unfold kz_t61
  exact List.forall_mem_cons.mpr ⟨⟨by rw [kz_g60, kz_g61]; decide, kz_h60⟩, (fun _ h => nomatch h)⟩
theorem kz_l62_ok : ∀ nd ∈ kz_l62, ak_chN kz_M kz_CF kz_K kz_t62 179 kz_e62 kz_l62 3000 nd = true := by
  unfold kz_l62
  exact List.forall_mem_cons.mpr ⟨kz_N62_0, List.forall_mem_cons.mpr ⟨kz_N62_1, List.forall_mem_cons.mpr ⟨kz_N62_2, List.forall_mem_cons.mpr ⟨kz_N62_3, List.forall_mem_cons.mpr ⟨kz_N62_4, List.forall_mem_cons.mpr ⟨kz_N62_5, List.forall_mem_cons.mpr ⟨kz_N62_6, List.forall_mem_cons.mpr ⟨kz_N62_7, List.forall_mem_cons.mpr ⟨kz_N62_8, List.forall_mem_cons.mpr ⟨kz_N62_9, List.forall_mem_cons.mpr ⟨kz_N62_10, List.forall_mem_cons.mpr ⟨kz_N62_11, List.forall_mem_cons.mpr ⟨kz_N62_12, List.forall_mem_cons.mpr ⟨kz_N62_13, List.forall_mem_cons.mpr ⟨kz_N62_14, List.forall_mem_cons.mpr ⟨kz_N62_15, List.forall_mem_cons.mpr ⟨kz_N62_16, (fun _ h => nomatch h)⟩⟩⟩⟩⟩⟩⟩⟩⟩⟩⟩⟩⟩⟩⟩⟩⟩
theorem kz_h62 : ak_holds lch kz_M kz_CF kz_K (179, kz_e62) := by
  refine ak_one_ok kz_W62 kz_E62.1 kz_E62.2 kz_l62_ok ?_
  unfold kz_t62
  exact List.forall_mem_cons.mpr ⟨⟨by rw [kz_g57, kz_g62]; decide, kz_h57⟩, (fun _ h => nomatch h)⟩
theorem kz_l63_ok : ∀ nd ∈ kz_l63, ak_chN kz_M kz_CF kz_K kz_t63 178 kz_e63 kz_l63 3000 nd = true := fun _ h => nomatch h
theorem kz_h63 : ak_holds lch kz_M kz_CF kz_K (178, kz_e63) := by
  refine ak_one_ok kz_W63 kz_E63.1 kz_E63.2 kz_l63_ok ?_
  unfold kz_t63
  exact List.forall_mem_cons.mpr ⟨⟨by rw [kz_g58, kz_g63]; decide, kz_h58⟩, List.forall_mem_cons.mpr ⟨⟨by rw [kz_g62, kz_g63]; decide, kz_h62⟩, (fun _ h => nomatch h)⟩⟩
theorem kz_l64_ok : ∀ nd ∈ kz_l64, ak_chN kz_M kz_CF kz_K kz_t64 14 kz_e64 kz_l64 3000 nd = true := by
  unfold kz_l64
  exact List.forall_mem_cons.mpr ⟨kz_N64_0, List.forall_mem_cons.mpr ⟨kz_N64_1, List.forall_mem_cons.mpr ⟨kz_N64_2, List.forall_mem_cons.mpr ⟨kz_N64_3, List.forall_mem_cons.mpr ⟨kz_N64_4, List.forall_mem_cons.mpr ⟨kz_N64_5, (fun _ h => nomatch h)⟩⟩⟩⟩⟩⟩
theorem kz_h64 : ak_holds lch kz_M kz_CF kz_K (14, kz_e64) := by
  refine ak_one_ok kz_W64 kz_E64.1 kz_E64.2 kz_l64_ok ?_
  unfold kz_t64
  exact List.forall_mem_cons.mpr ⟨⟨by rw [kz_g15, kz_g64]; decide, kz_h15⟩, (fun _ h => nomatch h)⟩
theorem kz_l65_ok : ∀ nd ∈ kz_l65, ak_chN kz_M kz_CF kz_K kz_t65 89 kz_e65 kz_l65 3000 nd = true := fun _ h => nomatch h
theorem kz_h65 : ak_holds lch kz_M kz_CF kz_K (89, kz_e65) := by
  refine ak_one_ok kz_W65 kz_E65.1 kz_E65.2 kz_l65_ok ?_
  unfold kz_t65
  exact List.forall_mem_cons.mpr ⟨⟨by rw [kz_g64, kz_g65]; decide, kz_h64⟩, (fun _ h => nomatch h)⟩
theorem kz_l66_ok : ∀ nd ∈ kz_l66, ak_chN kz_M kz_CF kz_K kz_t66 151 kz_e66 kz_l66 3000 nd = true := by
  unfold kz_l66
  exact List.forall_mem_cons.mpr ⟨kz_N66_0, List.forall_mem_cons.mpr ⟨kz_N66_1, List.forall_mem_cons.mpr ⟨kz_N66_2, List.forall_mem_cons.mpr ⟨kz_N66_3, List.forall_mem_cons.mpr ⟨kz_N66_4, List.forall_mem_cons.mpr ⟨kz_N66_5, List.forall_mem_cons.mpr ⟨kz_N66_6, List.forall_mem_cons.mpr ⟨kz_N66_7, List.forall_mem_cons.mpr ⟨kz_N66_8, List.forall_mem_cons.mpr ⟨kz_N66_9, List.forall_mem_cons.mpr ⟨kz_N66_10, List.forall_mem_cons.mpr ⟨kz_N66_11, List.forall_mem_cons.mpr ⟨kz_N66_12, List.forall_mem_cons.mpr ⟨kz_N66_13, List.forall_mem_cons.mpr ⟨kz_N66_14, List.forall_mem_cons.mpr ⟨kz_N66_15, List.forall_mem_cons.mpr ⟨kz_N66_16, List.forall_mem_cons.mpr ⟨kz_N66_17, List.forall_mem_cons.mpr ⟨kz_N66_18, List.forall_mem_cons.mpr ⟨kz_N66_19, List.forall_mem_cons.mpr ⟨kz_N66_20, (fun _ h => nomatch h)⟩⟩⟩⟩⟩⟩⟩⟩⟩⟩⟩⟩⟩⟩⟩⟩⟩⟩⟩⟩⟩
theorem kz_h66 : ak_holds lch kz_M kz_CF kz_K (151, kz_e66) := by
  refine ak_one_ok kz_W66 kz_E66.1 kz_E66.2 kz_l66_ok ?_
  unfold kz_t66
  exact List.forall_mem_cons.mpr ⟨⟨by rw [kz_g39, kz_g66]; decide, kz_h39⟩, (fun _ h => nomatch h)⟩
theorem kz_l67_ok : ∀ nd ∈ kz_l67, ak_chN kz_M kz_CF kz_K kz_t67 155 kz_e67 kz_l67 3000 nd = true := fun _ h => nomatch h
theorem kz_h67 : ak_holds lch kz_M kz_CF kz_K (155, kz_e67) := by
  refine ak_one_ok kz_W67 kz_E67.1 kz_E67.2 kz_l67_ok ?_
  unfold kz_t67
  exact List.forall_mem_cons.mpr ⟨⟨by rw [kz_g66, kz_g67]; decide, kz_h66⟩, (fun _ h => nomatch h)⟩
theorem kz_l68_ok : ∀ nd ∈ kz_l68, ak_chN kz_M kz_CF kz_K kz_t68 16 kz_e68 kz_l68 3000 nd = true := fun _ h => nomatch h
theorem kz_h68 : ak_holds lch kz_M kz_CF kz_K (16, kz_e68) := by
  refine ak_one_ok kz_W68 kz_E68.1 kz_E68.2 kz_l68_ok ?_
  unfold kz_t68
  exact List.forall_mem_cons.mpr ⟨⟨by rw [kz_g13, kz_g68]; decide, kz_h13⟩, (fun _ h => nomatch h)⟩
theorem kz_l69_ok : ∀ nd ∈ kz_l69, ak_chN kz_M kz_CF kz_K kz_t69 15 kz_e69 kz_l69 3000 nd = true := fun _ h => nomatch h
theorem kz_h69 : ak_holds lch kz_M kz_CF kz_K (15, kz_e69) := by
  refine ak_one_ok kz_W69 kz_E69.1 kz_E69.2 kz_l69_ok ?_
  unfold kz_t69
  exact List.forall_mem_cons.mpr ⟨⟨by rw [kz_g68, kz_g69]; decide, kz_h68⟩, (fun _ h => nomatch h)⟩
theorem kz_l70_ok : ∀ nd ∈ kz_l70, ak_chN kz_M kz_CF kz_K kz_t70 14 kz_e70 kz_l70 3000 nd = true := by
  unfold kz_l70
  exact List.forall_mem_cons.mpr ⟨kz_N70_0, List.forall_mem_cons.mpr ⟨kz_N70_1, List.forall_mem_cons.mpr ⟨kz_N70_2, List.forall_mem_cons.mpr ⟨kz_N70_3, List.forall_mem_cons.mpr ⟨kz_N70_4, List.forall_mem_cons.mpr ⟨kz_N70_5, (fun _ h => nomatch h)⟩⟩⟩⟩⟩⟩
theorem kz_h70 : ak_holds lch kz_M kz_CF kz_K (14, kz_e70) := by
  refine ak_one_ok kz_W70 kz_E70.1 kz_E70.2 kz_l70_ok ?_
  unfold kz_t70
  exact List.forall_mem_cons.mpr ⟨⟨by rw [kz_g69, kz_g70]; decide, kz_h69⟩, (fun _ h => nomatch h)⟩
theorem kz_l71_ok : ∀ nd ∈ kz_l71, ak_chN kz_M kz_CF kz_K kz_t71 87 kz_e71 kz_l71 3000 nd = true := by
  unfold kz_l71
  exact List.forall_mem_cons.mpr ⟨kz_N71_0, (fun _ h => nomatch h)⟩
theorem kz_h71 : ak_holds lch kz_M kz_CF kz_K (87, kz_e71) := by
  refine ak_one_ok kz_W71 kz_E71.1 kz_E71.2 kz_l71_ok ?_
  unfold kz_t71
  exact (fun _ h => nomatch h)
theorem kz_l72_ok : ∀ nd ∈ kz_l72, ak_chN kz_M kz_CF kz_K kz_t72 11 kz_e72 kz_l72 3000 nd = true := by
  unfold kz_l72
  exact List.forall_mem_cons.mpr ⟨kz_N72_0, (fun _ h => nomatch h)⟩
theorem kz_h72 : ak_holds lch kz_M kz_CF kz_K (11, kz_e72) := by
  refine ak_one_ok kz_W72 kz_E72.1 kz_E72.2 kz_l72_ok ?_
  unfold kz_t72
  exact (fun _ h => nomatch h)
theorem kz_l73_ok : ∀ nd ∈ kz_l73, ak_chN kz_M kz_CF kz_K kz_t73 93 kz_e73 kz_l73 3000 nd = true := by
  unfold kz_l73
  exact List.forall_mem_cons.mpr ⟨kz_N73_0, List.forall_mem_cons.mpr ⟨kz_N73_1, (fun _ h => nomatch h)⟩⟩
theorem kz_h73 : ak_holds lch kz_M kz_CF kz_K (93, kz_e73) := by
  refine ak_one_ok kz_W73 kz_E73.1 kz_E73.2 kz_l73_ok ?_
  unfold kz_t73
  exact List.forall_mem_cons.mpr ⟨⟨by rw [kz_g70, kz_g73]; decide, kz_h70⟩, List.forall_mem_cons.mpr ⟨⟨by rw [kz_g71, kz_g73]; decide, kz_h71⟩, List.forall_mem_cons.mpr ⟨⟨by rw [kz_g72, kz_g73]; decide, kz_h72⟩, (fun _ h => nomatch h)⟩⟩⟩
theorem kz_l74_ok : ∀ nd ∈ kz_l74, ak_chN kz_M kz_CF kz_K kz_t74 144 kz_e74 kz_l74 3000 nd = true := by
  unfold kz_l74
  exact List.forall_mem_cons.mpr ⟨kz_N74_0, List.forall_mem_cons.mpr ⟨kz_N74_1, (fun _ h => nomatch h)⟩⟩
theorem kz_h74 : ak_holds lch kz_M kz_CF kz_K (144, kz_e74) := by
  refine ak_one_ok kz_W74 kz_E74.1 kz_E74.2 kz_l74_ok ?_
  unfold kz_t74
  exact (fun _ h => nomatch h)
theorem kz_l75_ok : ∀ nd ∈ kz_l75, ak_chN kz_M kz_CF kz_K kz_t75 145 kz_e75 kz_l75 3000 nd = true := by
  unfold kz_l75
  exact List.forall_mem_cons.mpr ⟨kz_N75_0, List.forall_mem_cons.mpr ⟨kz_N75_1, (fun _ h => nomatch h)⟩⟩
theorem kz_h75 : ak_holds lch kz_M kz_CF kz_K (145, kz_e75) := by
  refine ak_one_ok kz_W75 kz_E75.1 kz_E75.2 kz_l75_ok ?_
  unfold kz_t75
  exact (fun _ h => nomatch h)
theorem kz_l76_ok : ∀ nd ∈ kz_l76, ak_chN kz_M kz_CF kz_K kz_t76 166 kz_e76 kz_l76 3000 nd = true := by
  unfold kz_l76
  exact List.forall_mem_cons.mpr ⟨kz_N76_0, List.forall_mem_cons.mpr ⟨kz_N76_1, List.forall_mem_cons.mpr ⟨kz_N76_2, List.forall_mem_cons.mpr ⟨kz_N76_3, List.forall_mem_cons.mpr ⟨kz_N76_4, List.forall_mem_cons.mpr ⟨kz_N76_5, (fun _ h => nomatch h)⟩⟩⟩⟩⟩⟩
theorem kz_h76 : ak_holds lch kz_M kz_CF kz_K (166, kz_e76) := by
  refine ak_one_ok kz_W76 kz_E76.1 kz_E76.2 kz_l76_ok ?_
  unfold kz_t76
  exact List.forall_mem_cons.mpr ⟨⟨by rw [kz_g66, kz_g76]; decide, kz_h66⟩, List.forall_mem_cons.mpr ⟨⟨by rw [kz_g74, kz_g76]; decide, kz_h74⟩, List.forall_mem_cons.mpr ⟨⟨by rw [kz_g75, kz_g76]; decide, kz_h75⟩, (fun _ h => nomatch h)⟩⟩⟩
theorem kz_l77_ok : ∀ nd ∈ kz_l77, ak_chN kz_M kz_CF kz_K kz_t77 57 kz_e77 kz_l77 3000 nd = true := by
  unfold kz_l77
  exact List.forall_mem_cons.mpr ⟨kz_N77_0, List.forall_mem_cons.mpr ⟨kz_N77_1, List.forall_mem_cons.mpr ⟨kz_N77_2, List.forall_mem_cons.mpr ⟨kz_N77_3, List.forall_mem_cons.mpr ⟨kz_N77_4, List.forall_mem_cons.mpr ⟨kz_N77_5, List.forall_mem_cons.mpr ⟨kz_N77_6, List.forall_mem_cons.mpr ⟨kz_N77_7, List.forall_mem_cons.mpr ⟨kz_N77_8, List.forall_mem_cons.mpr ⟨kz_N77_9, List.forall_mem_cons.mpr ⟨kz_N77_10, (fun _ h => nomatch h)⟩⟩⟩⟩⟩⟩⟩⟩⟩⟩⟩
theorem kz_h77 : ak_holds lch kz_M kz_CF kz_K (57, kz_e77) := by
  refine ak_one_ok kz_W77 kz_E77.1 kz_E77.2 kz_l77_ok ?_
  unfold kz_t77
  exact (fun _ h => nomatch h)
theorem kz_l78_ok : ∀ nd ∈ kz_l78, ak_chN kz_M kz_CF kz_K kz_t78 58 kz_e78 kz_l78 3000 nd = true := by
  unfold kz_l78
  exact List.forall_mem_cons.mpr ⟨kz_N78_0, List.forall_mem_cons.mpr ⟨kz_N78_1, List.forall_mem_cons.mpr ⟨kz_N78_2, List.forall_mem_cons.mpr ⟨kz_N78_3, List.forall_mem_cons.mpr ⟨kz_N78_4, List.forall_mem_cons.mpr ⟨kz_N78_5, List.forall_mem_cons.mpr ⟨kz_N78_6, List.forall_mem_cons.mpr ⟨kz_N78_7, List.forall_mem_cons.mpr ⟨kz_N78_8, (fun _ h => nomatch h)⟩⟩⟩⟩⟩⟩⟩⟩⟩
noncomputable def kz_G78 : List (Nat × ak_En × List ak_Nd) := [(58, kz_e78, kz_l78)]
theorem kz_G78_ok : ∀ s ∈ kz_G78, ak_holds lch kz_M kz_CF kz_K (s.1, s.2.1) := by
  refine ak_grp_ok (g := 73) (tb := kz_t78) (n := 3000) ?_ ?_ ?_
  · unfold kz_G78
    exact List.forall_mem_cons.mpr ⟨⟨kz_g78, kz_W78, kz_E78.1, kz_E78.2, kz_l78_ok⟩, (fun _ h => nomatch h)⟩
  · unfold kz_t78
    exact List.forall_mem_cons.mpr ⟨fun e => absurd (kz_g77.symm.trans e) (by decide), List.forall_mem_cons.mpr ⟨fun _ => ⟨(58, kz_e78, kz_l78), List.mem_of_getElem? (i := 0) rfl, rfl⟩, (fun _ h => nomatch h)⟩⟩
  · unfold kz_t78
    exact List.forall_mem_cons.mpr ⟨fun _ => kz_h77, List.forall_mem_cons.mpr ⟨fun e => absurd kz_g78 e, (fun _ h => nomatch h)⟩⟩
theorem kz_h78 : ak_holds lch kz_M kz_CF kz_K (58, kz_e78) := kz_G78_ok (58, kz_e78, kz_l78) (List.mem_of_getElem? (i := 0) rfl)
theorem kz_l79_ok : ∀ nd ∈ kz_l79, ak_chN kz_M kz_CF kz_K kz_t79 60 kz_e79 kz_l79 3000 nd = true := by
  unfold kz_l79
  exact List.forall_mem_cons.mpr ⟨kz_N79_0, (fun _ h => nomatch h)⟩
theorem kz_h79 : ak_holds lch kz_M kz_CF kz_K (60, kz_e79) := by
  refine ak_one_ok kz_W79 kz_E79.1 kz_E79.2 kz_l79_ok ?_
  unfold kz_t79
  exact List.forall_mem_cons.mpr ⟨⟨by rw [kz_g7, kz_g79]; decide, kz_h7⟩, List.forall_mem_cons.mpr ⟨⟨by rw [kz_g15, kz_g79]; decide, kz_h15⟩, List.forall_mem_cons.mpr ⟨⟨by rw [kz_g16, kz_g79]; decide, kz_h16⟩, List.forall_mem_cons.mpr ⟨⟨by rw [kz_g17, kz_g79]; decide, kz_h17⟩, (fun _ h => nomatch h)⟩⟩⟩⟩
theorem kz_l80_ok : ∀ nd ∈ kz_l80, ak_chN kz_M kz_CF kz_K kz_t80 59 kz_e80 kz_l80 3000 nd = true := by
  unfold kz_l80
  exact List.forall_mem_cons.mpr ⟨kz_N80_0, List.forall_mem_cons.mpr ⟨kz_N80_2, List.forall_mem_cons.mpr ⟨kz_N80_3, List.forall_mem_cons.mpr ⟨kz_N80_4, List.forall_mem_cons.mpr ⟨kz_N80_5, List.forall_mem_cons.mpr ⟨kz_N80_6, List.forall_mem_cons.mpr ⟨kz_N80_7, List.forall_mem_cons.mpr ⟨kz_N80_8, List.forall_mem_cons.mpr ⟨kz_N80_9, List.forall_mem_cons.mpr ⟨kz_N80_1, (fun _ h => nomatch h)⟩⟩⟩⟩⟩⟩⟩⟩⟩⟩
theorem kz_h80 : ak_holds lch kz_M kz_CF kz_K (59, kz_e80) := by
  refine ak_one_ok kz_W80 kz_E80.1 kz_E80.2 kz_l80_ok ?_
  unfold kz_t80
  exact List.forall_mem_cons.mpr ⟨⟨by rw [kz_g78, kz_g80]; decide, kz_h78⟩, List.forall_mem_cons.mpr ⟨⟨by rw [kz_g79, kz_g80]; decide, kz_h79⟩, (fun _ h => nomatch h)⟩⟩
theorem kz_l81_ok : ∀ nd ∈ kz_l81, ak_chN kz_M kz_CF kz_K kz_t81 62 kz_e81 kz_l81 3000 nd = true := fun _ h => nomatch h
theorem kz_h81 : ak_holds lch kz_M kz_CF kz_K (62, kz_e81) := by
  refine ak_one_ok kz_W81 kz_E81.1 kz_E81.2 kz_l81_ok ?_
  unfold kz_t81
  exact List.forall_mem_cons.mpr ⟨⟨by rw [kz_g80, kz_g81]; decide, kz_h80⟩, (fun _ h => nomatch h)⟩
theorem kz_l82_ok : ∀ nd ∈ kz_l82, ak_chN kz_M kz_CF kz_K kz_t82 167 kz_e82 kz_l82 3000 nd = true := by
  unfold kz_l82
  exact List.forall_mem_cons.mpr ⟨kz_N82_0, (fun _ h => nomatch h)⟩
theorem kz_h82 : ak_holds lch kz_M kz_CF kz_K (167, kz_e82) := by
  refine ak_one_ok kz_W82 kz_E82.1 kz_E82.2 kz_l82_ok ?_
  unfold kz_t82
  exact List.forall_mem_cons.mpr ⟨⟨by rw [kz_g62, kz_g82]; decide, kz_h62⟩, (fun _ h => nomatch h)⟩
theorem kz_l83_ok : ∀ nd ∈ kz_l83, ak_chN kz_M kz_CF kz_K kz_t83 167 kz_e83 kz_l83 3000 nd = true := by
  unfold kz_l83
  exact List.forall_mem_cons.mpr ⟨kz_N83_0, List.forall_mem_cons.mpr ⟨kz_N83_1, (fun _ h => nomatch h)⟩⟩
theorem kz_h83 : ak_holds lch kz_M kz_CF kz_K (167, kz_e83) := by
  refine ak_one_ok kz_W83 kz_E83.1 kz_E83.2 kz_l83_ok ?_
  unfold kz_t83
  exact List.forall_mem_cons.mpr ⟨⟨by rw [kz_g10, kz_g83]; decide, kz_h10⟩, List.forall_mem_cons.mpr ⟨⟨by rw [kz_g11, kz_g83]; decide, kz_h11⟩, List.forall_mem_cons.mpr ⟨⟨by rw [kz_g62, kz_g83]; decide, kz_h62⟩, List.forall_mem_cons.mpr ⟨⟨by rw [kz_g82, kz_g83]; decide, kz_h82⟩, (fun _ h => nomatch h)⟩⟩⟩⟩
theorem kz_l84_ok : ∀ nd ∈ kz_l84, ak_chN kz_M kz_CF kz_K kz_t84 167 kz_e84 kz_l84 3000 nd = true := by
  unfold kz_l84
  exact List.forall_mem_cons.mpr ⟨kz_N84_0, List.forall_mem_cons.mpr ⟨kz_N84_1, (fun _ h => nomatch h)⟩⟩
theorem kz_h84 : ak_holds lch kz_M kz_CF kz_K (167, kz_e84) := by
  refine ak_one_ok kz_W84 kz_E84.1 kz_E84.2 kz_l84_ok ?_
  unfold kz_t84
  exact List.forall_mem_cons.mpr ⟨⟨by rw [kz_g10, kz_g84]; decide, kz_h10⟩, List.forall_mem_cons.mpr ⟨⟨by rw [kz_g11, kz_g84]; decide, kz_h11⟩, List.forall_mem_cons.mpr ⟨⟨by rw [kz_g62, kz_g84]; decide, kz_h62⟩, List.forall_mem_cons.mpr ⟨⟨by rw [kz_g83, kz_g84]; decide, kz_h83⟩, (fun _ h => nomatch h)⟩⟩⟩⟩
theorem kz_l85_ok : ∀ nd ∈ kz_l85, ak_chN kz_M kz_CF kz_K kz_t85 167 kz_e85 kz_l85 3000 nd = true := by
  unfold kz_l85
  exact List.forall_mem_cons.mpr ⟨kz_N85_0, List.forall_mem_cons.mpr ⟨kz_N85_1, (fun _ h => nomatch h)⟩⟩
theorem kz_h85 : ak_holds lch kz_M kz_CF kz_K (167, kz_e85) := by
  refine ak_one_ok kz_W85 kz_E85.1 kz_E85.2 kz_l85_ok ?_
  unfold kz_t85
  exact List.forall_mem_cons.mpr ⟨⟨by rw [kz_g10, kz_g85]; decide, kz_h10⟩, List.forall_mem_cons.mpr ⟨⟨by rw [kz_g11, kz_g85]; decide, kz_h11⟩, List.forall_mem_cons.mpr ⟨⟨by rw [kz_g62, kz_g85]; decide, kz_h62⟩, List.forall_mem_cons.mpr ⟨⟨by rw [kz_g84, kz_g85]; decide, kz_h84⟩, (fun _ h => nomatch h)⟩⟩⟩⟩
theorem kz_l86_ok : ∀ nd ∈ kz_l86, ak_chN kz_M kz_CF kz_K kz_t86 167 kz_e86 kz_l86 3000 nd = true := by
  unfold kz_l86
  exact List.forall_mem_cons.mpr ⟨kz_N86_0, List.forall_mem_cons.mpr ⟨kz_N86_1, (fun _ h => nomatch h)⟩⟩
theorem kz_h86 : ak_holds lch kz_M kz_CF kz_K (167, kz_e86) := by
  refine ak_one_ok kz_W86 kz_E86.1 kz_E86.2 kz_l86_ok ?_
  unfold kz_t86
  exact List.forall_mem_cons.mpr ⟨⟨by rw [kz_g10, kz_g86]; decide, kz_h10⟩, List.forall_mem_cons.mpr ⟨⟨by rw [kz_g11, kz_g86]; decide, kz_h11⟩, List.forall_mem_cons.mpr ⟨⟨by rw [kz_g62, kz_g86]; decide, kz_h62⟩, List.forall_mem_cons.mpr ⟨⟨by rw [kz_g85, kz_g86]; decide, kz_h85⟩, (fun _ h => nomatch h)⟩⟩⟩⟩
theorem kz_l87_ok : ∀ nd ∈ kz_l87, ak_chN kz_M kz_CF kz_K kz_t87 167 kz_e87 kz_l87 3000 nd = true := by
  unfold kz_l87
  exact List.forall_mem_cons.mpr ⟨kz_N87_0, List.forall_mem_cons.mpr ⟨kz_N87_1, (fun _ h => nomatch h)⟩⟩
theorem kz_h87 : ak_holds lch kz_M kz_CF kz_K (167, kz_e87) := by
  refine ak_one_ok kz_W87 kz_E87.1 kz_E87.2 kz_l87_ok ?_
  unfold kz_t87
  exact List.forall_mem_cons.mpr ⟨⟨by rw [kz_g10, kz_g87]; decide, kz_h10⟩, List.forall_mem_cons.mpr ⟨⟨by rw [kz_g11, kz_g87]; decide, kz_h11⟩, List.forall_mem_cons.mpr ⟨⟨by rw [kz_g62, kz_g87]; decide, kz_h62⟩, List.forall_mem_cons.mpr ⟨⟨by rw [kz_g86, kz_g87]; decide, kz_h86⟩, (fun _ h => nomatch h)⟩⟩⟩⟩
theorem kz_l88_ok : ∀ nd ∈ kz_l88, ak_chN kz_M kz_CF kz_K kz_t88 111 kz_e88 kz_l88 3000 nd = true := by
  unfold kz_l88
  exact List.forall_mem_cons.mpr ⟨kz_N88_0, (fun _ h => nomatch h)⟩
theorem kz_h88 : ak_holds lch kz_M kz_CF kz_K (111, kz_e88) := by
  refine ak_one_ok kz_W88 kz_E88.1 kz_E88.2 kz_l88_ok ?_
  unfold kz_t88
  exact List.forall_mem_cons.mpr ⟨⟨by rw [kz_g58, kz_g88]; decide, kz_h58⟩, List.forall_mem_cons.mpr ⟨⟨by rw [kz_g74, kz_g88]; decide, kz_h74⟩, List.forall_mem_cons.mpr ⟨⟨by rw [kz_g75, kz_g88]; decide, kz_h75⟩, List.forall_mem_cons.mpr ⟨⟨by rw [kz_g87, kz_g88]; decide, kz_h87⟩, (fun _ h => nomatch h)⟩⟩⟩⟩
theorem kz_l89_ok : ∀ nd ∈ kz_l89, ak_chN kz_M kz_CF kz_K kz_t89 12 kz_e89 kz_l89 3000 nd = true := fun _ h => nomatch h
theorem kz_h89 : ak_holds lch kz_M kz_CF kz_K (12, kz_e89) := by
  refine ak_one_ok kz_W89 kz_E89.1 kz_E89.2 kz_l89_ok ?_
  unfold kz_t89
  exact List.forall_mem_cons.mpr ⟨⟨by rw [kz_g68, kz_g89]; decide, kz_h68⟩, (fun _ h => nomatch h)⟩
theorem kz_l90_ok : ∀ nd ∈ kz_l90, ak_chN kz_M kz_CF kz_K kz_t90 10 kz_e90 kz_l90 3000 nd = true := by
  unfold kz_l90
  exact List.forall_mem_cons.mpr ⟨kz_N90_0, (fun _ h => nomatch h)⟩
theorem kz_h90 : ak_holds lch kz_M kz_CF kz_K (10, kz_e90) := by
  refine ak_one_ok kz_W90 kz_E90.1 kz_E90.2 kz_l90_ok ?_
  unfold kz_t90
  exact (fun _ h => nomatch h)
theorem kz_l91_ok : ∀ nd ∈ kz_l91, ak_chN kz_M kz_CF kz_K kz_t91 9 kz_e91 kz_l91 3000 nd = true := fun _ h => nomatch h
theorem kz_h91 : ak_holds lch kz_M kz_CF kz_K (9, kz_e91) := by
  refine ak_one_ok kz_W91 kz_E91.1 kz_E91.2 kz_l91_ok ?_
  unfold kz_t91
  exact List.forall_mem_cons.mpr ⟨⟨by rw [kz_g68, kz_g91]; decide, kz_h68⟩, (fun _ h => nomatch h)⟩
theorem kz_l92_ok : ∀ nd ∈ kz_l92, ak_chN kz_M kz_CF kz_K kz_t92 8 kz_e92 kz_l92 3000 nd = true := fun _ h => nomatch h
theorem kz_h92 : ak_holds lch kz_M kz_CF kz_K (8, kz_e92) := by
  refine ak_one_ok kz_W92 kz_E92.1 kz_E92.2 kz_l92_ok ?_
  unfold kz_t92
  exact List.forall_mem_cons.mpr ⟨⟨by rw [kz_g89, kz_g92]; decide, kz_h89⟩, List.forall_mem_cons.mpr ⟨⟨by rw [kz_g90, kz_g92]; decide, kz_h90⟩, List.forall_mem_cons.mpr ⟨⟨by rw [kz_g91, kz_g92]; decide, kz_h91⟩, (fun _ h => nomatch h)⟩⟩⟩
theorem kz_l93_ok : ∀ nd ∈ kz_l93, ak_chN kz_M kz_CF kz_K kz_t93 18 kz_e93 kz_l93 3000 nd = true := by
  unfold kz_l93
  exact List.forall_mem_cons.mpr ⟨kz_N93_0, List.forall_mem_cons.mpr ⟨kz_N93_1, List.forall_mem_cons.mpr ⟨kz_N93_2, List.forall_mem_cons.mpr ⟨kz_N93_3, List.forall_mem_cons.mpr ⟨kz_N93_4, List.forall_mem_cons.mpr ⟨kz_N93_5, List.forall_mem_cons.mpr ⟨kz_N93_6, List.forall_mem_cons.mpr ⟨kz_N93_7, List.forall_mem_cons.mpr ⟨kz_N93_8, List.forall_mem_cons.mpr ⟨kz_N93_9, List.forall_mem_cons.mpr ⟨kz_N93_10, List.forall_mem_cons.mpr ⟨kz_N93_11, List.forall_mem_cons.mpr ⟨kz_N93_12, List.forall_mem_cons.mpr ⟨kz_N93_13, List.forall_mem_cons.mpr ⟨kz_N93_14, List.forall_mem_cons.mpr ⟨kz_N93_15, List.forall_mem_cons.mpr ⟨kz_N93_16, (fun _ h => nomatch h)⟩⟩⟩⟩⟩⟩⟩⟩⟩⟩⟩⟩⟩⟩⟩⟩⟩
theorem kz_h93 : ak_holds lch kz_M kz_CF kz_K (18, kz_e93) := by
  refine ak_one_ok kz_W93 kz_E93.1 kz_E93.2 kz_l93_ok ?_
  unfold kz_t93
  exact List.forall_mem_cons.mpr ⟨⟨by rw [kz_g69, kz_g93]; decide, kz_h69⟩, List.forall_mem_cons.mpr ⟨⟨by rw [kz_g92, kz_g93]; decide, kz_h92⟩, (fun _ h => nomatch h)⟩⟩
theorem kz_l94_ok : ∀ nd ∈ kz_l94, ak_chN kz_M kz_CF kz_K kz_t94 66 kz_e94 kz_l94 3000 nd = true := by
  unfold kz_l94
  exact List.forall_mem_cons.mpr ⟨kz_N94_1, List.forall_mem_cons.mpr ⟨kz_N94_2, List.forall_mem_cons.mpr ⟨kz_N94_3, List.forall_mem_cons.mpr ⟨kz_N94_4, List.forall_mem_cons.mpr ⟨kz_N94_5, List.forall_mem_cons.mpr ⟨kz_N94_6, List.forall_mem_cons.mpr ⟨kz_N94_7, List.forall_mem_cons.mpr ⟨kz_N94_8, List.forall_mem_cons.mpr ⟨kz_N94_9, List.forall_mem_cons.mpr ⟨kz_N94_10, List.forall_mem_cons.mpr ⟨kz_N94_11, List.forall_mem_cons.mpr ⟨kz_N94_12, List.forall_mem_cons.mpr ⟨kz_N94_13, List.forall_mem_cons.mpr ⟨kz_N94_14, List.forall_mem_cons.mpr ⟨kz_N94_15, List.forall_mem_cons.mpr ⟨kz_N94_16, List.forall_mem_cons.mpr ⟨kz_N94_17, List.forall_mem_cons.mpr ⟨kz_N94_18, List.forall_mem_cons.mpr ⟨kz_N94_19, List.forall_mem_cons.mpr ⟨kz_N94_20, List.forall_mem_cons.mpr ⟨kz_N94_21, List.forall_mem_cons.mpr ⟨kz_N94_22, List.forall_mem_cons.mpr ⟨kz_N94_23, List.forall_mem_cons.mpr ⟨kz_N94_24, List.forall_mem_cons.mpr ⟨kz_N94_25, List.forall_mem_cons.mpr ⟨kz_N94_26, List.forall_mem_cons.mpr ⟨kz_N94_27, List.forall_mem_cons.mpr ⟨kz_N94_28, List.forall_mem_cons.mpr ⟨kz_N94_29, List.forall_mem_cons.mpr ⟨kz_N94_30, List.forall_mem_cons.mpr ⟨kz_N94_0, (fun _ h => nomatch h)⟩⟩⟩⟩⟩⟩⟩⟩⟩⟩⟩⟩⟩⟩⟩⟩⟩⟩⟩⟩⟩⟩⟩⟩⟩⟩⟩⟩⟩⟩⟩
theorem kz_h94 : ak_holds lch kz_M kz_CF kz_K (66, kz_e94) := by
  refine ak_one_ok kz_W94 kz_E94.1 kz_E94.2 kz_l94_ok ?_
  unfold kz_t94
  exact List.forall_mem_cons.mpr ⟨⟨by rw [kz_g7, kz_g94]; decide, kz_h7⟩, List.forall_mem_cons.mpr ⟨⟨by rw [kz_g60, kz_g94]; decide, kz_h60⟩, List.forall_mem_cons.mpr ⟨⟨by rw [kz_g93, kz_g94]; decide, kz_h93⟩, (fun _ h => nomatch h)⟩⟩⟩
theorem kz_l95_ok : ∀ nd ∈ kz_l95, ak_chN kz_M kz_CF kz_K kz_t95 116 kz_e95 kz_l95 3000 nd = true := by
  unfold kz_l95
  exact List.forall_mem_cons.mpr ⟨kz_N95_1, List.forall_mem_cons.mpr ⟨kz_N95_2, List.forall_mem_cons.mpr ⟨kz_N95_3, List.forall_mem_cons.mpr ⟨kz_N95_4, List.forall_mem_cons.mpr ⟨kz_N95_5, List.forall_mem_cons.mpr ⟨kz_N95_6, List.forall_mem_cons.mpr ⟨kz_N95_7, List.forall_mem_cons.mpr ⟨kz_N95_8, List.forall_mem_cons.mpr ⟨kz_N95_9, List.forall_mem_cons.mpr ⟨kz_N95_10, List.forall_mem_cons.mpr ⟨kz_N95_11, List.forall_mem_cons.mpr ⟨kz_N95_12, List.forall_mem_cons.mpr ⟨kz_N95_13, List.forall_mem_cons.mpr ⟨kz_N95_14, List.forall_mem_cons.mpr ⟨kz_N95_15, List.forall_mem_cons.mpr ⟨kz_N95_16, List.forall_mem_cons.mpr ⟨kz_N95_17, List.forall_mem_cons.mpr ⟨kz_N95_18, List.forall_mem_cons.mpr ⟨kz_N95_19, List.forall_mem_cons.mpr ⟨kz_N95_20, List.forall_mem_cons.mpr ⟨kz_N95_21, List.forall_mem_cons.mpr ⟨kz_N95_22, List.forall_mem_cons.mpr ⟨kz_N95_23, List.forall_mem_cons.mpr ⟨kz_N95_24, List.forall_mem_cons.mpr ⟨kz_N95_25, List.forall_mem_cons.mpr ⟨kz_N95_26, List.forall_mem_cons.mpr ⟨kz_N95_27, List.forall_mem_cons.mpr ⟨kz_N95_28, List.forall_mem_cons.mpr ⟨kz_N95_29, List.forall_mem_cons.mpr ⟨kz_N95_30, List.forall_mem_cons.mpr ⟨kz_N95_0, (fun _ h => nomatch h)⟩⟩⟩⟩⟩⟩⟩⟩⟩⟩⟩⟩⟩⟩⟩⟩⟩⟩⟩⟩⟩⟩⟩⟩⟩⟩⟩⟩⟩⟩⟩
theorem kz_h95 : ak_holds lch kz_M kz_CF kz_K (116, kz_e95) := by
  refine ak_one_ok kz_W95 kz_E95.1 kz_E95.2 kz_l95_ok ?_
  unfold kz_t95
  exact List.forall_mem_cons.mpr ⟨⟨by rw [kz_g11, kz_g95]; decide, kz_h11⟩, List.forall_mem_cons.mpr ⟨⟨by rw [kz_g58, kz_g95]; decide, kz_h58⟩, List.forall_mem_cons.mpr ⟨⟨by rw [kz_g62, kz_g95]; decide, kz_h62⟩, (fun _ h => nomatch h)⟩⟩⟩
theorem kz_l96_ok : ∀ nd ∈ kz_l96, ak_chN kz_M kz_CF kz_K kz_t96 90 kz_e96 kz_l96 3000 nd = true := by
  unfold kz_l96
  exact List.forall_mem_cons.mpr ⟨kz_N96_0, List.forall_mem_cons.mpr ⟨kz_N96_1, List.forall_mem_cons.mpr ⟨kz_N96_2, List.forall_mem_cons.mpr ⟨kz_N96_3, List.forall_mem_cons.mpr ⟨kz_N96_4, List.forall_mem_cons.mpr ⟨kz_N96_5, (fun _ h => nomatch h)⟩⟩⟩⟩⟩⟩
theorem kz_h96 : ak_holds lch kz_M kz_CF kz_K (90, kz_e96) := by
  refine ak_one_ok kz_W96 kz_E96.1 kz_E96.2 kz_l96_ok ?_
  unfold kz_t96
  exact List.forall_mem_cons.mpr ⟨⟨by rw [kz_g60, kz_g96]; decide, kz_h60⟩, List.forall_mem_cons.mpr ⟨⟨by rw [kz_g93, kz_g96]; decide, kz_h93⟩, (fun _ h => nomatch h)⟩⟩
theorem kz_l97_ok : ∀ nd ∈ kz_l97, ak_chN kz_M kz_CF kz_K kz_t97 163 kz_e97 kz_l97 3000 nd = true := by
  unfold kz_l97
  exact List.forall_mem_cons.mpr ⟨kz_N97_0, List.forall_mem_cons.mpr ⟨kz_N97_1, List.forall_mem_cons.mpr ⟨kz_N97_2, List.forall_mem_cons.mpr ⟨kz_N97_3, List.forall_mem_cons.mpr ⟨kz_N97_4, List.forall_mem_cons.mpr ⟨kz_N97_5, (fun _ h => nomatch h)⟩⟩⟩⟩⟩⟩
theorem kz_h97 : ak_holds lch kz_M kz_CF kz_K (163, kz_e97) := by
  refine ak_one_ok kz_W97 kz_E97.1 kz_E97.2 kz_l97_ok ?_
  unfold kz_t97
  exact List.forall_mem_cons.mpr ⟨⟨by rw [kz_g58, kz_g97]; decide, kz_h58⟩, List.forall_mem_cons.mpr ⟨⟨by rw [kz_g62, kz_g97]; decide, kz_h62⟩, (fun _ h => nomatch h)⟩⟩
theorem kz_l98_ok : ∀ nd ∈ kz_l98, ak_chN kz_M kz_CF kz_K kz_t98 86 kz_e98 kz_l98 3000 nd = true := by
  unfold kz_l98
  exact List.forall_mem_cons.mpr ⟨kz_N98_0, (fun _ h => nomatch h)⟩
theorem kz_h98 : ak_holds lch kz_M kz_CF kz_K (86, kz_e98) := by
  refine ak_one_ok kz_W98 kz_E98.1 kz_E98.2 kz_l98_ok ?_
  unfold kz_t98
  exact List.forall_mem_cons.mpr ⟨⟨by rw [kz_g55, kz_g98]; decide, kz_h55⟩, List.forall_mem_cons.mpr ⟨⟨by rw [kz_g60, kz_g98]; decide, kz_h60⟩, (fun _ h => nomatch h)⟩⟩
theorem kz_l99_ok : ∀ nd ∈ kz_l99, ak_chN kz_M kz_CF kz_K kz_t99 150 kz_e99 kz_l99 3000 nd = true := by
  unfold kz_l99
  exact List.forall_mem_cons.mpr ⟨kz_N99_0, (fun _ h => nomatch h)⟩
theorem kz_h99 : ak_holds lch kz_M kz_CF kz_K (150, kz_e99) := by
  refine ak_one_ok kz_W99 kz_E99.1 kz_E99.2 kz_l99_ok ?_
  unfold kz_t99
  exact List.forall_mem_cons.mpr ⟨⟨by rw [kz_g57, kz_g99]; decide, kz_h57⟩, List.forall_mem_cons.mpr ⟨⟨by rw [kz_g58, kz_g99]; decide, kz_h58⟩, List.forall_mem_cons.mpr ⟨⟨by rw [kz_g62, kz_g99]; decide, kz_h62⟩, (fun _ h => nomatch h)⟩⟩⟩
theorem kz_l100_ok : ∀ nd ∈ kz_l100, ak_chN kz_M kz_CF kz_K kz_t100 74 kz_e100 kz_l100 3000 nd = true := by
  unfold kz_l100
  exact List.forall_mem_cons.mpr ⟨kz_N100_0, (fun _ h => nomatch h)⟩
theorem kz_h100 : ak_holds lch kz_M kz_CF kz_K (74, kz_e100) := by
  refine ak_one_ok kz_W100 kz_E100.1 kz_E100.2 kz_l100_ok ?_
  unfold kz_t100
  exact List.forall_mem_cons.mpr ⟨⟨by rw [kz_g69, kz_g100]; decide, kz_h69⟩, (fun _ h => nomatch h)⟩
theorem kz_l101_ok : ∀ nd ∈ kz_l101, ak_chN kz_M kz_CF kz_K kz_t101 91 kz_e101 kz_l101 3000 nd = true := by
  unfold kz_l101
  exact List.forall_mem_cons.mpr ⟨kz_N101_0, List.forall_mem_cons.mpr ⟨kz_N101_1, List.forall_mem_cons.mpr ⟨kz_N101_2, List.forall_mem_cons.mpr ⟨kz_N101_3, List.forall_mem_cons.mpr ⟨kz_N101_4, List.forall_mem_cons.mpr ⟨kz_N101_5, (fun _ h => nomatch h)⟩⟩⟩⟩⟩⟩
theorem kz_h101 : ak_holds lch kz_M kz_CF kz_K (91, kz_e101) := by
  refine ak_one_ok kz_W101 kz_E101.1 kz_E101.2 kz_l101_ok ?_
  unfold kz_t101
  exact List.forall_mem_cons.mpr ⟨⟨by rw [kz_g100, kz_g101]; decide, kz_h100⟩, (fun _ h => nomatch h)⟩
theorem kz_l102_ok : ∀ nd ∈ kz_l102, ak_chN kz_M kz_CF kz_K kz_t102 92 kz_e102 kz_l102 3000 nd = true := fun _ h => nomatch h
theorem kz_h102 : ak_holds lch kz_M kz_CF kz_K (92, kz_e102) := by
  refine ak_one_ok kz_W102 kz_E102.1 kz_E102.2 kz_l102_ok ?_
  unfold kz_t102
  exact List.forall_mem_cons.mpr ⟨⟨by rw [kz_g100, kz_g102]; decide, kz_h100⟩, List.forall_mem_cons.mpr ⟨⟨by rw [kz_g101, kz_g102]; decide, kz_h101⟩, (fun _ h => nomatch h)⟩⟩
theorem kz_l103_ok : ∀ nd ∈ kz_l103, ak_chN kz_M kz_CF kz_K kz_t103 128 kz_e103 kz_l103 3000 nd = true := by
  unfold kz_l103
  exact List.forall_mem_cons.mpr ⟨kz_N103_0, (fun _ h => nomatch h)⟩
theorem kz_h103 : ak_holds lch kz_M kz_CF kz_K (128, kz_e103) := by
  refine ak_one_ok kz_W103 kz_E103.1 kz_E103.2 kz_l103_ok ?_
  unfold kz_t103
  exact List.forall_mem_cons.mpr ⟨⟨by rw [kz_g39, kz_g103]; decide, kz_h39⟩, (fun _ h => nomatch h)⟩
theorem kz_l104_ok : ∀ nd ∈ kz_l104, ak_chN kz_M kz_CF kz_K kz_t104 165 kz_e104 kz_l104 3000 nd = true := by
  unfold kz_l104
  exact List.forall_mem_cons.mpr ⟨kz_N104_0, List.forall_mem_cons.mpr ⟨kz_N104_1, List.forall_mem_cons.mpr ⟨kz_N104_2, List.forall_mem_cons.mpr ⟨kz_N104_3, List.forall_mem_cons.mpr ⟨kz_N104_4, List.forall_mem_cons.mpr ⟨kz_N104_5, List.forall_mem_cons.mpr ⟨kz_N104_6, List.forall_mem_cons.mpr ⟨kz_N104_7, List.forall_mem_cons.mpr ⟨kz_N104_8, List.forall_mem_cons.mpr ⟨kz_N104_9, List.forall_mem_cons.mpr ⟨kz_N104_10, List.forall_mem_cons.mpr ⟨kz_N104_11, List.forall_mem_cons.mpr ⟨kz_N104_12, List.forall_mem_cons.mpr ⟨kz_N104_13, List.forall_mem_cons.mpr ⟨kz_N104_14, List.forall_mem_cons.mpr ⟨kz_N104_15, List.forall_mem_cons.mpr ⟨kz_N104_16, List.forall_mem_cons.mpr ⟨kz_N104_17, List.forall_mem_cons.mpr ⟨kz_N104_18, List.forall_mem_cons.mpr ⟨kz_N104_19, List.forall_mem_cons.mpr ⟨kz_N104_20, List.forall_mem_cons.mpr ⟨kz_N104_21, List.forall_mem_cons.mpr ⟨kz_N104_22, List.forall_mem_cons.mpr ⟨kz_N104_23, List.forall_mem_cons.mpr ⟨kz_N104_24, List.forall_mem_cons.mpr ⟨kz_N104_25, List.forall_mem_cons.mpr ⟨kz_N104_26, List.forall_mem_cons.mpr ⟨kz_N104_27, List.forall_mem_cons.mpr ⟨kz_N104_28, List.forall_mem_cons.mpr ⟨kz_N104_29, List.forall_mem_cons.mpr ⟨kz_N104_30, List.forall_mem_cons.mpr ⟨kz_N104_31, List.forall_mem_cons.mpr ⟨kz_N104_32, List.forall_mem_cons.mpr ⟨kz_N104_33, List.forall_mem_cons.mpr ⟨kz_N104_34, List.forall_mem_cons.mpr ⟨kz_N104_35, List.forall_mem_cons.mpr ⟨kz_N104_36, List.forall_mem_cons.mpr ⟨kz_N104_37, List.forall_mem_cons.mpr ⟨kz_N104_38, List.forall_mem_cons.mpr ⟨kz_N104_39, List.forall_mem_cons.mpr ⟨kz_N104_40, List.forall_mem_cons.mpr ⟨kz_N104_41, List.forall_mem_cons.mpr ⟨kz_N104_42, List.forall_mem_cons.mpr ⟨kz_N104_43, List.forall_mem_cons.mpr ⟨kz_N104_44, List.forall_mem_cons.mpr ⟨kz_N104_45, List.forall_mem_cons.mpr ⟨kz_N104_46, List.forall_mem_cons.mpr ⟨kz_N104_47, List.forall_mem_cons.mpr ⟨kz_N104_48, List.forall_mem_cons.mpr ⟨kz_N104_49, List.forall_mem_cons.mpr ⟨kz_N104_50, List.forall_mem_cons.mpr ⟨kz_N104_51, List.forall_mem_cons.mpr ⟨kz_N104_52, List.forall_mem_cons.mpr ⟨kz_N104_53, List.forall_mem_cons.mpr ⟨kz_N104_54, List.forall_mem_cons.mpr ⟨kz_N104_55, List.forall_mem_cons.mpr ⟨kz_N104_56, (fun _ h => nomatch h)⟩⟩⟩⟩⟩⟩⟩⟩⟩⟩⟩⟩⟩⟩⟩⟩⟩⟩⟩⟩⟩⟩⟩⟩⟩⟩⟩⟩⟩⟩⟩⟩⟩⟩⟩⟩⟩⟩⟩⟩⟩⟩⟩⟩⟩⟩⟩⟩⟩⟩⟩⟩⟩⟩⟩⟩⟩
theorem kz_h104 : ak_holds lch kz_M kz_CF kz_K (165, kz_e104) := by
  refine ak_one_ok kz_W104 kz_E104.1 kz_E104.2 kz_l104_ok ?_
  unfold kz_t104
  exact List.forall_mem_cons.mpr ⟨⟨by rw [kz_g2, kz_g104]; decide, kz_h2⟩, List.forall_mem_cons.mpr ⟨⟨by rw [kz_g103, kz_g104]; decide, kz_h103⟩, (fun _ h => nomatch h)⟩⟩
theorem kz_l105_ok : ∀ nd ∈ kz_l105, ak_chN kz_M kz_CF kz_K kz_t105 44 kz_e105 kz_l105 3000 nd = true := by
  unfold kz_l105
  exact List.forall_mem_cons.mpr ⟨kz_N105_0, (fun _ h => nomatch h)⟩
theorem kz_h105 : ak_holds lch kz_M kz_CF kz_K (44, kz_e105) := by
  refine ak_one_ok kz_W105 kz_E105.1 kz_E105.2 kz_l105_ok ?_
  unfold kz_t105
  exact (fun _ h => nomatch h)
theorem kz_l106_ok : ∀ nd ∈ kz_l106, ak_chN kz_M kz_CF kz_K kz_t106 73 kz_e106 kz_l106 3000 nd = true := by
  unfold kz_l106
  exact List.forall_mem_cons.mpr ⟨kz_N106_0, List.forall_mem_cons.mpr ⟨kz_N106_1, List.forall_mem_cons.mpr ⟨kz_N106_2, List.forall_mem_cons.mpr ⟨kz_N106_3, List.forall_mem_cons.mpr ⟨kz_N106_4, List.forall_mem_cons.mpr ⟨kz_N106_5, List.forall_mem_cons.mpr ⟨kz_N106_6, List.forall_mem_cons.mpr ⟨kz_N106_7, List.forall_mem_cons.mpr ⟨kz_N106_8, (fun _ h => nomatch h)⟩⟩⟩⟩⟩⟩⟩⟩⟩
theorem kz_h106 : ak_holds lch kz_M kz_CF kz_K (73, kz_e106) := by
  refine ak_one_ok kz_W106 kz_E106.1 kz_E106.2 kz_l106_ok ?_
  unfold kz_t106
  exact List.forall_mem_cons.mpr ⟨⟨by rw [kz_g15, kz_g106]; decide, kz_h15⟩, List.forall_mem_cons.mpr ⟨⟨by rw [kz_g105, kz_g106]; decide, kz_h105⟩, (fun _ h => nomatch h)⟩⟩
theorem kz_l107_ok : ∀ nd ∈ kz_l107, ak_chN kz_M kz_CF kz_K kz_t107 169 kz_e107 kz_l107 3000 nd = true := by
  unfold kz_l107
  exact List.forall_mem_cons.mpr ⟨kz_N107_0, List.forall_mem_cons.mpr ⟨kz_N107_1, List.forall_mem_cons.mpr ⟨kz_N107_2, (fun _ h => nomatch h)⟩⟩⟩
theorem kz_h107 : ak_holds lch kz_M kz_CF kz_K (169, kz_e107) := by
  refine ak_one_ok kz_W107 kz_E107.1 kz_E107.2 kz_l107_ok ?_
  unfold kz_t107
  exact (fun _ h => nomatch h)
theorem kz_l108_ok : ∀ nd ∈ kz_l108, ak_chN kz_M kz_CF kz_K kz_t108 127 kz_e108 kz_l108 3000 nd = true := by
  unfold kz_l108
  exact List.forall_mem_cons.mpr ⟨kz_N108_0, List.forall_mem_cons.mpr ⟨kz_N108_1, List.forall_mem_cons.mpr ⟨kz_N108_2, List.forall_mem_cons.mpr ⟨kz_N108_3, List.forall_mem_cons.mpr ⟨kz_N108_4, List.forall_mem_cons.mpr ⟨kz_N108_5, List.forall_mem_cons.mpr ⟨kz_N108_6, List.forall_mem_cons.mpr ⟨kz_N108_7, List.forall_mem_cons.mpr ⟨kz_N108_8, (fun _ h => nomatch h)⟩⟩⟩⟩⟩⟩⟩⟩⟩
theorem kz_h108 : ak_holds lch kz_M kz_CF kz_K (127, kz_e108) := by
  refine ak_one_ok kz_W108 kz_E108.1 kz_E108.2 kz_l108_ok ?_
  unfold kz_t108
  exact List.forall_mem_cons.mpr ⟨⟨by rw [kz_g39, kz_g108]; decide, kz_h39⟩, List.forall_mem_cons.mpr ⟨⟨by rw [kz_g107, kz_g108]; decide, kz_h107⟩, (fun _ h => nomatch h)⟩⟩
theorem kz_l109_ok : ∀ nd ∈ kz_l109, ak_chN kz_M kz_CF kz_K kz_t109 94 kz_e109 kz_l109 3000 nd = true := by
  unfold kz_l109
  exact List.forall_mem_cons.mpr ⟨kz_N109_2, List.forall_mem_cons.mpr ⟨kz_N109_0, List.forall_mem_cons.mpr ⟨kz_N109_1, List.forall_mem_cons.mpr ⟨kz_N109_3, List.forall_mem_cons.mpr ⟨kz_N109_4, List.forall_mem_cons.mpr ⟨kz_N109_5, List.forall_mem_cons.mpr ⟨kz_N109_6, List.forall_mem_cons.mpr ⟨kz_N109_7, List.forall_mem_cons.mpr ⟨kz_N109_8, List.forall_mem_cons.mpr ⟨kz_N109_9, List.forall_mem_cons.mpr ⟨kz_N109_10, List.forall_mem_cons.mpr ⟨kz_N109_11, List.forall_mem_cons.mpr ⟨kz_N109_12, List.forall_mem_cons.mpr ⟨kz_N109_13, List.forall_mem_cons.mpr ⟨kz_N109_14, List.forall_mem_cons.mpr ⟨kz_N109_15, List.forall_mem_cons.mpr ⟨kz_N109_16, List.forall_mem_cons.mpr ⟨kz_N109_17, List.forall_mem_cons.mpr ⟨kz_N109_18, List.forall_mem_cons.mpr ⟨kz_N109_19, List.forall_mem_cons.mpr ⟨kz_N109_20, List.forall_mem_cons.mpr ⟨kz_N109_21, List.forall_mem_cons.mpr ⟨kz_N109_22, List.forall_mem_cons.mpr ⟨kz_N109_23, List.forall_mem_cons.mpr ⟨kz_N109_24, List.forall_mem_cons.mpr ⟨kz_N109_25, List.forall_mem_cons.mpr ⟨kz_N109_26, (fun _ h => nomatch h)⟩⟩⟩⟩⟩⟩⟩⟩⟩⟩⟩⟩⟩⟩⟩⟩⟩⟩⟩⟩⟩⟩⟩⟩⟩⟩⟩
theorem kz_h109 : ak_holds lch kz_M kz_CF kz_K (94, kz_e109) := by
  refine ak_one_ok kz_W109 kz_E109.1 kz_E109.2 kz_l109_ok ?_
  unfold kz_t109
  exact List.forall_mem_cons.mpr ⟨⟨by rw [kz_g70, kz_g109]; decide, kz_h70⟩, (fun _ h => nomatch h)⟩
theorem kz_l110_ok : ∀ nd ∈ kz_l110, ak_chN kz_M kz_CF kz_K kz_t110 69 kz_e110 kz_l110 3000 nd = true := fun _ h => nomatch h
theorem kz_h110 : ak_holds lch kz_M kz_CF kz_K (69, kz_e110) := by
  refine ak_one_ok kz_W110 kz_E110.1 kz_E110.2 kz_l110_ok ?_
  unfold kz_t110
  exact List.forall_mem_cons.mpr ⟨⟨by rw [kz_g109, kz_g110]; decide, kz_h109⟩, (fun _ h => nomatch h)⟩
theorem kz_l111_ok : ∀ nd ∈ kz_l111, ak_chN kz_M kz_CF kz_K kz_t111 120 kz_e111 kz_l111 3000 nd = true := by
  unfold kz_l111
  exact List.forall_mem_cons.mpr ⟨kz_N111_0, List.forall_mem_cons.mpr ⟨kz_N111_1, List.forall_mem_cons.mpr ⟨kz_N111_2, List.forall_mem_cons.mpr ⟨kz_N111_3, List.forall_mem_cons.mpr ⟨kz_N111_4, List.forall_mem_cons.mpr ⟨kz_N111_5, List.forall_mem_cons.mpr ⟨kz_N111_6, List.forall_mem_cons.mpr ⟨kz_N111_7, List.forall_mem_cons.mpr ⟨kz_N111_8, List.forall_mem_cons.mpr ⟨kz_N111_9, List.forall_mem_cons.mpr ⟨kz_N111_10, List.forall_mem_cons.mpr ⟨kz_N111_11, List.forall_mem_cons.mpr ⟨kz_N111_12, List.forall_mem_cons.mpr ⟨kz_N111_13, List.forall_mem_cons.mpr ⟨kz_N111_14, List.forall_mem_cons.mpr ⟨kz_N111_15, List.forall_mem_cons.mpr ⟨kz_N111_16, List.forall_mem_cons.mpr ⟨kz_N111_17, List.forall_mem_cons.mpr ⟨kz_N111_18, List.forall_mem_cons.mpr ⟨kz_N111_19, List.forall_mem_cons.mpr ⟨kz_N111_20, List.forall_mem_cons.mpr ⟨kz_N111_21, List.forall_mem_cons.mpr ⟨kz_N111_22, List.forall_mem_cons.mpr ⟨kz_N111_23, List.forall_mem_cons.mpr ⟨kz_N111_24, List.forall_mem_cons.mpr ⟨kz_N111_25, List.forall_mem_cons.mpr ⟨kz_N111_26, (fun _ h => nomatch h)⟩⟩⟩⟩⟩⟩⟩⟩⟩⟩⟩⟩⟩⟩⟩⟩⟩⟩⟩⟩⟩⟩⟩⟩⟩⟩⟩
theorem kz_h111 : ak_holds lch kz_M kz_CF kz_K (120, kz_e111) := by
  refine ak_one_ok kz_W111 kz_E111.1 kz_E111.2 kz_l111_ok ?_
  unfold kz_t111
  exact List.forall_mem_cons.mpr ⟨⟨by rw [kz_g66, kz_g111]; decide, kz_h66⟩, List.forall_mem_cons.mpr ⟨⟨by rw [kz_g74, kz_g111]; decide, kz_h74⟩, List.forall_mem_cons.mpr ⟨⟨by rw [kz_g75, kz_g111]; decide, kz_h75⟩, (fun _ h => nomatch h)⟩⟩⟩
theorem kz_l112_ok : ∀ nd ∈ kz_l112, ak_chN kz_M kz_CF kz_K kz_t112 119 kz_e112 kz_l112 3000 nd = true := fun _ h => nomatch h
theorem kz_h112 : ak_holds lch kz_M kz_CF kz_K (119, kz_e112) := by
  refine ak_one_ok kz_W112 kz_E112.1 kz_E112.2 kz_l112_ok ?_
  unfold kz_t112
  exact List.forall_mem_cons.mpr ⟨⟨by rw [kz_g111, kz_g112]; decide, kz_h111⟩, (fun _ h => nomatch h)⟩
theorem kz_l113_ok : ∀ nd ∈ kz_l113, ak_chN kz_M kz_CF kz_K kz_t113 77 kz_e113 kz_l113 3000 nd = true := by
  unfold kz_l113
  exact List.forall_mem_cons.mpr ⟨kz_N113_0, (fun _ h => nomatch h)⟩
theorem kz_h113 : ak_holds lch kz_M kz_CF kz_K (77, kz_e113) := by
  refine ak_one_ok kz_W113 kz_E113.1 kz_E113.2 kz_l113_ok ?_
  unfold kz_t113
  exact (fun _ h => nomatch h)
theorem kz_l114_ok : ∀ nd ∈ kz_l114, ak_chN kz_M kz_CF kz_K kz_t114 65 kz_e114 kz_l114 3000 nd = true := by
  unfold kz_l114
  exact List.forall_mem_cons.mpr ⟨kz_N114_0, (fun _ h => nomatch h)⟩
theorem kz_h114 : ak_holds lch kz_M kz_CF kz_K (65, kz_e114) := by
  refine ak_one_ok kz_W114 kz_E114.1 kz_E114.2 kz_l114_ok ?_
  unfold kz_t114
  exact List.forall_mem_cons.mpr ⟨⟨by rw [kz_g109, kz_g114]; decide, kz_h109⟩, List.forall_mem_cons.mpr ⟨⟨by rw [kz_g113, kz_g114]; decide, kz_h113⟩, (fun _ h => nomatch h)⟩⟩
theorem kz_l115_ok : ∀ nd ∈ kz_l115, ak_chN kz_M kz_CF kz_K kz_t115 115 kz_e115 kz_l115 3000 nd = true := by
  unfold kz_l115
  exact List.forall_mem_cons.mpr ⟨kz_N115_0, List.forall_mem_cons.mpr ⟨kz_N115_1, List.forall_mem_cons.mpr ⟨kz_N115_2, List.forall_mem_cons.mpr ⟨kz_N115_5, List.forall_mem_cons.mpr ⟨kz_N115_8, List.forall_mem_cons.mpr ⟨kz_N115_11, List.forall_mem_cons.mpr ⟨kz_N115_14, List.forall_mem_cons.mpr ⟨kz_N115_17, List.forall_mem_cons.mpr ⟨kz_N115_20, List.forall_mem_cons.mpr ⟨kz_N115_23, List.forall_mem_cons.mpr ⟨kz_N115_26, List.forall_mem_cons.mpr ⟨kz_N115_29, List.forall_mem_cons.mpr ⟨kz_N115_32, List.forall_mem_cons.mpr ⟨kz_N115_35, List.forall_mem_cons.mpr ⟨kz_N115_38, List.forall_mem_cons.mpr ⟨kz_N115_41, List.forall_mem_cons.mpr ⟨kz_N115_44, List.forall_mem_cons.mpr ⟨kz_N115_47, List.forall_mem_cons.mpr ⟨kz_N115_50, List.forall_mem_cons.mpr ⟨kz_N115_53, List.forall_mem_cons.mpr ⟨kz_N115_56, List.forall_mem_cons.mpr ⟨kz_N115_3, List.forall_mem_cons.mpr ⟨kz_N115_4, List.forall_mem_cons.mpr ⟨kz_N115_6, List.forall_mem_cons.mpr ⟨kz_N115_7, List.forall_mem_cons.mpr ⟨kz_N115_9, List.forall_mem_cons.mpr ⟨kz_N115_10, List.forall_mem_cons.mpr ⟨kz_N115_12, List.forall_mem_cons.mpr ⟨kz_N115_13, List.forall_mem_cons.mpr ⟨kz_N115_15, List.forall_mem_cons.mpr ⟨kz_N115_16, List.forall_mem_cons.mpr ⟨kz_N115_18, List.forall_mem_cons.mpr ⟨kz_N115_19, List.forall_mem_cons.mpr ⟨kz_N115_21, List.forall_mem_cons.mpr ⟨kz_N115_22, List.forall_mem_cons.mpr ⟨kz_N115_24, List.forall_mem_cons.mpr ⟨kz_N115_25, List.forall_mem_cons.mpr ⟨kz_N115_27, List.forall_mem_cons.mpr ⟨kz_N115_28, List.forall_mem_cons.mpr ⟨kz_N115_30, List.forall_mem_cons.mpr ⟨kz_N115_31, List.forall_mem_cons.mpr ⟨kz_N115_33, List.forall_mem_cons.mpr ⟨kz_N115_34, List.forall_mem_cons.mpr ⟨kz_N115_36, List.forall_mem_cons.mpr ⟨kz_N115_37, List.forall_mem_cons.mpr ⟨kz_N115_39, List.forall_mem_cons.mpr ⟨kz_N115_40, List.forall_mem_cons.mpr ⟨kz_N115_42, List.forall_mem_cons.mpr ⟨kz_N115_43, List.forall_mem_cons.mpr ⟨kz_N115_45, List.forall_mem_cons.mpr ⟨kz_N115_46, List.forall_mem_cons.mpr ⟨kz_N115_48, List.forall_mem_cons.mpr ⟨kz_N115_49, List.forall_mem_cons.mpr ⟨kz_N115_51, List.forall_mem_cons.mpr ⟨kz_N115_52, List.forall_mem_cons.mpr ⟨kz_N115_54, List.forall_mem_cons.mpr ⟨kz_N115_55, List.forall_mem_cons.mpr ⟨kz_N115_57, List.forall_mem_cons.mpr ⟨kz_N115_58, List.forall_mem_cons.mpr ⟨kz_N115_59, List.forall_mem_cons.mpr ⟨kz_N115_60, (fun _ h => nomatch h)⟩⟩⟩⟩⟩⟩⟩⟩⟩⟩⟩⟩⟩⟩⟩⟩⟩⟩⟩⟩⟩⟩⟩⟩⟩⟩⟩⟩⟩⟩⟩⟩⟩⟩⟩⟩⟩⟩⟩⟩⟩⟩⟩⟩⟩⟩⟩⟩⟩⟩⟩⟩⟩⟩⟩⟩⟩⟩⟩⟩⟩
theorem kz_h115 : ak_holds lch kz_M kz_CF kz_K (115, kz_e115) := by
  refine ak_one_ok kz_W115 kz_E115.1 kz_E115.2 kz_l115_ok ?_
  unfold kz_t115
  exact List.forall_mem_cons.mpr ⟨⟨by rw [kz_g111, kz_g115]; decide, kz_h111⟩, (fun _ h => nomatch h)⟩
theorem kz_l116_ok : ∀ nd ∈ kz_l116, ak_chN kz_M kz_CF kz_K kz_t116 76 kz_e116 kz_l116 3000 nd = true := fun _ h => nomatch h
theorem kz_h116 : ak_holds lch kz_M kz_CF kz_K (76, kz_e116) := by
  refine ak_one_ok kz_W116 kz_E116.1 kz_E116.2 kz_l116_ok ?_
  unfold kz_t116
  exact (fun _ h => nomatch h)
theorem kz_l117_ok : ∀ nd ∈ kz_l117, ak_chN kz_M kz_CF kz_K kz_t117 132 kz_e117 kz_l117 3000 nd = true := by
  unfold kz_l117
  exact List.forall_mem_cons.mpr ⟨kz_N117_0, List.forall_mem_cons.mpr ⟨kz_N117_1, List.forall_mem_cons.mpr ⟨kz_N117_2, (fun _ h => nomatch h)⟩⟩⟩
theorem kz_h117 : ak_holds lch kz_M kz_CF kz_K (132, kz_e117) := by
  refine ak_one_ok kz_W117 kz_E117.1 kz_E117.2 kz_l117_ok ?_
  unfold kz_t117
  exact (fun _ h => nomatch h)
theorem kz_l118_ok : ∀ nd ∈ kz_l118, ak_chN kz_M kz_CF kz_K kz_t118 61 kz_e118 kz_l118 3000 nd = true := fun _ h => nomatch h
theorem kz_h118 : ak_holds lch kz_M kz_CF kz_K (61, kz_e118) := by
  refine ak_one_ok kz_W118 kz_E118.1 kz_E118.2 kz_l118_ok ?_
  unfold kz_t118
  exact (fun _ h => nomatch h)
theorem kz_l119_ok : ∀ nd ∈ kz_l119, ak_chN kz_M kz_CF kz_K kz_t119 108 kz_e119 kz_l119 3000 nd = true := by
  unfold kz_l119
  exact List.forall_mem_cons.mpr ⟨kz_N119_0, List.forall_mem_cons.mpr ⟨kz_N119_1, List.forall_mem_cons.mpr ⟨kz_N119_2, (fun _ h => nomatch h)⟩⟩⟩
theorem kz_h119 : ak_holds lch kz_M kz_CF kz_K (108, kz_e119) := by
  refine ak_one_ok kz_W119 kz_E119.1 kz_E119.2 kz_l119_ok ?_
  unfold kz_t119
  exact (fun _ h => nomatch h)
theorem kz_l120_ok : ∀ nd ∈ kz_l120, ak_chN kz_M kz_CF kz_K kz_t120 11 kz_e120 kz_l120 3000 nd = true := by
  unfold kz_l120
  exact List.forall_mem_cons.mpr ⟨kz_N120_0, (fun _ h => nomatch h)⟩
theorem kz_h120 : ak_holds lch kz_M kz_CF kz_K (11, kz_e120) := by
  refine ak_one_ok kz_W120 kz_E120.1 kz_E120.2 kz_l120_ok ?_
  unfold kz_t120
  exact (fun _ h => nomatch h)
theorem kz_l121_ok : ∀ nd ∈ kz_l121, ak_chN kz_M kz_CF kz_K kz_t121 68 kz_e121 kz_l121 3000 nd = true := fun _ h => nomatch h
theorem kz_h121 : ak_holds lch kz_M kz_CF kz_K (68, kz_e121) := by
  refine ak_one_ok kz_W121 kz_E121.1 kz_E121.2 kz_l121_ok ?_
  unfold kz_t121
  exact List.forall_mem_cons.mpr ⟨⟨by rw [kz_g120, kz_g121]; decide, kz_h120⟩, (fun _ h => nomatch h)⟩
theorem kz_l122_ok : ∀ nd ∈ kz_l122, ak_chN kz_M kz_CF kz_K kz_t122 118 kz_e122 kz_l122 3000 nd = true := by
  unfold kz_l122
  exact List.forall_mem_cons.mpr ⟨kz_N122_0, (fun _ h => nomatch h)⟩
theorem kz_h122 : ak_holds lch kz_M kz_CF kz_K (118, kz_e122) := by
  refine ak_one_ok kz_W122 kz_E122.1 kz_E122.2 kz_l122_ok ?_
  unfold kz_t122
  exact (fun _ h => nomatch h)
theorem kz_l123_ok : ∀ nd ∈ kz_l123, ak_chN kz_M kz_CF kz_K kz_t123 96 kz_e123 kz_l123 3000 nd = true := fun _ h => nomatch h
theorem kz_h123 : ak_holds lch kz_M kz_CF kz_K (96, kz_e123) := by
  refine ak_one_ok kz_W123 kz_E123.1 kz_E123.2 kz_l123_ok ?_
  unfold kz_t123
  exact List.forall_mem_cons.mpr ⟨⟨by rw [kz_g105, kz_g123]; decide, kz_h105⟩, (fun _ h => nomatch h)⟩
theorem kz_l124_ok : ∀ nd ∈ kz_l124, ak_chN kz_M kz_CF kz_K kz_t124 64 kz_e124 kz_l124 3000 nd = true := fun _ h => nomatch h
theorem kz_h124 : ak_holds lch kz_M kz_CF kz_K (64, kz_e124) := by
  refine ak_one_ok kz_W124 kz_E124.1 kz_E124.2 kz_l124_ok ?_
  unfold kz_t124
  exact (fun _ h => nomatch h)
theorem kz_l125_ok : ∀ nd ∈ kz_l125, ak_chN kz_M kz_CF kz_K kz_t125 114 kz_e125 kz_l125 3000 nd = true := fun _ h => nomatch h
theorem kz_h125 : ak_holds lch kz_M kz_CF kz_K (114, kz_e125) := by
  refine ak_one_ok kz_W125 kz_E125.1 kz_E125.2 kz_l125_ok ?_
  unfold kz_t125
  exact (fun _ h => nomatch h)
theorem kz_l126_ok : ∀ nd ∈ kz_l126, ak_chN kz_M kz_CF kz_K kz_t126 67 kz_e126 kz_l126 3000 nd = true := fun _ h => nomatch h
theorem kz_h126 : ak_holds lch kz_M kz_CF kz_K (67, kz_e126) := by
  refine ak_one_ok kz_W126 kz_E126.1 kz_E126.2 kz_l126_ok ?_
  unfold kz_t126
  exact (fun _ h => nomatch h)
theorem kz_l127_ok : ∀ nd ∈ kz_l127, ak_chN kz_M kz_CF kz_K kz_t127 117 kz_e127 kz_l127 3000 nd = true := by
  unfold kz_l127
  exact List.forall_mem_cons.mpr ⟨kz_N127_0, List.forall_mem_cons.mpr ⟨kz_N127_1, List.forall_mem_cons.mpr ⟨kz_N127_2, List.forall_mem_cons.mpr ⟨kz_N127_3, List.forall_mem_cons.mpr ⟨kz_N127_4, List.forall_mem_cons.mpr ⟨kz_N127_5, List.forall_mem_cons.mpr ⟨kz_N127_6, List.forall_mem_cons.mpr ⟨kz_N127_7, List.forall_mem_cons.mpr ⟨kz_N127_8, List.forall_mem_cons.mpr ⟨kz_N127_9, List.forall_mem_cons.mpr ⟨kz_N127_10, List.forall_mem_cons.mpr ⟨kz_N127_11, List.forall_mem_cons.mpr ⟨kz_N127_12, List.forall_mem_cons.mpr ⟨kz_N127_13, List.forall_mem_cons.mpr ⟨kz_N127_14, List.forall_mem_cons.mpr ⟨kz_N127_15, (fun _ h => nomatch h)⟩⟩⟩⟩⟩⟩⟩⟩⟩⟩⟩⟩⟩⟩⟩⟩
theorem kz_h127 : ak_holds lch kz_M kz_CF kz_K (117, kz_e127) := by
  refine ak_one_ok kz_W127 kz_E127.1 kz_E127.2 kz_l127_ok ?_
  unfold kz_t127
  exact (fun _ h => nomatch h)
theorem kz_l128_ok : ∀ nd ∈ kz_l128, ak_chN kz_M kz_CF kz_K kz_t128 71 kz_e128 kz_l128 3000 nd = true := by
  unfold kz_l128
  exact List.forall_mem_cons.mpr ⟨kz_N128_1, List.forall_mem_cons.mpr ⟨kz_N128_2, List.forall_mem_cons.mpr ⟨kz_N128_3, List.forall_mem_cons.mpr ⟨kz_N128_4, List.forall_mem_cons.mpr ⟨kz_N128_5, List.forall_mem_cons.mpr ⟨kz_N128_6, List.forall_mem_cons.mpr ⟨kz_N128_7, List.forall_mem_cons.mpr ⟨kz_N128_8, List.forall_mem_cons.mpr ⟨kz_N128_9, List.forall_mem_cons.mpr ⟨kz_N128_10, List.forall_mem_cons.mpr ⟨kz_N128_11, List.forall_mem_cons.mpr ⟨kz_N128_12, List.forall_mem_cons.mpr ⟨kz_N128_13, List.forall_mem_cons.mpr ⟨kz_N128_14, List.forall_mem_cons.mpr ⟨kz_N128_15, List.forall_mem_cons.mpr ⟨kz_N128_16, List.forall_mem_cons.mpr ⟨kz_N128_17, List.forall_mem_cons.mpr ⟨kz_N128_18, List.forall_mem_cons.mpr ⟨kz_N128_19, List.forall_mem_cons.mpr ⟨kz_N128_20, List.forall_mem_cons.mpr ⟨kz_N128_21, List.forall_mem_cons.mpr ⟨kz_N128_22, List.forall_mem_cons.mpr ⟨kz_N128_23, List.forall_mem_cons.mpr ⟨kz_N128_24, List.forall_mem_cons.mpr ⟨kz_N128_25, List.forall_mem_cons.mpr ⟨kz_N128_26, List.forall_mem_cons.mpr ⟨kz_N128_27, List.forall_mem_cons.mpr ⟨kz_N128_28, List.forall_mem_cons.mpr ⟨kz_N128_29, List.forall_mem_cons.mpr ⟨kz_N128_30, List.forall_mem_cons.mpr ⟨kz_N128_31, List.forall_mem_cons.mpr ⟨kz_N128_32, List.forall_mem_cons.mpr ⟨kz_N128_33, List.forall_mem_cons.mpr ⟨kz_N128_34, List.forall_mem_cons.mpr ⟨kz_N128_35, List.forall_mem_cons.mpr ⟨kz_N128_36, List.forall_mem_cons.mpr ⟨kz_N128_37, List.forall_mem_cons.mpr ⟨kz_N128_38, List.forall_mem_cons.mpr ⟨kz_N128_39, List.forall_mem_cons.mpr ⟨kz_N128_40, List.forall_mem_cons.mpr ⟨kz_N128_41, List.forall_mem_cons.mpr ⟨kz_N128_0, (fun _ h => nomatch h)⟩⟩⟩⟩⟩⟩⟩⟩⟩⟩⟩⟩⟩⟩⟩⟩⟩⟩⟩⟩⟩⟩⟩⟩⟩⟩⟩⟩⟩⟩⟩⟩⟩⟩⟩⟩⟩⟩⟩⟩⟩⟩
theorem kz_h128 : ak_holds lch kz_M kz_CF kz_K (71, kz_e128) := by
  refine ak_one_ok kz_W128 kz_E128.1 kz_E128.2 kz_l128_ok ?_
  unfold kz_t128
  exact List.forall_mem_cons.mpr ⟨⟨by rw [kz_g4, kz_g128]; decide, kz_h4⟩, (fun _ h => nomatch h)⟩
theorem kz_l129_ok : ∀ nd ∈ kz_l129, ak_chN kz_M kz_CF kz_K kz_t129 122 kz_e129 kz_l129 3000 nd = true := by
  unfold kz_l129
  exact List.forall_mem_cons.mpr ⟨kz_N129_0, List.forall_mem_cons.mpr ⟨kz_N129_1, List.forall_mem_cons.mpr ⟨kz_N129_2, List.forall_mem_cons.mpr ⟨kz_N129_3, List.forall_mem_cons.mpr ⟨kz_N129_4, List.forall_mem_cons.mpr ⟨kz_N129_5, List.forall_mem_cons.mpr ⟨kz_N129_6, List.forall_mem_cons.mpr ⟨kz_N129_7, List.forall_mem_cons.mpr ⟨kz_N129_8, List.forall_mem_cons.mpr ⟨kz_N129_9, List.forall_mem_cons.mpr ⟨kz_N129_10, List.forall_mem_cons.mpr ⟨kz_N129_11, List.forall_mem_cons.mpr ⟨kz_N129_12, List.forall_mem_cons.mpr ⟨kz_N129_13, List.forall_mem_cons.mpr ⟨kz_N129_14, List.forall_mem_cons.mpr ⟨kz_N129_15, List.forall_mem_cons.mpr ⟨kz_N129_16, List.forall_mem_cons.mpr ⟨kz_N129_17, List.forall_mem_cons.mpr ⟨kz_N129_18, List.forall_mem_cons.mpr ⟨kz_N129_19, List.forall_mem_cons.mpr ⟨kz_N129_20, List.forall_mem_cons.mpr ⟨kz_N129_21, List.forall_mem_cons.mpr ⟨kz_N129_22, List.forall_mem_cons.mpr ⟨kz_N129_23, (fun _ h => nomatch h)⟩⟩⟩⟩⟩⟩⟩⟩⟩⟩⟩⟩⟩⟩⟩⟩⟩⟩⟩⟩⟩⟩⟩⟩
theorem kz_h129 : ak_holds lch kz_M kz_CF kz_K (122, kz_e129) := by
  refine ak_one_ok kz_W129 kz_E129.1 kz_E129.2 kz_l129_ok ?_
  unfold kz_t129
  exact List.forall_mem_cons.mpr ⟨⟨by rw [kz_g6, kz_g129]; decide, kz_h6⟩, (fun _ h => nomatch h)⟩
theorem kz_l130_ok : ∀ nd ∈ kz_l130, ak_chN kz_M kz_CF kz_K kz_t130 21 kz_e130 kz_l130 3000 nd = true := by
  unfold kz_l130
  exact List.forall_mem_cons.mpr ⟨kz_N130_0, (fun _ h => nomatch h)⟩
theorem kz_h130 : ak_holds lch kz_M kz_CF kz_K (21, kz_e130) := by
  refine ak_one_ok kz_W130 kz_E130.1 kz_E130.2 kz_l130_ok ?_
  unfold kz_t130
  exact (fun _ h => nomatch h)
theorem kz_l131_ok : ∀ nd ∈ kz_l131, ak_chN kz_M kz_CF kz_K kz_t131 99 kz_e131 kz_l131 3000 nd = true := fun _ h => nomatch h
theorem kz_h131 : ak_holds lch kz_M kz_CF kz_K (99, kz_e131) := by
  refine ak_one_ok kz_W131 kz_E131.1 kz_E131.2 kz_l131_ok ?_
  unfold kz_t131
  exact List.forall_mem_cons.mpr ⟨⟨by rw [kz_g130, kz_g131]; decide, kz_h130⟩, (fun _ h => nomatch h)⟩
theorem kz_l132_ok : ∀ nd ∈ kz_l132, ak_chN kz_M kz_CF kz_K kz_t132 171 kz_e132 kz_l132 3000 nd = true := by
  unfold kz_l132
  exact List.forall_mem_cons.mpr ⟨kz_N132_1, List.forall_mem_cons.mpr ⟨kz_N132_2, List.forall_mem_cons.mpr ⟨kz_N132_3, List.forall_mem_cons.mpr ⟨kz_N132_4, List.forall_mem_cons.mpr ⟨kz_N132_0, (fun _ h => nomatch h)⟩⟩⟩⟩⟩
theorem kz_h132 : ak_holds lch kz_M kz_CF kz_K (171, kz_e132) := by
  refine ak_one_ok kz_W132 kz_E132.1 kz_E132.2 kz_l132_ok ?_
  unfold kz_t132
  exact (fun _ h => nomatch h)
theorem kz_top_ok : ∀ q ∈ kz_top, ak_holds lch kz_M kz_CF kz_K q := by
  unfold kz_top
  exact List.forall_mem_cons.mpr ⟨kz_h1, List.forall_mem_cons.mpr ⟨kz_h3, List.forall_mem_cons.mpr ⟨kz_h5, List.forall_mem_cons.mpr ⟨kz_h6, List.forall_mem_cons.mpr ⟨kz_h9, List.forall_mem_cons.mpr ⟨kz_h12, List.forall_mem_cons.mpr ⟨kz_h0, List.forall_mem_cons.mpr ⟨kz_h2, List.forall_mem_cons.mpr ⟨kz_h18, List.forall_mem_cons.mpr ⟨kz_h40, List.forall_mem_cons.mpr ⟨kz_h41, List.forall_mem_cons.mpr ⟨kz_h42, List.forall_mem_cons.mpr ⟨kz_h43, List.forall_mem_cons.mpr ⟨kz_h44, List.forall_mem_cons.mpr ⟨kz_h51, List.forall_mem_cons.mpr ⟨kz_h52, List.forall_mem_cons.mpr ⟨kz_h53, List.forall_mem_cons.mpr ⟨kz_h54, List.forall_mem_cons.mpr ⟨kz_h56, List.forall_mem_cons.mpr ⟨kz_h59, List.forall_mem_cons.mpr ⟨kz_h61, List.forall_mem_cons.mpr ⟨kz_h63, List.forall_mem_cons.mpr ⟨kz_h65, List.forall_mem_cons.mpr ⟨kz_h67, List.forall_mem_cons.mpr ⟨kz_h73, List.forall_mem_cons.mpr ⟨kz_h76, List.forall_mem_cons.mpr ⟨kz_h81, List.forall_mem_cons.mpr ⟨kz_h88, List.forall_mem_cons.mpr ⟨kz_h94, List.forall_mem_cons.mpr ⟨kz_h95, List.forall_mem_cons.mpr ⟨kz_h96, List.forall_mem_cons.mpr ⟨kz_h97, List.forall_mem_cons.mpr ⟨kz_h98, List.forall_mem_cons.mpr ⟨kz_h99, List.forall_mem_cons.mpr ⟨kz_h102, List.forall_mem_cons.mpr ⟨kz_h104, List.forall_mem_cons.mpr ⟨kz_h106, List.forall_mem_cons.mpr ⟨kz_h108, List.forall_mem_cons.mpr ⟨kz_h110, List.forall_mem_cons.mpr ⟨kz_h112, List.forall_mem_cons.mpr ⟨kz_h114, List.forall_mem_cons.mpr ⟨kz_h115, List.forall_mem_cons.mpr ⟨kz_h116, List.forall_mem_cons.mpr ⟨kz_h117, List.forall_mem_cons.mpr ⟨kz_h118, List.forall_mem_cons.mpr ⟨kz_h119, List.forall_mem_cons.mpr ⟨kz_h121, List.forall_mem_cons.mpr ⟨kz_h122, List.forall_mem_cons.mpr ⟨kz_h123, List.forall_mem_cons.mpr ⟨kz_h107, List.forall_mem_cons.mpr ⟨kz_h124, List.forall_mem_cons.mpr ⟨kz_h125, List.forall_mem_cons.mpr ⟨kz_h126, List.forall_mem_cons.mpr ⟨kz_h127, List.forall_mem_cons.mpr ⟨kz_h128, List.forall_mem_cons.mpr ⟨kz_h129, List.forall_mem_cons.mpr ⟨kz_h131, List.forall_mem_cons.mpr ⟨kz_h132, (fun _ h => nomatch h)⟩⟩⟩⟩⟩⟩⟩⟩⟩⟩⟩⟩⟩⟩⟩⟩⟩⟩⟩⟩⟩⟩⟩⟩⟩⟩⟩⟩⟩⟩⟩⟩⟩⟩⟩⟩⟩⟩⟩⟩⟩⟩⟩⟩⟩⟩⟩⟩⟩⟩⟩⟩⟩⟩⟩⟩⟩⟩
end KH
