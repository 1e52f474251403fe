set_option maxRecDepth 100000 in
set_option maxHeartbeats 0 in
theorem kz_W0 : ak_chW kz_M kz_e0 kz_l0 = true := by decide +kernel
set_option maxRecDepth 100000 in
set_option maxHeartbeats 0 in
theorem kz_E0 : ak_chS kz_K 101 kz_e0 = true ∧ ak_chE kz_M kz_CF kz_K kz_t0 101 kz_e0 kz_l0 3000 = true := by decide +kernel
set_option maxRecDepth 100000 in
set_option maxHeartbeats 0 in
theorem kz_W1 : ak_chW kz_M kz_e1 kz_l1 = true := by decide +kernel
set_option maxRecDepth 100000 in
set_option maxHeartbeats 0 in
theorem kz_E1 : ak_chS kz_K 95 kz_e1 = true ∧ ak_chE kz_M kz_CF kz_K kz_t1 95 kz_e1 kz_l1 3000 = true := by decide +kernel
set_option maxRecDepth 100000 in
set_option maxHeartbeats 0 in
theorem kz_W2 : ak_chW kz_M kz_e2 kz_l2 = true := by decide +kernel
set_option maxRecDepth 100000 in
set_option maxHeartbeats 0 in
theorem kz_E2 : ak_chS kz_K 174 kz_e2 = true ∧ ak_chE kz_M kz_CF kz_K kz_t2 174 kz_e2 kz_l2 3000 = true := by decide +kernel
set_option maxRecDepth 100000 in
set_option maxHeartbeats 0 in
theorem kz_W3 : ak_chW kz_M kz_e3 kz_l3 = true := by decide +kernel
set_option maxRecDepth 100000 in
set_option maxHeartbeats 0 in
theorem kz_E3 : ak_chS kz_K 168 kz_e3 = true ∧ ak_chE kz_M kz_CF kz_K kz_t3 168 kz_e3 kz_l3 3000 = true := by decide +kernel
set_option maxRecDepth 100000 in
set_option maxHeartbeats 0 in
theorem kz_W4 : ak_chW kz_M kz_e4 kz_l4 = true := by decide +kernel
set_option maxRecDepth 100000 in
set_option maxHeartbeats 0 in
theorem kz_E4 : ak_chS kz_K 0 kz_e4 = true ∧ ak_chE kz_M kz_CF kz_K kz_t4 0 kz_e4 kz_l4 3000 = true := by decide +kernel
set_option maxRecDepth 100000 in
set_option maxHeartbeats 0 in
theorem kz_W5 : ak_chW kz_M kz_e5 kz_l5 = true := by decide +kernel
set_option maxRecDepth 100000 in
set_option maxHeartbeats 0 in
theorem kz_E5 : ak_chS kz_K 70 kz_e5 = true ∧ ak_chE kz_M kz_CF kz_K kz_t5 70 kz_e5 kz_l5 3000 = true := by decide +kernel
set_option maxRecDepth 100000 in
set_option maxHeartbeats 0 in
theorem kz_W6 : ak_chW kz_M kz_e6 kz_l6 = true := by decide +kernel
set_option maxRecDepth 100000 in
set_option maxHeartbeats 0 in
theorem kz_E6 : ak_chS kz_K 121 kz_e6 = true ∧ ak_chE kz_M kz_CF kz_K kz_t6 121 kz_e6 kz_l6 3000 = true := by decide +kernel
set_option maxRecDepth 100000 in
set_option maxHeartbeats 0 in
theorem kz_W7 : ak_chW kz_M kz_e7 kz_l7 = true := by decide +kernel
set_option maxRecDepth 100000 in
set_option maxHeartbeats 0 in
theorem kz_E7 : ak_chS kz_K 5 kz_e7 = true ∧ ak_chE kz_M kz_CF kz_K kz_t7 5 kz_e7 kz_l7 3000 = true := by decide +kernel
set_option maxRecDepth 100000 in
set_option maxHeartbeats 0 in
theorem kz_W8 : ak_chW kz_M kz_e8 kz_l8 = true := by decide +kernel
set_option maxRecDepth 100000 in
set_option maxHeartbeats 0 in
theorem kz_E8 : ak_chS kz_K 10 kz_e8 = true ∧ ak_chE kz_M kz_CF kz_K kz_t8 10 kz_e8 kz_l8 3000 = true := by decide +kernel
set_option maxRecDepth 100000 in
set_option maxHeartbeats 0 in
theorem kz_N8_0 : ak_chN kz_M kz_CF kz_K kz_t8 10 kz_e8 kz_l8 3000 kz_n8_0 = true := by decide +kernel
set_option maxRecDepth 100000 in
set_option maxHeartbeats 0 in
theorem kz_W9 : ak_chW kz_M kz_e9 kz_l9 = true := by decide +kernel
set_option maxRecDepth 100000 in
set_option maxHeartbeats 0 in
theorem kz_E9 : ak_chS kz_K 85 kz_e9 = true ∧ ak_chE kz_M kz_CF kz_K kz_t9 85 kz_e9 kz_l9 3000 = true := by decide +kernel
set_option maxRecDepth 100000 in
set_option maxHeartbeats 0 in
theorem kz_W10 : ak_chW kz_M kz_e10 kz_l10 = true := by decide +kernel
set_option maxRecDepth 100000 in
set_option maxHeartbeats 0 in
theorem kz_E10 : ak_chS kz_K 176 kz_e10 = true ∧ ak_chE kz_M kz_CF kz_K kz_t10 176 kz_e10 kz_l10 3000 = true := by decide +kernel
set_option maxRecDepth 100000 in
set_option maxHeartbeats 0 in
theorem kz_N10_0 : ak_chN kz_M kz_CF kz_K kz_t10 176 kz_e10 kz_l10 3000 kz_n10_0 = true := by decide +kernel
set_option maxRecDepth 100000 in
set_option maxHeartbeats 0 in
theorem kz_W11 : ak_chW kz_M kz_e11 kz_l11 = true := by decide +kernel
set_option maxRecDepth 100000 in
set_option maxHeartbeats 0 in
theorem kz_E11 : ak_chS kz_K 129 kz_e11 = true ∧ ak_chE kz_M kz_CF kz_K kz_t11 129 kz_e11 kz_l11 3000 = true := by decide +kernel
set_option maxRecDepth 100000 in
set_option maxHeartbeats 0 in
theorem kz_W12 : ak_chW kz_M kz_e12 kz_l12 = true := by decide +kernel
set_option maxRecDepth 100000 in
set_option maxHeartbeats 0 in
theorem kz_E12 : ak_chS kz_K 148 kz_e12 = true ∧ ak_chE kz_M kz_CF kz_K kz_t12 148 kz_e12 kz_l12 3000 = true := by decide +kernel
set_option maxRecDepth 100000 in
set_option maxHeartbeats 0 in
theorem kz_W13 : ak_chW kz_M kz_e13 kz_l13 = true := by decide +kernel
set_option maxRecDepth 100000 in
set_option maxHeartbeats 0 in
theorem kz_E13 : ak_chS kz_K 54 kz_e13 = true ∧ ak_chE kz_M kz_CF kz_K kz_t13 54 kz_e13 kz_l13 3000 = true := by decide +kernel
set_option maxRecDepth 100000 in
set_option maxHeartbeats 0 in
theorem kz_N13_0 : ak_chN kz_M kz_CF kz_K kz_t13 54 kz_e13 kz_l13 3000 kz_n13_0 = true := by decide +kernel
set_option maxRecDepth 100000 in
set_option maxHeartbeats 0 in
theorem kz_W14 : ak_chW kz_M kz_e14 kz_l14 = true := by decide +kernel
set_option maxRecDepth 100000 in
set_option maxHeartbeats 0 in
theorem kz_E14 : ak_chS kz_K 16 kz_e14 = true ∧ ak_chE kz_M kz_CF kz_K kz_t14 16 kz_e14 kz_l14 3000 = true := by decide +kernel
set_option maxRecDepth 100000 in
set_option maxHeartbeats 0 in
theorem kz_W15 : ak_chW kz_M kz_e15 kz_l15 = true := by decide +kernel
set_option maxRecDepth 100000 in
set_option maxHeartbeats 0 in
theorem kz_E15 : ak_chS kz_K 15 kz_e15 = true ∧ ak_chE kz_M kz_CF kz_K kz_t15 15 kz_e15 kz_l15 3000 = true := by decide +kernel
