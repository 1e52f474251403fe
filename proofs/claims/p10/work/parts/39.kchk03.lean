set_option maxRecDepth 100000 in
set_option maxHeartbeats 0 in
theorem kz_E21 : ak_chS kz_K 142 kz_e21 = true ∧ ak_chE kz_M kz_CF kz_K kz_t21 142 kz_e21 kz_l21 3000 = true := by decide +kernel
set_option maxRecDepth 100000 in
set_option maxHeartbeats 0 in
theorem kz_W22 : ak_chW kz_M kz_e22 kz_l22 = true := by decide +kernel
set_option maxRecDepth 100000 in
set_option maxHeartbeats 0 in
theorem kz_E22 : ak_chS kz_K 142 kz_e22 = true ∧ ak_chE kz_M kz_CF kz_K kz_t22 142 kz_e22 kz_l22 3000 = true := by decide +kernel
set_option maxRecDepth 100000 in
set_option maxHeartbeats 0 in
theorem kz_W23 : ak_chW kz_M kz_e23 kz_l23 = true := by decide +kernel
set_option maxRecDepth 100000 in
set_option maxHeartbeats 0 in
theorem kz_E23 : ak_chS kz_K 142 kz_e23 = true ∧ ak_chE kz_M kz_CF kz_K kz_t23 142 kz_e23 kz_l23 3000 = true := by decide +kernel
set_option maxRecDepth 100000 in
set_option maxHeartbeats 0 in
theorem kz_W24 : ak_chW kz_M kz_e24 kz_l24 = true := by decide +kernel
set_option maxRecDepth 100000 in
set_option maxHeartbeats 0 in
theorem kz_E24 : ak_chS kz_K 142 kz_e24 = true ∧ ak_chE kz_M kz_CF kz_K kz_t24 142 kz_e24 kz_l24 3000 = true := by decide +kernel
set_option maxRecDepth 100000 in
set_option maxHeartbeats 0 in
theorem kz_W25 : ak_chW kz_M kz_e25 kz_l25 = true := by decide +kernel
set_option maxRecDepth 100000 in
set_option maxHeartbeats 0 in
theorem kz_E25 : ak_chS kz_K 142 kz_e25 = true ∧ ak_chE kz_M kz_CF kz_K kz_t25 142 kz_e25 kz_l25 3000 = true := by decide +kernel
set_option maxRecDepth 100000 in
set_option maxHeartbeats 0 in
theorem kz_W26 : ak_chW kz_M kz_e26 kz_l26 = true := by decide +kernel
set_option maxRecDepth 100000 in
set_option maxHeartbeats 0 in
theorem kz_E26 : ak_chS kz_K 142 kz_e26 = true ∧ ak_chE kz_M kz_CF kz_K kz_t26 142 kz_e26 kz_l26 3000 = true := by decide +kernel
set_option maxRecDepth 100000 in
set_option maxHeartbeats 0 in
theorem kz_W27 : ak_chW kz_M kz_e27 kz_l27 = true := by decide +kernel
set_option maxRecDepth 100000 in
set_option maxHeartbeats 0 in
theorem kz_E27 : ak_chS kz_K 142 kz_e27 = true ∧ ak_chE kz_M kz_CF kz_K kz_t27 142 kz_e27 kz_l27 3000 = true := by decide +kernel
set_option maxRecDepth 100000 in
set_option maxHeartbeats 0 in
theorem kz_W28 : ak_chW kz_M kz_e28 kz_l28 = true := by decide +kernel
set_option maxRecDepth 100000 in
set_option maxHeartbeats 0 in
theorem kz_E28 : ak_chS kz_K 142 kz_e28 = true ∧ ak_chE kz_M kz_CF kz_K kz_t28 142 kz_e28 kz_l28 3000 = true := by decide +kernel
set_option maxRecDepth 100000 in
set_option maxHeartbeats 0 in
theorem kz_W29 : ak_chW kz_M kz_e29 kz_l29 = true := by decide +kernel
set_option maxRecDepth 100000 in
set_option maxHeartbeats 0 in
theorem kz_E29 : ak_chS kz_K 105 kz_e29 = true ∧ ak_chE kz_M kz_CF kz_K kz_t29 105 kz_e29 kz_l29 3000 = true := by decide +kernel
set_option maxRecDepth 100000 in
set_option maxHeartbeats 0 in
theorem kz_N29_0 : ak_chN kz_M kz_CF kz_K kz_t29 105 kz_e29 kz_l29 3000 kz_n29_0 = true := by decide +kernel
set_option maxRecDepth 100000 in
set_option maxHeartbeats 0 in
theorem kz_N29_1 : ak_chN kz_M kz_CF kz_K kz_t29 105 kz_e29 kz_l29 3000 kz_n29_1 = true := by decide +kernel
set_option maxRecDepth 100000 in
set_option maxHeartbeats 0 in
theorem kz_N29_2 : ak_chN kz_M kz_CF kz_K kz_t29 105 kz_e29 kz_l29 3000 kz_n29_2 = true := by decide +kernel
set_option maxRecDepth 100000 in
set_option maxHeartbeats 0 in
theorem kz_N29_3 : ak_chN kz_M kz_CF kz_K kz_t29 105 kz_e29 kz_l29 3000 kz_n29_3 = true := by decide +kernel
set_option maxRecDepth 100000 in
set_option maxHeartbeats 0 in
theorem kz_N29_4 : ak_chN kz_M kz_CF kz_K kz_t29 105 kz_e29 kz_l29 3000 kz_n29_4 = true := by decide +kernel
set_option maxRecDepth 100000 in
set_option maxHeartbeats 0 in
theorem kz_W30 : ak_chW kz_M kz_e30 kz_l30 = true := by decide +kernel
set_option maxRecDepth 100000 in
set_option maxHeartbeats 0 in
theorem kz_E30 : ak_chS kz_K 107 kz_e30 = true ∧ ak_chE kz_M kz_CF kz_K kz_t30 107 kz_e30 kz_l30 3000 = true := by decide +kernel
set_option maxRecDepth 100000 in
set_option maxHeartbeats 0 in
theorem kz_W31 : ak_chW kz_M kz_e31 kz_l31 = true := by decide +kernel
set_option maxRecDepth 100000 in
set_option maxHeartbeats 0 in
theorem kz_E31 : ak_chS kz_K 112 kz_e31 = true ∧ ak_chE kz_M kz_CF kz_K kz_t31 112 kz_e31 kz_l31 3000 = true := by decide +kernel
set_option maxRecDepth 100000 in
set_option maxHeartbeats 0 in
theorem kz_N31_0 : ak_chN kz_M kz_CF kz_K kz_t31 112 kz_e31 kz_l31 3000 kz_n31_0 = true := by decide +kernel
set_option maxRecDepth 100000 in
set_option maxHeartbeats 0 in
theorem kz_N31_1 : ak_chN kz_M kz_CF kz_K kz_t31 112 kz_e31 kz_l31 3000 kz_n31_1 = true := by decide +kernel
set_option maxRecDepth 100000 in
set_option maxHeartbeats 0 in
theorem kz_N31_2 : ak_chN kz_M kz_CF kz_K kz_t31 112 kz_e31 kz_l31 3000 kz_n31_2 = true := by decide +kernel
set_option maxRecDepth 100000 in
set_option maxHeartbeats 0 in
theorem kz_N31_3 : ak_chN kz_M kz_CF kz_K kz_t31 112 kz_e31 kz_l31 3000 kz_n31_3 = true := by decide +kernel
set_option maxRecDepth 100000 in
set_option maxHeartbeats 0 in
theorem kz_N31_4 : ak_chN kz_M kz_CF kz_K kz_t31 112 kz_e31 kz_l31 3000 kz_n31_4 = true := by decide +kernel
set_option maxRecDepth 100000 in
set_option maxHeartbeats 0 in
theorem kz_N31_5 : ak_chN kz_M kz_CF kz_K kz_t31 112 kz_e31 kz_l31 3000 kz_n31_5 = true := by decide +kernel
set_option maxRecDepth 100000 in
set_option maxHeartbeats 0 in
theorem kz_N31_6 : ak_chN kz_M kz_CF kz_K kz_t31 112 kz_e31 kz_l31 3000 kz_n31_6 = true := by decide +kernel
set_option maxRecDepth 100000 in
set_option maxHeartbeats 0 in
theorem kz_N31_7 : ak_chN kz_M kz_CF kz_K kz_t31 112 kz_e31 kz_l31 3000 kz_n31_7 = true := by decide +kernel
set_option maxRecDepth 100000 in
set_option maxHeartbeats 0 in
theorem kz_N31_8 : ak_chN kz_M kz_CF kz_K kz_t31 112 kz_e31 kz_l31 3000 kz_n31_8 = true := by decide +kernel
set_option maxRecDepth 100000 in
set_option maxHeartbeats 0 in
theorem kz_N31_9 : ak_chN kz_M kz_CF kz_K kz_t31 112 kz_e31 kz_l31 3000 kz_n31_9 = true := by decide +kernel
set_option maxRecDepth 100000 in
set_option maxHeartbeats 0 in
theorem kz_N31_10 : ak_chN kz_M kz_CF kz_K kz_t31 112 kz_e31 kz_l31 3000 kz_n31_10 = true := by decide +kernel
set_option maxRecDepth 100000 in
set_option maxHeartbeats 0 in
theorem kz_N31_11 : ak_chN kz_M kz_CF kz_K kz_t31 112 kz_e31 kz_l31 3000 kz_n31_11 = true := by decide +kernel
set_option maxRecDepth 100000 in
set_option maxHeartbeats 0 in
theorem kz_N31_12 : ak_chN kz_M kz_CF kz_K kz_t31 112 kz_e31 kz_l31 3000 kz_n31_12 = true := by decide +kernel
set_option maxRecDepth 100000 in
set_option maxHeartbeats 0 in
theorem kz_N31_13 : ak_chN kz_M kz_CF kz_K kz_t31 112 kz_e31 kz_l31 3000 kz_n31_13 = true := by decide +kernel
set_option maxRecDepth 100000 in
set_option maxHeartbeats 0 in
theorem kz_N31_14 : ak_chN kz_M kz_CF kz_K kz_t31 112 kz_e31 kz_l31 3000 kz_n31_14 = true := by decide +kernel
set_option maxRecDepth 100000 in
set_option maxHeartbeats 0 in
theorem kz_N31_15 : ak_chN kz_M kz_CF kz_K kz_t31 112 kz_e31 kz_l31 3000 kz_n31_15 = true := by decide +kernel
set_option maxRecDepth 100000 in
set_option maxHeartbeats 0 in
theorem kz_N31_16 : ak_chN kz_M kz_CF kz_K kz_t31 112 kz_e31 kz_l31 3000 kz_n31_16 = true := by decide +kernel
set_option maxRecDepth 100000 in
set_option maxHeartbeats 0 in
theorem kz_N31_17 : ak_chN kz_M kz_CF kz_K kz_t31 112 kz_e31 kz_l31 3000 kz_n31_17 = true := by decide +kernel
set_option maxRecDepth 100000 in
set_option maxHeartbeats 0 in
theorem kz_N31_18 : ak_chN kz_M kz_CF kz_K kz_t31 112 kz_e31 kz_l31 3000 kz_n31_18 = true := by decide +kernel
set_option maxRecDepth 100000 in
set_option maxHeartbeats 0 in
theorem kz_N31_19 : ak_chN kz_M kz_CF kz_K kz_t31 112 kz_e31 kz_l31 3000 kz_n31_19 = true := by decide +kernel
set_option maxRecDepth 100000 in
set_option maxHeartbeats 0 in
theorem kz_N31_20 : ak_chN kz_M kz_CF kz_K kz_t31 112 kz_e31 kz_l31 3000 kz_n31_20 = true := by decide +kernel
set_option maxRecDepth 100000 in
set_option maxHeartbeats 0 in
theorem kz_N31_21 : ak_chN kz_M kz_CF kz_K kz_t31 112 kz_e31 kz_l31 3000 kz_n31_21 = true := by decide +kernel
set_option maxRecDepth 100000 in
set_option maxHeartbeats 0 in
theorem kz_N31_22 : ak_chN kz_M kz_CF kz_K kz_t31 112 kz_e31 kz_l31 3000 kz_n31_22 = true := by decide +kernel
set_option maxRecDepth 100000 in
set_option maxHeartbeats 0 in
theorem kz_N31_23 : ak_chN kz_M kz_CF kz_K kz_t31 112 kz_e31 kz_l31 3000 kz_n31_23 = true := by decide +kernel
set_option maxRecDepth 100000 in
set_option maxHeartbeats 0 in
theorem kz_N31_24 : ak_chN kz_M kz_CF kz_K kz_t31 112 kz_e31 kz_l31 3000 kz_n31_24 = true := by decide +kernel
set_option maxRecDepth 100000 in
set_option maxHeartbeats 0 in
theorem kz_N31_25 : ak_chN kz_M kz_CF kz_K kz_t31 112 kz_e31 kz_l31 3000 kz_n31_25 = true := by decide +kernel
set_option maxRecDepth 100000 in
set_option maxHeartbeats 0 in
theorem kz_N31_26 : ak_chN kz_M kz_CF kz_K kz_t31 112 kz_e31 kz_l31 3000 kz_n31_26 = true := by decide +kernel
set_option maxRecDepth 100000 in
set_option maxHeartbeats 0 in
theorem kz_N31_27 : ak_chN kz_M kz_CF kz_K kz_t31 112 kz_e31 kz_l31 3000 kz_n31_27 = true := by decide +kernel
set_option maxRecDepth 100000 in
set_option maxHeartbeats 0 in
theorem kz_N31_28 : ak_chN kz_M kz_CF kz_K kz_t31 112 kz_e31 kz_l31 3000 kz_n31_28 = true := by decide +kernel
set_option maxRecDepth 100000 in
set_option maxHeartbeats 0 in
theorem kz_N31_29 : ak_chN kz_M kz_CF kz_K kz_t31 112 kz_e31 kz_l31 3000 kz_n31_29 = true := by decide +kernel
set_option maxRecDepth 100000 in
set_option maxHeartbeats 0 in
theorem kz_N31_30 : ak_chN kz_M kz_CF kz_K kz_t31 112 kz_e31 kz_l31 3000 kz_n31_30 = true := by decide +kernel
set_option maxRecDepth 100000 in
set_option maxHeartbeats 0 in
theorem kz_N31_31 : ak_chN kz_M kz_CF kz_K kz_t31 112 kz_e31 kz_l31 3000 kz_n31_31 = true := by decide +kernel
set_option maxRecDepth 100000 in
set_option maxHeartbeats 0 in
theorem kz_N31_32 : ak_chN kz_M kz_CF kz_K kz_t31 112 kz_e31 kz_l31 3000 kz_n31_32 = true := by decide +kernel
set_option maxRecDepth 100000 in
set_option maxHeartbeats 0 in
theorem kz_N31_33 : ak_chN kz_M kz_CF kz_K kz_t31 112 kz_e31 kz_l31 3000 kz_n31_33 = true := by decide +kernel
set_option maxRecDepth 100000 in
set_option maxHeartbeats 0 in
theorem kz_W32 : ak_chW kz_M kz_e32 kz_l32 = true := by decide +kernel
set_option maxRecDepth 100000 in
set_option maxHeartbeats 0 in
theorem kz_E32 : ak_chS kz_K 123 kz_e32 = true ∧ ak_chE kz_M kz_CF kz_K kz_t32 123 kz_e32 kz_l32 3000 = true := by decide +kernel
set_option maxRecDepth 100000 in
set_option maxHeartbeats 0 in
theorem kz_N32_0 : ak_chN kz_M kz_CF kz_K kz_t32 123 kz_e32 kz_l32 3000 kz_n32_0 = true := by decide +kernel
set_option maxRecDepth 100000 in
set_option maxHeartbeats 0 in
theorem kz_N32_1 : ak_chN kz_M kz_CF kz_K kz_t32 123 kz_e32 kz_l32 3000 kz_n32_1 = true := by decide +kernel
set_option maxRecDepth 100000 in
set_option maxHeartbeats 0 in
theorem kz_N32_2 : ak_chN kz_M kz_CF kz_K kz_t32 123 kz_e32 kz_l32 3000 kz_n32_2 = true := by decide +kernel
set_option maxRecDepth 100000 in
set_option maxHeartbeats 0 in
theorem kz_N32_3 : ak_chN kz_M kz_CF kz_K kz_t32 123 kz_e32 kz_l32 3000 kz_n32_3 = true := by decide +kernel
set_option maxRecDepth 100000 in
set_option maxHeartbeats 0 in
theorem kz_N32_4 : ak_chN kz_M kz_CF kz_K kz_t32 123 kz_e32 kz_l32 3000 kz_n32_4 = true := by decide +kernel
set_option maxRecDepth 100000 in
set_option maxHeartbeats 0 in
theorem kz_N32_5 : ak_chN kz_M kz_CF kz_K kz_t32 123 kz_e32 kz_l32 3000 kz_n32_5 = true := by decide +kernel
set_option maxRecDepth 100000 in
set_option maxHeartbeats 0 in
theorem kz_N32_6 : ak_chN kz_M kz_CF kz_K kz_t32 123 kz_e32 kz_l32 3000 kz_n32_6 = true := by decide +kernel
set_option maxRecDepth 100000 in
set_option maxHeartbeats 0 in
theorem kz_N32_7 : ak_chN kz_M kz_CF kz_K kz_t32 123 kz_e32 kz_l32 3000 kz_n32_7 = true := by decide +kernel
set_option maxRecDepth 100000 in
set_option maxHeartbeats 0 in
theorem kz_N32_8 : ak_chN kz_M kz_CF kz_K kz_t32 123 kz_e32 kz_l32 3000 kz_n32_8 = true := by decide +kernel
set_option maxRecDepth 100000 in
set_option maxHeartbeats 0 in
theorem kz_N32_9 : ak_chN kz_M kz_CF kz_K kz_t32 123 kz_e32 kz_l32 3000 kz_n32_9 = true := by decide +kernel
set_option maxRecDepth 100000 in
set_option maxHeartbeats 0 in
theorem kz_N32_10 : ak_chN kz_M kz_CF kz_K kz_t32 123 kz_e32 kz_l32 3000 kz_n32_10 = true := by decide +kernel
