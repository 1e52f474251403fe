set_option maxRecDepth 100000 in
set_option maxHeartbeats 0 in
theorem kz_W16 : ak_chW kz_M kz_e16 kz_l16 = true := by decide +kernel
set_option maxRecDepth 100000 in
set_option maxHeartbeats 0 in
theorem kz_E16 : ak_chS kz_K 9 kz_e16 = true ∧ ak_chE kz_M kz_CF kz_K kz_t16 9 kz_e16 kz_l16 3000 = true := by decide +kernel
set_option maxRecDepth 100000 in
set_option maxHeartbeats 0 in
theorem kz_W17 : ak_chW kz_M kz_e17 kz_l17 = true := by decide +kernel
set_option maxRecDepth 100000 in
set_option maxHeartbeats 0 in
theorem kz_E17 : ak_chS kz_K 12 kz_e17 = true ∧ ak_chE kz_M kz_CF kz_K kz_t17 12 kz_e17 kz_l17 3000 = true := by decide +kernel
set_option maxRecDepth 100000 in
set_option maxHeartbeats 0 in
theorem kz_W18 : ak_chW kz_M kz_e18 kz_l18 = true := by decide +kernel
set_option maxRecDepth 100000 in
set_option maxHeartbeats 0 in
theorem kz_E18 : ak_chS kz_K 104 kz_e18 = true ∧ ak_chE kz_M kz_CF kz_K kz_t18 104 kz_e18 kz_l18 3000 = true := by decide +kernel
set_option maxRecDepth 100000 in
set_option maxHeartbeats 0 in
theorem kz_W19 : ak_chW kz_M kz_e19 kz_l19 = true := by decide +kernel
set_option maxRecDepth 100000 in
set_option maxHeartbeats 0 in
theorem kz_E19 : ak_chS kz_K 154 kz_e19 = true ∧ ak_chE kz_M kz_CF kz_K kz_t19 154 kz_e19 kz_l19 3000 = true := by decide +kernel
set_option maxRecDepth 100000 in
set_option maxHeartbeats 0 in
theorem kz_N19_0 : ak_chN kz_M kz_CF kz_K kz_t19 154 kz_e19 kz_l19 3000 kz_n19_0 = true := by decide +kernel
set_option maxRecDepth 100000 in
set_option maxHeartbeats 0 in
theorem kz_N19_1 : ak_chN kz_M kz_CF kz_K kz_t19 154 kz_e19 kz_l19 3000 kz_n19_1 = true := by decide +kernel
set_option maxRecDepth 100000 in
set_option maxHeartbeats 0 in
theorem kz_N19_2 : ak_chN kz_M kz_CF kz_K kz_t19 154 kz_e19 kz_l19 3000 kz_n19_2 = true := by decide +kernel
set_option maxRecDepth 100000 in
set_option maxHeartbeats 0 in
theorem kz_N19_3 : ak_chN kz_M kz_CF kz_K kz_t19 154 kz_e19 kz_l19 3000 kz_n19_3 = true := by decide +kernel
set_option maxRecDepth 100000 in
set_option maxHeartbeats 0 in
theorem kz_N19_4 : ak_chN kz_M kz_CF kz_K kz_t19 154 kz_e19 kz_l19 3000 kz_n19_4 = true := by decide +kernel
set_option maxRecDepth 100000 in
set_option maxHeartbeats 0 in
theorem kz_N19_5 : ak_chN kz_M kz_CF kz_K kz_t19 154 kz_e19 kz_l19 3000 kz_n19_5 = true := by decide +kernel
set_option maxRecDepth 100000 in
set_option maxHeartbeats 0 in
theorem kz_N19_6 : ak_chN kz_M kz_CF kz_K kz_t19 154 kz_e19 kz_l19 3000 kz_n19_6 = true := by decide +kernel
set_option maxRecDepth 100000 in
set_option maxHeartbeats 0 in
theorem kz_N19_7 : ak_chN kz_M kz_CF kz_K kz_t19 154 kz_e19 kz_l19 3000 kz_n19_7 = true := by decide +kernel
set_option maxRecDepth 100000 in
set_option maxHeartbeats 0 in
theorem kz_N19_8 : ak_chN kz_M kz_CF kz_K kz_t19 154 kz_e19 kz_l19 3000 kz_n19_8 = true := by decide +kernel
set_option maxRecDepth 100000 in
set_option maxHeartbeats 0 in
theorem kz_N19_9 : ak_chN kz_M kz_CF kz_K kz_t19 154 kz_e19 kz_l19 3000 kz_n19_9 = true := by decide +kernel
set_option maxRecDepth 100000 in
set_option maxHeartbeats 0 in
theorem kz_N19_10 : ak_chN kz_M kz_CF kz_K kz_t19 154 kz_e19 kz_l19 3000 kz_n19_10 = true := by decide +kernel
set_option maxRecDepth 100000 in
set_option maxHeartbeats 0 in
theorem kz_N19_11 : ak_chN kz_M kz_CF kz_K kz_t19 154 kz_e19 kz_l19 3000 kz_n19_11 = true := by decide +kernel
set_option maxRecDepth 100000 in
set_option maxHeartbeats 0 in
theorem kz_N19_12 : ak_chN kz_M kz_CF kz_K kz_t19 154 kz_e19 kz_l19 3000 kz_n19_12 = true := by decide +kernel
set_option maxRecDepth 100000 in
set_option maxHeartbeats 0 in
theorem kz_N19_13 : ak_chN kz_M kz_CF kz_K kz_t19 154 kz_e19 kz_l19 3000 kz_n19_13 = true := by decide +kernel
set_option maxRecDepth 100000 in
set_option maxHeartbeats 0 in
theorem kz_N19_14 : ak_chN kz_M kz_CF kz_K kz_t19 154 kz_e19 kz_l19 3000 kz_n19_14 = true := by decide +kernel
set_option maxRecDepth 100000 in
set_option maxHeartbeats 0 in
theorem kz_N19_15 : ak_chN kz_M kz_CF kz_K kz_t19 154 kz_e19 kz_l19 3000 kz_n19_15 = true := by decide +kernel
set_option maxRecDepth 100000 in
set_option maxHeartbeats 0 in
theorem kz_N19_16 : ak_chN kz_M kz_CF kz_K kz_t19 154 kz_e19 kz_l19 3000 kz_n19_16 = true := by decide +kernel
set_option maxRecDepth 100000 in
set_option maxHeartbeats 0 in
theorem kz_N19_17 : ak_chN kz_M kz_CF kz_K kz_t19 154 kz_e19 kz_l19 3000 kz_n19_17 = true := by decide +kernel
set_option maxRecDepth 100000 in
set_option maxHeartbeats 0 in
theorem kz_N19_18 : ak_chN kz_M kz_CF kz_K kz_t19 154 kz_e19 kz_l19 3000 kz_n19_18 = true := by decide +kernel
set_option maxRecDepth 100000 in
set_option maxHeartbeats 0 in
theorem kz_N19_19 : ak_chN kz_M kz_CF kz_K kz_t19 154 kz_e19 kz_l19 3000 kz_n19_19 = true := by decide +kernel
set_option maxRecDepth 100000 in
set_option maxHeartbeats 0 in
theorem kz_N19_20 : ak_chN kz_M kz_CF kz_K kz_t19 154 kz_e19 kz_l19 3000 kz_n19_20 = true := by decide +kernel
set_option maxRecDepth 100000 in
set_option maxHeartbeats 0 in
theorem kz_N19_21 : ak_chN kz_M kz_CF kz_K kz_t19 154 kz_e19 kz_l19 3000 kz_n19_21 = true := by decide +kernel
set_option maxRecDepth 100000 in
set_option maxHeartbeats 0 in
theorem kz_N19_22 : ak_chN kz_M kz_CF kz_K kz_t19 154 kz_e19 kz_l19 3000 kz_n19_22 = true := by decide +kernel
set_option maxRecDepth 100000 in
set_option maxHeartbeats 0 in
theorem kz_N19_23 : ak_chN kz_M kz_CF kz_K kz_t19 154 kz_e19 kz_l19 3000 kz_n19_23 = true := by decide +kernel
set_option maxRecDepth 100000 in
set_option maxHeartbeats 0 in
theorem kz_N19_24 : ak_chN kz_M kz_CF kz_K kz_t19 154 kz_e19 kz_l19 3000 kz_n19_24 = true := by decide +kernel
set_option maxRecDepth 100000 in
set_option maxHeartbeats 0 in
theorem kz_N19_25 : ak_chN kz_M kz_CF kz_K kz_t19 154 kz_e19 kz_l19 3000 kz_n19_25 = true := by decide +kernel
set_option maxRecDepth 100000 in
set_option maxHeartbeats 0 in
theorem kz_N19_26 : ak_chN kz_M kz_CF kz_K kz_t19 154 kz_e19 kz_l19 3000 kz_n19_26 = true := by decide +kernel
set_option maxRecDepth 100000 in
set_option maxHeartbeats 0 in
theorem kz_N19_27 : ak_chN kz_M kz_CF kz_K kz_t19 154 kz_e19 kz_l19 3000 kz_n19_27 = true := by decide +kernel
set_option maxRecDepth 100000 in
set_option maxHeartbeats 0 in
theorem kz_N19_28 : ak_chN kz_M kz_CF kz_K kz_t19 154 kz_e19 kz_l19 3000 kz_n19_28 = true := by decide +kernel
set_option maxRecDepth 100000 in
set_option maxHeartbeats 0 in
theorem kz_N19_29 : ak_chN kz_M kz_CF kz_K kz_t19 154 kz_e19 kz_l19 3000 kz_n19_29 = true := by decide +kernel
set_option maxRecDepth 100000 in
set_option maxHeartbeats 0 in
theorem kz_N19_30 : ak_chN kz_M kz_CF kz_K kz_t19 154 kz_e19 kz_l19 3000 kz_n19_30 = true := by decide +kernel
set_option maxRecDepth 100000 in
set_option maxHeartbeats 0 in
theorem kz_N19_31 : ak_chN kz_M kz_CF kz_K kz_t19 154 kz_e19 kz_l19 3000 kz_n19_31 = true := by decide +kernel
set_option maxRecDepth 100000 in
set_option maxHeartbeats 0 in
theorem kz_N19_32 : ak_chN kz_M kz_CF kz_K kz_t19 154 kz_e19 kz_l19 3000 kz_n19_32 = true := by decide +kernel
set_option maxRecDepth 100000 in
set_option maxHeartbeats 0 in
theorem kz_N19_33 : ak_chN kz_M kz_CF kz_K kz_t19 154 kz_e19 kz_l19 3000 kz_n19_33 = true := by decide +kernel
