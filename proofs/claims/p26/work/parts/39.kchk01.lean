set_option maxRecDepth 100000 in
set_option maxHeartbeats 0 in
theorem kz_W17 : ak_chW kz_M kz_e17 kz_l17 = true := by decide +kernel
set_option maxRecDepth 100000 in
set_option maxHeartbeats 0 in
theorem kz_E17 : ak_chS kz_K 15 kz_e17 = true ∧ ak_chE kz_M kz_CF kz_K kz_t17 15 kz_e17 kz_l17 3000 = true := by decide +kernel
set_option maxRecDepth 100000 in
set_option maxHeartbeats 0 in
theorem kz_W18 : ak_chW kz_M kz_e18 kz_l18 = true := by decide +kernel
set_option maxRecDepth 100000 in
set_option maxHeartbeats 0 in
theorem kz_E18 : ak_chS kz_K 104 kz_e18 = true ∧ ak_chE kz_M kz_CF kz_K kz_t18 104 kz_e18 kz_l18 3000 = true := by decide +kernel
set_option maxRecDepth 100000 in
set_option maxHeartbeats 0 in
theorem kz_W19 : ak_chW kz_M kz_e19 kz_l19 = true := by decide +kernel
set_option maxRecDepth 100000 in
set_option maxHeartbeats 0 in
theorem kz_E19 : ak_chS kz_K 142 kz_e19 = true ∧ ak_chE kz_M kz_CF kz_K kz_t19 142 kz_e19 kz_l19 3000 = true := by decide +kernel
set_option maxRecDepth 100000 in
set_option maxHeartbeats 0 in
theorem kz_W20 : ak_chW kz_M kz_e20 kz_l20 = true := by decide +kernel
set_option maxRecDepth 100000 in
set_option maxHeartbeats 0 in
theorem kz_E20 : ak_chS kz_K 142 kz_e20 = true ∧ ak_chE kz_M kz_CF kz_K kz_t20 142 kz_e20 kz_l20 3000 = true := by decide +kernel
set_option maxRecDepth 100000 in
set_option maxHeartbeats 0 in
theorem kz_W21 : ak_chW kz_M kz_e21 kz_l21 = true := by decide +kernel
set_option maxRecDepth 100000 in
set_option maxHeartbeats 0 in
theorem kz_E21 : ak_chS kz_K 154 kz_e21 = true ∧ ak_chE kz_M kz_CF kz_K kz_t21 154 kz_e21 kz_l21 3000 = true := by decide +kernel
set_option maxRecDepth 100000 in
set_option maxHeartbeats 0 in
theorem kz_N21_0 : ak_chN kz_M kz_CF kz_K kz_t21 154 kz_e21 kz_l21 3000 kz_n21_0 = true := by decide +kernel
set_option maxRecDepth 100000 in
set_option maxHeartbeats 0 in
theorem kz_N21_1 : ak_chN kz_M kz_CF kz_K kz_t21 154 kz_e21 kz_l21 3000 kz_n21_1 = true := by decide +kernel
set_option maxRecDepth 100000 in
set_option maxHeartbeats 0 in
theorem kz_N21_2 : ak_chN kz_M kz_CF kz_K kz_t21 154 kz_e21 kz_l21 3000 kz_n21_2 = true := by decide +kernel
set_option maxRecDepth 100000 in
set_option maxHeartbeats 0 in
theorem kz_N21_3 : ak_chN kz_M kz_CF kz_K kz_t21 154 kz_e21 kz_l21 3000 kz_n21_3 = true := by decide +kernel
set_option maxRecDepth 100000 in
set_option maxHeartbeats 0 in
theorem kz_N21_4 : ak_chN kz_M kz_CF kz_K kz_t21 154 kz_e21 kz_l21 3000 kz_n21_4 = true := by decide +kernel
set_option maxRecDepth 100000 in
set_option maxHeartbeats 0 in
theorem kz_N21_5 : ak_chN kz_M kz_CF kz_K kz_t21 154 kz_e21 kz_l21 3000 kz_n21_5 = true := by decide +kernel
set_option maxRecDepth 100000 in
set_option maxHeartbeats 0 in
theorem kz_N21_6 : ak_chN kz_M kz_CF kz_K kz_t21 154 kz_e21 kz_l21 3000 kz_n21_6 = true := by decide +kernel
set_option maxRecDepth 100000 in
set_option maxHeartbeats 0 in
theorem kz_N21_7 : ak_chN kz_M kz_CF kz_K kz_t21 154 kz_e21 kz_l21 3000 kz_n21_7 = true := by decide +kernel
set_option maxRecDepth 100000 in
set_option maxHeartbeats 0 in
theorem kz_N21_8 : ak_chN kz_M kz_CF kz_K kz_t21 154 kz_e21 kz_l21 3000 kz_n21_8 = true := by decide +kernel
set_option maxRecDepth 100000 in
set_option maxHeartbeats 0 in
theorem kz_N21_9 : ak_chN kz_M kz_CF kz_K kz_t21 154 kz_e21 kz_l21 3000 kz_n21_9 = true := by decide +kernel
set_option maxRecDepth 100000 in
set_option maxHeartbeats 0 in
theorem kz_N21_10 : ak_chN kz_M kz_CF kz_K kz_t21 154 kz_e21 kz_l21 3000 kz_n21_10 = true := by decide +kernel
set_option maxRecDepth 100000 in
set_option maxHeartbeats 0 in
theorem kz_N21_11 : ak_chN kz_M kz_CF kz_K kz_t21 154 kz_e21 kz_l21 3000 kz_n21_11 = true := by decide +kernel
set_option maxRecDepth 100000 in
set_option maxHeartbeats 0 in
theorem kz_N21_12 : ak_chN kz_M kz_CF kz_K kz_t21 154 kz_e21 kz_l21 3000 kz_n21_12 = true := by decide +kernel
set_option maxRecDepth 100000 in
set_option maxHeartbeats 0 in
theorem kz_N21_13 : ak_chN kz_M kz_CF kz_K kz_t21 154 kz_e21 kz_l21 3000 kz_n21_13 = true := by decide +kernel
set_option maxRecDepth 100000 in
set_option maxHeartbeats 0 in
theorem kz_N21_14 : ak_chN kz_M kz_CF kz_K kz_t21 154 kz_e21 kz_l21 3000 kz_n21_14 = true := by decide +kernel
set_option maxRecDepth 100000 in
set_option maxHeartbeats 0 in
theorem kz_N21_15 : ak_chN kz_M kz_CF kz_K kz_t21 154 kz_e21 kz_l21 3000 kz_n21_15 = true := by decide +kernel
set_option maxRecDepth 100000 in
set_option maxHeartbeats 0 in
theorem kz_N21_16 : ak_chN kz_M kz_CF kz_K kz_t21 154 kz_e21 kz_l21 3000 kz_n21_16 = true := by decide +kernel
set_option maxRecDepth 100000 in
set_option maxHeartbeats 0 in
theorem kz_N21_17 : ak_chN kz_M kz_CF kz_K kz_t21 154 kz_e21 kz_l21 3000 kz_n21_17 = true := by decide +kernel
