set_option maxRecDepth 100000 in
set_option maxHeartbeats 0 in
theorem kz_N28_3 : ak_chN kz_M kz_CF kz_K kz_t28 112 kz_e28 kz_l28 3000 kz_n28_3 = true := by decide +kernel
set_option maxRecDepth 100000 in
set_option maxHeartbeats 0 in
theorem kz_N28_4 : ak_chN kz_M kz_CF kz_K kz_t28 112 kz_e28 kz_l28 3000 kz_n28_4 = true := by decide +kernel
set_option maxRecDepth 100000 in
set_option maxHeartbeats 0 in
theorem kz_E29 : ak_chS kz_K 123 kz_e29 = true ∧ ak_chE kz_M kz_CF kz_K kz_t29 123 kz_e29 kz_l29 3000 = true := by decide +kernel
set_option maxRecDepth 100000 in
set_option maxHeartbeats 0 in
theorem kz_N29_0 : ak_chN kz_M kz_CF kz_K kz_t29 123 kz_e29 kz_l29 3000 kz_n29_0 = true := by decide +kernel
set_option maxRecDepth 100000 in
set_option maxHeartbeats 0 in
theorem kz_N29_1 : ak_chN kz_M kz_CF kz_K kz_t29 123 kz_e29 kz_l29 3000 kz_n29_1 = true := by decide +kernel
set_option maxRecDepth 100000 in
set_option maxHeartbeats 0 in
theorem kz_N29_2 : ak_chN kz_M kz_CF kz_K kz_t29 123 kz_e29 kz_l29 3000 kz_n29_2 = true := by decide +kernel
