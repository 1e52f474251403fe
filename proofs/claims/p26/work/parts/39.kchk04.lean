set_option maxRecDepth 100000 in
set_option maxHeartbeats 0 in
theorem kz_N29_3 : ak_chN kz_M kz_CF kz_K kz_t29 123 kz_e29 kz_l29 3000 kz_n29_3 = true := by decide +kernel
set_option maxRecDepth 100000 in
set_option maxHeartbeats 0 in
theorem kz_N29_4 : ak_chN kz_M kz_CF kz_K kz_t29 123 kz_e29 kz_l29 3000 kz_n29_4 = true := by decide +kernel
set_option maxRecDepth 100000 in
set_option maxHeartbeats 0 in
theorem kz_E30 : ak_chS kz_K 156 kz_e30 = true ∧ ak_chE kz_M kz_CF kz_K kz_t30 156 kz_e30 kz_l30 3000 = true := by decide +kernel
set_option maxRecDepth 100000 in
set_option maxHeartbeats 0 in
theorem kz_E31 : ak_chS kz_K 172 kz_e31 = true ∧ ak_chE kz_M kz_CF kz_K kz_t31 172 kz_e31 kz_l31 3000 = true := by decide +kernel
set_option maxRecDepth 100000 in
set_option maxHeartbeats 0 in
theorem kz_N31_0 : ak_chN kz_M kz_CF kz_K kz_t31 172 kz_e31 kz_l31 3000 kz_n31_0 = true := by decide +kernel
set_option maxRecDepth 100000 in
set_option maxHeartbeats 0 in
theorem kz_N31_1 : ak_chN kz_M kz_CF kz_K kz_t31 172 kz_e31 kz_l31 3000 kz_n31_1 = true := by decide +kernel
set_option maxRecDepth 100000 in
set_option maxHeartbeats 0 in
theorem kz_N31_2 : ak_chN kz_M kz_CF kz_K kz_t31 172 kz_e31 kz_l31 3000 kz_n31_2 = true := by decide +kernel
set_option maxRecDepth 100000 in
set_option maxHeartbeats 0 in
theorem kz_N31_3 : ak_chN kz_M kz_CF kz_K kz_t31 172 kz_e31 kz_l31 3000 kz_n31_3 = true := by decide +kernel
set_option maxRecDepth 100000 in
set_option maxHeartbeats 0 in
theorem kz_N31_4 : ak_chN kz_M kz_CF kz_K kz_t31 172 kz_e31 kz_l31 3000 kz_n31_4 = true := by decide +kernel
set_option maxRecDepth 100000 in
set_option maxHeartbeats 0 in
theorem kz_E32 : ak_chS kz_K 161 kz_e32 = true ∧ ak_chE kz_M kz_CF kz_K kz_t32 161 kz_e32 kz_l32 3000 = true := by decide +kernel
set_option maxRecDepth 100000 in
set_option maxHeartbeats 0 in
theorem kz_E33 : ak_chS kz_K 142 kz_e33 = true ∧ ak_chE kz_M kz_CF kz_K kz_t33 142 kz_e33 kz_l33 3000 = true := by decide +kernel
