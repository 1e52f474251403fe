set_option maxRecDepth 100000 in
set_option maxHeartbeats 0 in
theorem kz_E5 : ak_chS kz_K 10 kz_e5 = true ∧ ak_chE kz_M kz_CF kz_K kz_t5 10 kz_e5 kz_l5 3000 = true := by decide +kernel
set_option maxRecDepth 100000 in
set_option maxHeartbeats 0 in
theorem kz_N5_0 : ak_chN kz_M kz_CF kz_K kz_t5 10 kz_e5 kz_l5 3000 kz_n5_0 = true := by decide +kernel
set_option maxRecDepth 100000 in
set_option maxHeartbeats 0 in
theorem kz_E12 : ak_chS kz_K 54 kz_e12 = true ∧ ak_chE kz_M kz_CF kz_K kz_t12 54 kz_e12 kz_l12 3000 = true := by decide +kernel
set_option maxRecDepth 100000 in
set_option maxHeartbeats 0 in
theorem kz_N12_0 : ak_chN kz_M kz_CF kz_K kz_t12 54 kz_e12 kz_l12 3000 kz_n12_0 = true := by decide +kernel
set_option maxRecDepth 100000 in
set_option maxHeartbeats 0 in
theorem kz_E40 : ak_chS kz_K 102 kz_e40 = true ∧ ak_chE kz_M kz_CF kz_K kz_t40 102 kz_e40 kz_l40 3000 = true := by decide +kernel
set_option maxRecDepth 100000 in
set_option maxHeartbeats 0 in
theorem kz_E112 : ak_chS kz_K 77 kz_e112 = true ∧ ak_chE kz_M kz_CF kz_K kz_t112 77 kz_e112 kz_l112 3000 = true := by decide +kernel
set_option maxRecDepth 100000 in
set_option maxHeartbeats 0 in
theorem kz_N112_0 : ak_chN kz_M kz_CF kz_K kz_t112 77 kz_e112 kz_l112 3000 kz_n112_0 = true := by decide +kernel
