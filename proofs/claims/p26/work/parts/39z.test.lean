set_option maxRecDepth 100000 in
set_option maxHeartbeats 0 in
theorem kz_E0 : ak_chS kz_K 95 kz_e0 = true ∧ ak_chE kz_M kz_CF kz_K kz_t0 95 kz_e0 kz_l0 3000 = true := by decide +kernel
