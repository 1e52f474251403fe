set_option maxRecDepth 100000 in
set_option maxHeartbeats 0 in
theorem kz_N127_2 : ak_chN kz_M kz_CF kz_K kz_t127 71 kz_e127 kz_l127 3000 kz_n127_2 = true := by decide +kernel
set_option maxRecDepth 100000 in
set_option maxHeartbeats 0 in
theorem kz_N127_3 : ak_chN kz_M kz_CF kz_K kz_t127 71 kz_e127 kz_l127 3000 kz_n127_3 = true := by decide +kernel
set_option maxRecDepth 100000 in
set_option maxHeartbeats 0 in
theorem kz_N127_4 : ak_chN kz_M kz_CF kz_K kz_t127 71 kz_e127 kz_l127 3000 kz_n127_4 = true := by decide +kernel
set_option maxRecDepth 100000 in
set_option maxHeartbeats 0 in
theorem kz_N127_5 : ak_chN kz_M kz_CF kz_K kz_t127 71 kz_e127 kz_l127 3000 kz_n127_5 = true := by decide +kernel
set_option maxRecDepth 100000 in
set_option maxHeartbeats 0 in
theorem kz_N127_6 : ak_chN kz_M kz_CF kz_K kz_t127 71 kz_e127 kz_l127 3000 kz_n127_6 = true := by decide +kernel
set_option maxRecDepth 100000 in
set_option maxHeartbeats 0 in
theorem kz_N127_7 : ak_chN kz_M kz_CF kz_K kz_t127 71 kz_e127 kz_l127 3000 kz_n127_7 = true := by decide +kernel
set_option maxRecDepth 100000 in
set_option maxHeartbeats 0 in
theorem kz_N127_8 : ak_chN kz_M kz_CF kz_K kz_t127 71 kz_e127 kz_l127 3000 kz_n127_8 = true := by decide +kernel
set_option maxRecDepth 100000 in
set_option maxHeartbeats 0 in
theorem kz_N127_9 : ak_chN kz_M kz_CF kz_K kz_t127 71 kz_e127 kz_l127 3000 kz_n127_9 = true := by decide +kernel
set_option maxRecDepth 100000 in
set_option maxHeartbeats 0 in
theorem kz_N127_10 : ak_chN kz_M kz_CF kz_K kz_t127 71 kz_e127 kz_l127 3000 kz_n127_10 = true := by decide +kernel
set_option maxRecDepth 100000 in
set_option maxHeartbeats 0 in
theorem kz_N127_11 : ak_chN kz_M kz_CF kz_K kz_t127 71 kz_e127 kz_l127 3000 kz_n127_11 = true := by decide +kernel
set_option maxRecDepth 100000 in
set_option maxHeartbeats 0 in
theorem kz_N127_12 : ak_chN kz_M kz_CF kz_K kz_t127 71 kz_e127 kz_l127 3000 kz_n127_12 = true := by decide +kernel
set_option maxRecDepth 100000 in
set_option maxHeartbeats 0 in
theorem kz_N127_13 : ak_chN kz_M kz_CF kz_K kz_t127 71 kz_e127 kz_l127 3000 kz_n127_13 = true := by decide +kernel
set_option maxRecDepth 100000 in
set_option maxHeartbeats 0 in
theorem kz_N127_14 : ak_chN kz_M kz_CF kz_K kz_t127 71 kz_e127 kz_l127 3000 kz_n127_14 = true := by decide +kernel
set_option maxRecDepth 100000 in
set_option maxHeartbeats 0 in
theorem kz_N127_15 : ak_chN kz_M kz_CF kz_K kz_t127 71 kz_e127 kz_l127 3000 kz_n127_15 = true := by decide +kernel
set_option maxRecDepth 100000 in
set_option maxHeartbeats 0 in
theorem kz_N127_16 : ak_chN kz_M kz_CF kz_K kz_t127 71 kz_e127 kz_l127 3000 kz_n127_16 = true := by decide +kernel
set_option maxRecDepth 100000 in
set_option maxHeartbeats 0 in
theorem kz_N127_17 : ak_chN kz_M kz_CF kz_K kz_t127 71 kz_e127 kz_l127 3000 kz_n127_17 = true := by decide +kernel
set_option maxRecDepth 100000 in
set_option maxHeartbeats 0 in
theorem kz_N127_18 : ak_chN kz_M kz_CF kz_K kz_t127 71 kz_e127 kz_l127 3000 kz_n127_18 = true := by decide +kernel
set_option maxRecDepth 100000 in
set_option maxHeartbeats 0 in
theorem kz_N127_19 : ak_chN kz_M kz_CF kz_K kz_t127 71 kz_e127 kz_l127 3000 kz_n127_19 = true := by decide +kernel
set_option maxRecDepth 100000 in
set_option maxHeartbeats 0 in
theorem kz_N127_20 : ak_chN kz_M kz_CF kz_K kz_t127 71 kz_e127 kz_l127 3000 kz_n127_20 = true := by decide +kernel
set_option maxRecDepth 100000 in
set_option maxHeartbeats 0 in
theorem kz_E128 : ak_chS kz_K 122 kz_e128 = true ∧ ak_chE kz_M kz_CF kz_K kz_t128 122 kz_e128 kz_l128 3000 = true := by decide +kernel
set_option maxRecDepth 100000 in
set_option maxHeartbeats 0 in
theorem kz_N128_0 : ak_chN kz_M kz_CF kz_K kz_t128 122 kz_e128 kz_l128 3000 kz_n128_0 = true := by decide +kernel
set_option maxRecDepth 100000 in
set_option maxHeartbeats 0 in
theorem kz_N128_1 : ak_chN kz_M kz_CF kz_K kz_t128 122 kz_e128 kz_l128 3000 kz_n128_1 = true := by decide +kernel
set_option maxRecDepth 100000 in
set_option maxHeartbeats 0 in
theorem kz_N128_2 : ak_chN kz_M kz_CF kz_K kz_t128 122 kz_e128 kz_l128 3000 kz_n128_2 = true := by decide +kernel
set_option maxRecDepth 100000 in
set_option maxHeartbeats 0 in
theorem kz_N128_3 : ak_chN kz_M kz_CF kz_K kz_t128 122 kz_e128 kz_l128 3000 kz_n128_3 = true := by decide +kernel
set_option maxRecDepth 100000 in
set_option maxHeartbeats 0 in
theorem kz_N128_4 : ak_chN kz_M kz_CF kz_K kz_t128 122 kz_e128 kz_l128 3000 kz_n128_4 = true := by decide +kernel
set_option maxRecDepth 100000 in
set_option maxHeartbeats 0 in
theorem kz_N128_5 : ak_chN kz_M kz_CF kz_K kz_t128 122 kz_e128 kz_l128 3000 kz_n128_5 = true := by decide +kernel
set_option maxRecDepth 100000 in
set_option maxHeartbeats 0 in
theorem kz_N128_6 : ak_chN kz_M kz_CF kz_K kz_t128 122 kz_e128 kz_l128 3000 kz_n128_6 = true := by decide +kernel
set_option maxRecDepth 100000 in
set_option maxHeartbeats 0 in
theorem kz_N128_7 : ak_chN kz_M kz_CF kz_K kz_t128 122 kz_e128 kz_l128 3000 kz_n128_7 = true := by decide +kernel
set_option maxRecDepth 100000 in
set_option maxHeartbeats 0 in
theorem kz_N128_8 : ak_chN kz_M kz_CF kz_K kz_t128 122 kz_e128 kz_l128 3000 kz_n128_8 = true := by decide +kernel
set_option maxRecDepth 100000 in
set_option maxHeartbeats 0 in
theorem kz_N128_9 : ak_chN kz_M kz_CF kz_K kz_t128 122 kz_e128 kz_l128 3000 kz_n128_9 = true := by decide +kernel
set_option maxRecDepth 100000 in
set_option maxHeartbeats 0 in
theorem kz_N128_10 : ak_chN kz_M kz_CF kz_K kz_t128 122 kz_e128 kz_l128 3000 kz_n128_10 = true := by decide +kernel
set_option maxRecDepth 100000 in
set_option maxHeartbeats 0 in
theorem kz_N128_11 : ak_chN kz_M kz_CF kz_K kz_t128 122 kz_e128 kz_l128 3000 kz_n128_11 = true := by decide +kernel
set_option maxRecDepth 100000 in
set_option maxHeartbeats 0 in
theorem kz_N128_12 : ak_chN kz_M kz_CF kz_K kz_t128 122 kz_e128 kz_l128 3000 kz_n128_12 = true := by decide +kernel
set_option maxRecDepth 100000 in
set_option maxHeartbeats 0 in
theorem kz_N128_13 : ak_chN kz_M kz_CF kz_K kz_t128 122 kz_e128 kz_l128 3000 kz_n128_13 = true := by decide +kernel
set_option maxRecDepth 100000 in
set_option maxHeartbeats 0 in
theorem kz_N128_14 : ak_chN kz_M kz_CF kz_K kz_t128 122 kz_e128 kz_l128 3000 kz_n128_14 = true := by decide +kernel
set_option maxRecDepth 100000 in
set_option maxHeartbeats 0 in
theorem kz_N128_15 : ak_chN kz_M kz_CF kz_K kz_t128 122 kz_e128 kz_l128 3000 kz_n128_15 = true := by decide +kernel
set_option maxRecDepth 100000 in
set_option maxHeartbeats 0 in
theorem kz_N128_16 : ak_chN kz_M kz_CF kz_K kz_t128 122 kz_e128 kz_l128 3000 kz_n128_16 = true := by decide +kernel
set_option maxRecDepth 100000 in
set_option maxHeartbeats 0 in
theorem kz_N128_17 : ak_chN kz_M kz_CF kz_K kz_t128 122 kz_e128 kz_l128 3000 kz_n128_17 = true := by decide +kernel
set_option maxRecDepth 100000 in
set_option maxHeartbeats 0 in
theorem kz_N128_18 : ak_chN kz_M kz_CF kz_K kz_t128 122 kz_e128 kz_l128 3000 kz_n128_18 = true := by decide +kernel
set_option maxRecDepth 100000 in
set_option maxHeartbeats 0 in
theorem kz_N128_19 : ak_chN kz_M kz_CF kz_K kz_t128 122 kz_e128 kz_l128 3000 kz_n128_19 = true := by decide +kernel
set_option maxRecDepth 100000 in
set_option maxHeartbeats 0 in
theorem kz_N128_20 : ak_chN kz_M kz_CF kz_K kz_t128 122 kz_e128 kz_l128 3000 kz_n128_20 = true := by decide +kernel
set_option maxRecDepth 100000 in
set_option maxHeartbeats 0 in
theorem kz_N128_21 : ak_chN kz_M kz_CF kz_K kz_t128 122 kz_e128 kz_l128 3000 kz_n128_21 = true := by decide +kernel
set_option maxRecDepth 100000 in
set_option maxHeartbeats 0 in
theorem kz_N128_22 : ak_chN kz_M kz_CF kz_K kz_t128 122 kz_e128 kz_l128 3000 kz_n128_22 = true := by decide +kernel
set_option maxRecDepth 100000 in
set_option maxHeartbeats 0 in
theorem kz_N128_23 : ak_chN kz_M kz_CF kz_K kz_t128 122 kz_e128 kz_l128 3000 kz_n128_23 = true := by decide +kernel
set_option maxRecDepth 100000 in
set_option maxHeartbeats 0 in
theorem kz_E129 : ak_chS kz_K 21 kz_e129 = true ∧ ak_chE kz_M kz_CF kz_K kz_t129 21 kz_e129 kz_l129 3000 = true := by decide +kernel
set_option maxRecDepth 100000 in
set_option maxHeartbeats 0 in
theorem kz_N129_0 : ak_chN kz_M kz_CF kz_K kz_t129 21 kz_e129 kz_l129 3000 kz_n129_0 = true := by decide +kernel
set_option maxRecDepth 100000 in
set_option maxHeartbeats 0 in
theorem kz_E130 : ak_chS kz_K 99 kz_e130 = true ∧ ak_chE kz_M kz_CF kz_K kz_t130 99 kz_e130 kz_l130 3000 = true := by decide +kernel
set_option maxRecDepth 100000 in
set_option maxHeartbeats 0 in
theorem kz_E131 : ak_chS kz_K 171 kz_e131 = true ∧ ak_chE kz_M kz_CF kz_K kz_t131 171 kz_e131 kz_l131 3000 = true := by decide +kernel
set_option maxRecDepth 100000 in
set_option maxHeartbeats 0 in
theorem kz_N131_0 : ak_chN kz_M kz_CF kz_K kz_t131 171 kz_e131 kz_l131 3000 kz_n131_0 = true := by decide +kernel
set_option maxRecDepth 100000 in
set_option maxHeartbeats 0 in
theorem kz_N131_1 : ak_chN kz_M kz_CF kz_K kz_t131 171 kz_e131 kz_l131 3000 kz_n131_1 = true := by decide +kernel
set_option maxRecDepth 100000 in
set_option maxHeartbeats 0 in
theorem kz_N131_2 : ak_chN kz_M kz_CF kz_K kz_t131 171 kz_e131 kz_l131 3000 kz_n131_2 = true := by decide +kernel
set_option maxRecDepth 100000 in
set_option maxHeartbeats 0 in
theorem kz_N131_3 : ak_chN kz_M kz_CF kz_K kz_t131 171 kz_e131 kz_l131 3000 kz_n131_3 = true := by decide +kernel
set_option maxRecDepth 100000 in
set_option maxHeartbeats 0 in
theorem kz_N131_4 : ak_chN kz_M kz_CF kz_K kz_t131 171 kz_e131 kz_l131 3000 kz_n131_4 = true := by decide +kernel
