set_option maxRecDepth 100000 in
set_option maxHeartbeats 0 in
theorem kz_E127 : ak_chS kz_K 117 kz_e127 = true ∧ ak_chE kz_M kz_CF kz_K kz_t127 117 kz_e127 kz_l127 3000 = true := by decide +kernel
set_option maxRecDepth 100000 in
set_option maxHeartbeats 0 in
theorem kz_N127_0 : ak_chN kz_M kz_CF kz_K kz_t127 117 kz_e127 kz_l127 3000 kz_n127_0 = true := by decide +kernel
set_option maxRecDepth 100000 in
set_option maxHeartbeats 0 in
theorem kz_N127_1 : ak_chN kz_M kz_CF kz_K kz_t127 117 kz_e127 kz_l127 3000 kz_n127_1 = true := by decide +kernel
set_option maxRecDepth 100000 in
set_option maxHeartbeats 0 in
theorem kz_N127_2 : ak_chN kz_M kz_CF kz_K kz_t127 117 kz_e127 kz_l127 3000 kz_n127_2 = true := by decide +kernel
set_option maxRecDepth 100000 in
set_option maxHeartbeats 0 in
theorem kz_N127_3 : ak_chN kz_M kz_CF kz_K kz_t127 117 kz_e127 kz_l127 3000 kz_n127_3 = true := by decide +kernel
set_option maxRecDepth 100000 in
set_option maxHeartbeats 0 in
theorem kz_N127_4 : ak_chN kz_M kz_CF kz_K kz_t127 117 kz_e127 kz_l127 3000 kz_n127_4 = true := by decide +kernel
set_option maxRecDepth 100000 in
set_option maxHeartbeats 0 in
theorem kz_N127_5 : ak_chN kz_M kz_CF kz_K kz_t127 117 kz_e127 kz_l127 3000 kz_n127_5 = true := by decide +kernel
set_option maxRecDepth 100000 in
set_option maxHeartbeats 0 in
theorem kz_N127_6 : ak_chN kz_M kz_CF kz_K kz_t127 117 kz_e127 kz_l127 3000 kz_n127_6 = true := by decide +kernel
set_option maxRecDepth 100000 in
set_option maxHeartbeats 0 in
theorem kz_N127_7 : ak_chN kz_M kz_CF kz_K kz_t127 117 kz_e127 kz_l127 3000 kz_n127_7 = true := by decide +kernel
set_option maxRecDepth 100000 in
set_option maxHeartbeats 0 in
theorem kz_N127_8 : ak_chN kz_M kz_CF kz_K kz_t127 117 kz_e127 kz_l127 3000 kz_n127_8 = true := by decide +kernel
set_option maxRecDepth 100000 in
set_option maxHeartbeats 0 in
theorem kz_N127_9 : ak_chN kz_M kz_CF kz_K kz_t127 117 kz_e127 kz_l127 3000 kz_n127_9 = true := by decide +kernel
set_option maxRecDepth 100000 in
set_option maxHeartbeats 0 in
theorem kz_N127_10 : ak_chN kz_M kz_CF kz_K kz_t127 117 kz_e127 kz_l127 3000 kz_n127_10 = true := by decide +kernel
set_option maxRecDepth 100000 in
set_option maxHeartbeats 0 in
theorem kz_N127_11 : ak_chN kz_M kz_CF kz_K kz_t127 117 kz_e127 kz_l127 3000 kz_n127_11 = true := by decide +kernel
set_option maxRecDepth 100000 in
set_option maxHeartbeats 0 in
theorem kz_N127_12 : ak_chN kz_M kz_CF kz_K kz_t127 117 kz_e127 kz_l127 3000 kz_n127_12 = true := by decide +kernel
set_option maxRecDepth 100000 in
set_option maxHeartbeats 0 in
theorem kz_N127_13 : ak_chN kz_M kz_CF kz_K kz_t127 117 kz_e127 kz_l127 3000 kz_n127_13 = true := by decide +kernel
set_option maxRecDepth 100000 in
set_option maxHeartbeats 0 in
theorem kz_N127_14 : ak_chN kz_M kz_CF kz_K kz_t127 117 kz_e127 kz_l127 3000 kz_n127_14 = true := by decide +kernel
set_option maxRecDepth 100000 in
set_option maxHeartbeats 0 in
theorem kz_N127_15 : ak_chN kz_M kz_CF kz_K kz_t127 117 kz_e127 kz_l127 3000 kz_n127_15 = true := by decide +kernel
set_option maxRecDepth 100000 in
set_option maxHeartbeats 0 in
theorem kz_W128 : ak_chW kz_M kz_e128 kz_l128 = true := by decide +kernel
set_option maxRecDepth 100000 in
set_option maxHeartbeats 0 in
theorem kz_E128 : ak_chS kz_K 71 kz_e128 = true ∧ ak_chE kz_M kz_CF kz_K kz_t128 71 kz_e128 kz_l128 3000 = true := by decide +kernel
set_option maxRecDepth 100000 in
set_option maxHeartbeats 0 in
theorem kz_N128_0 : ak_chN kz_M kz_CF kz_K kz_t128 71 kz_e128 kz_l128 3000 kz_n128_0 = true := by decide +kernel
set_option maxRecDepth 100000 in
set_option maxHeartbeats 0 in
theorem kz_N128_1 : ak_chN kz_M kz_CF kz_K kz_t128 71 kz_e128 kz_l128 3000 kz_n128_1 = true := by decide +kernel
set_option maxRecDepth 100000 in
set_option maxHeartbeats 0 in
theorem kz_N128_2 : ak_chN kz_M kz_CF kz_K kz_t128 71 kz_e128 kz_l128 3000 kz_n128_2 = true := by decide +kernel
set_option maxRecDepth 100000 in
set_option maxHeartbeats 0 in
theorem kz_N128_3 : ak_chN kz_M kz_CF kz_K kz_t128 71 kz_e128 kz_l128 3000 kz_n128_3 = true := by decide +kernel
set_option maxRecDepth 100000 in
set_option maxHeartbeats 0 in
theorem kz_N128_4 : ak_chN kz_M kz_CF kz_K kz_t128 71 kz_e128 kz_l128 3000 kz_n128_4 = true := by decide +kernel
set_option maxRecDepth 100000 in
set_option maxHeartbeats 0 in
theorem kz_N128_5 : ak_chN kz_M kz_CF kz_K kz_t128 71 kz_e128 kz_l128 3000 kz_n128_5 = true := by decide +kernel
set_option maxRecDepth 100000 in
set_option maxHeartbeats 0 in
theorem kz_N128_6 : ak_chN kz_M kz_CF kz_K kz_t128 71 kz_e128 kz_l128 3000 kz_n128_6 = true := by decide +kernel
set_option maxRecDepth 100000 in
set_option maxHeartbeats 0 in
theorem kz_N128_7 : ak_chN kz_M kz_CF kz_K kz_t128 71 kz_e128 kz_l128 3000 kz_n128_7 = true := by decide +kernel
set_option maxRecDepth 100000 in
set_option maxHeartbeats 0 in
theorem kz_N128_8 : ak_chN kz_M kz_CF kz_K kz_t128 71 kz_e128 kz_l128 3000 kz_n128_8 = true := by decide +kernel
set_option maxRecDepth 100000 in
set_option maxHeartbeats 0 in
theorem kz_N128_9 : ak_chN kz_M kz_CF kz_K kz_t128 71 kz_e128 kz_l128 3000 kz_n128_9 = true := by decide +kernel
set_option maxRecDepth 100000 in
set_option maxHeartbeats 0 in
theorem kz_N128_10 : ak_chN kz_M kz_CF kz_K kz_t128 71 kz_e128 kz_l128 3000 kz_n128_10 = true := by decide +kernel
set_option maxRecDepth 100000 in
set_option maxHeartbeats 0 in
theorem kz_N128_11 : ak_chN kz_M kz_CF kz_K kz_t128 71 kz_e128 kz_l128 3000 kz_n128_11 = true := by decide +kernel
set_option maxRecDepth 100000 in
set_option maxHeartbeats 0 in
theorem kz_N128_12 : ak_chN kz_M kz_CF kz_K kz_t128 71 kz_e128 kz_l128 3000 kz_n128_12 = true := by decide +kernel
set_option maxRecDepth 100000 in
set_option maxHeartbeats 0 in
theorem kz_N128_13 : ak_chN kz_M kz_CF kz_K kz_t128 71 kz_e128 kz_l128 3000 kz_n128_13 = true := by decide +kernel
set_option maxRecDepth 100000 in
set_option maxHeartbeats 0 in
theorem kz_N128_14 : ak_chN kz_M kz_CF kz_K kz_t128 71 kz_e128 kz_l128 3000 kz_n128_14 = true := by decide +kernel
set_option maxRecDepth 100000 in
set_option maxHeartbeats 0 in
theorem kz_N128_15 : ak_chN kz_M kz_CF kz_K kz_t128 71 kz_e128 kz_l128 3000 kz_n128_15 = true := by decide +kernel
set_option maxRecDepth 100000 in
set_option maxHeartbeats 0 in
theorem kz_N128_16 : ak_chN kz_M kz_CF kz_K kz_t128 71 kz_e128 kz_l128 3000 kz_n128_16 = true := by decide +kernel
set_option maxRecDepth 100000 in
set_option maxHeartbeats 0 in
theorem kz_N128_17 : ak_chN kz_M kz_CF kz_K kz_t128 71 kz_e128 kz_l128 3000 kz_n128_17 = true := by decide +kernel
set_option maxRecDepth 100000 in
set_option maxHeartbeats 0 in
theorem kz_N128_18 : ak_chN kz_M kz_CF kz_K kz_t128 71 kz_e128 kz_l128 3000 kz_n128_18 = true := by decide +kernel
set_option maxRecDepth 100000 in
set_option maxHeartbeats 0 in
theorem kz_N128_19 : ak_chN kz_M kz_CF kz_K kz_t128 71 kz_e128 kz_l128 3000 kz_n128_19 = true := by decide +kernel
set_option maxRecDepth 100000 in
set_option maxHeartbeats 0 in
theorem kz_N128_20 : ak_chN kz_M kz_CF kz_K kz_t128 71 kz_e128 kz_l128 3000 kz_n128_20 = true := by decide +kernel
set_option maxRecDepth 100000 in
set_option maxHeartbeats 0 in
theorem kz_N128_21 : ak_chN kz_M kz_CF kz_K kz_t128 71 kz_e128 kz_l128 3000 kz_n128_21 = true := by decide +kernel
set_option maxRecDepth 100000 in
set_option maxHeartbeats 0 in
theorem kz_N128_22 : ak_chN kz_M kz_CF kz_K kz_t128 71 kz_e128 kz_l128 3000 kz_n128_22 = true := by decide +kernel
set_option maxRecDepth 100000 in
set_option maxHeartbeats 0 in
theorem kz_N128_23 : ak_chN kz_M kz_CF kz_K kz_t128 71 kz_e128 kz_l128 3000 kz_n128_23 = true := by decide +kernel
set_option maxRecDepth 100000 in
set_option maxHeartbeats 0 in
theorem kz_N128_24 : ak_chN kz_M kz_CF kz_K kz_t128 71 kz_e128 kz_l128 3000 kz_n128_24 = true := by decide +kernel
set_option maxRecDepth 100000 in
set_option maxHeartbeats 0 in
theorem kz_N128_25 : ak_chN kz_M kz_CF kz_K kz_t128 71 kz_e128 kz_l128 3000 kz_n128_25 = true := by decide +kernel
set_option maxRecDepth 100000 in
set_option maxHeartbeats 0 in
theorem kz_N128_26 : ak_chN kz_M kz_CF kz_K kz_t128 71 kz_e128 kz_l128 3000 kz_n128_26 = true := by decide +kernel
set_option maxRecDepth 100000 in
set_option maxHeartbeats 0 in
theorem kz_N128_27 : ak_chN kz_M kz_CF kz_K kz_t128 71 kz_e128 kz_l128 3000 kz_n128_27 = true := by decide +kernel
set_option maxRecDepth 100000 in
set_option maxHeartbeats 0 in
theorem kz_N128_28 : ak_chN kz_M kz_CF kz_K kz_t128 71 kz_e128 kz_l128 3000 kz_n128_28 = true := by decide +kernel
set_option maxRecDepth 100000 in
set_option maxHeartbeats 0 in
theorem kz_N128_29 : ak_chN kz_M kz_CF kz_K kz_t128 71 kz_e128 kz_l128 3000 kz_n128_29 = true := by decide +kernel
set_option maxRecDepth 100000 in
set_option maxHeartbeats 0 in
theorem kz_N128_30 : ak_chN kz_M kz_CF kz_K kz_t128 71 kz_e128 kz_l128 3000 kz_n128_30 = true := by decide +kernel
set_option maxRecDepth 100000 in
set_option maxHeartbeats 0 in
theorem kz_N128_31 : ak_chN kz_M kz_CF kz_K kz_t128 71 kz_e128 kz_l128 3000 kz_n128_31 = true := by decide +kernel
set_option maxRecDepth 100000 in
set_option maxHeartbeats 0 in
theorem kz_N128_32 : ak_chN kz_M kz_CF kz_K kz_t128 71 kz_e128 kz_l128 3000 kz_n128_32 = true := by decide +kernel
set_option maxRecDepth 100000 in
set_option maxHeartbeats 0 in
theorem kz_N128_33 : ak_chN kz_M kz_CF kz_K kz_t128 71 kz_e128 kz_l128 3000 kz_n128_33 = true := by decide +kernel
set_option maxRecDepth 100000 in
set_option maxHeartbeats 0 in
theorem kz_N128_34 : ak_chN kz_M kz_CF kz_K kz_t128 71 kz_e128 kz_l128 3000 kz_n128_34 = true := by decide +kernel
set_option maxRecDepth 100000 in
set_option maxHeartbeats 0 in
theorem kz_N128_35 : ak_chN kz_M kz_CF kz_K kz_t128 71 kz_e128 kz_l128 3000 kz_n128_35 = true := by decide +kernel
set_option maxRecDepth 100000 in
set_option maxHeartbeats 0 in
theorem kz_N128_36 : ak_chN kz_M kz_CF kz_K kz_t128 71 kz_e128 kz_l128 3000 kz_n128_36 = true := by decide +kernel
set_option maxRecDepth 100000 in
set_option maxHeartbeats 0 in
theorem kz_N128_37 : ak_chN kz_M kz_CF kz_K kz_t128 71 kz_e128 kz_l128 3000 kz_n128_37 = true := by decide +kernel
set_option maxRecDepth 100000 in
set_option maxHeartbeats 0 in
theorem kz_N128_38 : ak_chN kz_M kz_CF kz_K kz_t128 71 kz_e128 kz_l128 3000 kz_n128_38 = true := by decide +kernel
set_option maxRecDepth 100000 in
set_option maxHeartbeats 0 in
theorem kz_N128_39 : ak_chN kz_M kz_CF kz_K kz_t128 71 kz_e128 kz_l128 3000 kz_n128_39 = true := by decide +kernel
set_option maxRecDepth 100000 in
set_option maxHeartbeats 0 in
theorem kz_N128_40 : ak_chN kz_M kz_CF kz_K kz_t128 71 kz_e128 kz_l128 3000 kz_n128_40 = true := by decide +kernel
set_option maxRecDepth 100000 in
set_option maxHeartbeats 0 in
theorem kz_N128_41 : ak_chN kz_M kz_CF kz_K kz_t128 71 kz_e128 kz_l128 3000 kz_n128_41 = true := by decide +kernel
set_option maxRecDepth 100000 in
set_option maxHeartbeats 0 in
theorem kz_W129 : ak_chW kz_M kz_e129 kz_l129 = true := by decide +kernel
set_option maxRecDepth 100000 in
set_option maxHeartbeats 0 in
theorem kz_E129 : ak_chS kz_K 122 kz_e129 = true ∧ ak_chE kz_M kz_CF kz_K kz_t129 122 kz_e129 kz_l129 3000 = true := by decide +kernel
set_option maxRecDepth 100000 in
set_option maxHeartbeats 0 in
theorem kz_N129_0 : ak_chN kz_M kz_CF kz_K kz_t129 122 kz_e129 kz_l129 3000 kz_n129_0 = true := by decide +kernel
set_option maxRecDepth 100000 in
set_option maxHeartbeats 0 in
theorem kz_N129_1 : ak_chN kz_M kz_CF kz_K kz_t129 122 kz_e129 kz_l129 3000 kz_n129_1 = true := by decide +kernel
set_option maxRecDepth 100000 in
set_option maxHeartbeats 0 in
theorem kz_N129_2 : ak_chN kz_M kz_CF kz_K kz_t129 122 kz_e129 kz_l129 3000 kz_n129_2 = true := by decide +kernel
set_option maxRecDepth 100000 in
set_option maxHeartbeats 0 in
theorem kz_N129_3 : ak_chN kz_M kz_CF kz_K kz_t129 122 kz_e129 kz_l129 3000 kz_n129_3 = true := by decide +kernel
set_option maxRecDepth 100000 in
set_option maxHeartbeats 0 in
theorem kz_N129_4 : ak_chN kz_M kz_CF kz_K kz_t129 122 kz_e129 kz_l129 3000 kz_n129_4 = true := by decide +kernel
set_option maxRecDepth 100000 in
set_option maxHeartbeats 0 in
theorem kz_N129_5 : ak_chN kz_M kz_CF kz_K kz_t129 122 kz_e129 kz_l129 3000 kz_n129_5 = true := by decide +kernel
set_option maxRecDepth 100000 in
set_option maxHeartbeats 0 in
theorem kz_N129_6 : ak_chN kz_M kz_CF kz_K kz_t129 122 kz_e129 kz_l129 3000 kz_n129_6 = true := by decide +kernel
set_option maxRecDepth 100000 in
set_option maxHeartbeats 0 in
theorem kz_N129_7 : ak_chN kz_M kz_CF kz_K kz_t129 122 kz_e129 kz_l129 3000 kz_n129_7 = true := by decide +kernel
set_option maxRecDepth 100000 in
set_option maxHeartbeats 0 in
theorem kz_N129_8 : ak_chN kz_M kz_CF kz_K kz_t129 122 kz_e129 kz_l129 3000 kz_n129_8 = true := by decide +kernel
set_option maxRecDepth 100000 in
set_option maxHeartbeats 0 in
theorem kz_N129_9 : ak_chN kz_M kz_CF kz_K kz_t129 122 kz_e129 kz_l129 3000 kz_n129_9 = true := by decide +kernel
set_option maxRecDepth 100000 in
set_option maxHeartbeats 0 in
theorem kz_N129_10 : ak_chN kz_M kz_CF kz_K kz_t129 122 kz_e129 kz_l129 3000 kz_n129_10 = true := by decide +kernel
set_option maxRecDepth 100000 in
set_option maxHeartbeats 0 in
theorem kz_N129_11 : ak_chN kz_M kz_CF kz_K kz_t129 122 kz_e129 kz_l129 3000 kz_n129_11 = true := by decide +kernel
set_option maxRecDepth 100000 in
set_option maxHeartbeats 0 in
theorem kz_N129_12 : ak_chN kz_M kz_CF kz_K kz_t129 122 kz_e129 kz_l129 3000 kz_n129_12 = true := by decide +kernel
set_option maxRecDepth 100000 in
set_option maxHeartbeats 0 in
theorem kz_N129_13 : ak_chN kz_M kz_CF kz_K kz_t129 122 kz_e129 kz_l129 3000 kz_n129_13 = true := by decide +kernel
set_option maxRecDepth 100000 in
set_option maxHeartbeats 0 in
theorem kz_N129_14 : ak_chN kz_M kz_CF kz_K kz_t129 122 kz_e129 kz_l129 3000 kz_n129_14 = true := by decide +kernel
set_option maxRecDepth 100000 in
set_option maxHeartbeats 0 in
theorem kz_N129_15 : ak_chN kz_M kz_CF kz_K kz_t129 122 kz_e129 kz_l129 3000 kz_n129_15 = true := by decide +kernel
set_option maxRecDepth 100000 in
set_option maxHeartbeats 0 in
theorem kz_N129_16 : ak_chN kz_M kz_CF kz_K kz_t129 122 kz_e129 kz_l129 3000 kz_n129_16 = true := by decide +kernel
set_option maxRecDepth 100000 in
set_option maxHeartbeats 0 in
theorem kz_N129_17 : ak_chN kz_M kz_CF kz_K kz_t129 122 kz_e129 kz_l129 3000 kz_n129_17 = true := by decide +kernel
set_option maxRecDepth 100000 in
set_option maxHeartbeats 0 in
theorem kz_N129_18 : ak_chN kz_M kz_CF kz_K kz_t129 122 kz_e129 kz_l129 3000 kz_n129_18 = true := by decide +kernel
set_option maxRecDepth 100000 in
set_option maxHeartbeats 0 in
theorem kz_N129_19 : ak_chN kz_M kz_CF kz_K kz_t129 122 kz_e129 kz_l129 3000 kz_n129_19 = true := by decide +kernel
set_option maxRecDepth 100000 in
set_option maxHeartbeats 0 in
theorem kz_N129_20 : ak_chN kz_M kz_CF kz_K kz_t129 122 kz_e129 kz_l129 3000 kz_n129_20 = true := by decide +kernel
set_option maxRecDepth 100000 in
set_option maxHeartbeats 0 in
theorem kz_N129_21 : ak_chN kz_M kz_CF kz_K kz_t129 122 kz_e129 kz_l129 3000 kz_n129_21 = true := by decide +kernel
set_option maxRecDepth 100000 in
set_option maxHeartbeats 0 in
theorem kz_N129_22 : ak_chN kz_M kz_CF kz_K kz_t129 122 kz_e129 kz_l129 3000 kz_n129_22 = true := by decide +kernel
set_option maxRecDepth 100000 in
set_option maxHeartbeats 0 in
theorem kz_N129_23 : ak_chN kz_M kz_CF kz_K kz_t129 122 kz_e129 kz_l129 3000 kz_n129_23 = true := by decide +kernel
set_option maxRecDepth 100000 in
set_option maxHeartbeats 0 in
theorem kz_W130 : ak_chW kz_M kz_e130 kz_l130 = true := by decide +kernel
set_option maxRecDepth 100000 in
set_option maxHeartbeats 0 in
theorem kz_E130 : ak_chS kz_K 21 kz_e130 = true ∧ ak_chE kz_M kz_CF kz_K kz_t130 21 kz_e130 kz_l130 3000 = true := by decide +kernel
set_option maxRecDepth 100000 in
set_option maxHeartbeats 0 in
theorem kz_N130_0 : ak_chN kz_M kz_CF kz_K kz_t130 21 kz_e130 kz_l130 3000 kz_n130_0 = true := by decide +kernel
set_option maxRecDepth 100000 in
set_option maxHeartbeats 0 in
theorem kz_W131 : ak_chW kz_M kz_e131 kz_l131 = true := by decide +kernel
set_option maxRecDepth 100000 in
set_option maxHeartbeats 0 in
theorem kz_E131 : ak_chS kz_K 99 kz_e131 = true ∧ ak_chE kz_M kz_CF kz_K kz_t131 99 kz_e131 kz_l131 3000 = true := by decide +kernel
set_option maxRecDepth 100000 in
set_option maxHeartbeats 0 in
theorem kz_W132 : ak_chW kz_M kz_e132 kz_l132 = true := by decide +kernel
set_option maxRecDepth 100000 in
set_option maxHeartbeats 0 in
theorem kz_E132 : ak_chS kz_K 171 kz_e132 = true ∧ ak_chE kz_M kz_CF kz_K kz_t132 171 kz_e132 kz_l132 3000 = true := by decide +kernel
set_option maxRecDepth 100000 in
set_option maxHeartbeats 0 in
theorem kz_N132_0 : ak_chN kz_M kz_CF kz_K kz_t132 171 kz_e132 kz_l132 3000 kz_n132_0 = true := by decide +kernel
set_option maxRecDepth 100000 in
set_option maxHeartbeats 0 in
theorem kz_N132_1 : ak_chN kz_M kz_CF kz_K kz_t132 171 kz_e132 kz_l132 3000 kz_n132_1 = true := by decide +kernel
set_option maxRecDepth 100000 in
set_option maxHeartbeats 0 in
theorem kz_N132_2 : ak_chN kz_M kz_CF kz_K kz_t132 171 kz_e132 kz_l132 3000 kz_n132_2 = true := by decide +kernel
set_option maxRecDepth 100000 in
set_option maxHeartbeats 0 in
theorem kz_N132_3 : ak_chN kz_M kz_CF kz_K kz_t132 171 kz_e132 kz_l132 3000 kz_n132_3 = true := by decide +kernel
set_option maxRecDepth 100000 in
set_option maxHeartbeats 0 in
theorem kz_N132_4 : ak_chN kz_M kz_CF kz_K kz_t132 171 kz_e132 kz_l132 3000 kz_n132_4 = true := by decide +kernel
