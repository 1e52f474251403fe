set_option maxRecDepth 100000 in
set_option maxHeartbeats 0 in
theorem kz_W92 : ak_chW kz_M kz_e92 kz_l92 = true := by decide +kernel
set_option maxRecDepth 100000 in
set_option maxHeartbeats 0 in
theorem kz_E92 : ak_chS kz_K 8 kz_e92 = true ∧ ak_chE kz_M kz_CF kz_K kz_t92 8 kz_e92 kz_l92 3000 = true := by decide +kernel
set_option maxRecDepth 100000 in
set_option maxHeartbeats 0 in
theorem kz_W93 : ak_chW kz_M kz_e93 kz_l93 = true := by decide +kernel
set_option maxRecDepth 100000 in
set_option maxHeartbeats 0 in
theorem kz_E93 : ak_chS kz_K 18 kz_e93 = true ∧ ak_chE kz_M kz_CF kz_K kz_t93 18 kz_e93 kz_l93 3000 = true := by decide +kernel
set_option maxRecDepth 100000 in
set_option maxHeartbeats 0 in
theorem kz_N93_0 : ak_chN kz_M kz_CF kz_K kz_t93 18 kz_e93 kz_l93 3000 kz_n93_0 = true := by decide +kernel
set_option maxRecDepth 100000 in
set_option maxHeartbeats 0 in
theorem kz_N93_1 : ak_chN kz_M kz_CF kz_K kz_t93 18 kz_e93 kz_l93 3000 kz_n93_1 = true := by decide +kernel
set_option maxRecDepth 100000 in
set_option maxHeartbeats 0 in
theorem kz_N93_2 : ak_chN kz_M kz_CF kz_K kz_t93 18 kz_e93 kz_l93 3000 kz_n93_2 = true := by decide +kernel
set_option maxRecDepth 100000 in
set_option maxHeartbeats 0 in
theorem kz_N93_3 : ak_chN kz_M kz_CF kz_K kz_t93 18 kz_e93 kz_l93 3000 kz_n93_3 = true := by decide +kernel
set_option maxRecDepth 100000 in
set_option maxHeartbeats 0 in
theorem kz_N93_4 : ak_chN kz_M kz_CF kz_K kz_t93 18 kz_e93 kz_l93 3000 kz_n93_4 = true := by decide +kernel
set_option maxRecDepth 100000 in
set_option maxHeartbeats 0 in
theorem kz_N93_5 : ak_chN kz_M kz_CF kz_K kz_t93 18 kz_e93 kz_l93 3000 kz_n93_5 = true := by decide +kernel
set_option maxRecDepth 100000 in
set_option maxHeartbeats 0 in
theorem kz_N93_6 : ak_chN kz_M kz_CF kz_K kz_t93 18 kz_e93 kz_l93 3000 kz_n93_6 = true := by decide +kernel
set_option maxRecDepth 100000 in
set_option maxHeartbeats 0 in
theorem kz_N93_7 : ak_chN kz_M kz_CF kz_K kz_t93 18 kz_e93 kz_l93 3000 kz_n93_7 = true := by decide +kernel
set_option maxRecDepth 100000 in
set_option maxHeartbeats 0 in
theorem kz_N93_8 : ak_chN kz_M kz_CF kz_K kz_t93 18 kz_e93 kz_l93 3000 kz_n93_8 = true := by decide +kernel
set_option maxRecDepth 100000 in
set_option maxHeartbeats 0 in
theorem kz_N93_9 : ak_chN kz_M kz_CF kz_K kz_t93 18 kz_e93 kz_l93 3000 kz_n93_9 = true := by decide +kernel
set_option maxRecDepth 100000 in
set_option maxHeartbeats 0 in
theorem kz_N93_10 : ak_chN kz_M kz_CF kz_K kz_t93 18 kz_e93 kz_l93 3000 kz_n93_10 = true := by decide +kernel
set_option maxRecDepth 100000 in
set_option maxHeartbeats 0 in
theorem kz_N93_11 : ak_chN kz_M kz_CF kz_K kz_t93 18 kz_e93 kz_l93 3000 kz_n93_11 = true := by decide +kernel
set_option maxRecDepth 100000 in
set_option maxHeartbeats 0 in
theorem kz_N93_12 : ak_chN kz_M kz_CF kz_K kz_t93 18 kz_e93 kz_l93 3000 kz_n93_12 = true := by decide +kernel
set_option maxRecDepth 100000 in
set_option maxHeartbeats 0 in
theorem kz_N93_13 : ak_chN kz_M kz_CF kz_K kz_t93 18 kz_e93 kz_l93 3000 kz_n93_13 = true := by decide +kernel
set_option maxRecDepth 100000 in
set_option maxHeartbeats 0 in
theorem kz_N93_14 : ak_chN kz_M kz_CF kz_K kz_t93 18 kz_e93 kz_l93 3000 kz_n93_14 = true := by decide +kernel
set_option maxRecDepth 100000 in
set_option maxHeartbeats 0 in
theorem kz_N93_15 : ak_chN kz_M kz_CF kz_K kz_t93 18 kz_e93 kz_l93 3000 kz_n93_15 = true := by decide +kernel
set_option maxRecDepth 100000 in
set_option maxHeartbeats 0 in
theorem kz_N93_16 : ak_chN kz_M kz_CF kz_K kz_t93 18 kz_e93 kz_l93 3000 kz_n93_16 = true := by decide +kernel
set_option maxRecDepth 100000 in
set_option maxHeartbeats 0 in
theorem kz_W94 : ak_chW kz_M kz_e94 kz_l94 = true := by decide +kernel
set_option maxRecDepth 100000 in
set_option maxHeartbeats 0 in
theorem kz_E94 : ak_chS kz_K 66 kz_e94 = true ∧ ak_chE kz_M kz_CF kz_K kz_t94 66 kz_e94 kz_l94 3000 = true := by decide +kernel
set_option maxRecDepth 100000 in
set_option maxHeartbeats 0 in
theorem kz_N94_0 : ak_chN kz_M kz_CF kz_K kz_t94 66 kz_e94 kz_l94 3000 kz_n94_0 = true := by decide +kernel
set_option maxRecDepth 100000 in
set_option maxHeartbeats 0 in
theorem kz_N94_1 : ak_chN kz_M kz_CF kz_K kz_t94 66 kz_e94 kz_l94 3000 kz_n94_1 = true := by decide +kernel
set_option maxRecDepth 100000 in
set_option maxHeartbeats 0 in
theorem kz_N94_2 : ak_chN kz_M kz_CF kz_K kz_t94 66 kz_e94 kz_l94 3000 kz_n94_2 = true := by decide +kernel
set_option maxRecDepth 100000 in
set_option maxHeartbeats 0 in
theorem kz_N94_3 : ak_chN kz_M kz_CF kz_K kz_t94 66 kz_e94 kz_l94 3000 kz_n94_3 = true := by decide +kernel
set_option maxRecDepth 100000 in
set_option maxHeartbeats 0 in
theorem kz_N94_4 : ak_chN kz_M kz_CF kz_K kz_t94 66 kz_e94 kz_l94 3000 kz_n94_4 = true := by decide +kernel
set_option maxRecDepth 100000 in
set_option maxHeartbeats 0 in
theorem kz_N94_5 : ak_chN kz_M kz_CF kz_K kz_t94 66 kz_e94 kz_l94 3000 kz_n94_5 = true := by decide +kernel
set_option maxRecDepth 100000 in
set_option maxHeartbeats 0 in
theorem kz_N94_6 : ak_chN kz_M kz_CF kz_K kz_t94 66 kz_e94 kz_l94 3000 kz_n94_6 = true := by decide +kernel
set_option maxRecDepth 100000 in
set_option maxHeartbeats 0 in
theorem kz_N94_7 : ak_chN kz_M kz_CF kz_K kz_t94 66 kz_e94 kz_l94 3000 kz_n94_7 = true := by decide +kernel
set_option maxRecDepth 100000 in
set_option maxHeartbeats 0 in
theorem kz_N94_8 : ak_chN kz_M kz_CF kz_K kz_t94 66 kz_e94 kz_l94 3000 kz_n94_8 = true := by decide +kernel
set_option maxRecDepth 100000 in
set_option maxHeartbeats 0 in
theorem kz_N94_9 : ak_chN kz_M kz_CF kz_K kz_t94 66 kz_e94 kz_l94 3000 kz_n94_9 = true := by decide +kernel
set_option maxRecDepth 100000 in
set_option maxHeartbeats 0 in
theorem kz_N94_10 : ak_chN kz_M kz_CF kz_K kz_t94 66 kz_e94 kz_l94 3000 kz_n94_10 = true := by decide +kernel
set_option maxRecDepth 100000 in
set_option maxHeartbeats 0 in
theorem kz_N94_11 : ak_chN kz_M kz_CF kz_K kz_t94 66 kz_e94 kz_l94 3000 kz_n94_11 = true := by decide +kernel
set_option maxRecDepth 100000 in
set_option maxHeartbeats 0 in
theorem kz_N94_12 : ak_chN kz_M kz_CF kz_K kz_t94 66 kz_e94 kz_l94 3000 kz_n94_12 = true := by decide +kernel
set_option maxRecDepth 100000 in
set_option maxHeartbeats 0 in
theorem kz_N94_13 : ak_chN kz_M kz_CF kz_K kz_t94 66 kz_e94 kz_l94 3000 kz_n94_13 = true := by decide +kernel
set_option maxRecDepth 100000 in
set_option maxHeartbeats 0 in
theorem kz_N94_14 : ak_chN kz_M kz_CF kz_K kz_t94 66 kz_e94 kz_l94 3000 kz_n94_14 = true := by decide +kernel
set_option maxRecDepth 100000 in
set_option maxHeartbeats 0 in
theorem kz_N94_15 : ak_chN kz_M kz_CF kz_K kz_t94 66 kz_e94 kz_l94 3000 kz_n94_15 = true := by decide +kernel
set_option maxRecDepth 100000 in
set_option maxHeartbeats 0 in
theorem kz_N94_16 : ak_chN kz_M kz_CF kz_K kz_t94 66 kz_e94 kz_l94 3000 kz_n94_16 = true := by decide +kernel
set_option maxRecDepth 100000 in
set_option maxHeartbeats 0 in
theorem kz_N94_17 : ak_chN kz_M kz_CF kz_K kz_t94 66 kz_e94 kz_l94 3000 kz_n94_17 = true := by decide +kernel
set_option maxRecDepth 100000 in
set_option maxHeartbeats 0 in
theorem kz_N94_18 : ak_chN kz_M kz_CF kz_K kz_t94 66 kz_e94 kz_l94 3000 kz_n94_18 = true := by decide +kernel
set_option maxRecDepth 100000 in
set_option maxHeartbeats 0 in
theorem kz_N94_19 : ak_chN kz_M kz_CF kz_K kz_t94 66 kz_e94 kz_l94 3000 kz_n94_19 = true := by decide +kernel
set_option maxRecDepth 100000 in
set_option maxHeartbeats 0 in
theorem kz_N94_20 : ak_chN kz_M kz_CF kz_K kz_t94 66 kz_e94 kz_l94 3000 kz_n94_20 = true := by decide +kernel
set_option maxRecDepth 100000 in
set_option maxHeartbeats 0 in
theorem kz_N94_21 : ak_chN kz_M kz_CF kz_K kz_t94 66 kz_e94 kz_l94 3000 kz_n94_21 = true := by decide +kernel
set_option maxRecDepth 100000 in
set_option maxHeartbeats 0 in
theorem kz_N94_22 : ak_chN kz_M kz_CF kz_K kz_t94 66 kz_e94 kz_l94 3000 kz_n94_22 = true := by decide +kernel
set_option maxRecDepth 100000 in
set_option maxHeartbeats 0 in
theorem kz_N94_23 : ak_chN kz_M kz_CF kz_K kz_t94 66 kz_e94 kz_l94 3000 kz_n94_23 = true := by decide +kernel
set_option maxRecDepth 100000 in
set_option maxHeartbeats 0 in
theorem kz_N94_24 : ak_chN kz_M kz_CF kz_K kz_t94 66 kz_e94 kz_l94 3000 kz_n94_24 = true := by decide +kernel
set_option maxRecDepth 100000 in
set_option maxHeartbeats 0 in
theorem kz_N94_25 : ak_chN kz_M kz_CF kz_K kz_t94 66 kz_e94 kz_l94 3000 kz_n94_25 = true := by decide +kernel
set_option maxRecDepth 100000 in
set_option maxHeartbeats 0 in
theorem kz_N94_26 : ak_chN kz_M kz_CF kz_K kz_t94 66 kz_e94 kz_l94 3000 kz_n94_26 = true := by decide +kernel
set_option maxRecDepth 100000 in
set_option maxHeartbeats 0 in
theorem kz_N94_27 : ak_chN kz_M kz_CF kz_K kz_t94 66 kz_e94 kz_l94 3000 kz_n94_27 = true := by decide +kernel
set_option maxRecDepth 100000 in
set_option maxHeartbeats 0 in
theorem kz_N94_28 : ak_chN kz_M kz_CF kz_K kz_t94 66 kz_e94 kz_l94 3000 kz_n94_28 = true := by decide +kernel
set_option maxRecDepth 100000 in
set_option maxHeartbeats 0 in
theorem kz_N94_29 : ak_chN kz_M kz_CF kz_K kz_t94 66 kz_e94 kz_l94 3000 kz_n94_29 = true := by decide +kernel
set_option maxRecDepth 100000 in
set_option maxHeartbeats 0 in
theorem kz_N94_30 : ak_chN kz_M kz_CF kz_K kz_t94 66 kz_e94 kz_l94 3000 kz_n94_30 = true := by decide +kernel
set_option maxRecDepth 100000 in
set_option maxHeartbeats 0 in
theorem kz_W95 : ak_chW kz_M kz_e95 kz_l95 = true := by decide +kernel
set_option maxRecDepth 100000 in
set_option maxHeartbeats 0 in
theorem kz_E95 : ak_chS kz_K 116 kz_e95 = true ∧ ak_chE kz_M kz_CF kz_K kz_t95 116 kz_e95 kz_l95 3000 = true := by decide +kernel
set_option maxRecDepth 100000 in
set_option maxHeartbeats 0 in
theorem kz_N95_0 : ak_chN kz_M kz_CF kz_K kz_t95 116 kz_e95 kz_l95 3000 kz_n95_0 = true := by decide +kernel
set_option maxRecDepth 100000 in
set_option maxHeartbeats 0 in
theorem kz_N95_1 : ak_chN kz_M kz_CF kz_K kz_t95 116 kz_e95 kz_l95 3000 kz_n95_1 = true := by decide +kernel
set_option maxRecDepth 100000 in
set_option maxHeartbeats 0 in
theorem kz_N95_2 : ak_chN kz_M kz_CF kz_K kz_t95 116 kz_e95 kz_l95 3000 kz_n95_2 = true := by decide +kernel
set_option maxRecDepth 100000 in
set_option maxHeartbeats 0 in
theorem kz_N95_3 : ak_chN kz_M kz_CF kz_K kz_t95 116 kz_e95 kz_l95 3000 kz_n95_3 = true := by decide +kernel
set_option maxRecDepth 100000 in
set_option maxHeartbeats 0 in
theorem kz_N95_4 : ak_chN kz_M kz_CF kz_K kz_t95 116 kz_e95 kz_l95 3000 kz_n95_4 = true := by decide +kernel
set_option maxRecDepth 100000 in
set_option maxHeartbeats 0 in
theorem kz_N95_5 : ak_chN kz_M kz_CF kz_K kz_t95 116 kz_e95 kz_l95 3000 kz_n95_5 = true := by decide +kernel
set_option maxRecDepth 100000 in
set_option maxHeartbeats 0 in
theorem kz_N95_6 : ak_chN kz_M kz_CF kz_K kz_t95 116 kz_e95 kz_l95 3000 kz_n95_6 = true := by decide +kernel
set_option maxRecDepth 100000 in
set_option maxHeartbeats 0 in
theorem kz_N95_7 : ak_chN kz_M kz_CF kz_K kz_t95 116 kz_e95 kz_l95 3000 kz_n95_7 = true := by decide +kernel
set_option maxRecDepth 100000 in
set_option maxHeartbeats 0 in
theorem kz_N95_8 : ak_chN kz_M kz_CF kz_K kz_t95 116 kz_e95 kz_l95 3000 kz_n95_8 = true := by decide +kernel
set_option maxRecDepth 100000 in
set_option maxHeartbeats 0 in
theorem kz_N95_9 : ak_chN kz_M kz_CF kz_K kz_t95 116 kz_e95 kz_l95 3000 kz_n95_9 = true := by decide +kernel
set_option maxRecDepth 100000 in
set_option maxHeartbeats 0 in
theorem kz_N95_10 : ak_chN kz_M kz_CF kz_K kz_t95 116 kz_e95 kz_l95 3000 kz_n95_10 = true := by decide +kernel
set_option maxRecDepth 100000 in
set_option maxHeartbeats 0 in
theorem kz_N95_11 : ak_chN kz_M kz_CF kz_K kz_t95 116 kz_e95 kz_l95 3000 kz_n95_11 = true := by decide +kernel
set_option maxRecDepth 100000 in
set_option maxHeartbeats 0 in
theorem kz_N95_12 : ak_chN kz_M kz_CF kz_K kz_t95 116 kz_e95 kz_l95 3000 kz_n95_12 = true := by decide +kernel
set_option maxRecDepth 100000 in
set_option maxHeartbeats 0 in
theorem kz_N95_13 : ak_chN kz_M kz_CF kz_K kz_t95 116 kz_e95 kz_l95 3000 kz_n95_13 = true := by decide +kernel
set_option maxRecDepth 100000 in
set_option maxHeartbeats 0 in
theorem kz_N95_14 : ak_chN kz_M kz_CF kz_K kz_t95 116 kz_e95 kz_l95 3000 kz_n95_14 = true := by decide +kernel
set_option maxRecDepth 100000 in
set_option maxHeartbeats 0 in
theorem kz_N95_15 : ak_chN kz_M kz_CF kz_K kz_t95 116 kz_e95 kz_l95 3000 kz_n95_15 = true := by decide +kernel
set_option maxRecDepth 100000 in
set_option maxHeartbeats 0 in
theorem kz_N95_16 : ak_chN kz_M kz_CF kz_K kz_t95 116 kz_e95 kz_l95 3000 kz_n95_16 = true := by decide +kernel
set_option maxRecDepth 100000 in
set_option maxHeartbeats 0 in
theorem kz_N95_17 : ak_chN kz_M kz_CF kz_K kz_t95 116 kz_e95 kz_l95 3000 kz_n95_17 = true := by decide +kernel
set_option maxRecDepth 100000 in
set_option maxHeartbeats 0 in
theorem kz_N95_18 : ak_chN kz_M kz_CF kz_K kz_t95 116 kz_e95 kz_l95 3000 kz_n95_18 = true := by decide +kernel
set_option maxRecDepth 100000 in
set_option maxHeartbeats 0 in
theorem kz_N95_19 : ak_chN kz_M kz_CF kz_K kz_t95 116 kz_e95 kz_l95 3000 kz_n95_19 = true := by decide +kernel
set_option maxRecDepth 100000 in
set_option maxHeartbeats 0 in
theorem kz_N95_20 : ak_chN kz_M kz_CF kz_K kz_t95 116 kz_e95 kz_l95 3000 kz_n95_20 = true := by decide +kernel
set_option maxRecDepth 100000 in
set_option maxHeartbeats 0 in
theorem kz_N95_21 : ak_chN kz_M kz_CF kz_K kz_t95 116 kz_e95 kz_l95 3000 kz_n95_21 = true := by decide +kernel
set_option maxRecDepth 100000 in
set_option maxHeartbeats 0 in
theorem kz_N95_22 : ak_chN kz_M kz_CF kz_K kz_t95 116 kz_e95 kz_l95 3000 kz_n95_22 = true := by decide +kernel
set_option maxRecDepth 100000 in
set_option maxHeartbeats 0 in
theorem kz_N95_23 : ak_chN kz_M kz_CF kz_K kz_t95 116 kz_e95 kz_l95 3000 kz_n95_23 = true := by decide +kernel
set_option maxRecDepth 100000 in
set_option maxHeartbeats 0 in
theorem kz_N95_24 : ak_chN kz_M kz_CF kz_K kz_t95 116 kz_e95 kz_l95 3000 kz_n95_24 = true := by decide +kernel
set_option maxRecDepth 100000 in
set_option maxHeartbeats 0 in
theorem kz_N95_25 : ak_chN kz_M kz_CF kz_K kz_t95 116 kz_e95 kz_l95 3000 kz_n95_25 = true := by decide +kernel
set_option maxRecDepth 100000 in
set_option maxHeartbeats 0 in
theorem kz_N95_26 : ak_chN kz_M kz_CF kz_K kz_t95 116 kz_e95 kz_l95 3000 kz_n95_26 = true := by decide +kernel
set_option maxRecDepth 100000 in
set_option maxHeartbeats 0 in
theorem kz_N95_27 : ak_chN kz_M kz_CF kz_K kz_t95 116 kz_e95 kz_l95 3000 kz_n95_27 = true := by decide +kernel
set_option maxRecDepth 100000 in
set_option maxHeartbeats 0 in
theorem kz_N95_28 : ak_chN kz_M kz_CF kz_K kz_t95 116 kz_e95 kz_l95 3000 kz_n95_28 = true := by decide +kernel
set_option maxRecDepth 100000 in
set_option maxHeartbeats 0 in
theorem kz_N95_29 : ak_chN kz_M kz_CF kz_K kz_t95 116 kz_e95 kz_l95 3000 kz_n95_29 = true := by decide +kernel
set_option maxRecDepth 100000 in
set_option maxHeartbeats 0 in
theorem kz_N95_30 : ak_chN kz_M kz_CF kz_K kz_t95 116 kz_e95 kz_l95 3000 kz_n95_30 = true := by decide +kernel
set_option maxRecDepth 100000 in
set_option maxHeartbeats 0 in
theorem kz_W96 : ak_chW kz_M kz_e96 kz_l96 = true := by decide +kernel
set_option maxRecDepth 100000 in
set_option maxHeartbeats 0 in
theorem kz_E96 : ak_chS kz_K 90 kz_e96 = true ∧ ak_chE kz_M kz_CF kz_K kz_t96 90 kz_e96 kz_l96 3000 = true := by decide +kernel
set_option maxRecDepth 100000 in
set_option maxHeartbeats 0 in
theorem kz_N96_0 : ak_chN kz_M kz_CF kz_K kz_t96 90 kz_e96 kz_l96 3000 kz_n96_0 = true := by decide +kernel
set_option maxRecDepth 100000 in
set_option maxHeartbeats 0 in
theorem kz_N96_1 : ak_chN kz_M kz_CF kz_K kz_t96 90 kz_e96 kz_l96 3000 kz_n96_1 = true := by decide +kernel
set_option maxRecDepth 100000 in
set_option maxHeartbeats 0 in
theorem kz_N96_2 : ak_chN kz_M kz_CF kz_K kz_t96 90 kz_e96 kz_l96 3000 kz_n96_2 = true := by decide +kernel
set_option maxRecDepth 100000 in
set_option maxHeartbeats 0 in
theorem kz_N96_3 : ak_chN kz_M kz_CF kz_K kz_t96 90 kz_e96 kz_l96 3000 kz_n96_3 = true := by decide +kernel
set_option maxRecDepth 100000 in
set_option maxHeartbeats 0 in
theorem kz_N96_4 : ak_chN kz_M kz_CF kz_K kz_t96 90 kz_e96 kz_l96 3000 kz_n96_4 = true := by decide +kernel
set_option maxRecDepth 100000 in
set_option maxHeartbeats 0 in
theorem kz_N96_5 : ak_chN kz_M kz_CF kz_K kz_t96 90 kz_e96 kz_l96 3000 kz_n96_5 = true := by decide +kernel
set_option maxRecDepth 100000 in
set_option maxHeartbeats 0 in
theorem kz_W97 : ak_chW kz_M kz_e97 kz_l97 = true := by decide +kernel
set_option maxRecDepth 100000 in
set_option maxHeartbeats 0 in
theorem kz_E97 : ak_chS kz_K 163 kz_e97 = true ∧ ak_chE kz_M kz_CF kz_K kz_t97 163 kz_e97 kz_l97 3000 = true := by decide +kernel
set_option maxRecDepth 100000 in
set_option maxHeartbeats 0 in
theorem kz_N97_0 : ak_chN kz_M kz_CF kz_K kz_t97 163 kz_e97 kz_l97 3000 kz_n97_0 = true := by decide +kernel
set_option maxRecDepth 100000 in
set_option maxHeartbeats 0 in
theorem kz_N97_1 : ak_chN kz_M kz_CF kz_K kz_t97 163 kz_e97 kz_l97 3000 kz_n97_1 = true := by decide +kernel
set_option maxRecDepth 100000 in
set_option maxHeartbeats 0 in
theorem kz_N97_2 : ak_chN kz_M kz_CF kz_K kz_t97 163 kz_e97 kz_l97 3000 kz_n97_2 = true := by decide +kernel
set_option maxRecDepth 100000 in
set_option maxHeartbeats 0 in
theorem kz_N97_3 : ak_chN kz_M kz_CF kz_K kz_t97 163 kz_e97 kz_l97 3000 kz_n97_3 = true := by decide +kernel
set_option maxRecDepth 100000 in
set_option maxHeartbeats 0 in
theorem kz_N97_4 : ak_chN kz_M kz_CF kz_K kz_t97 163 kz_e97 kz_l97 3000 kz_n97_4 = true := by decide +kernel
set_option maxRecDepth 100000 in
set_option maxHeartbeats 0 in
theorem kz_N97_5 : ak_chN kz_M kz_CF kz_K kz_t97 163 kz_e97 kz_l97 3000 kz_n97_5 = true := by decide +kernel
set_option maxRecDepth 100000 in
set_option maxHeartbeats 0 in
theorem kz_W98 : ak_chW kz_M kz_e98 kz_l98 = true := by decide +kernel
set_option maxRecDepth 100000 in
set_option maxHeartbeats 0 in
theorem kz_E98 : ak_chS kz_K 86 kz_e98 = true ∧ ak_chE kz_M kz_CF kz_K kz_t98 86 kz_e98 kz_l98 3000 = true := by decide +kernel
set_option maxRecDepth 100000 in
set_option maxHeartbeats 0 in
theorem kz_N98_0 : ak_chN kz_M kz_CF kz_K kz_t98 86 kz_e98 kz_l98 3000 kz_n98_0 = true := by decide +kernel
set_option maxRecDepth 100000 in
set_option maxHeartbeats 0 in
theorem kz_W99 : ak_chW kz_M kz_e99 kz_l99 = true := by decide +kernel
set_option maxRecDepth 100000 in
set_option maxHeartbeats 0 in
theorem kz_E99 : ak_chS kz_K 150 kz_e99 = true ∧ ak_chE kz_M kz_CF kz_K kz_t99 150 kz_e99 kz_l99 3000 = true := by decide +kernel
set_option maxRecDepth 100000 in
set_option maxHeartbeats 0 in
theorem kz_N99_0 : ak_chN kz_M kz_CF kz_K kz_t99 150 kz_e99 kz_l99 3000 kz_n99_0 = true := by decide +kernel
set_option maxRecDepth 100000 in
set_option maxHeartbeats 0 in
theorem kz_W100 : ak_chW kz_M kz_e100 kz_l100 = true := by decide +kernel
set_option maxRecDepth 100000 in
set_option maxHeartbeats 0 in
theorem kz_E100 : ak_chS kz_K 74 kz_e100 = true ∧ ak_chE kz_M kz_CF kz_K kz_t100 74 kz_e100 kz_l100 3000 = true := by decide +kernel
set_option maxRecDepth 100000 in
set_option maxHeartbeats 0 in
theorem kz_N100_0 : ak_chN kz_M kz_CF kz_K kz_t100 74 kz_e100 kz_l100 3000 kz_n100_0 = true := by decide +kernel
set_option maxRecDepth 100000 in
set_option maxHeartbeats 0 in
theorem kz_W101 : ak_chW kz_M kz_e101 kz_l101 = true := by decide +kernel
set_option maxRecDepth 100000 in
set_option maxHeartbeats 0 in
theorem kz_E101 : ak_chS kz_K 91 kz_e101 = true ∧ ak_chE kz_M kz_CF kz_K kz_t101 91 kz_e101 kz_l101 3000 = true := by decide +kernel
set_option maxRecDepth 100000 in
set_option maxHeartbeats 0 in
theorem kz_N101_0 : ak_chN kz_M kz_CF kz_K kz_t101 91 kz_e101 kz_l101 3000 kz_n101_0 = true := by decide +kernel
set_option maxRecDepth 100000 in
set_option maxHeartbeats 0 in
theorem kz_N101_1 : ak_chN kz_M kz_CF kz_K kz_t101 91 kz_e101 kz_l101 3000 kz_n101_1 = true := by decide +kernel
set_option maxRecDepth 100000 in
set_option maxHeartbeats 0 in
theorem kz_N101_2 : ak_chN kz_M kz_CF kz_K kz_t101 91 kz_e101 kz_l101 3000 kz_n101_2 = true := by decide +kernel
set_option maxRecDepth 100000 in
set_option maxHeartbeats 0 in
theorem kz_N101_3 : ak_chN kz_M kz_CF kz_K kz_t101 91 kz_e101 kz_l101 3000 kz_n101_3 = true := by decide +kernel
set_option maxRecDepth 100000 in
set_option maxHeartbeats 0 in
theorem kz_N101_4 : ak_chN kz_M kz_CF kz_K kz_t101 91 kz_e101 kz_l101 3000 kz_n101_4 = true := by decide +kernel
set_option maxRecDepth 100000 in
set_option maxHeartbeats 0 in
theorem kz_N101_5 : ak_chN kz_M kz_CF kz_K kz_t101 91 kz_e101 kz_l101 3000 kz_n101_5 = true := by decide +kernel
set_option maxRecDepth 100000 in
set_option maxHeartbeats 0 in
theorem kz_W102 : ak_chW kz_M kz_e102 kz_l102 = true := by decide +kernel
set_option maxRecDepth 100000 in
set_option maxHeartbeats 0 in
theorem kz_E102 : ak_chS kz_K 92 kz_e102 = true ∧ ak_chE kz_M kz_CF kz_K kz_t102 92 kz_e102 kz_l102 3000 = true := by decide +kernel
set_option maxRecDepth 100000 in
set_option maxHeartbeats 0 in
theorem kz_W103 : ak_chW kz_M kz_e103 kz_l103 = true := by decide +kernel
set_option maxRecDepth 100000 in
set_option maxHeartbeats 0 in
theorem kz_E103 : ak_chS kz_K 128 kz_e103 = true ∧ ak_chE kz_M kz_CF kz_K kz_t103 128 kz_e103 kz_l103 3000 = true := by decide +kernel
set_option maxRecDepth 100000 in
set_option maxHeartbeats 0 in
theorem kz_N103_0 : ak_chN kz_M kz_CF kz_K kz_t103 128 kz_e103 kz_l103 3000 kz_n103_0 = true := by decide +kernel
set_option maxRecDepth 100000 in
set_option maxHeartbeats 0 in
theorem kz_W104 : ak_chW kz_M kz_e104 kz_l104 = true := by decide +kernel
set_option maxRecDepth 100000 in
set_option maxHeartbeats 0 in
theorem kz_E104 : ak_chS kz_K 165 kz_e104 = true ∧ ak_chE kz_M kz_CF kz_K kz_t104 165 kz_e104 kz_l104 3000 = true := by decide +kernel
set_option maxRecDepth 100000 in
set_option maxHeartbeats 0 in
theorem kz_N104_0 : ak_chN kz_M kz_CF kz_K kz_t104 165 kz_e104 kz_l104 3000 kz_n104_0 = true := by decide +kernel
set_option maxRecDepth 100000 in
set_option maxHeartbeats 0 in
theorem kz_N104_1 : ak_chN kz_M kz_CF kz_K kz_t104 165 kz_e104 kz_l104 3000 kz_n104_1 = true := by decide +kernel
set_option maxRecDepth 100000 in
set_option maxHeartbeats 0 in
theorem kz_N104_2 : ak_chN kz_M kz_CF kz_K kz_t104 165 kz_e104 kz_l104 3000 kz_n104_2 = true := by decide +kernel
set_option maxRecDepth 100000 in
set_option maxHeartbeats 0 in
theorem kz_N104_3 : ak_chN kz_M kz_CF kz_K kz_t104 165 kz_e104 kz_l104 3000 kz_n104_3 = true := by decide +kernel
set_option maxRecDepth 100000 in
set_option maxHeartbeats 0 in
theorem kz_N104_4 : ak_chN kz_M kz_CF kz_K kz_t104 165 kz_e104 kz_l104 3000 kz_n104_4 = true := by decide +kernel
set_option maxRecDepth 100000 in
set_option maxHeartbeats 0 in
theorem kz_N104_5 : ak_chN kz_M kz_CF kz_K kz_t104 165 kz_e104 kz_l104 3000 kz_n104_5 = true := by decide +kernel
set_option maxRecDepth 100000 in
set_option maxHeartbeats 0 in
theorem kz_N104_6 : ak_chN kz_M kz_CF kz_K kz_t104 165 kz_e104 kz_l104 3000 kz_n104_6 = true := by decide +kernel
set_option maxRecDepth 100000 in
set_option maxHeartbeats 0 in
theorem kz_N104_7 : ak_chN kz_M kz_CF kz_K kz_t104 165 kz_e104 kz_l104 3000 kz_n104_7 = true := by decide +kernel
set_option maxRecDepth 100000 in
set_option maxHeartbeats 0 in
theorem kz_N104_8 : ak_chN kz_M kz_CF kz_K kz_t104 165 kz_e104 kz_l104 3000 kz_n104_8 = true := by decide +kernel
set_option maxRecDepth 100000 in
set_option maxHeartbeats 0 in
theorem kz_N104_9 : ak_chN kz_M kz_CF kz_K kz_t104 165 kz_e104 kz_l104 3000 kz_n104_9 = true := by decide +kernel
set_option maxRecDepth 100000 in
set_option maxHeartbeats 0 in
theorem kz_N104_10 : ak_chN kz_M kz_CF kz_K kz_t104 165 kz_e104 kz_l104 3000 kz_n104_10 = true := by decide +kernel
set_option maxRecDepth 100000 in
set_option maxHeartbeats 0 in
theorem kz_N104_11 : ak_chN kz_M kz_CF kz_K kz_t104 165 kz_e104 kz_l104 3000 kz_n104_11 = true := by decide +kernel
set_option maxRecDepth 100000 in
set_option maxHeartbeats 0 in
theorem kz_N104_12 : ak_chN kz_M kz_CF kz_K kz_t104 165 kz_e104 kz_l104 3000 kz_n104_12 = true := by decide +kernel
set_option maxRecDepth 100000 in
set_option maxHeartbeats 0 in
theorem kz_N104_13 : ak_chN kz_M kz_CF kz_K kz_t104 165 kz_e104 kz_l104 3000 kz_n104_13 = true := by decide +kernel
set_option maxRecDepth 100000 in
set_option maxHeartbeats 0 in
theorem kz_N104_14 : ak_chN kz_M kz_CF kz_K kz_t104 165 kz_e104 kz_l104 3000 kz_n104_14 = true := by decide +kernel
set_option maxRecDepth 100000 in
set_option maxHeartbeats 0 in
theorem kz_N104_15 : ak_chN kz_M kz_CF kz_K kz_t104 165 kz_e104 kz_l104 3000 kz_n104_15 = true := by decide +kernel
set_option maxRecDepth 100000 in
set_option maxHeartbeats 0 in
theorem kz_N104_16 : ak_chN kz_M kz_CF kz_K kz_t104 165 kz_e104 kz_l104 3000 kz_n104_16 = true := by decide +kernel
set_option maxRecDepth 100000 in
set_option maxHeartbeats 0 in
theorem kz_N104_17 : ak_chN kz_M kz_CF kz_K kz_t104 165 kz_e104 kz_l104 3000 kz_n104_17 = true := by decide +kernel
set_option maxRecDepth 100000 in
set_option maxHeartbeats 0 in
theorem kz_N104_18 : ak_chN kz_M kz_CF kz_K kz_t104 165 kz_e104 kz_l104 3000 kz_n104_18 = true := by decide +kernel
set_option maxRecDepth 100000 in
set_option maxHeartbeats 0 in
theorem kz_N104_19 : ak_chN kz_M kz_CF kz_K kz_t104 165 kz_e104 kz_l104 3000 kz_n104_19 = true := by decide +kernel
set_option maxRecDepth 100000 in
set_option maxHeartbeats 0 in
theorem kz_N104_20 : ak_chN kz_M kz_CF kz_K kz_t104 165 kz_e104 kz_l104 3000 kz_n104_20 = true := by decide +kernel
set_option maxRecDepth 100000 in
set_option maxHeartbeats 0 in
theorem kz_N104_21 : ak_chN kz_M kz_CF kz_K kz_t104 165 kz_e104 kz_l104 3000 kz_n104_21 = true := by decide +kernel
set_option maxRecDepth 100000 in
set_option maxHeartbeats 0 in
theorem kz_N104_22 : ak_chN kz_M kz_CF kz_K kz_t104 165 kz_e104 kz_l104 3000 kz_n104_22 = true := by decide +kernel
set_option maxRecDepth 100000 in
set_option maxHeartbeats 0 in
theorem kz_N104_23 : ak_chN kz_M kz_CF kz_K kz_t104 165 kz_e104 kz_l104 3000 kz_n104_23 = true := by decide +kernel
set_option maxRecDepth 100000 in
set_option maxHeartbeats 0 in
theorem kz_N104_24 : ak_chN kz_M kz_CF kz_K kz_t104 165 kz_e104 kz_l104 3000 kz_n104_24 = true := by decide +kernel
set_option maxRecDepth 100000 in
set_option maxHeartbeats 0 in
theorem kz_N104_25 : ak_chN kz_M kz_CF kz_K kz_t104 165 kz_e104 kz_l104 3000 kz_n104_25 = true := by decide +kernel
set_option maxRecDepth 100000 in
set_option maxHeartbeats 0 in
theorem kz_N104_26 : ak_chN kz_M kz_CF kz_K kz_t104 165 kz_e104 kz_l104 3000 kz_n104_26 = true := by decide +kernel
set_option maxRecDepth 100000 in
set_option maxHeartbeats 0 in
theorem kz_N104_27 : ak_chN kz_M kz_CF kz_K kz_t104 165 kz_e104 kz_l104 3000 kz_n104_27 = true := by decide +kernel
set_option maxRecDepth 100000 in
set_option maxHeartbeats 0 in
theorem kz_N104_28 : ak_chN kz_M kz_CF kz_K kz_t104 165 kz_e104 kz_l104 3000 kz_n104_28 = true := by decide +kernel
set_option maxRecDepth 100000 in
set_option maxHeartbeats 0 in
theorem kz_N104_29 : ak_chN kz_M kz_CF kz_K kz_t104 165 kz_e104 kz_l104 3000 kz_n104_29 = true := by decide +kernel
set_option maxRecDepth 100000 in
set_option maxHeartbeats 0 in
theorem kz_N104_30 : ak_chN kz_M kz_CF kz_K kz_t104 165 kz_e104 kz_l104 3000 kz_n104_30 = true := by decide +kernel
set_option maxRecDepth 100000 in
set_option maxHeartbeats 0 in
theorem kz_N104_31 : ak_chN kz_M kz_CF kz_K kz_t104 165 kz_e104 kz_l104 3000 kz_n104_31 = true := by decide +kernel
set_option maxRecDepth 100000 in
set_option maxHeartbeats 0 in
theorem kz_N104_32 : ak_chN kz_M kz_CF kz_K kz_t104 165 kz_e104 kz_l104 3000 kz_n104_32 = true := by decide +kernel
set_option maxRecDepth 100000 in
set_option maxHeartbeats 0 in
theorem kz_N104_33 : ak_chN kz_M kz_CF kz_K kz_t104 165 kz_e104 kz_l104 3000 kz_n104_33 = true := by decide +kernel
set_option maxRecDepth 100000 in
set_option maxHeartbeats 0 in
theorem kz_N104_34 : ak_chN kz_M kz_CF kz_K kz_t104 165 kz_e104 kz_l104 3000 kz_n104_34 = true := by decide +kernel
set_option maxRecDepth 100000 in
set_option maxHeartbeats 0 in
theorem kz_N104_35 : ak_chN kz_M kz_CF kz_K kz_t104 165 kz_e104 kz_l104 3000 kz_n104_35 = true := by decide +kernel
set_option maxRecDepth 100000 in
set_option maxHeartbeats 0 in
theorem kz_N104_36 : ak_chN kz_M kz_CF kz_K kz_t104 165 kz_e104 kz_l104 3000 kz_n104_36 = true := by decide +kernel
set_option maxRecDepth 100000 in
set_option maxHeartbeats 0 in
theorem kz_N104_37 : ak_chN kz_M kz_CF kz_K kz_t104 165 kz_e104 kz_l104 3000 kz_n104_37 = true := by decide +kernel
set_option maxRecDepth 100000 in
set_option maxHeartbeats 0 in
theorem kz_N104_38 : ak_chN kz_M kz_CF kz_K kz_t104 165 kz_e104 kz_l104 3000 kz_n104_38 = true := by decide +kernel
set_option maxRecDepth 100000 in
set_option maxHeartbeats 0 in
theorem kz_N104_39 : ak_chN kz_M kz_CF kz_K kz_t104 165 kz_e104 kz_l104 3000 kz_n104_39 = true := by decide +kernel
set_option maxRecDepth 100000 in
set_option maxHeartbeats 0 in
theorem kz_N104_40 : ak_chN kz_M kz_CF kz_K kz_t104 165 kz_e104 kz_l104 3000 kz_n104_40 = true := by decide +kernel
set_option maxRecDepth 100000 in
set_option maxHeartbeats 0 in
theorem kz_N104_41 : ak_chN kz_M kz_CF kz_K kz_t104 165 kz_e104 kz_l104 3000 kz_n104_41 = true := by decide +kernel
set_option maxRecDepth 100000 in
set_option maxHeartbeats 0 in
theorem kz_N104_42 : ak_chN kz_M kz_CF kz_K kz_t104 165 kz_e104 kz_l104 3000 kz_n104_42 = true := by decide +kernel
set_option maxRecDepth 100000 in
set_option maxHeartbeats 0 in
theorem kz_N104_43 : ak_chN kz_M kz_CF kz_K kz_t104 165 kz_e104 kz_l104 3000 kz_n104_43 = true := by decide +kernel
set_option maxRecDepth 100000 in
set_option maxHeartbeats 0 in
theorem kz_N104_44 : ak_chN kz_M kz_CF kz_K kz_t104 165 kz_e104 kz_l104 3000 kz_n104_44 = true := by decide +kernel
set_option maxRecDepth 100000 in
set_option maxHeartbeats 0 in
theorem kz_N104_45 : ak_chN kz_M kz_CF kz_K kz_t104 165 kz_e104 kz_l104 3000 kz_n104_45 = true := by decide +kernel
set_option maxRecDepth 100000 in
set_option maxHeartbeats 0 in
theorem kz_N104_46 : ak_chN kz_M kz_CF kz_K kz_t104 165 kz_e104 kz_l104 3000 kz_n104_46 = true := by decide +kernel
set_option maxRecDepth 100000 in
set_option maxHeartbeats 0 in
theorem kz_N104_47 : ak_chN kz_M kz_CF kz_K kz_t104 165 kz_e104 kz_l104 3000 kz_n104_47 = true := by decide +kernel
set_option maxRecDepth 100000 in
set_option maxHeartbeats 0 in
theorem kz_N104_48 : ak_chN kz_M kz_CF kz_K kz_t104 165 kz_e104 kz_l104 3000 kz_n104_48 = true := by decide +kernel
set_option maxRecDepth 100000 in
set_option maxHeartbeats 0 in
theorem kz_N104_49 : ak_chN kz_M kz_CF kz_K kz_t104 165 kz_e104 kz_l104 3000 kz_n104_49 = true := by decide +kernel
set_option maxRecDepth 100000 in
set_option maxHeartbeats 0 in
theorem kz_N104_50 : ak_chN kz_M kz_CF kz_K kz_t104 165 kz_e104 kz_l104 3000 kz_n104_50 = true := by decide +kernel
set_option maxRecDepth 100000 in
set_option maxHeartbeats 0 in
theorem kz_N104_51 : ak_chN kz_M kz_CF kz_K kz_t104 165 kz_e104 kz_l104 3000 kz_n104_51 = true := by decide +kernel
set_option maxRecDepth 100000 in
set_option maxHeartbeats 0 in
theorem kz_N104_52 : ak_chN kz_M kz_CF kz_K kz_t104 165 kz_e104 kz_l104 3000 kz_n104_52 = true := by decide +kernel
set_option maxRecDepth 100000 in
set_option maxHeartbeats 0 in
theorem kz_N104_53 : ak_chN kz_M kz_CF kz_K kz_t104 165 kz_e104 kz_l104 3000 kz_n104_53 = true := by decide +kernel
set_option maxRecDepth 100000 in
set_option maxHeartbeats 0 in
theorem kz_N104_54 : ak_chN kz_M kz_CF kz_K kz_t104 165 kz_e104 kz_l104 3000 kz_n104_54 = true := by decide +kernel
set_option maxRecDepth 100000 in
set_option maxHeartbeats 0 in
theorem kz_N104_55 : ak_chN kz_M kz_CF kz_K kz_t104 165 kz_e104 kz_l104 3000 kz_n104_55 = true := by decide +kernel
set_option maxRecDepth 100000 in
set_option maxHeartbeats 0 in
theorem kz_N104_56 : ak_chN kz_M kz_CF kz_K kz_t104 165 kz_e104 kz_l104 3000 kz_n104_56 = true := by decide +kernel
set_option maxRecDepth 100000 in
set_option maxHeartbeats 0 in
theorem kz_W105 : ak_chW kz_M kz_e105 kz_l105 = true := by decide +kernel
set_option maxRecDepth 100000 in
set_option maxHeartbeats 0 in
theorem kz_E105 : ak_chS kz_K 44 kz_e105 = true ∧ ak_chE kz_M kz_CF kz_K kz_t105 44 kz_e105 kz_l105 3000 = true := by decide +kernel
set_option maxRecDepth 100000 in
set_option maxHeartbeats 0 in
theorem kz_N105_0 : ak_chN kz_M kz_CF kz_K kz_t105 44 kz_e105 kz_l105 3000 kz_n105_0 = true := by decide +kernel
