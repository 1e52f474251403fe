set_option maxRecDepth 100000 in
set_option maxHeartbeats 0 in
theorem kz_W106 : ak_chW kz_M kz_e106 kz_l106 = true := by decide +kernel
set_option maxRecDepth 100000 in
set_option maxHeartbeats 0 in
theorem kz_E106 : ak_chS kz_K 73 kz_e106 = true ∧ ak_chE kz_M kz_CF kz_K kz_t106 73 kz_e106 kz_l106 3000 = true := by decide +kernel
set_option maxRecDepth 100000 in
set_option maxHeartbeats 0 in
theorem kz_N106_0 : ak_chN kz_M kz_CF kz_K kz_t106 73 kz_e106 kz_l106 3000 kz_n106_0 = true := by decide +kernel
set_option maxRecDepth 100000 in
set_option maxHeartbeats 0 in
theorem kz_N106_1 : ak_chN kz_M kz_CF kz_K kz_t106 73 kz_e106 kz_l106 3000 kz_n106_1 = true := by decide +kernel
set_option maxRecDepth 100000 in
set_option maxHeartbeats 0 in
theorem kz_N106_2 : ak_chN kz_M kz_CF kz_K kz_t106 73 kz_e106 kz_l106 3000 kz_n106_2 = true := by decide +kernel
set_option maxRecDepth 100000 in
set_option maxHeartbeats 0 in
theorem kz_N106_3 : ak_chN kz_M kz_CF kz_K kz_t106 73 kz_e106 kz_l106 3000 kz_n106_3 = true := by decide +kernel
set_option maxRecDepth 100000 in
set_option maxHeartbeats 0 in
theorem kz_N106_4 : ak_chN kz_M kz_CF kz_K kz_t106 73 kz_e106 kz_l106 3000 kz_n106_4 = true := by decide +kernel
set_option maxRecDepth 100000 in
set_option maxHeartbeats 0 in
theorem kz_N106_5 : ak_chN kz_M kz_CF kz_K kz_t106 73 kz_e106 kz_l106 3000 kz_n106_5 = true := by decide +kernel
set_option maxRecDepth 100000 in
set_option maxHeartbeats 0 in
theorem kz_N106_6 : ak_chN kz_M kz_CF kz_K kz_t106 73 kz_e106 kz_l106 3000 kz_n106_6 = true := by decide +kernel
set_option maxRecDepth 100000 in
set_option maxHeartbeats 0 in
theorem kz_N106_7 : ak_chN kz_M kz_CF kz_K kz_t106 73 kz_e106 kz_l106 3000 kz_n106_7 = true := by decide +kernel
set_option maxRecDepth 100000 in
set_option maxHeartbeats 0 in
theorem kz_N106_8 : ak_chN kz_M kz_CF kz_K kz_t106 73 kz_e106 kz_l106 3000 kz_n106_8 = true := by decide +kernel
set_option maxRecDepth 100000 in
set_option maxHeartbeats 0 in
theorem kz_W107 : ak_chW kz_M kz_e107 kz_l107 = true := by decide +kernel
set_option maxRecDepth 100000 in
set_option maxHeartbeats 0 in
theorem kz_E107 : ak_chS kz_K 169 kz_e107 = true ∧ ak_chE kz_M kz_CF kz_K kz_t107 169 kz_e107 kz_l107 3000 = true := by decide +kernel
set_option maxRecDepth 100000 in
set_option maxHeartbeats 0 in
theorem kz_N107_0 : ak_chN kz_M kz_CF kz_K kz_t107 169 kz_e107 kz_l107 3000 kz_n107_0 = true := by decide +kernel
set_option maxRecDepth 100000 in
set_option maxHeartbeats 0 in
theorem kz_N107_1 : ak_chN kz_M kz_CF kz_K kz_t107 169 kz_e107 kz_l107 3000 kz_n107_1 = true := by decide +kernel
set_option maxRecDepth 100000 in
set_option maxHeartbeats 0 in
theorem kz_N107_2 : ak_chN kz_M kz_CF kz_K kz_t107 169 kz_e107 kz_l107 3000 kz_n107_2 = true := by decide +kernel
set_option maxRecDepth 100000 in
set_option maxHeartbeats 0 in
theorem kz_W108 : ak_chW kz_M kz_e108 kz_l108 = true := by decide +kernel
set_option maxRecDepth 100000 in
set_option maxHeartbeats 0 in
theorem kz_E108 : ak_chS kz_K 127 kz_e108 = true ∧ ak_chE kz_M kz_CF kz_K kz_t108 127 kz_e108 kz_l108 3000 = true := by decide +kernel
set_option maxRecDepth 100000 in
set_option maxHeartbeats 0 in
theorem kz_N108_0 : ak_chN kz_M kz_CF kz_K kz_t108 127 kz_e108 kz_l108 3000 kz_n108_0 = true := by decide +kernel
set_option maxRecDepth 100000 in
set_option maxHeartbeats 0 in
theorem kz_N108_1 : ak_chN kz_M kz_CF kz_K kz_t108 127 kz_e108 kz_l108 3000 kz_n108_1 = true := by decide +kernel
set_option maxRecDepth 100000 in
set_option maxHeartbeats 0 in
theorem kz_N108_2 : ak_chN kz_M kz_CF kz_K kz_t108 127 kz_e108 kz_l108 3000 kz_n108_2 = true := by decide +kernel
set_option maxRecDepth 100000 in
set_option maxHeartbeats 0 in
theorem kz_N108_3 : ak_chN kz_M kz_CF kz_K kz_t108 127 kz_e108 kz_l108 3000 kz_n108_3 = true := by decide +kernel
set_option maxRecDepth 100000 in
set_option maxHeartbeats 0 in
theorem kz_N108_4 : ak_chN kz_M kz_CF kz_K kz_t108 127 kz_e108 kz_l108 3000 kz_n108_4 = true := by decide +kernel
set_option maxRecDepth 100000 in
set_option maxHeartbeats 0 in
theorem kz_N108_5 : ak_chN kz_M kz_CF kz_K kz_t108 127 kz_e108 kz_l108 3000 kz_n108_5 = true := by decide +kernel
set_option maxRecDepth 100000 in
set_option maxHeartbeats 0 in
theorem kz_N108_6 : ak_chN kz_M kz_CF kz_K kz_t108 127 kz_e108 kz_l108 3000 kz_n108_6 = true := by decide +kernel
set_option maxRecDepth 100000 in
set_option maxHeartbeats 0 in
theorem kz_N108_7 : ak_chN kz_M kz_CF kz_K kz_t108 127 kz_e108 kz_l108 3000 kz_n108_7 = true := by decide +kernel
set_option maxRecDepth 100000 in
set_option maxHeartbeats 0 in
theorem kz_N108_8 : ak_chN kz_M kz_CF kz_K kz_t108 127 kz_e108 kz_l108 3000 kz_n108_8 = true := by decide +kernel
set_option maxRecDepth 100000 in
set_option maxHeartbeats 0 in
theorem kz_W109 : ak_chW kz_M kz_e109 kz_l109 = true := by decide +kernel
set_option maxRecDepth 100000 in
set_option maxHeartbeats 0 in
theorem kz_E109 : ak_chS kz_K 94 kz_e109 = true ∧ ak_chE kz_M kz_CF kz_K kz_t109 94 kz_e109 kz_l109 3000 = true := by decide +kernel
set_option maxRecDepth 100000 in
set_option maxHeartbeats 0 in
theorem kz_N109_0 : ak_chN kz_M kz_CF kz_K kz_t109 94 kz_e109 kz_l109 3000 kz_n109_0 = true := by decide +kernel
set_option maxRecDepth 100000 in
set_option maxHeartbeats 0 in
theorem kz_N109_1 : ak_chN kz_M kz_CF kz_K kz_t109 94 kz_e109 kz_l109 3000 kz_n109_1 = true := by decide +kernel
set_option maxRecDepth 100000 in
set_option maxHeartbeats 0 in
theorem kz_N109_2 : ak_chN kz_M kz_CF kz_K kz_t109 94 kz_e109 kz_l109 3000 kz_n109_2 = true := by decide +kernel
set_option maxRecDepth 100000 in
set_option maxHeartbeats 0 in
theorem kz_N109_3 : ak_chN kz_M kz_CF kz_K kz_t109 94 kz_e109 kz_l109 3000 kz_n109_3 = true := by decide +kernel
set_option maxRecDepth 100000 in
set_option maxHeartbeats 0 in
theorem kz_N109_4 : ak_chN kz_M kz_CF kz_K kz_t109 94 kz_e109 kz_l109 3000 kz_n109_4 = true := by decide +kernel
set_option maxRecDepth 100000 in
set_option maxHeartbeats 0 in
theorem kz_N109_5 : ak_chN kz_M kz_CF kz_K kz_t109 94 kz_e109 kz_l109 3000 kz_n109_5 = true := by decide +kernel
set_option maxRecDepth 100000 in
set_option maxHeartbeats 0 in
theorem kz_N109_6 : ak_chN kz_M kz_CF kz_K kz_t109 94 kz_e109 kz_l109 3000 kz_n109_6 = true := by decide +kernel
set_option maxRecDepth 100000 in
set_option maxHeartbeats 0 in
theorem kz_N109_7 : ak_chN kz_M kz_CF kz_K kz_t109 94 kz_e109 kz_l109 3000 kz_n109_7 = true := by decide +kernel
set_option maxRecDepth 100000 in
set_option maxHeartbeats 0 in
theorem kz_N109_8 : ak_chN kz_M kz_CF kz_K kz_t109 94 kz_e109 kz_l109 3000 kz_n109_8 = true := by decide +kernel
set_option maxRecDepth 100000 in
set_option maxHeartbeats 0 in
theorem kz_N109_9 : ak_chN kz_M kz_CF kz_K kz_t109 94 kz_e109 kz_l109 3000 kz_n109_9 = true := by decide +kernel
set_option maxRecDepth 100000 in
set_option maxHeartbeats 0 in
theorem kz_N109_10 : ak_chN kz_M kz_CF kz_K kz_t109 94 kz_e109 kz_l109 3000 kz_n109_10 = true := by decide +kernel
set_option maxRecDepth 100000 in
set_option maxHeartbeats 0 in
theorem kz_N109_11 : ak_chN kz_M kz_CF kz_K kz_t109 94 kz_e109 kz_l109 3000 kz_n109_11 = true := by decide +kernel
set_option maxRecDepth 100000 in
set_option maxHeartbeats 0 in
theorem kz_N109_12 : ak_chN kz_M kz_CF kz_K kz_t109 94 kz_e109 kz_l109 3000 kz_n109_12 = true := by decide +kernel
set_option maxRecDepth 100000 in
set_option maxHeartbeats 0 in
theorem kz_N109_13 : ak_chN kz_M kz_CF kz_K kz_t109 94 kz_e109 kz_l109 3000 kz_n109_13 = true := by decide +kernel
set_option maxRecDepth 100000 in
set_option maxHeartbeats 0 in
theorem kz_N109_14 : ak_chN kz_M kz_CF kz_K kz_t109 94 kz_e109 kz_l109 3000 kz_n109_14 = true := by decide +kernel
set_option maxRecDepth 100000 in
set_option maxHeartbeats 0 in
theorem kz_N109_15 : ak_chN kz_M kz_CF kz_K kz_t109 94 kz_e109 kz_l109 3000 kz_n109_15 = true := by decide +kernel
set_option maxRecDepth 100000 in
set_option maxHeartbeats 0 in
theorem kz_N109_16 : ak_chN kz_M kz_CF kz_K kz_t109 94 kz_e109 kz_l109 3000 kz_n109_16 = true := by decide +kernel
set_option maxRecDepth 100000 in
set_option maxHeartbeats 0 in
theorem kz_N109_17 : ak_chN kz_M kz_CF kz_K kz_t109 94 kz_e109 kz_l109 3000 kz_n109_17 = true := by decide +kernel
set_option maxRecDepth 100000 in
set_option maxHeartbeats 0 in
theorem kz_N109_18 : ak_chN kz_M kz_CF kz_K kz_t109 94 kz_e109 kz_l109 3000 kz_n109_18 = true := by decide +kernel
set_option maxRecDepth 100000 in
set_option maxHeartbeats 0 in
theorem kz_N109_19 : ak_chN kz_M kz_CF kz_K kz_t109 94 kz_e109 kz_l109 3000 kz_n109_19 = true := by decide +kernel
set_option maxRecDepth 100000 in
set_option maxHeartbeats 0 in
theorem kz_N109_20 : ak_chN kz_M kz_CF kz_K kz_t109 94 kz_e109 kz_l109 3000 kz_n109_20 = true := by decide +kernel
set_option maxRecDepth 100000 in
set_option maxHeartbeats 0 in
theorem kz_N109_21 : ak_chN kz_M kz_CF kz_K kz_t109 94 kz_e109 kz_l109 3000 kz_n109_21 = true := by decide +kernel
set_option maxRecDepth 100000 in
set_option maxHeartbeats 0 in
theorem kz_N109_22 : ak_chN kz_M kz_CF kz_K kz_t109 94 kz_e109 kz_l109 3000 kz_n109_22 = true := by decide +kernel
set_option maxRecDepth 100000 in
set_option maxHeartbeats 0 in
theorem kz_N109_23 : ak_chN kz_M kz_CF kz_K kz_t109 94 kz_e109 kz_l109 3000 kz_n109_23 = true := by decide +kernel
set_option maxRecDepth 100000 in
set_option maxHeartbeats 0 in
theorem kz_N109_24 : ak_chN kz_M kz_CF kz_K kz_t109 94 kz_e109 kz_l109 3000 kz_n109_24 = true := by decide +kernel
set_option maxRecDepth 100000 in
set_option maxHeartbeats 0 in
theorem kz_N109_25 : ak_chN kz_M kz_CF kz_K kz_t109 94 kz_e109 kz_l109 3000 kz_n109_25 = true := by decide +kernel
set_option maxRecDepth 100000 in
set_option maxHeartbeats 0 in
theorem kz_N109_26 : ak_chN kz_M kz_CF kz_K kz_t109 94 kz_e109 kz_l109 3000 kz_n109_26 = true := by decide +kernel
set_option maxRecDepth 100000 in
set_option maxHeartbeats 0 in
theorem kz_W110 : ak_chW kz_M kz_e110 kz_l110 = true := by decide +kernel
set_option maxRecDepth 100000 in
set_option maxHeartbeats 0 in
theorem kz_E110 : ak_chS kz_K 69 kz_e110 = true ∧ ak_chE kz_M kz_CF kz_K kz_t110 69 kz_e110 kz_l110 3000 = true := by decide +kernel
set_option maxRecDepth 100000 in
set_option maxHeartbeats 0 in
theorem kz_W111 : ak_chW kz_M kz_e111 kz_l111 = true := by decide +kernel
set_option maxRecDepth 100000 in
set_option maxHeartbeats 0 in
theorem kz_E111 : ak_chS kz_K 120 kz_e111 = true ∧ ak_chE kz_M kz_CF kz_K kz_t111 120 kz_e111 kz_l111 3000 = true := by decide +kernel
set_option maxRecDepth 100000 in
set_option maxHeartbeats 0 in
theorem kz_N111_0 : ak_chN kz_M kz_CF kz_K kz_t111 120 kz_e111 kz_l111 3000 kz_n111_0 = true := by decide +kernel
set_option maxRecDepth 100000 in
set_option maxHeartbeats 0 in
theorem kz_N111_1 : ak_chN kz_M kz_CF kz_K kz_t111 120 kz_e111 kz_l111 3000 kz_n111_1 = true := by decide +kernel
set_option maxRecDepth 100000 in
set_option maxHeartbeats 0 in
theorem kz_N111_2 : ak_chN kz_M kz_CF kz_K kz_t111 120 kz_e111 kz_l111 3000 kz_n111_2 = true := by decide +kernel
set_option maxRecDepth 100000 in
set_option maxHeartbeats 0 in
theorem kz_N111_3 : ak_chN kz_M kz_CF kz_K kz_t111 120 kz_e111 kz_l111 3000 kz_n111_3 = true := by decide +kernel
set_option maxRecDepth 100000 in
set_option maxHeartbeats 0 in
theorem kz_N111_4 : ak_chN kz_M kz_CF kz_K kz_t111 120 kz_e111 kz_l111 3000 kz_n111_4 = true := by decide +kernel
set_option maxRecDepth 100000 in
set_option maxHeartbeats 0 in
theorem kz_N111_5 : ak_chN kz_M kz_CF kz_K kz_t111 120 kz_e111 kz_l111 3000 kz_n111_5 = true := by decide +kernel
set_option maxRecDepth 100000 in
set_option maxHeartbeats 0 in
theorem kz_N111_6 : ak_chN kz_M kz_CF kz_K kz_t111 120 kz_e111 kz_l111 3000 kz_n111_6 = true := by decide +kernel
set_option maxRecDepth 100000 in
set_option maxHeartbeats 0 in
theorem kz_N111_7 : ak_chN kz_M kz_CF kz_K kz_t111 120 kz_e111 kz_l111 3000 kz_n111_7 = true := by decide +kernel
set_option maxRecDepth 100000 in
set_option maxHeartbeats 0 in
theorem kz_N111_8 : ak_chN kz_M kz_CF kz_K kz_t111 120 kz_e111 kz_l111 3000 kz_n111_8 = true := by decide +kernel
set_option maxRecDepth 100000 in
set_option maxHeartbeats 0 in
theorem kz_N111_9 : ak_chN kz_M kz_CF kz_K kz_t111 120 kz_e111 kz_l111 3000 kz_n111_9 = true := by decide +kernel
set_option maxRecDepth 100000 in
set_option maxHeartbeats 0 in
theorem kz_N111_10 : ak_chN kz_M kz_CF kz_K kz_t111 120 kz_e111 kz_l111 3000 kz_n111_10 = true := by decide +kernel
set_option maxRecDepth 100000 in
set_option maxHeartbeats 0 in
theorem kz_N111_11 : ak_chN kz_M kz_CF kz_K kz_t111 120 kz_e111 kz_l111 3000 kz_n111_11 = true := by decide +kernel
set_option maxRecDepth 100000 in
set_option maxHeartbeats 0 in
theorem kz_N111_12 : ak_chN kz_M kz_CF kz_K kz_t111 120 kz_e111 kz_l111 3000 kz_n111_12 = true := by decide +kernel
set_option maxRecDepth 100000 in
set_option maxHeartbeats 0 in
theorem kz_N111_13 : ak_chN kz_M kz_CF kz_K kz_t111 120 kz_e111 kz_l111 3000 kz_n111_13 = true := by decide +kernel
set_option maxRecDepth 100000 in
set_option maxHeartbeats 0 in
theorem kz_N111_14 : ak_chN kz_M kz_CF kz_K kz_t111 120 kz_e111 kz_l111 3000 kz_n111_14 = true := by decide +kernel
set_option maxRecDepth 100000 in
set_option maxHeartbeats 0 in
theorem kz_N111_15 : ak_chN kz_M kz_CF kz_K kz_t111 120 kz_e111 kz_l111 3000 kz_n111_15 = true := by decide +kernel
set_option maxRecDepth 100000 in
set_option maxHeartbeats 0 in
theorem kz_N111_16 : ak_chN kz_M kz_CF kz_K kz_t111 120 kz_e111 kz_l111 3000 kz_n111_16 = true := by decide +kernel
set_option maxRecDepth 100000 in
set_option maxHeartbeats 0 in
theorem kz_N111_17 : ak_chN kz_M kz_CF kz_K kz_t111 120 kz_e111 kz_l111 3000 kz_n111_17 = true := by decide +kernel
set_option maxRecDepth 100000 in
set_option maxHeartbeats 0 in
theorem kz_N111_18 : ak_chN kz_M kz_CF kz_K kz_t111 120 kz_e111 kz_l111 3000 kz_n111_18 = true := by decide +kernel
set_option maxRecDepth 100000 in
set_option maxHeartbeats 0 in
theorem kz_N111_19 : ak_chN kz_M kz_CF kz_K kz_t111 120 kz_e111 kz_l111 3000 kz_n111_19 = true := by decide +kernel
set_option maxRecDepth 100000 in
set_option maxHeartbeats 0 in
theorem kz_N111_20 : ak_chN kz_M kz_CF kz_K kz_t111 120 kz_e111 kz_l111 3000 kz_n111_20 = true := by decide +kernel
set_option maxRecDepth 100000 in
set_option maxHeartbeats 0 in
theorem kz_N111_21 : ak_chN kz_M kz_CF kz_K kz_t111 120 kz_e111 kz_l111 3000 kz_n111_21 = true := by decide +kernel
set_option maxRecDepth 100000 in
set_option maxHeartbeats 0 in
theorem kz_N111_22 : ak_chN kz_M kz_CF kz_K kz_t111 120 kz_e111 kz_l111 3000 kz_n111_22 = true := by decide +kernel
set_option maxRecDepth 100000 in
set_option maxHeartbeats 0 in
theorem kz_N111_23 : ak_chN kz_M kz_CF kz_K kz_t111 120 kz_e111 kz_l111 3000 kz_n111_23 = true := by decide +kernel
set_option maxRecDepth 100000 in
set_option maxHeartbeats 0 in
theorem kz_N111_24 : ak_chN kz_M kz_CF kz_K kz_t111 120 kz_e111 kz_l111 3000 kz_n111_24 = true := by decide +kernel
set_option maxRecDepth 100000 in
set_option maxHeartbeats 0 in
theorem kz_N111_25 : ak_chN kz_M kz_CF kz_K kz_t111 120 kz_e111 kz_l111 3000 kz_n111_25 = true := by decide +kernel
set_option maxRecDepth 100000 in
set_option maxHeartbeats 0 in
theorem kz_N111_26 : ak_chN kz_M kz_CF kz_K kz_t111 120 kz_e111 kz_l111 3000 kz_n111_26 = true := by decide +kernel
set_option maxRecDepth 100000 in
set_option maxHeartbeats 0 in
theorem kz_W112 : ak_chW kz_M kz_e112 kz_l112 = true := by decide +kernel
set_option maxRecDepth 100000 in
set_option maxHeartbeats 0 in
theorem kz_E112 : ak_chS kz_K 119 kz_e112 = true ∧ ak_chE kz_M kz_CF kz_K kz_t112 119 kz_e112 kz_l112 3000 = true := by decide +kernel
set_option maxRecDepth 100000 in
set_option maxHeartbeats 0 in
theorem kz_W113 : ak_chW kz_M kz_e113 kz_l113 = true := by decide +kernel
set_option maxRecDepth 100000 in
set_option maxHeartbeats 0 in
theorem kz_E113 : ak_chS kz_K 77 kz_e113 = true ∧ ak_chE kz_M kz_CF kz_K kz_t113 77 kz_e113 kz_l113 3000 = true := by decide +kernel
set_option maxRecDepth 100000 in
set_option maxHeartbeats 0 in
theorem kz_N113_0 : ak_chN kz_M kz_CF kz_K kz_t113 77 kz_e113 kz_l113 3000 kz_n113_0 = true := by decide +kernel
set_option maxRecDepth 100000 in
set_option maxHeartbeats 0 in
theorem kz_W114 : ak_chW kz_M kz_e114 kz_l114 = true := by decide +kernel
set_option maxRecDepth 100000 in
set_option maxHeartbeats 0 in
theorem kz_E114 : ak_chS kz_K 65 kz_e114 = true ∧ ak_chE kz_M kz_CF kz_K kz_t114 65 kz_e114 kz_l114 3000 = true := by decide +kernel
set_option maxRecDepth 100000 in
set_option maxHeartbeats 0 in
theorem kz_N114_0 : ak_chN kz_M kz_CF kz_K kz_t114 65 kz_e114 kz_l114 3000 kz_n114_0 = true := by decide +kernel
set_option maxRecDepth 100000 in
set_option maxHeartbeats 0 in
theorem kz_W115 : ak_chW kz_M kz_e115 kz_l115 = true := by decide +kernel
set_option maxRecDepth 100000 in
set_option maxHeartbeats 0 in
theorem kz_E115 : ak_chS kz_K 115 kz_e115 = true ∧ ak_chE kz_M kz_CF kz_K kz_t115 115 kz_e115 kz_l115 3000 = true := by decide +kernel
set_option maxRecDepth 100000 in
set_option maxHeartbeats 0 in
theorem kz_N115_0 : ak_chN kz_M kz_CF kz_K kz_t115 115 kz_e115 kz_l115 3000 kz_n115_0 = true := by decide +kernel
set_option maxRecDepth 100000 in
set_option maxHeartbeats 0 in
theorem kz_N115_1 : ak_chN kz_M kz_CF kz_K kz_t115 115 kz_e115 kz_l115 3000 kz_n115_1 = true := by decide +kernel
set_option maxRecDepth 100000 in
set_option maxHeartbeats 0 in
theorem kz_N115_2 : ak_chN kz_M kz_CF kz_K kz_t115 115 kz_e115 kz_l115 3000 kz_n115_2 = true := by decide +kernel
set_option maxRecDepth 100000 in
set_option maxHeartbeats 0 in
theorem kz_N115_3 : ak_chN kz_M kz_CF kz_K kz_t115 115 kz_e115 kz_l115 3000 kz_n115_3 = true := by decide +kernel
set_option maxRecDepth 100000 in
set_option maxHeartbeats 0 in
theorem kz_N115_4 : ak_chN kz_M kz_CF kz_K kz_t115 115 kz_e115 kz_l115 3000 kz_n115_4 = true := by decide +kernel
set_option maxRecDepth 100000 in
set_option maxHeartbeats 0 in
theorem kz_N115_5 : ak_chN kz_M kz_CF kz_K kz_t115 115 kz_e115 kz_l115 3000 kz_n115_5 = true := by decide +kernel
set_option maxRecDepth 100000 in
set_option maxHeartbeats 0 in
theorem kz_N115_6 : ak_chN kz_M kz_CF kz_K kz_t115 115 kz_e115 kz_l115 3000 kz_n115_6 = true := by decide +kernel
set_option maxRecDepth 100000 in
set_option maxHeartbeats 0 in
theorem kz_N115_7 : ak_chN kz_M kz_CF kz_K kz_t115 115 kz_e115 kz_l115 3000 kz_n115_7 = true := by decide +kernel
set_option maxRecDepth 100000 in
set_option maxHeartbeats 0 in
theorem kz_N115_8 : ak_chN kz_M kz_CF kz_K kz_t115 115 kz_e115 kz_l115 3000 kz_n115_8 = true := by decide +kernel
set_option maxRecDepth 100000 in
set_option maxHeartbeats 0 in
theorem kz_N115_9 : ak_chN kz_M kz_CF kz_K kz_t115 115 kz_e115 kz_l115 3000 kz_n115_9 = true := by decide +kernel
set_option maxRecDepth 100000 in
set_option maxHeartbeats 0 in
theorem kz_N115_10 : ak_chN kz_M kz_CF kz_K kz_t115 115 kz_e115 kz_l115 3000 kz_n115_10 = true := by decide +kernel
set_option maxRecDepth 100000 in
set_option maxHeartbeats 0 in
theorem kz_N115_11 : ak_chN kz_M kz_CF kz_K kz_t115 115 kz_e115 kz_l115 3000 kz_n115_11 = true := by decide +kernel
set_option maxRecDepth 100000 in
set_option maxHeartbeats 0 in
theorem kz_N115_12 : ak_chN kz_M kz_CF kz_K kz_t115 115 kz_e115 kz_l115 3000 kz_n115_12 = true := by decide +kernel
set_option maxRecDepth 100000 in
set_option maxHeartbeats 0 in
theorem kz_N115_13 : ak_chN kz_M kz_CF kz_K kz_t115 115 kz_e115 kz_l115 3000 kz_n115_13 = true := by decide +kernel
set_option maxRecDepth 100000 in
set_option maxHeartbeats 0 in
theorem kz_N115_14 : ak_chN kz_M kz_CF kz_K kz_t115 115 kz_e115 kz_l115 3000 kz_n115_14 = true := by decide +kernel
set_option maxRecDepth 100000 in
set_option maxHeartbeats 0 in
theorem kz_N115_15 : ak_chN kz_M kz_CF kz_K kz_t115 115 kz_e115 kz_l115 3000 kz_n115_15 = true := by decide +kernel
set_option maxRecDepth 100000 in
set_option maxHeartbeats 0 in
theorem kz_N115_16 : ak_chN kz_M kz_CF kz_K kz_t115 115 kz_e115 kz_l115 3000 kz_n115_16 = true := by decide +kernel
set_option maxRecDepth 100000 in
set_option maxHeartbeats 0 in
theorem kz_N115_17 : ak_chN kz_M kz_CF kz_K kz_t115 115 kz_e115 kz_l115 3000 kz_n115_17 = true := by decide +kernel
set_option maxRecDepth 100000 in
set_option maxHeartbeats 0 in
theorem kz_N115_18 : ak_chN kz_M kz_CF kz_K kz_t115 115 kz_e115 kz_l115 3000 kz_n115_18 = true := by decide +kernel
set_option maxRecDepth 100000 in
set_option maxHeartbeats 0 in
theorem kz_N115_19 : ak_chN kz_M kz_CF kz_K kz_t115 115 kz_e115 kz_l115 3000 kz_n115_19 = true := by decide +kernel
set_option maxRecDepth 100000 in
set_option maxHeartbeats 0 in
theorem kz_N115_20 : ak_chN kz_M kz_CF kz_K kz_t115 115 kz_e115 kz_l115 3000 kz_n115_20 = true := by decide +kernel
set_option maxRecDepth 100000 in
set_option maxHeartbeats 0 in
theorem kz_N115_21 : ak_chN kz_M kz_CF kz_K kz_t115 115 kz_e115 kz_l115 3000 kz_n115_21 = true := by decide +kernel
set_option maxRecDepth 100000 in
set_option maxHeartbeats 0 in
theorem kz_N115_22 : ak_chN kz_M kz_CF kz_K kz_t115 115 kz_e115 kz_l115 3000 kz_n115_22 = true := by decide +kernel
set_option maxRecDepth 100000 in
set_option maxHeartbeats 0 in
theorem kz_N115_23 : ak_chN kz_M kz_CF kz_K kz_t115 115 kz_e115 kz_l115 3000 kz_n115_23 = true := by decide +kernel
set_option maxRecDepth 100000 in
set_option maxHeartbeats 0 in
theorem kz_N115_24 : ak_chN kz_M kz_CF kz_K kz_t115 115 kz_e115 kz_l115 3000 kz_n115_24 = true := by decide +kernel
set_option maxRecDepth 100000 in
set_option maxHeartbeats 0 in
theorem kz_N115_25 : ak_chN kz_M kz_CF kz_K kz_t115 115 kz_e115 kz_l115 3000 kz_n115_25 = true := by decide +kernel
set_option maxRecDepth 100000 in
set_option maxHeartbeats 0 in
theorem kz_N115_26 : ak_chN kz_M kz_CF kz_K kz_t115 115 kz_e115 kz_l115 3000 kz_n115_26 = true := by decide +kernel
set_option maxRecDepth 100000 in
set_option maxHeartbeats 0 in
theorem kz_N115_27 : ak_chN kz_M kz_CF kz_K kz_t115 115 kz_e115 kz_l115 3000 kz_n115_27 = true := by decide +kernel
set_option maxRecDepth 100000 in
set_option maxHeartbeats 0 in
theorem kz_N115_28 : ak_chN kz_M kz_CF kz_K kz_t115 115 kz_e115 kz_l115 3000 kz_n115_28 = true := by decide +kernel
set_option maxRecDepth 100000 in
set_option maxHeartbeats 0 in
theorem kz_N115_29 : ak_chN kz_M kz_CF kz_K kz_t115 115 kz_e115 kz_l115 3000 kz_n115_29 = true := by decide +kernel
set_option maxRecDepth 100000 in
set_option maxHeartbeats 0 in
theorem kz_N115_30 : ak_chN kz_M kz_CF kz_K kz_t115 115 kz_e115 kz_l115 3000 kz_n115_30 = true := by decide +kernel
set_option maxRecDepth 100000 in
set_option maxHeartbeats 0 in
theorem kz_N115_31 : ak_chN kz_M kz_CF kz_K kz_t115 115 kz_e115 kz_l115 3000 kz_n115_31 = true := by decide +kernel
set_option maxRecDepth 100000 in
set_option maxHeartbeats 0 in
theorem kz_N115_32 : ak_chN kz_M kz_CF kz_K kz_t115 115 kz_e115 kz_l115 3000 kz_n115_32 = true := by decide +kernel
set_option maxRecDepth 100000 in
set_option maxHeartbeats 0 in
theorem kz_N115_33 : ak_chN kz_M kz_CF kz_K kz_t115 115 kz_e115 kz_l115 3000 kz_n115_33 = true := by decide +kernel
set_option maxRecDepth 100000 in
set_option maxHeartbeats 0 in
theorem kz_N115_34 : ak_chN kz_M kz_CF kz_K kz_t115 115 kz_e115 kz_l115 3000 kz_n115_34 = true := by decide +kernel
set_option maxRecDepth 100000 in
set_option maxHeartbeats 0 in
theorem kz_N115_35 : ak_chN kz_M kz_CF kz_K kz_t115 115 kz_e115 kz_l115 3000 kz_n115_35 = true := by decide +kernel
set_option maxRecDepth 100000 in
set_option maxHeartbeats 0 in
theorem kz_N115_36 : ak_chN kz_M kz_CF kz_K kz_t115 115 kz_e115 kz_l115 3000 kz_n115_36 = true := by decide +kernel
set_option maxRecDepth 100000 in
set_option maxHeartbeats 0 in
theorem kz_N115_37 : ak_chN kz_M kz_CF kz_K kz_t115 115 kz_e115 kz_l115 3000 kz_n115_37 = true := by decide +kernel
set_option maxRecDepth 100000 in
set_option maxHeartbeats 0 in
theorem kz_N115_38 : ak_chN kz_M kz_CF kz_K kz_t115 115 kz_e115 kz_l115 3000 kz_n115_38 = true := by decide +kernel
set_option maxRecDepth 100000 in
set_option maxHeartbeats 0 in
theorem kz_N115_39 : ak_chN kz_M kz_CF kz_K kz_t115 115 kz_e115 kz_l115 3000 kz_n115_39 = true := by decide +kernel
set_option maxRecDepth 100000 in
set_option maxHeartbeats 0 in
theorem kz_N115_40 : ak_chN kz_M kz_CF kz_K kz_t115 115 kz_e115 kz_l115 3000 kz_n115_40 = true := by decide +kernel
set_option maxRecDepth 100000 in
set_option maxHeartbeats 0 in
theorem kz_N115_41 : ak_chN kz_M kz_CF kz_K kz_t115 115 kz_e115 kz_l115 3000 kz_n115_41 = true := by decide +kernel
set_option maxRecDepth 100000 in
set_option maxHeartbeats 0 in
theorem kz_N115_42 : ak_chN kz_M kz_CF kz_K kz_t115 115 kz_e115 kz_l115 3000 kz_n115_42 = true := by decide +kernel
set_option maxRecDepth 100000 in
set_option maxHeartbeats 0 in
theorem kz_N115_43 : ak_chN kz_M kz_CF kz_K kz_t115 115 kz_e115 kz_l115 3000 kz_n115_43 = true := by decide +kernel
set_option maxRecDepth 100000 in
set_option maxHeartbeats 0 in
theorem kz_N115_44 : ak_chN kz_M kz_CF kz_K kz_t115 115 kz_e115 kz_l115 3000 kz_n115_44 = true := by decide +kernel
set_option maxRecDepth 100000 in
set_option maxHeartbeats 0 in
theorem kz_N115_45 : ak_chN kz_M kz_CF kz_K kz_t115 115 kz_e115 kz_l115 3000 kz_n115_45 = true := by decide +kernel
set_option maxRecDepth 100000 in
set_option maxHeartbeats 0 in
theorem kz_N115_46 : ak_chN kz_M kz_CF kz_K kz_t115 115 kz_e115 kz_l115 3000 kz_n115_46 = true := by decide +kernel
set_option maxRecDepth 100000 in
set_option maxHeartbeats 0 in
theorem kz_N115_47 : ak_chN kz_M kz_CF kz_K kz_t115 115 kz_e115 kz_l115 3000 kz_n115_47 = true := by decide +kernel
set_option maxRecDepth 100000 in
set_option maxHeartbeats 0 in
theorem kz_N115_48 : ak_chN kz_M kz_CF kz_K kz_t115 115 kz_e115 kz_l115 3000 kz_n115_48 = true := by decide +kernel
set_option maxRecDepth 100000 in
set_option maxHeartbeats 0 in
theorem kz_N115_49 : ak_chN kz_M kz_CF kz_K kz_t115 115 kz_e115 kz_l115 3000 kz_n115_49 = true := by decide +kernel
set_option maxRecDepth 100000 in
set_option maxHeartbeats 0 in
theorem kz_N115_50 : ak_chN kz_M kz_CF kz_K kz_t115 115 kz_e115 kz_l115 3000 kz_n115_50 = true := by decide +kernel
set_option maxRecDepth 100000 in
set_option maxHeartbeats 0 in
theorem kz_N115_51 : ak_chN kz_M kz_CF kz_K kz_t115 115 kz_e115 kz_l115 3000 kz_n115_51 = true := by decide +kernel
set_option maxRecDepth 100000 in
set_option maxHeartbeats 0 in
theorem kz_N115_52 : ak_chN kz_M kz_CF kz_K kz_t115 115 kz_e115 kz_l115 3000 kz_n115_52 = true := by decide +kernel
set_option maxRecDepth 100000 in
set_option maxHeartbeats 0 in
theorem kz_N115_53 : ak_chN kz_M kz_CF kz_K kz_t115 115 kz_e115 kz_l115 3000 kz_n115_53 = true := by decide +kernel
set_option maxRecDepth 100000 in
set_option maxHeartbeats 0 in
theorem kz_N115_54 : ak_chN kz_M kz_CF kz_K kz_t115 115 kz_e115 kz_l115 3000 kz_n115_54 = true := by decide +kernel
set_option maxRecDepth 100000 in
set_option maxHeartbeats 0 in
theorem kz_N115_55 : ak_chN kz_M kz_CF kz_K kz_t115 115 kz_e115 kz_l115 3000 kz_n115_55 = true := by decide +kernel
set_option maxRecDepth 100000 in
set_option maxHeartbeats 0 in
theorem kz_N115_56 : ak_chN kz_M kz_CF kz_K kz_t115 115 kz_e115 kz_l115 3000 kz_n115_56 = true := by decide +kernel
set_option maxRecDepth 100000 in
set_option maxHeartbeats 0 in
theorem kz_N115_57 : ak_chN kz_M kz_CF kz_K kz_t115 115 kz_e115 kz_l115 3000 kz_n115_57 = true := by decide +kernel
set_option maxRecDepth 100000 in
set_option maxHeartbeats 0 in
theorem kz_N115_58 : ak_chN kz_M kz_CF kz_K kz_t115 115 kz_e115 kz_l115 3000 kz_n115_58 = true := by decide +kernel
set_option maxRecDepth 100000 in
set_option maxHeartbeats 0 in
theorem kz_N115_59 : ak_chN kz_M kz_CF kz_K kz_t115 115 kz_e115 kz_l115 3000 kz_n115_59 = true := by decide +kernel
set_option maxRecDepth 100000 in
set_option maxHeartbeats 0 in
theorem kz_N115_60 : ak_chN kz_M kz_CF kz_K kz_t115 115 kz_e115 kz_l115 3000 kz_n115_60 = true := by decide +kernel
set_option maxRecDepth 100000 in
set_option maxHeartbeats 0 in
theorem kz_W116 : ak_chW kz_M kz_e116 kz_l116 = true := by decide +kernel
set_option maxRecDepth 100000 in
set_option maxHeartbeats 0 in
theorem kz_E116 : ak_chS kz_K 76 kz_e116 = true ∧ ak_chE kz_M kz_CF kz_K kz_t116 76 kz_e116 kz_l116 3000 = true := by decide +kernel
set_option maxRecDepth 100000 in
set_option maxHeartbeats 0 in
theorem kz_W117 : ak_chW kz_M kz_e117 kz_l117 = true := by decide +kernel
set_option maxRecDepth 100000 in
set_option maxHeartbeats 0 in
theorem kz_E117 : ak_chS kz_K 132 kz_e117 = true ∧ ak_chE kz_M kz_CF kz_K kz_t117 132 kz_e117 kz_l117 3000 = true := by decide +kernel
set_option maxRecDepth 100000 in
set_option maxHeartbeats 0 in
theorem kz_N117_0 : ak_chN kz_M kz_CF kz_K kz_t117 132 kz_e117 kz_l117 3000 kz_n117_0 = true := by decide +kernel
set_option maxRecDepth 100000 in
set_option maxHeartbeats 0 in
theorem kz_N117_1 : ak_chN kz_M kz_CF kz_K kz_t117 132 kz_e117 kz_l117 3000 kz_n117_1 = true := by decide +kernel
set_option maxRecDepth 100000 in
set_option maxHeartbeats 0 in
theorem kz_N117_2 : ak_chN kz_M kz_CF kz_K kz_t117 132 kz_e117 kz_l117 3000 kz_n117_2 = true := by decide +kernel
set_option maxRecDepth 100000 in
set_option maxHeartbeats 0 in
theorem kz_W118 : ak_chW kz_M kz_e118 kz_l118 = true := by decide +kernel
set_option maxRecDepth 100000 in
set_option maxHeartbeats 0 in
theorem kz_E118 : ak_chS kz_K 61 kz_e118 = true ∧ ak_chE kz_M kz_CF kz_K kz_t118 61 kz_e118 kz_l118 3000 = true := by decide +kernel
set_option maxRecDepth 100000 in
set_option maxHeartbeats 0 in
theorem kz_W119 : ak_chW kz_M kz_e119 kz_l119 = true := by decide +kernel
set_option maxRecDepth 100000 in
set_option maxHeartbeats 0 in
theorem kz_E119 : ak_chS kz_K 108 kz_e119 = true ∧ ak_chE kz_M kz_CF kz_K kz_t119 108 kz_e119 kz_l119 3000 = true := by decide +kernel
set_option maxRecDepth 100000 in
set_option maxHeartbeats 0 in
theorem kz_N119_0 : ak_chN kz_M kz_CF kz_K kz_t119 108 kz_e119 kz_l119 3000 kz_n119_0 = true := by decide +kernel
set_option maxRecDepth 100000 in
set_option maxHeartbeats 0 in
theorem kz_N119_1 : ak_chN kz_M kz_CF kz_K kz_t119 108 kz_e119 kz_l119 3000 kz_n119_1 = true := by decide +kernel
set_option maxRecDepth 100000 in
set_option maxHeartbeats 0 in
theorem kz_N119_2 : ak_chN kz_M kz_CF kz_K kz_t119 108 kz_e119 kz_l119 3000 kz_n119_2 = true := by decide +kernel
set_option maxRecDepth 100000 in
set_option maxHeartbeats 0 in
theorem kz_W120 : ak_chW kz_M kz_e120 kz_l120 = true := by decide +kernel
set_option maxRecDepth 100000 in
set_option maxHeartbeats 0 in
theorem kz_E120 : ak_chS kz_K 11 kz_e120 = true ∧ ak_chE kz_M kz_CF kz_K kz_t120 11 kz_e120 kz_l120 3000 = true := by decide +kernel
set_option maxRecDepth 100000 in
set_option maxHeartbeats 0 in
theorem kz_N120_0 : ak_chN kz_M kz_CF kz_K kz_t120 11 kz_e120 kz_l120 3000 kz_n120_0 = true := by decide +kernel
set_option maxRecDepth 100000 in
set_option maxHeartbeats 0 in
theorem kz_W121 : ak_chW kz_M kz_e121 kz_l121 = true := by decide +kernel
set_option maxRecDepth 100000 in
set_option maxHeartbeats 0 in
theorem kz_E121 : ak_chS kz_K 68 kz_e121 = true ∧ ak_chE kz_M kz_CF kz_K kz_t121 68 kz_e121 kz_l121 3000 = true := by decide +kernel
set_option maxRecDepth 100000 in
set_option maxHeartbeats 0 in
theorem kz_W122 : ak_chW kz_M kz_e122 kz_l122 = true := by decide +kernel
set_option maxRecDepth 100000 in
set_option maxHeartbeats 0 in
theorem kz_E122 : ak_chS kz_K 118 kz_e122 = true ∧ ak_chE kz_M kz_CF kz_K kz_t122 118 kz_e122 kz_l122 3000 = true := by decide +kernel
set_option maxRecDepth 100000 in
set_option maxHeartbeats 0 in
theorem kz_N122_0 : ak_chN kz_M kz_CF kz_K kz_t122 118 kz_e122 kz_l122 3000 kz_n122_0 = true := by decide +kernel
set_option maxRecDepth 100000 in
set_option maxHeartbeats 0 in
theorem kz_W123 : ak_chW kz_M kz_e123 kz_l123 = true := by decide +kernel
set_option maxRecDepth 100000 in
set_option maxHeartbeats 0 in
theorem kz_E123 : ak_chS kz_K 96 kz_e123 = true ∧ ak_chE kz_M kz_CF kz_K kz_t123 96 kz_e123 kz_l123 3000 = true := by decide +kernel
set_option maxRecDepth 100000 in
set_option maxHeartbeats 0 in
theorem kz_W124 : ak_chW kz_M kz_e124 kz_l124 = true := by decide +kernel
set_option maxRecDepth 100000 in
set_option maxHeartbeats 0 in
theorem kz_E124 : ak_chS kz_K 64 kz_e124 = true ∧ ak_chE kz_M kz_CF kz_K kz_t124 64 kz_e124 kz_l124 3000 = true := by decide +kernel
set_option maxRecDepth 100000 in
set_option maxHeartbeats 0 in
theorem kz_W125 : ak_chW kz_M kz_e125 kz_l125 = true := by decide +kernel
set_option maxRecDepth 100000 in
set_option maxHeartbeats 0 in
theorem kz_E125 : ak_chS kz_K 114 kz_e125 = true ∧ ak_chE kz_M kz_CF kz_K kz_t125 114 kz_e125 kz_l125 3000 = true := by decide +kernel
set_option maxRecDepth 100000 in
set_option maxHeartbeats 0 in
theorem kz_W126 : ak_chW kz_M kz_e126 kz_l126 = true := by decide +kernel
set_option maxRecDepth 100000 in
set_option maxHeartbeats 0 in
theorem kz_E126 : ak_chS kz_K 67 kz_e126 = true ∧ ak_chE kz_M kz_CF kz_K kz_t126 67 kz_e126 kz_l126 3000 = true := by decide +kernel
set_option maxRecDepth 100000 in
set_option maxHeartbeats 0 in
theorem kz_W127 : ak_chW kz_M kz_e127 kz_l127 = true := by decide +kernel
