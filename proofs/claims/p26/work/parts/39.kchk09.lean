set_option maxRecDepth 100000 in
set_option maxHeartbeats 0 in
theorem kz_E103 : ak_chS kz_K 165 kz_e103 = true ∧ ak_chE kz_M kz_CF kz_K kz_t103 165 kz_e103 kz_l103 3000 = true := by decide +kernel
set_option maxRecDepth 100000 in
set_option maxHeartbeats 0 in
theorem kz_N103_0 : ak_chN kz_M kz_CF kz_K kz_t103 165 kz_e103 kz_l103 3000 kz_n103_0 = true := by decide +kernel
set_option maxRecDepth 100000 in
set_option maxHeartbeats 0 in
theorem kz_N103_1 : ak_chN kz_M kz_CF kz_K kz_t103 165 kz_e103 kz_l103 3000 kz_n103_1 = true := by decide +kernel
set_option maxRecDepth 100000 in
set_option maxHeartbeats 0 in
theorem kz_N103_2 : ak_chN kz_M kz_CF kz_K kz_t103 165 kz_e103 kz_l103 3000 kz_n103_2 = true := by decide +kernel
set_option maxRecDepth 100000 in
set_option maxHeartbeats 0 in
theorem kz_N103_3 : ak_chN kz_M kz_CF kz_K kz_t103 165 kz_e103 kz_l103 3000 kz_n103_3 = true := by decide +kernel
set_option maxRecDepth 100000 in
set_option maxHeartbeats 0 in
theorem kz_N103_4 : ak_chN kz_M kz_CF kz_K kz_t103 165 kz_e103 kz_l103 3000 kz_n103_4 = true := by decide +kernel
set_option maxRecDepth 100000 in
set_option maxHeartbeats 0 in
theorem kz_N103_5 : ak_chN kz_M kz_CF kz_K kz_t103 165 kz_e103 kz_l103 3000 kz_n103_5 = true := by decide +kernel
set_option maxRecDepth 100000 in
set_option maxHeartbeats 0 in
theorem kz_E104 : ak_chS kz_K 44 kz_e104 = true ∧ ak_chE kz_M kz_CF kz_K kz_t104 44 kz_e104 kz_l104 3000 = true := by decide +kernel
set_option maxRecDepth 100000 in
set_option maxHeartbeats 0 in
theorem kz_N104_0 : ak_chN kz_M kz_CF kz_K kz_t104 44 kz_e104 kz_l104 3000 kz_n104_0 = true := by decide +kernel
set_option maxRecDepth 100000 in
set_option maxHeartbeats 0 in
theorem kz_E105 : ak_chS kz_K 73 kz_e105 = true ∧ ak_chE kz_M kz_CF kz_K kz_t105 73 kz_e105 kz_l105 3000 = true := by decide +kernel
set_option maxRecDepth 100000 in
set_option maxHeartbeats 0 in
theorem kz_N105_0 : ak_chN kz_M kz_CF kz_K kz_t105 73 kz_e105 kz_l105 3000 kz_n105_0 = true := by decide +kernel
set_option maxRecDepth 100000 in
set_option maxHeartbeats 0 in
theorem kz_N105_1 : ak_chN kz_M kz_CF kz_K kz_t105 73 kz_e105 kz_l105 3000 kz_n105_1 = true := by decide +kernel
set_option maxRecDepth 100000 in
set_option maxHeartbeats 0 in
theorem kz_N105_2 : ak_chN kz_M kz_CF kz_K kz_t105 73 kz_e105 kz_l105 3000 kz_n105_2 = true := by decide +kernel
set_option maxRecDepth 100000 in
set_option maxHeartbeats 0 in
theorem kz_N105_3 : ak_chN kz_M kz_CF kz_K kz_t105 73 kz_e105 kz_l105 3000 kz_n105_3 = true := by decide +kernel
set_option maxRecDepth 100000 in
set_option maxHeartbeats 0 in
theorem kz_N105_4 : ak_chN kz_M kz_CF kz_K kz_t105 73 kz_e105 kz_l105 3000 kz_n105_4 = true := by decide +kernel
set_option maxRecDepth 100000 in
set_option maxHeartbeats 0 in
theorem kz_N105_5 : ak_chN kz_M kz_CF kz_K kz_t105 73 kz_e105 kz_l105 3000 kz_n105_5 = true := by decide +kernel
set_option maxRecDepth 100000 in
set_option maxHeartbeats 0 in
theorem kz_N105_6 : ak_chN kz_M kz_CF kz_K kz_t105 73 kz_e105 kz_l105 3000 kz_n105_6 = true := by decide +kernel
set_option maxRecDepth 100000 in
set_option maxHeartbeats 0 in
theorem kz_N105_7 : ak_chN kz_M kz_CF kz_K kz_t105 73 kz_e105 kz_l105 3000 kz_n105_7 = true := by decide +kernel
set_option maxRecDepth 100000 in
set_option maxHeartbeats 0 in
theorem kz_N105_8 : ak_chN kz_M kz_CF kz_K kz_t105 73 kz_e105 kz_l105 3000 kz_n105_8 = true := by decide +kernel
set_option maxRecDepth 100000 in
set_option maxHeartbeats 0 in
theorem kz_E106 : ak_chS kz_K 169 kz_e106 = true ∧ ak_chE kz_M kz_CF kz_K kz_t106 169 kz_e106 kz_l106 3000 = true := by decide +kernel
set_option maxRecDepth 100000 in
set_option maxHeartbeats 0 in
theorem kz_N106_0 : ak_chN kz_M kz_CF kz_K kz_t106 169 kz_e106 kz_l106 3000 kz_n106_0 = true := by decide +kernel
set_option maxRecDepth 100000 in
set_option maxHeartbeats 0 in
theorem kz_N106_1 : ak_chN kz_M kz_CF kz_K kz_t106 169 kz_e106 kz_l106 3000 kz_n106_1 = true := by decide +kernel
set_option maxRecDepth 100000 in
set_option maxHeartbeats 0 in
theorem kz_N106_2 : ak_chN kz_M kz_CF kz_K kz_t106 169 kz_e106 kz_l106 3000 kz_n106_2 = true := by decide +kernel
set_option maxRecDepth 100000 in
set_option maxHeartbeats 0 in
theorem kz_E107 : ak_chS kz_K 127 kz_e107 = true ∧ ak_chE kz_M kz_CF kz_K kz_t107 127 kz_e107 kz_l107 3000 = true := by decide +kernel
set_option maxRecDepth 100000 in
set_option maxHeartbeats 0 in
theorem kz_N107_0 : ak_chN kz_M kz_CF kz_K kz_t107 127 kz_e107 kz_l107 3000 kz_n107_0 = true := by decide +kernel
set_option maxRecDepth 100000 in
set_option maxHeartbeats 0 in
theorem kz_N107_1 : ak_chN kz_M kz_CF kz_K kz_t107 127 kz_e107 kz_l107 3000 kz_n107_1 = true := by decide +kernel
set_option maxRecDepth 100000 in
set_option maxHeartbeats 0 in
theorem kz_N107_2 : ak_chN kz_M kz_CF kz_K kz_t107 127 kz_e107 kz_l107 3000 kz_n107_2 = true := by decide +kernel
set_option maxRecDepth 100000 in
set_option maxHeartbeats 0 in
theorem kz_N107_3 : ak_chN kz_M kz_CF kz_K kz_t107 127 kz_e107 kz_l107 3000 kz_n107_3 = true := by decide +kernel
set_option maxRecDepth 100000 in
set_option maxHeartbeats 0 in
theorem kz_N107_4 : ak_chN kz_M kz_CF kz_K kz_t107 127 kz_e107 kz_l107 3000 kz_n107_4 = true := by decide +kernel
set_option maxRecDepth 100000 in
set_option maxHeartbeats 0 in
theorem kz_N107_5 : ak_chN kz_M kz_CF kz_K kz_t107 127 kz_e107 kz_l107 3000 kz_n107_5 = true := by decide +kernel
set_option maxRecDepth 100000 in
set_option maxHeartbeats 0 in
theorem kz_N107_6 : ak_chN kz_M kz_CF kz_K kz_t107 127 kz_e107 kz_l107 3000 kz_n107_6 = true := by decide +kernel
set_option maxRecDepth 100000 in
set_option maxHeartbeats 0 in
theorem kz_N107_7 : ak_chN kz_M kz_CF kz_K kz_t107 127 kz_e107 kz_l107 3000 kz_n107_7 = true := by decide +kernel
set_option maxRecDepth 100000 in
set_option maxHeartbeats 0 in
theorem kz_N107_8 : ak_chN kz_M kz_CF kz_K kz_t107 127 kz_e107 kz_l107 3000 kz_n107_8 = true := by decide +kernel
set_option maxRecDepth 100000 in
set_option maxHeartbeats 0 in
theorem kz_E108 : ak_chS kz_K 94 kz_e108 = true ∧ ak_chE kz_M kz_CF kz_K kz_t108 94 kz_e108 kz_l108 3000 = true := by decide +kernel
set_option maxRecDepth 100000 in
set_option maxHeartbeats 0 in
theorem kz_N108_0 : ak_chN kz_M kz_CF kz_K kz_t108 94 kz_e108 kz_l108 3000 kz_n108_0 = true := by decide +kernel
set_option maxRecDepth 100000 in
set_option maxHeartbeats 0 in
theorem kz_N108_1 : ak_chN kz_M kz_CF kz_K kz_t108 94 kz_e108 kz_l108 3000 kz_n108_1 = true := by decide +kernel
set_option maxRecDepth 100000 in
set_option maxHeartbeats 0 in
theorem kz_N108_2 : ak_chN kz_M kz_CF kz_K kz_t108 94 kz_e108 kz_l108 3000 kz_n108_2 = true := by decide +kernel
set_option maxRecDepth 100000 in
set_option maxHeartbeats 0 in
theorem kz_N108_3 : ak_chN kz_M kz_CF kz_K kz_t108 94 kz_e108 kz_l108 3000 kz_n108_3 = true := by decide +kernel
set_option maxRecDepth 100000 in
set_option maxHeartbeats 0 in
theorem kz_N108_4 : ak_chN kz_M kz_CF kz_K kz_t108 94 kz_e108 kz_l108 3000 kz_n108_4 = true := by decide +kernel
set_option maxRecDepth 100000 in
set_option maxHeartbeats 0 in
theorem kz_N108_5 : ak_chN kz_M kz_CF kz_K kz_t108 94 kz_e108 kz_l108 3000 kz_n108_5 = true := by decide +kernel
set_option maxRecDepth 100000 in
set_option maxHeartbeats 0 in
theorem kz_N108_6 : ak_chN kz_M kz_CF kz_K kz_t108 94 kz_e108 kz_l108 3000 kz_n108_6 = true := by decide +kernel
set_option maxRecDepth 100000 in
set_option maxHeartbeats 0 in
theorem kz_N108_7 : ak_chN kz_M kz_CF kz_K kz_t108 94 kz_e108 kz_l108 3000 kz_n108_7 = true := by decide +kernel
set_option maxRecDepth 100000 in
set_option maxHeartbeats 0 in
theorem kz_N108_8 : ak_chN kz_M kz_CF kz_K kz_t108 94 kz_e108 kz_l108 3000 kz_n108_8 = true := by decide +kernel
set_option maxRecDepth 100000 in
set_option maxHeartbeats 0 in
theorem kz_N108_9 : ak_chN kz_M kz_CF kz_K kz_t108 94 kz_e108 kz_l108 3000 kz_n108_9 = true := by decide +kernel
set_option maxRecDepth 100000 in
set_option maxHeartbeats 0 in
theorem kz_N108_10 : ak_chN kz_M kz_CF kz_K kz_t108 94 kz_e108 kz_l108 3000 kz_n108_10 = true := by decide +kernel
set_option maxRecDepth 100000 in
set_option maxHeartbeats 0 in
theorem kz_N108_11 : ak_chN kz_M kz_CF kz_K kz_t108 94 kz_e108 kz_l108 3000 kz_n108_11 = true := by decide +kernel
set_option maxRecDepth 100000 in
set_option maxHeartbeats 0 in
theorem kz_N108_12 : ak_chN kz_M kz_CF kz_K kz_t108 94 kz_e108 kz_l108 3000 kz_n108_12 = true := by decide +kernel
set_option maxRecDepth 100000 in
set_option maxHeartbeats 0 in
theorem kz_N108_13 : ak_chN kz_M kz_CF kz_K kz_t108 94 kz_e108 kz_l108 3000 kz_n108_13 = true := by decide +kernel
set_option maxRecDepth 100000 in
set_option maxHeartbeats 0 in
theorem kz_N108_14 : ak_chN kz_M kz_CF kz_K kz_t108 94 kz_e108 kz_l108 3000 kz_n108_14 = true := by decide +kernel
set_option maxRecDepth 100000 in
set_option maxHeartbeats 0 in
theorem kz_N108_15 : ak_chN kz_M kz_CF kz_K kz_t108 94 kz_e108 kz_l108 3000 kz_n108_15 = true := by decide +kernel
set_option maxRecDepth 100000 in
set_option maxHeartbeats 0 in
theorem kz_N108_16 : ak_chN kz_M kz_CF kz_K kz_t108 94 kz_e108 kz_l108 3000 kz_n108_16 = true := by decide +kernel
set_option maxRecDepth 100000 in
set_option maxHeartbeats 0 in
theorem kz_N108_17 : ak_chN kz_M kz_CF kz_K kz_t108 94 kz_e108 kz_l108 3000 kz_n108_17 = true := by decide +kernel
set_option maxRecDepth 100000 in
set_option maxHeartbeats 0 in
theorem kz_N108_18 : ak_chN kz_M kz_CF kz_K kz_t108 94 kz_e108 kz_l108 3000 kz_n108_18 = true := by decide +kernel
set_option maxRecDepth 100000 in
set_option maxHeartbeats 0 in
theorem kz_N108_19 : ak_chN kz_M kz_CF kz_K kz_t108 94 kz_e108 kz_l108 3000 kz_n108_19 = true := by decide +kernel
set_option maxRecDepth 100000 in
set_option maxHeartbeats 0 in
theorem kz_N108_20 : ak_chN kz_M kz_CF kz_K kz_t108 94 kz_e108 kz_l108 3000 kz_n108_20 = true := by decide +kernel
set_option maxRecDepth 100000 in
set_option maxHeartbeats 0 in
theorem kz_N108_21 : ak_chN kz_M kz_CF kz_K kz_t108 94 kz_e108 kz_l108 3000 kz_n108_21 = true := by decide +kernel
set_option maxRecDepth 100000 in
set_option maxHeartbeats 0 in
theorem kz_N108_22 : ak_chN kz_M kz_CF kz_K kz_t108 94 kz_e108 kz_l108 3000 kz_n108_22 = true := by decide +kernel
set_option maxRecDepth 100000 in
set_option maxHeartbeats 0 in
theorem kz_N108_23 : ak_chN kz_M kz_CF kz_K kz_t108 94 kz_e108 kz_l108 3000 kz_n108_23 = true := by decide +kernel
set_option maxRecDepth 100000 in
set_option maxHeartbeats 0 in
theorem kz_N108_24 : ak_chN kz_M kz_CF kz_K kz_t108 94 kz_e108 kz_l108 3000 kz_n108_24 = true := by decide +kernel
set_option maxRecDepth 100000 in
set_option maxHeartbeats 0 in
theorem kz_N108_25 : ak_chN kz_M kz_CF kz_K kz_t108 94 kz_e108 kz_l108 3000 kz_n108_25 = true := by decide +kernel
set_option maxRecDepth 100000 in
set_option maxHeartbeats 0 in
theorem kz_N108_26 : ak_chN kz_M kz_CF kz_K kz_t108 94 kz_e108 kz_l108 3000 kz_n108_26 = true := by decide +kernel
set_option maxRecDepth 100000 in
set_option maxHeartbeats 0 in
theorem kz_E109 : ak_chS kz_K 69 kz_e109 = true ∧ ak_chE kz_M kz_CF kz_K kz_t109 69 kz_e109 kz_l109 3000 = true := by decide +kernel
set_option maxRecDepth 100000 in
set_option maxHeartbeats 0 in
theorem kz_E110 : ak_chS kz_K 120 kz_e110 = true ∧ ak_chE kz_M kz_CF kz_K kz_t110 120 kz_e110 kz_l110 3000 = true := by decide +kernel
set_option maxRecDepth 100000 in
set_option maxHeartbeats 0 in
theorem kz_N110_0 : ak_chN kz_M kz_CF kz_K kz_t110 120 kz_e110 kz_l110 3000 kz_n110_0 = true := by decide +kernel
set_option maxRecDepth 100000 in
set_option maxHeartbeats 0 in
theorem kz_N110_1 : ak_chN kz_M kz_CF kz_K kz_t110 120 kz_e110 kz_l110 3000 kz_n110_1 = true := by decide +kernel
set_option maxRecDepth 100000 in
set_option maxHeartbeats 0 in
theorem kz_N110_2 : ak_chN kz_M kz_CF kz_K kz_t110 120 kz_e110 kz_l110 3000 kz_n110_2 = true := by decide +kernel
set_option maxRecDepth 100000 in
set_option maxHeartbeats 0 in
theorem kz_N110_3 : ak_chN kz_M kz_CF kz_K kz_t110 120 kz_e110 kz_l110 3000 kz_n110_3 = true := by decide +kernel
set_option maxRecDepth 100000 in
set_option maxHeartbeats 0 in
theorem kz_N110_4 : ak_chN kz_M kz_CF kz_K kz_t110 120 kz_e110 kz_l110 3000 kz_n110_4 = true := by decide +kernel
set_option maxRecDepth 100000 in
set_option maxHeartbeats 0 in
theorem kz_N110_5 : ak_chN kz_M kz_CF kz_K kz_t110 120 kz_e110 kz_l110 3000 kz_n110_5 = true := by decide +kernel
set_option maxRecDepth 100000 in
set_option maxHeartbeats 0 in
theorem kz_N110_6 : ak_chN kz_M kz_CF kz_K kz_t110 120 kz_e110 kz_l110 3000 kz_n110_6 = true := by decide +kernel
set_option maxRecDepth 100000 in
set_option maxHeartbeats 0 in
theorem kz_N110_7 : ak_chN kz_M kz_CF kz_K kz_t110 120 kz_e110 kz_l110 3000 kz_n110_7 = true := by decide +kernel
set_option maxRecDepth 100000 in
set_option maxHeartbeats 0 in
theorem kz_N110_8 : ak_chN kz_M kz_CF kz_K kz_t110 120 kz_e110 kz_l110 3000 kz_n110_8 = true := by decide +kernel
set_option maxRecDepth 100000 in
set_option maxHeartbeats 0 in
theorem kz_N110_9 : ak_chN kz_M kz_CF kz_K kz_t110 120 kz_e110 kz_l110 3000 kz_n110_9 = true := by decide +kernel
set_option maxRecDepth 100000 in
set_option maxHeartbeats 0 in
theorem kz_N110_10 : ak_chN kz_M kz_CF kz_K kz_t110 120 kz_e110 kz_l110 3000 kz_n110_10 = true := by decide +kernel
set_option maxRecDepth 100000 in
set_option maxHeartbeats 0 in
theorem kz_N110_11 : ak_chN kz_M kz_CF kz_K kz_t110 120 kz_e110 kz_l110 3000 kz_n110_11 = true := by decide +kernel
set_option maxRecDepth 100000 in
set_option maxHeartbeats 0 in
theorem kz_N110_12 : ak_chN kz_M kz_CF kz_K kz_t110 120 kz_e110 kz_l110 3000 kz_n110_12 = true := by decide +kernel
set_option maxRecDepth 100000 in
set_option maxHeartbeats 0 in
theorem kz_N110_13 : ak_chN kz_M kz_CF kz_K kz_t110 120 kz_e110 kz_l110 3000 kz_n110_13 = true := by decide +kernel
set_option maxRecDepth 100000 in
set_option maxHeartbeats 0 in
theorem kz_N110_14 : ak_chN kz_M kz_CF kz_K kz_t110 120 kz_e110 kz_l110 3000 kz_n110_14 = true := by decide +kernel
set_option maxRecDepth 100000 in
set_option maxHeartbeats 0 in
theorem kz_N110_15 : ak_chN kz_M kz_CF kz_K kz_t110 120 kz_e110 kz_l110 3000 kz_n110_15 = true := by decide +kernel
set_option maxRecDepth 100000 in
set_option maxHeartbeats 0 in
theorem kz_N110_16 : ak_chN kz_M kz_CF kz_K kz_t110 120 kz_e110 kz_l110 3000 kz_n110_16 = true := by decide +kernel
set_option maxRecDepth 100000 in
set_option maxHeartbeats 0 in
theorem kz_N110_17 : ak_chN kz_M kz_CF kz_K kz_t110 120 kz_e110 kz_l110 3000 kz_n110_17 = true := by decide +kernel
set_option maxRecDepth 100000 in
set_option maxHeartbeats 0 in
theorem kz_N110_18 : ak_chN kz_M kz_CF kz_K kz_t110 120 kz_e110 kz_l110 3000 kz_n110_18 = true := by decide +kernel
set_option maxRecDepth 100000 in
set_option maxHeartbeats 0 in
theorem kz_N110_19 : ak_chN kz_M kz_CF kz_K kz_t110 120 kz_e110 kz_l110 3000 kz_n110_19 = true := by decide +kernel
set_option maxRecDepth 100000 in
set_option maxHeartbeats 0 in
theorem kz_N110_20 : ak_chN kz_M kz_CF kz_K kz_t110 120 kz_e110 kz_l110 3000 kz_n110_20 = true := by decide +kernel
set_option maxRecDepth 100000 in
set_option maxHeartbeats 0 in
theorem kz_N110_21 : ak_chN kz_M kz_CF kz_K kz_t110 120 kz_e110 kz_l110 3000 kz_n110_21 = true := by decide +kernel
set_option maxRecDepth 100000 in
set_option maxHeartbeats 0 in
theorem kz_N110_22 : ak_chN kz_M kz_CF kz_K kz_t110 120 kz_e110 kz_l110 3000 kz_n110_22 = true := by decide +kernel
set_option maxRecDepth 100000 in
set_option maxHeartbeats 0 in
theorem kz_N110_23 : ak_chN kz_M kz_CF kz_K kz_t110 120 kz_e110 kz_l110 3000 kz_n110_23 = true := by decide +kernel
set_option maxRecDepth 100000 in
set_option maxHeartbeats 0 in
theorem kz_N110_24 : ak_chN kz_M kz_CF kz_K kz_t110 120 kz_e110 kz_l110 3000 kz_n110_24 = true := by decide +kernel
set_option maxRecDepth 100000 in
set_option maxHeartbeats 0 in
theorem kz_N110_25 : ak_chN kz_M kz_CF kz_K kz_t110 120 kz_e110 kz_l110 3000 kz_n110_25 = true := by decide +kernel
set_option maxRecDepth 100000 in
set_option maxHeartbeats 0 in
theorem kz_N110_26 : ak_chN kz_M kz_CF kz_K kz_t110 120 kz_e110 kz_l110 3000 kz_n110_26 = true := by decide +kernel
set_option maxRecDepth 100000 in
set_option maxHeartbeats 0 in
theorem kz_E111 : ak_chS kz_K 119 kz_e111 = true ∧ ak_chE kz_M kz_CF kz_K kz_t111 119 kz_e111 kz_l111 3000 = true := by decide +kernel
set_option maxRecDepth 100000 in
set_option maxHeartbeats 0 in
theorem kz_E112 : ak_chS kz_K 77 kz_e112 = true ∧ ak_chE kz_M kz_CF kz_K kz_t112 77 kz_e112 kz_l112 3000 = true := by decide +kernel
set_option maxRecDepth 100000 in
set_option maxHeartbeats 0 in
theorem kz_N112_0 : ak_chN kz_M kz_CF kz_K kz_t112 77 kz_e112 kz_l112 3000 kz_n112_0 = true := by decide +kernel
set_option maxRecDepth 100000 in
set_option maxHeartbeats 0 in
theorem kz_E113 : ak_chS kz_K 65 kz_e113 = true ∧ ak_chE kz_M kz_CF kz_K kz_t113 65 kz_e113 kz_l113 3000 = true := by decide +kernel
set_option maxRecDepth 100000 in
set_option maxHeartbeats 0 in
theorem kz_N113_0 : ak_chN kz_M kz_CF kz_K kz_t113 65 kz_e113 kz_l113 3000 kz_n113_0 = true := by decide +kernel
set_option maxRecDepth 100000 in
set_option maxHeartbeats 0 in
theorem kz_E114 : ak_chS kz_K 115 kz_e114 = true ∧ ak_chE kz_M kz_CF kz_K kz_t114 115 kz_e114 kz_l114 3000 = true := by decide +kernel
set_option maxRecDepth 100000 in
set_option maxHeartbeats 0 in
theorem kz_N114_0 : ak_chN kz_M kz_CF kz_K kz_t114 115 kz_e114 kz_l114 3000 kz_n114_0 = true := by decide +kernel
set_option maxRecDepth 100000 in
set_option maxHeartbeats 0 in
theorem kz_N114_1 : ak_chN kz_M kz_CF kz_K kz_t114 115 kz_e114 kz_l114 3000 kz_n114_1 = true := by decide +kernel
set_option maxRecDepth 100000 in
set_option maxHeartbeats 0 in
theorem kz_N114_2 : ak_chN kz_M kz_CF kz_K kz_t114 115 kz_e114 kz_l114 3000 kz_n114_2 = true := by decide +kernel
set_option maxRecDepth 100000 in
set_option maxHeartbeats 0 in
theorem kz_N114_3 : ak_chN kz_M kz_CF kz_K kz_t114 115 kz_e114 kz_l114 3000 kz_n114_3 = true := by decide +kernel
set_option maxRecDepth 100000 in
set_option maxHeartbeats 0 in
theorem kz_N114_4 : ak_chN kz_M kz_CF kz_K kz_t114 115 kz_e114 kz_l114 3000 kz_n114_4 = true := by decide +kernel
set_option maxRecDepth 100000 in
set_option maxHeartbeats 0 in
theorem kz_N114_5 : ak_chN kz_M kz_CF kz_K kz_t114 115 kz_e114 kz_l114 3000 kz_n114_5 = true := by decide +kernel
set_option maxRecDepth 100000 in
set_option maxHeartbeats 0 in
theorem kz_N114_6 : ak_chN kz_M kz_CF kz_K kz_t114 115 kz_e114 kz_l114 3000 kz_n114_6 = true := by decide +kernel
set_option maxRecDepth 100000 in
set_option maxHeartbeats 0 in
theorem kz_N114_7 : ak_chN kz_M kz_CF kz_K kz_t114 115 kz_e114 kz_l114 3000 kz_n114_7 = true := by decide +kernel
set_option maxRecDepth 100000 in
set_option maxHeartbeats 0 in
theorem kz_N114_8 : ak_chN kz_M kz_CF kz_K kz_t114 115 kz_e114 kz_l114 3000 kz_n114_8 = true := by decide +kernel
set_option maxRecDepth 100000 in
set_option maxHeartbeats 0 in
theorem kz_N114_9 : ak_chN kz_M kz_CF kz_K kz_t114 115 kz_e114 kz_l114 3000 kz_n114_9 = true := by decide +kernel
set_option maxRecDepth 100000 in
set_option maxHeartbeats 0 in
theorem kz_N114_10 : ak_chN kz_M kz_CF kz_K kz_t114 115 kz_e114 kz_l114 3000 kz_n114_10 = true := by decide +kernel
set_option maxRecDepth 100000 in
set_option maxHeartbeats 0 in
theorem kz_N114_11 : ak_chN kz_M kz_CF kz_K kz_t114 115 kz_e114 kz_l114 3000 kz_n114_11 = true := by decide +kernel
set_option maxRecDepth 100000 in
set_option maxHeartbeats 0 in
theorem kz_N114_12 : ak_chN kz_M kz_CF kz_K kz_t114 115 kz_e114 kz_l114 3000 kz_n114_12 = true := by decide +kernel
set_option maxRecDepth 100000 in
set_option maxHeartbeats 0 in
theorem kz_N114_13 : ak_chN kz_M kz_CF kz_K kz_t114 115 kz_e114 kz_l114 3000 kz_n114_13 = true := by decide +kernel
set_option maxRecDepth 100000 in
set_option maxHeartbeats 0 in
theorem kz_N114_14 : ak_chN kz_M kz_CF kz_K kz_t114 115 kz_e114 kz_l114 3000 kz_n114_14 = true := by decide +kernel
set_option maxRecDepth 100000 in
set_option maxHeartbeats 0 in
theorem kz_N114_15 : ak_chN kz_M kz_CF kz_K kz_t114 115 kz_e114 kz_l114 3000 kz_n114_15 = true := by decide +kernel
set_option maxRecDepth 100000 in
set_option maxHeartbeats 0 in
theorem kz_N114_16 : ak_chN kz_M kz_CF kz_K kz_t114 115 kz_e114 kz_l114 3000 kz_n114_16 = true := by decide +kernel
set_option maxRecDepth 100000 in
set_option maxHeartbeats 0 in
theorem kz_N114_17 : ak_chN kz_M kz_CF kz_K kz_t114 115 kz_e114 kz_l114 3000 kz_n114_17 = true := by decide +kernel
set_option maxRecDepth 100000 in
set_option maxHeartbeats 0 in
theorem kz_N114_18 : ak_chN kz_M kz_CF kz_K kz_t114 115 kz_e114 kz_l114 3000 kz_n114_18 = true := by decide +kernel
set_option maxRecDepth 100000 in
set_option maxHeartbeats 0 in
theorem kz_N114_19 : ak_chN kz_M kz_CF kz_K kz_t114 115 kz_e114 kz_l114 3000 kz_n114_19 = true := by decide +kernel
set_option maxRecDepth 100000 in
set_option maxHeartbeats 0 in
theorem kz_N114_20 : ak_chN kz_M kz_CF kz_K kz_t114 115 kz_e114 kz_l114 3000 kz_n114_20 = true := by decide +kernel
set_option maxRecDepth 100000 in
set_option maxHeartbeats 0 in
theorem kz_N114_21 : ak_chN kz_M kz_CF kz_K kz_t114 115 kz_e114 kz_l114 3000 kz_n114_21 = true := by decide +kernel
set_option maxRecDepth 100000 in
set_option maxHeartbeats 0 in
theorem kz_N114_22 : ak_chN kz_M kz_CF kz_K kz_t114 115 kz_e114 kz_l114 3000 kz_n114_22 = true := by decide +kernel
set_option maxRecDepth 100000 in
set_option maxHeartbeats 0 in
theorem kz_N114_23 : ak_chN kz_M kz_CF kz_K kz_t114 115 kz_e114 kz_l114 3000 kz_n114_23 = true := by decide +kernel
set_option maxRecDepth 100000 in
set_option maxHeartbeats 0 in
theorem kz_N114_24 : ak_chN kz_M kz_CF kz_K kz_t114 115 kz_e114 kz_l114 3000 kz_n114_24 = true := by decide +kernel
set_option maxRecDepth 100000 in
set_option maxHeartbeats 0 in
theorem kz_N114_25 : ak_chN kz_M kz_CF kz_K kz_t114 115 kz_e114 kz_l114 3000 kz_n114_25 = true := by decide +kernel
set_option maxRecDepth 100000 in
set_option maxHeartbeats 0 in
theorem kz_N114_26 : ak_chN kz_M kz_CF kz_K kz_t114 115 kz_e114 kz_l114 3000 kz_n114_26 = true := by decide +kernel
set_option maxRecDepth 100000 in
set_option maxHeartbeats 0 in
theorem kz_N114_27 : ak_chN kz_M kz_CF kz_K kz_t114 115 kz_e114 kz_l114 3000 kz_n114_27 = true := by decide +kernel
set_option maxRecDepth 100000 in
set_option maxHeartbeats 0 in
theorem kz_N114_28 : ak_chN kz_M kz_CF kz_K kz_t114 115 kz_e114 kz_l114 3000 kz_n114_28 = true := by decide +kernel
set_option maxRecDepth 100000 in
set_option maxHeartbeats 0 in
theorem kz_N114_29 : ak_chN kz_M kz_CF kz_K kz_t114 115 kz_e114 kz_l114 3000 kz_n114_29 = true := by decide +kernel
set_option maxRecDepth 100000 in
set_option maxHeartbeats 0 in
theorem kz_N114_30 : ak_chN kz_M kz_CF kz_K kz_t114 115 kz_e114 kz_l114 3000 kz_n114_30 = true := by decide +kernel
set_option maxRecDepth 100000 in
set_option maxHeartbeats 0 in
theorem kz_N114_31 : ak_chN kz_M kz_CF kz_K kz_t114 115 kz_e114 kz_l114 3000 kz_n114_31 = true := by decide +kernel
set_option maxRecDepth 100000 in
set_option maxHeartbeats 0 in
theorem kz_N114_32 : ak_chN kz_M kz_CF kz_K kz_t114 115 kz_e114 kz_l114 3000 kz_n114_32 = true := by decide +kernel
set_option maxRecDepth 100000 in
set_option maxHeartbeats 0 in
theorem kz_N114_33 : ak_chN kz_M kz_CF kz_K kz_t114 115 kz_e114 kz_l114 3000 kz_n114_33 = true := by decide +kernel
set_option maxRecDepth 100000 in
set_option maxHeartbeats 0 in
theorem kz_N114_34 : ak_chN kz_M kz_CF kz_K kz_t114 115 kz_e114 kz_l114 3000 kz_n114_34 = true := by decide +kernel
set_option maxRecDepth 100000 in
set_option maxHeartbeats 0 in
theorem kz_N114_35 : ak_chN kz_M kz_CF kz_K kz_t114 115 kz_e114 kz_l114 3000 kz_n114_35 = true := by decide +kernel
set_option maxRecDepth 100000 in
set_option maxHeartbeats 0 in
theorem kz_N114_36 : ak_chN kz_M kz_CF kz_K kz_t114 115 kz_e114 kz_l114 3000 kz_n114_36 = true := by decide +kernel
set_option maxRecDepth 100000 in
set_option maxHeartbeats 0 in
theorem kz_N114_37 : ak_chN kz_M kz_CF kz_K kz_t114 115 kz_e114 kz_l114 3000 kz_n114_37 = true := by decide +kernel
set_option maxRecDepth 100000 in
set_option maxHeartbeats 0 in
theorem kz_N114_38 : ak_chN kz_M kz_CF kz_K kz_t114 115 kz_e114 kz_l114 3000 kz_n114_38 = true := by decide +kernel
set_option maxRecDepth 100000 in
set_option maxHeartbeats 0 in
theorem kz_N114_39 : ak_chN kz_M kz_CF kz_K kz_t114 115 kz_e114 kz_l114 3000 kz_n114_39 = true := by decide +kernel
set_option maxRecDepth 100000 in
set_option maxHeartbeats 0 in
theorem kz_N114_40 : ak_chN kz_M kz_CF kz_K kz_t114 115 kz_e114 kz_l114 3000 kz_n114_40 = true := by decide +kernel
set_option maxRecDepth 100000 in
set_option maxHeartbeats 0 in
theorem kz_N114_41 : ak_chN kz_M kz_CF kz_K kz_t114 115 kz_e114 kz_l114 3000 kz_n114_41 = true := by decide +kernel
set_option maxRecDepth 100000 in
set_option maxHeartbeats 0 in
theorem kz_N114_42 : ak_chN kz_M kz_CF kz_K kz_t114 115 kz_e114 kz_l114 3000 kz_n114_42 = true := by decide +kernel
set_option maxRecDepth 100000 in
set_option maxHeartbeats 0 in
theorem kz_N114_43 : ak_chN kz_M kz_CF kz_K kz_t114 115 kz_e114 kz_l114 3000 kz_n114_43 = true := by decide +kernel
set_option maxRecDepth 100000 in
set_option maxHeartbeats 0 in
theorem kz_N114_44 : ak_chN kz_M kz_CF kz_K kz_t114 115 kz_e114 kz_l114 3000 kz_n114_44 = true := by decide +kernel
set_option maxRecDepth 100000 in
set_option maxHeartbeats 0 in
theorem kz_N114_45 : ak_chN kz_M kz_CF kz_K kz_t114 115 kz_e114 kz_l114 3000 kz_n114_45 = true := by decide +kernel
set_option maxRecDepth 100000 in
set_option maxHeartbeats 0 in
theorem kz_N114_46 : ak_chN kz_M kz_CF kz_K kz_t114 115 kz_e114 kz_l114 3000 kz_n114_46 = true := by decide +kernel
set_option maxRecDepth 100000 in
set_option maxHeartbeats 0 in
theorem kz_N114_47 : ak_chN kz_M kz_CF kz_K kz_t114 115 kz_e114 kz_l114 3000 kz_n114_47 = true := by decide +kernel
set_option maxRecDepth 100000 in
set_option maxHeartbeats 0 in
theorem kz_N114_48 : ak_chN kz_M kz_CF kz_K kz_t114 115 kz_e114 kz_l114 3000 kz_n114_48 = true := by decide +kernel
set_option maxRecDepth 100000 in
set_option maxHeartbeats 0 in
theorem kz_N114_49 : ak_chN kz_M kz_CF kz_K kz_t114 115 kz_e114 kz_l114 3000 kz_n114_49 = true := by decide +kernel
set_option maxRecDepth 100000 in
set_option maxHeartbeats 0 in
theorem kz_N114_50 : ak_chN kz_M kz_CF kz_K kz_t114 115 kz_e114 kz_l114 3000 kz_n114_50 = true := by decide +kernel
set_option maxRecDepth 100000 in
set_option maxHeartbeats 0 in
theorem kz_N114_51 : ak_chN kz_M kz_CF kz_K kz_t114 115 kz_e114 kz_l114 3000 kz_n114_51 = true := by decide +kernel
set_option maxRecDepth 100000 in
set_option maxHeartbeats 0 in
theorem kz_N114_52 : ak_chN kz_M kz_CF kz_K kz_t114 115 kz_e114 kz_l114 3000 kz_n114_52 = true := by decide +kernel
set_option maxRecDepth 100000 in
set_option maxHeartbeats 0 in
theorem kz_N114_53 : ak_chN kz_M kz_CF kz_K kz_t114 115 kz_e114 kz_l114 3000 kz_n114_53 = true := by decide +kernel
set_option maxRecDepth 100000 in
set_option maxHeartbeats 0 in
theorem kz_N114_54 : ak_chN kz_M kz_CF kz_K kz_t114 115 kz_e114 kz_l114 3000 kz_n114_54 = true := by decide +kernel
set_option maxRecDepth 100000 in
set_option maxHeartbeats 0 in
theorem kz_N114_55 : ak_chN kz_M kz_CF kz_K kz_t114 115 kz_e114 kz_l114 3000 kz_n114_55 = true := by decide +kernel
set_option maxRecDepth 100000 in
set_option maxHeartbeats 0 in
theorem kz_N114_56 : ak_chN kz_M kz_CF kz_K kz_t114 115 kz_e114 kz_l114 3000 kz_n114_56 = true := by decide +kernel
set_option maxRecDepth 100000 in
set_option maxHeartbeats 0 in
theorem kz_N114_57 : ak_chN kz_M kz_CF kz_K kz_t114 115 kz_e114 kz_l114 3000 kz_n114_57 = true := by decide +kernel
set_option maxRecDepth 100000 in
set_option maxHeartbeats 0 in
theorem kz_N114_58 : ak_chN kz_M kz_CF kz_K kz_t114 115 kz_e114 kz_l114 3000 kz_n114_58 = true := by decide +kernel
set_option maxRecDepth 100000 in
set_option maxHeartbeats 0 in
theorem kz_N114_59 : ak_chN kz_M kz_CF kz_K kz_t114 115 kz_e114 kz_l114 3000 kz_n114_59 = true := by decide +kernel
set_option maxRecDepth 100000 in
set_option maxHeartbeats 0 in
theorem kz_N114_60 : ak_chN kz_M kz_CF kz_K kz_t114 115 kz_e114 kz_l114 3000 kz_n114_60 = true := by decide +kernel
set_option maxRecDepth 100000 in
set_option maxHeartbeats 0 in
theorem kz_E115 : ak_chS kz_K 76 kz_e115 = true ∧ ak_chE kz_M kz_CF kz_K kz_t115 76 kz_e115 kz_l115 3000 = true := by decide +kernel
set_option maxRecDepth 100000 in
set_option maxHeartbeats 0 in
theorem kz_E116 : ak_chS kz_K 132 kz_e116 = true ∧ ak_chE kz_M kz_CF kz_K kz_t116 132 kz_e116 kz_l116 3000 = true := by decide +kernel
set_option maxRecDepth 100000 in
set_option maxHeartbeats 0 in
theorem kz_N116_0 : ak_chN kz_M kz_CF kz_K kz_t116 132 kz_e116 kz_l116 3000 kz_n116_0 = true := by decide +kernel
set_option maxRecDepth 100000 in
set_option maxHeartbeats 0 in
theorem kz_N116_1 : ak_chN kz_M kz_CF kz_K kz_t116 132 kz_e116 kz_l116 3000 kz_n116_1 = true := by decide +kernel
set_option maxRecDepth 100000 in
set_option maxHeartbeats 0 in
theorem kz_N116_2 : ak_chN kz_M kz_CF kz_K kz_t116 132 kz_e116 kz_l116 3000 kz_n116_2 = true := by decide +kernel
set_option maxRecDepth 100000 in
set_option maxHeartbeats 0 in
theorem kz_E117 : ak_chS kz_K 61 kz_e117 = true ∧ ak_chE kz_M kz_CF kz_K kz_t117 61 kz_e117 kz_l117 3000 = true := by decide +kernel
set_option maxRecDepth 100000 in
set_option maxHeartbeats 0 in
theorem kz_E118 : ak_chS kz_K 108 kz_e118 = true ∧ ak_chE kz_M kz_CF kz_K kz_t118 108 kz_e118 kz_l118 3000 = true := by decide +kernel
set_option maxRecDepth 100000 in
set_option maxHeartbeats 0 in
theorem kz_N118_0 : ak_chN kz_M kz_CF kz_K kz_t118 108 kz_e118 kz_l118 3000 kz_n118_0 = true := by decide +kernel
set_option maxRecDepth 100000 in
set_option maxHeartbeats 0 in
theorem kz_N118_1 : ak_chN kz_M kz_CF kz_K kz_t118 108 kz_e118 kz_l118 3000 kz_n118_1 = true := by decide +kernel
set_option maxRecDepth 100000 in
set_option maxHeartbeats 0 in
theorem kz_N118_2 : ak_chN kz_M kz_CF kz_K kz_t118 108 kz_e118 kz_l118 3000 kz_n118_2 = true := by decide +kernel
set_option maxRecDepth 100000 in
set_option maxHeartbeats 0 in
theorem kz_E119 : ak_chS kz_K 11 kz_e119 = true ∧ ak_chE kz_M kz_CF kz_K kz_t119 11 kz_e119 kz_l119 3000 = true := by decide +kernel
set_option maxRecDepth 100000 in
set_option maxHeartbeats 0 in
theorem kz_N119_0 : ak_chN kz_M kz_CF kz_K kz_t119 11 kz_e119 kz_l119 3000 kz_n119_0 = true := by decide +kernel
set_option maxRecDepth 100000 in
set_option maxHeartbeats 0 in
theorem kz_E120 : ak_chS kz_K 68 kz_e120 = true ∧ ak_chE kz_M kz_CF kz_K kz_t120 68 kz_e120 kz_l120 3000 = true := by decide +kernel
set_option maxRecDepth 100000 in
set_option maxHeartbeats 0 in
theorem kz_E121 : ak_chS kz_K 118 kz_e121 = true ∧ ak_chE kz_M kz_CF kz_K kz_t121 118 kz_e121 kz_l121 3000 = true := by decide +kernel
set_option maxRecDepth 100000 in
set_option maxHeartbeats 0 in
theorem kz_N121_0 : ak_chN kz_M kz_CF kz_K kz_t121 118 kz_e121 kz_l121 3000 kz_n121_0 = true := by decide +kernel
set_option maxRecDepth 100000 in
set_option maxHeartbeats 0 in
theorem kz_E122 : ak_chS kz_K 96 kz_e122 = true ∧ ak_chE kz_M kz_CF kz_K kz_t122 96 kz_e122 kz_l122 3000 = true := by decide +kernel
set_option maxRecDepth 100000 in
set_option maxHeartbeats 0 in
theorem kz_E123 : ak_chS kz_K 64 kz_e123 = true ∧ ak_chE kz_M kz_CF kz_K kz_t123 64 kz_e123 kz_l123 3000 = true := by decide +kernel
set_option maxRecDepth 100000 in
set_option maxHeartbeats 0 in
theorem kz_E124 : ak_chS kz_K 114 kz_e124 = true ∧ ak_chE kz_M kz_CF kz_K kz_t124 114 kz_e124 kz_l124 3000 = true := by decide +kernel
set_option maxRecDepth 100000 in
set_option maxHeartbeats 0 in
theorem kz_E125 : ak_chS kz_K 67 kz_e125 = true ∧ ak_chE kz_M kz_CF kz_K kz_t125 67 kz_e125 kz_l125 3000 = true := by decide +kernel
set_option maxRecDepth 100000 in
set_option maxHeartbeats 0 in
theorem kz_E126 : ak_chS kz_K 117 kz_e126 = true ∧ ak_chE kz_M kz_CF kz_K kz_t126 117 kz_e126 kz_l126 3000 = true := by decide +kernel
set_option maxRecDepth 100000 in
set_option maxHeartbeats 0 in
theorem kz_N126_0 : ak_chN kz_M kz_CF kz_K kz_t126 117 kz_e126 kz_l126 3000 kz_n126_0 = true := by decide +kernel
set_option maxRecDepth 100000 in
set_option maxHeartbeats 0 in
theorem kz_N126_1 : ak_chN kz_M kz_CF kz_K kz_t126 117 kz_e126 kz_l126 3000 kz_n126_1 = true := by decide +kernel
set_option maxRecDepth 100000 in
set_option maxHeartbeats 0 in
theorem kz_N126_2 : ak_chN kz_M kz_CF kz_K kz_t126 117 kz_e126 kz_l126 3000 kz_n126_2 = true := by decide +kernel
set_option maxRecDepth 100000 in
set_option maxHeartbeats 0 in
theorem kz_N126_3 : ak_chN kz_M kz_CF kz_K kz_t126 117 kz_e126 kz_l126 3000 kz_n126_3 = true := by decide +kernel
set_option maxRecDepth 100000 in
set_option maxHeartbeats 0 in
theorem kz_N126_4 : ak_chN kz_M kz_CF kz_K kz_t126 117 kz_e126 kz_l126 3000 kz_n126_4 = true := by decide +kernel
set_option maxRecDepth 100000 in
set_option maxHeartbeats 0 in
theorem kz_N126_5 : ak_chN kz_M kz_CF kz_K kz_t126 117 kz_e126 kz_l126 3000 kz_n126_5 = true := by decide +kernel
set_option maxRecDepth 100000 in
set_option maxHeartbeats 0 in
theorem kz_N126_6 : ak_chN kz_M kz_CF kz_K kz_t126 117 kz_e126 kz_l126 3000 kz_n126_6 = true := by decide +kernel
set_option maxRecDepth 100000 in
set_option maxHeartbeats 0 in
theorem kz_N126_7 : ak_chN kz_M kz_CF kz_K kz_t126 117 kz_e126 kz_l126 3000 kz_n126_7 = true := by decide +kernel
set_option maxRecDepth 100000 in
set_option maxHeartbeats 0 in
theorem kz_N126_8 : ak_chN kz_M kz_CF kz_K kz_t126 117 kz_e126 kz_l126 3000 kz_n126_8 = true := by decide +kernel
set_option maxRecDepth 100000 in
set_option maxHeartbeats 0 in
theorem kz_N126_9 : ak_chN kz_M kz_CF kz_K kz_t126 117 kz_e126 kz_l126 3000 kz_n126_9 = true := by decide +kernel
set_option maxRecDepth 100000 in
set_option maxHeartbeats 0 in
theorem kz_N126_10 : ak_chN kz_M kz_CF kz_K kz_t126 117 kz_e126 kz_l126 3000 kz_n126_10 = true := by decide +kernel
set_option maxRecDepth 100000 in
set_option maxHeartbeats 0 in
theorem kz_N126_11 : ak_chN kz_M kz_CF kz_K kz_t126 117 kz_e126 kz_l126 3000 kz_n126_11 = true := by decide +kernel
set_option maxRecDepth 100000 in
set_option maxHeartbeats 0 in
theorem kz_N126_12 : ak_chN kz_M kz_CF kz_K kz_t126 117 kz_e126 kz_l126 3000 kz_n126_12 = true := by decide +kernel
set_option maxRecDepth 100000 in
set_option maxHeartbeats 0 in
theorem kz_N126_13 : ak_chN kz_M kz_CF kz_K kz_t126 117 kz_e126 kz_l126 3000 kz_n126_13 = true := by decide +kernel
set_option maxRecDepth 100000 in
set_option maxHeartbeats 0 in
theorem kz_N126_14 : ak_chN kz_M kz_CF kz_K kz_t126 117 kz_e126 kz_l126 3000 kz_n126_14 = true := by decide +kernel
set_option maxRecDepth 100000 in
set_option maxHeartbeats 0 in
theorem kz_N126_15 : ak_chN kz_M kz_CF kz_K kz_t126 117 kz_e126 kz_l126 3000 kz_n126_15 = true := by decide +kernel
set_option maxRecDepth 100000 in
set_option maxHeartbeats 0 in
theorem kz_E127 : ak_chS kz_K 71 kz_e127 = true ∧ ak_chE kz_M kz_CF kz_K kz_t127 71 kz_e127 kz_l127 3000 = true := by decide +kernel
set_option maxRecDepth 100000 in
set_option maxHeartbeats 0 in
theorem kz_N127_0 : ak_chN kz_M kz_CF kz_K kz_t127 71 kz_e127 kz_l127 3000 kz_n127_0 = true := by decide +kernel
set_option maxRecDepth 100000 in
set_option maxHeartbeats 0 in
theorem kz_N127_1 : ak_chN kz_M kz_CF kz_K kz_t127 71 kz_e127 kz_l127 3000 kz_n127_1 = true := by decide +kernel
