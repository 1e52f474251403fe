set_option maxRecDepth 100000 in
set_option maxHeartbeats 0 in
theorem kz_N78_0 : ak_chN kz_M kz_CF kz_K kz_t78 57 kz_e78 kz_l78 3000 kz_n78_0 = true := by decide +kernel
set_option maxRecDepth 100000 in
set_option maxHeartbeats 0 in
theorem kz_N78_1 : ak_chN kz_M kz_CF kz_K kz_t78 57 kz_e78 kz_l78 3000 kz_n78_1 = true := by decide +kernel
set_option maxRecDepth 100000 in
set_option maxHeartbeats 0 in
theorem kz_N78_2 : ak_chN kz_M kz_CF kz_K kz_t78 57 kz_e78 kz_l78 3000 kz_n78_2 = true := by decide +kernel
set_option maxRecDepth 100000 in
set_option maxHeartbeats 0 in
theorem kz_N78_3 : ak_chN kz_M kz_CF kz_K kz_t78 57 kz_e78 kz_l78 3000 kz_n78_3 = true := by decide +kernel
set_option maxRecDepth 100000 in
set_option maxHeartbeats 0 in
theorem kz_N78_4 : ak_chN kz_M kz_CF kz_K kz_t78 57 kz_e78 kz_l78 3000 kz_n78_4 = true := by decide +kernel
set_option maxRecDepth 100000 in
set_option maxHeartbeats 0 in
theorem kz_N78_5 : ak_chN kz_M kz_CF kz_K kz_t78 57 kz_e78 kz_l78 3000 kz_n78_5 = true := by decide +kernel
set_option maxRecDepth 100000 in
set_option maxHeartbeats 0 in
theorem kz_N78_6 : ak_chN kz_M kz_CF kz_K kz_t78 57 kz_e78 kz_l78 3000 kz_n78_6 = true := by decide +kernel
set_option maxRecDepth 100000 in
set_option maxHeartbeats 0 in
theorem kz_N78_7 : ak_chN kz_M kz_CF kz_K kz_t78 57 kz_e78 kz_l78 3000 kz_n78_7 = true := by decide +kernel
set_option maxRecDepth 100000 in
set_option maxHeartbeats 0 in
theorem kz_N78_8 : ak_chN kz_M kz_CF kz_K kz_t78 57 kz_e78 kz_l78 3000 kz_n78_8 = true := by decide +kernel
set_option maxRecDepth 100000 in
set_option maxHeartbeats 0 in
theorem kz_N78_9 : ak_chN kz_M kz_CF kz_K kz_t78 57 kz_e78 kz_l78 3000 kz_n78_9 = true := by decide +kernel
set_option maxRecDepth 100000 in
set_option maxHeartbeats 0 in
theorem kz_N78_10 : ak_chN kz_M kz_CF kz_K kz_t78 57 kz_e78 kz_l78 3000 kz_n78_10 = true := by decide +kernel
set_option maxRecDepth 100000 in
set_option maxHeartbeats 0 in
theorem kz_W79 : ak_chW kz_M kz_e79 kz_l79 = true := by decide +kernel
set_option maxRecDepth 100000 in
set_option maxHeartbeats 0 in
theorem kz_E79 : ak_chS kz_K 58 kz_e79 = true ∧ ak_chE kz_M kz_CF kz_K kz_t79 58 kz_e79 kz_l79 3000 = true := by decide +kernel
set_option maxRecDepth 100000 in
set_option maxHeartbeats 0 in
theorem kz_N79_0 : ak_chN kz_M kz_CF kz_K kz_t79 58 kz_e79 kz_l79 3000 kz_n79_0 = true := by decide +kernel
set_option maxRecDepth 100000 in
set_option maxHeartbeats 0 in
theorem kz_N79_1 : ak_chN kz_M kz_CF kz_K kz_t79 58 kz_e79 kz_l79 3000 kz_n79_1 = true := by decide +kernel
set_option maxRecDepth 100000 in
set_option maxHeartbeats 0 in
theorem kz_N79_2 : ak_chN kz_M kz_CF kz_K kz_t79 58 kz_e79 kz_l79 3000 kz_n79_2 = true := by decide +kernel
set_option maxRecDepth 100000 in
set_option maxHeartbeats 0 in
theorem kz_N79_3 : ak_chN kz_M kz_CF kz_K kz_t79 58 kz_e79 kz_l79 3000 kz_n79_3 = true := by decide +kernel
set_option maxRecDepth 100000 in
set_option maxHeartbeats 0 in
theorem kz_N79_4 : ak_chN kz_M kz_CF kz_K kz_t79 58 kz_e79 kz_l79 3000 kz_n79_4 = true := by decide +kernel
set_option maxRecDepth 100000 in
set_option maxHeartbeats 0 in
theorem kz_N79_5 : ak_chN kz_M kz_CF kz_K kz_t79 58 kz_e79 kz_l79 3000 kz_n79_5 = true := by decide +kernel
set_option maxRecDepth 100000 in
set_option maxHeartbeats 0 in
theorem kz_N79_6 : ak_chN kz_M kz_CF kz_K kz_t79 58 kz_e79 kz_l79 3000 kz_n79_6 = true := by decide +kernel
set_option maxRecDepth 100000 in
set_option maxHeartbeats 0 in
theorem kz_N79_7 : ak_chN kz_M kz_CF kz_K kz_t79 58 kz_e79 kz_l79 3000 kz_n79_7 = true := by decide +kernel
set_option maxRecDepth 100000 in
set_option maxHeartbeats 0 in
theorem kz_N79_8 : ak_chN kz_M kz_CF kz_K kz_t79 58 kz_e79 kz_l79 3000 kz_n79_8 = true := by decide +kernel
set_option maxRecDepth 100000 in
set_option maxHeartbeats 0 in
theorem kz_W80 : ak_chW kz_M kz_e80 kz_l80 = true := by decide +kernel
set_option maxRecDepth 100000 in
set_option maxHeartbeats 0 in
theorem kz_E80 : ak_chS kz_K 59 kz_e80 = true ∧ ak_chE kz_M kz_CF kz_K kz_t80 59 kz_e80 kz_l80 3000 = true := by decide +kernel
set_option maxRecDepth 100000 in
set_option maxHeartbeats 0 in
theorem kz_N80_0 : ak_chN kz_M kz_CF kz_K kz_t80 59 kz_e80 kz_l80 3000 kz_n80_0 = true := by decide +kernel
set_option maxRecDepth 100000 in
set_option maxHeartbeats 0 in
theorem kz_N80_1 : ak_chN kz_M kz_CF kz_K kz_t80 59 kz_e80 kz_l80 3000 kz_n80_1 = true := by decide +kernel
set_option maxRecDepth 100000 in
set_option maxHeartbeats 0 in
theorem kz_N80_2 : ak_chN kz_M kz_CF kz_K kz_t80 59 kz_e80 kz_l80 3000 kz_n80_2 = true := by decide +kernel
set_option maxRecDepth 100000 in
set_option maxHeartbeats 0 in
theorem kz_N80_3 : ak_chN kz_M kz_CF kz_K kz_t80 59 kz_e80 kz_l80 3000 kz_n80_3 = true := by decide +kernel
set_option maxRecDepth 100000 in
set_option maxHeartbeats 0 in
theorem kz_N80_4 : ak_chN kz_M kz_CF kz_K kz_t80 59 kz_e80 kz_l80 3000 kz_n80_4 = true := by decide +kernel
set_option maxRecDepth 100000 in
set_option maxHeartbeats 0 in
theorem kz_N80_5 : ak_chN kz_M kz_CF kz_K kz_t80 59 kz_e80 kz_l80 3000 kz_n80_5 = true := by decide +kernel
set_option maxRecDepth 100000 in
set_option maxHeartbeats 0 in
theorem kz_N80_6 : ak_chN kz_M kz_CF kz_K kz_t80 59 kz_e80 kz_l80 3000 kz_n80_6 = true := by decide +kernel
set_option maxRecDepth 100000 in
set_option maxHeartbeats 0 in
theorem kz_N80_7 : ak_chN kz_M kz_CF kz_K kz_t80 59 kz_e80 kz_l80 3000 kz_n80_7 = true := by decide +kernel
set_option maxRecDepth 100000 in
set_option maxHeartbeats 0 in
theorem kz_N80_8 : ak_chN kz_M kz_CF kz_K kz_t80 59 kz_e80 kz_l80 3000 kz_n80_8 = true := by decide +kernel
set_option maxRecDepth 100000 in
set_option maxHeartbeats 0 in
theorem kz_N80_9 : ak_chN kz_M kz_CF kz_K kz_t80 59 kz_e80 kz_l80 3000 kz_n80_9 = true := by decide +kernel
set_option maxRecDepth 100000 in
set_option maxHeartbeats 0 in
theorem kz_W81 : ak_chW kz_M kz_e81 kz_l81 = true := by decide +kernel
set_option maxRecDepth 100000 in
set_option maxHeartbeats 0 in
theorem kz_E81 : ak_chS kz_K 62 kz_e81 = true ∧ ak_chE kz_M kz_CF kz_K kz_t81 62 kz_e81 kz_l81 3000 = true := by decide +kernel
set_option maxRecDepth 100000 in
set_option maxHeartbeats 0 in
theorem kz_W82 : ak_chW kz_M kz_e82 kz_l82 = true := by decide +kernel
set_option maxRecDepth 100000 in
set_option maxHeartbeats 0 in
theorem kz_E82 : ak_chS kz_K 167 kz_e82 = true ∧ ak_chE kz_M kz_CF kz_K kz_t82 167 kz_e82 kz_l82 3000 = true := by decide +kernel
set_option maxRecDepth 100000 in
set_option maxHeartbeats 0 in
theorem kz_N82_0 : ak_chN kz_M kz_CF kz_K kz_t82 167 kz_e82 kz_l82 3000 kz_n82_0 = true := by decide +kernel
set_option maxRecDepth 100000 in
set_option maxHeartbeats 0 in
theorem kz_W83 : ak_chW kz_M kz_e83 kz_l83 = true := by decide +kernel
set_option maxRecDepth 100000 in
set_option maxHeartbeats 0 in
theorem kz_E83 : ak_chS kz_K 167 kz_e83 = true ∧ ak_chE kz_M kz_CF kz_K kz_t83 167 kz_e83 kz_l83 3000 = true := by decide +kernel
set_option maxRecDepth 100000 in
set_option maxHeartbeats 0 in
theorem kz_N83_0 : ak_chN kz_M kz_CF kz_K kz_t83 167 kz_e83 kz_l83 3000 kz_n83_0 = true := by decide +kernel
set_option maxRecDepth 100000 in
set_option maxHeartbeats 0 in
theorem kz_N83_1 : ak_chN kz_M kz_CF kz_K kz_t83 167 kz_e83 kz_l83 3000 kz_n83_1 = true := by decide +kernel
set_option maxRecDepth 100000 in
set_option maxHeartbeats 0 in
theorem kz_W84 : ak_chW kz_M kz_e84 kz_l84 = true := by decide +kernel
set_option maxRecDepth 100000 in
set_option maxHeartbeats 0 in
theorem kz_E84 : ak_chS kz_K 167 kz_e84 = true ∧ ak_chE kz_M kz_CF kz_K kz_t84 167 kz_e84 kz_l84 3000 = true := by decide +kernel
set_option maxRecDepth 100000 in
set_option maxHeartbeats 0 in
theorem kz_N84_0 : ak_chN kz_M kz_CF kz_K kz_t84 167 kz_e84 kz_l84 3000 kz_n84_0 = true := by decide +kernel
set_option maxRecDepth 100000 in
set_option maxHeartbeats 0 in
theorem kz_N84_1 : ak_chN kz_M kz_CF kz_K kz_t84 167 kz_e84 kz_l84 3000 kz_n84_1 = true := by decide +kernel
set_option maxRecDepth 100000 in
set_option maxHeartbeats 0 in
theorem kz_W85 : ak_chW kz_M kz_e85 kz_l85 = true := by decide +kernel
set_option maxRecDepth 100000 in
set_option maxHeartbeats 0 in
theorem kz_E85 : ak_chS kz_K 167 kz_e85 = true ∧ ak_chE kz_M kz_CF kz_K kz_t85 167 kz_e85 kz_l85 3000 = true := by decide +kernel
set_option maxRecDepth 100000 in
set_option maxHeartbeats 0 in
theorem kz_N85_0 : ak_chN kz_M kz_CF kz_K kz_t85 167 kz_e85 kz_l85 3000 kz_n85_0 = true := by decide +kernel
set_option maxRecDepth 100000 in
set_option maxHeartbeats 0 in
theorem kz_N85_1 : ak_chN kz_M kz_CF kz_K kz_t85 167 kz_e85 kz_l85 3000 kz_n85_1 = true := by decide +kernel
set_option maxRecDepth 100000 in
set_option maxHeartbeats 0 in
theorem kz_W86 : ak_chW kz_M kz_e86 kz_l86 = true := by decide +kernel
set_option maxRecDepth 100000 in
set_option maxHeartbeats 0 in
theorem kz_E86 : ak_chS kz_K 167 kz_e86 = true ∧ ak_chE kz_M kz_CF kz_K kz_t86 167 kz_e86 kz_l86 3000 = true := by decide +kernel
set_option maxRecDepth 100000 in
set_option maxHeartbeats 0 in
theorem kz_N86_0 : ak_chN kz_M kz_CF kz_K kz_t86 167 kz_e86 kz_l86 3000 kz_n86_0 = true := by decide +kernel
set_option maxRecDepth 100000 in
set_option maxHeartbeats 0 in
theorem kz_N86_1 : ak_chN kz_M kz_CF kz_K kz_t86 167 kz_e86 kz_l86 3000 kz_n86_1 = true := by decide +kernel
