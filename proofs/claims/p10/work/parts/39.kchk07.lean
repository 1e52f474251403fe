set_option maxRecDepth 100000 in
set_option maxHeartbeats 0 in
theorem kz_N77_2 : ak_chN kz_M kz_CF kz_K kz_t77 57 kz_e77 kz_l77 3000 kz_n77_2 = true := by decide +kernel
set_option maxRecDepth 100000 in
set_option maxHeartbeats 0 in
theorem kz_N77_3 : ak_chN kz_M kz_CF kz_K kz_t77 57 kz_e77 kz_l77 3000 kz_n77_3 = true := by decide +kernel
set_option maxRecDepth 100000 in
set_option maxHeartbeats 0 in
theorem kz_N77_4 : ak_chN kz_M kz_CF kz_K kz_t77 57 kz_e77 kz_l77 3000 kz_n77_4 = true := by decide +kernel
set_option maxRecDepth 100000 in
set_option maxHeartbeats 0 in
theorem kz_N77_5 : ak_chN kz_M kz_CF kz_K kz_t77 57 kz_e77 kz_l77 3000 kz_n77_5 = true := by decide +kernel
set_option maxRecDepth 100000 in
set_option maxHeartbeats 0 in
theorem kz_N77_6 : ak_chN kz_M kz_CF kz_K kz_t77 57 kz_e77 kz_l77 3000 kz_n77_6 = true := by decide +kernel
set_option maxRecDepth 100000 in
set_option maxHeartbeats 0 in
theorem kz_N77_7 : ak_chN kz_M kz_CF kz_K kz_t77 57 kz_e77 kz_l77 3000 kz_n77_7 = true := by decide +kernel
set_option maxRecDepth 100000 in
set_option maxHeartbeats 0 in
theorem kz_N77_8 : ak_chN kz_M kz_CF kz_K kz_t77 57 kz_e77 kz_l77 3000 kz_n77_8 = true := by decide +kernel
set_option maxRecDepth 100000 in
set_option maxHeartbeats 0 in
theorem kz_N77_9 : ak_chN kz_M kz_CF kz_K kz_t77 57 kz_e77 kz_l77 3000 kz_n77_9 = true := by decide +kernel
set_option maxRecDepth 100000 in
set_option maxHeartbeats 0 in
theorem kz_N77_10 : ak_chN kz_M kz_CF kz_K kz_t77 57 kz_e77 kz_l77 3000 kz_n77_10 = true := by decide +kernel
set_option maxRecDepth 100000 in
set_option maxHeartbeats 0 in
theorem kz_W78 : ak_chW kz_M kz_e78 kz_l78 = true := by decide +kernel
set_option maxRecDepth 100000 in
set_option maxHeartbeats 0 in
theorem kz_E78 : ak_chS kz_K 58 kz_e78 = true ∧ ak_chE kz_M kz_CF kz_K kz_t78 58 kz_e78 kz_l78 3000 = true := by decide +kernel
set_option maxRecDepth 100000 in
set_option maxHeartbeats 0 in
theorem kz_N78_0 : ak_chN kz_M kz_CF kz_K kz_t78 58 kz_e78 kz_l78 3000 kz_n78_0 = true := by decide +kernel
set_option maxRecDepth 100000 in
set_option maxHeartbeats 0 in
theorem kz_N78_1 : ak_chN kz_M kz_CF kz_K kz_t78 58 kz_e78 kz_l78 3000 kz_n78_1 = true := by decide +kernel
set_option maxRecDepth 100000 in
set_option maxHeartbeats 0 in
theorem kz_N78_2 : ak_chN kz_M kz_CF kz_K kz_t78 58 kz_e78 kz_l78 3000 kz_n78_2 = true := by decide +kernel
set_option maxRecDepth 100000 in
set_option maxHeartbeats 0 in
theorem kz_N78_3 : ak_chN kz_M kz_CF kz_K kz_t78 58 kz_e78 kz_l78 3000 kz_n78_3 = true := by decide +kernel
set_option maxRecDepth 100000 in
set_option maxHeartbeats 0 in
theorem kz_N78_4 : ak_chN kz_M kz_CF kz_K kz_t78 58 kz_e78 kz_l78 3000 kz_n78_4 = true := by decide +kernel
set_option maxRecDepth 100000 in
set_option maxHeartbeats 0 in
theorem kz_N78_5 : ak_chN kz_M kz_CF kz_K kz_t78 58 kz_e78 kz_l78 3000 kz_n78_5 = true := by decide +kernel
set_option maxRecDepth 100000 in
set_option maxHeartbeats 0 in
theorem kz_N78_6 : ak_chN kz_M kz_CF kz_K kz_t78 58 kz_e78 kz_l78 3000 kz_n78_6 = true := by decide +kernel
set_option maxRecDepth 100000 in
set_option maxHeartbeats 0 in
theorem kz_N78_7 : ak_chN kz_M kz_CF kz_K kz_t78 58 kz_e78 kz_l78 3000 kz_n78_7 = true := by decide +kernel
set_option maxRecDepth 100000 in
set_option maxHeartbeats 0 in
theorem kz_N78_8 : ak_chN kz_M kz_CF kz_K kz_t78 58 kz_e78 kz_l78 3000 kz_n78_8 = true := by decide +kernel
set_option maxRecDepth 100000 in
set_option maxHeartbeats 0 in
theorem kz_W79 : ak_chW kz_M kz_e79 kz_l79 = true := by decide +kernel
set_option maxRecDepth 100000 in
set_option maxHeartbeats 0 in
theorem kz_E79 : ak_chS kz_K 60 kz_e79 = true ∧ ak_chE kz_M kz_CF kz_K kz_t79 60 kz_e79 kz_l79 3000 = true := by decide +kernel
set_option maxRecDepth 100000 in
set_option maxHeartbeats 0 in
theorem kz_N79_0 : ak_chN kz_M kz_CF kz_K kz_t79 60 kz_e79 kz_l79 3000 kz_n79_0 = true := by decide +kernel
set_option maxRecDepth 100000 in
set_option maxHeartbeats 0 in
theorem kz_W80 : ak_chW kz_M kz_e80 kz_l80 = true := by decide +kernel
set_option maxRecDepth 100000 in
set_option maxHeartbeats 0 in
theorem kz_E80 : ak_chS kz_K 59 kz_e80 = true ∧ ak_chE kz_M kz_CF kz_K kz_t80 59 kz_e80 kz_l80 3000 = true := by decide +kernel
set_option maxRecDepth 100000 in
set_option maxHeartbeats 0 in
theorem kz_N80_0 : ak_chN kz_M kz_CF kz_K kz_t80 59 kz_e80 kz_l80 3000 kz_n80_0 = true := by decide +kernel
set_option maxRecDepth 100000 in
set_option maxHeartbeats 0 in
theorem kz_N80_1 : ak_chN kz_M kz_CF kz_K kz_t80 59 kz_e80 kz_l80 3000 kz_n80_1 = true := by decide +kernel
set_option maxRecDepth 100000 in
set_option maxHeartbeats 0 in
theorem kz_N80_2 : ak_chN kz_M kz_CF kz_K kz_t80 59 kz_e80 kz_l80 3000 kz_n80_2 = true := by decide +kernel
set_option maxRecDepth 100000 in
set_option maxHeartbeats 0 in
theorem kz_N80_3 : ak_chN kz_M kz_CF kz_K kz_t80 59 kz_e80 kz_l80 3000 kz_n80_3 = true := by decide +kernel
set_option maxRecDepth 100000 in
set_option maxHeartbeats 0 in
theorem kz_N80_4 : ak_chN kz_M kz_CF kz_K kz_t80 59 kz_e80 kz_l80 3000 kz_n80_4 = true := by decide +kernel
set_option maxRecDepth 100000 in
set_option maxHeartbeats 0 in
theorem kz_N80_5 : ak_chN kz_M kz_CF kz_K kz_t80 59 kz_e80 kz_l80 3000 kz_n80_5 = true := by decide +kernel
set_option maxRecDepth 100000 in
set_option maxHeartbeats 0 in
theorem kz_N80_6 : ak_chN kz_M kz_CF kz_K kz_t80 59 kz_e80 kz_l80 3000 kz_n80_6 = true := by decide +kernel
set_option maxRecDepth 100000 in
set_option maxHeartbeats 0 in
theorem kz_N80_7 : ak_chN kz_M kz_CF kz_K kz_t80 59 kz_e80 kz_l80 3000 kz_n80_7 = true := by decide +kernel
set_option maxRecDepth 100000 in
set_option maxHeartbeats 0 in
theorem kz_N80_8 : ak_chN kz_M kz_CF kz_K kz_t80 59 kz_e80 kz_l80 3000 kz_n80_8 = true := by decide +kernel
set_option maxRecDepth 100000 in
set_option maxHeartbeats 0 in
theorem kz_N80_9 : ak_chN kz_M kz_CF kz_K kz_t80 59 kz_e80 kz_l80 3000 kz_n80_9 = true := by decide +kernel
set_option maxRecDepth 100000 in
set_option maxHeartbeats 0 in
theorem kz_W81 : ak_chW kz_M kz_e81 kz_l81 = true := by decide +kernel
set_option maxRecDepth 100000 in
set_option maxHeartbeats 0 in
theorem kz_E81 : ak_chS kz_K 62 kz_e81 = true ∧ ak_chE kz_M kz_CF kz_K kz_t81 62 kz_e81 kz_l81 3000 = true := by decide +kernel
set_option maxRecDepth 100000 in
set_option maxHeartbeats 0 in
theorem kz_W82 : ak_chW kz_M kz_e82 kz_l82 = true := by decide +kernel
set_option maxRecDepth 100000 in
set_option maxHeartbeats 0 in
theorem kz_E82 : ak_chS kz_K 167 kz_e82 = true ∧ ak_chE kz_M kz_CF kz_K kz_t82 167 kz_e82 kz_l82 3000 = true := by decide +kernel
set_option maxRecDepth 100000 in
set_option maxHeartbeats 0 in
theorem kz_N82_0 : ak_chN kz_M kz_CF kz_K kz_t82 167 kz_e82 kz_l82 3000 kz_n82_0 = true := by decide +kernel
set_option maxRecDepth 100000 in
set_option maxHeartbeats 0 in
theorem kz_W83 : ak_chW kz_M kz_e83 kz_l83 = true := by decide +kernel
set_option maxRecDepth 100000 in
set_option maxHeartbeats 0 in
theorem kz_E83 : ak_chS kz_K 167 kz_e83 = true ∧ ak_chE kz_M kz_CF kz_K kz_t83 167 kz_e83 kz_l83 3000 = true := by decide +kernel
set_option maxRecDepth 100000 in
set_option maxHeartbeats 0 in
theorem kz_N83_0 : ak_chN kz_M kz_CF kz_K kz_t83 167 kz_e83 kz_l83 3000 kz_n83_0 = true := by decide +kernel
set_option maxRecDepth 100000 in
set_option maxHeartbeats 0 in
theorem kz_N83_1 : ak_chN kz_M kz_CF kz_K kz_t83 167 kz_e83 kz_l83 3000 kz_n83_1 = true := by decide +kernel
set_option maxRecDepth 100000 in
set_option maxHeartbeats 0 in
theorem kz_W84 : ak_chW kz_M kz_e84 kz_l84 = true := by decide +kernel
set_option maxRecDepth 100000 in
set_option maxHeartbeats 0 in
theorem kz_E84 : ak_chS kz_K 167 kz_e84 = true ∧ ak_chE kz_M kz_CF kz_K kz_t84 167 kz_e84 kz_l84 3000 = true := by decide +kernel
set_option maxRecDepth 100000 in
set_option maxHeartbeats 0 in
theorem kz_N84_0 : ak_chN kz_M kz_CF kz_K kz_t84 167 kz_e84 kz_l84 3000 kz_n84_0 = true := by decide +kernel
set_option maxRecDepth 100000 in
set_option maxHeartbeats 0 in
theorem kz_N84_1 : ak_chN kz_M kz_CF kz_K kz_t84 167 kz_e84 kz_l84 3000 kz_n84_1 = true := by decide +kernel
set_option maxRecDepth 100000 in
set_option maxHeartbeats 0 in
theorem kz_W85 : ak_chW kz_M kz_e85 kz_l85 = true := by decide +kernel
set_option maxRecDepth 100000 in
set_option maxHeartbeats 0 in
theorem kz_E85 : ak_chS kz_K 167 kz_e85 = true ∧ ak_chE kz_M kz_CF kz_K kz_t85 167 kz_e85 kz_l85 3000 = true := by decide +kernel
set_option maxRecDepth 100000 in
set_option maxHeartbeats 0 in
theorem kz_N85_0 : ak_chN kz_M kz_CF kz_K kz_t85 167 kz_e85 kz_l85 3000 kz_n85_0 = true := by decide +kernel
set_option maxRecDepth 100000 in
set_option maxHeartbeats 0 in
theorem kz_N85_1 : ak_chN kz_M kz_CF kz_K kz_t85 167 kz_e85 kz_l85 3000 kz_n85_1 = true := by decide +kernel
set_option maxRecDepth 100000 in
set_option maxHeartbeats 0 in
theorem kz_W86 : ak_chW kz_M kz_e86 kz_l86 = true := by decide +kernel
set_option maxRecDepth 100000 in
set_option maxHeartbeats 0 in
theorem kz_E86 : ak_chS kz_K 167 kz_e86 = true ∧ ak_chE kz_M kz_CF kz_K kz_t86 167 kz_e86 kz_l86 3000 = true := by decide +kernel
set_option maxRecDepth 100000 in
set_option maxHeartbeats 0 in
theorem kz_N86_0 : ak_chN kz_M kz_CF kz_K kz_t86 167 kz_e86 kz_l86 3000 kz_n86_0 = true := by decide +kernel
set_option maxRecDepth 100000 in
set_option maxHeartbeats 0 in
theorem kz_N86_1 : ak_chN kz_M kz_CF kz_K kz_t86 167 kz_e86 kz_l86 3000 kz_n86_1 = true := by decide +kernel
set_option maxRecDepth 100000 in
set_option maxHeartbeats 0 in
theorem kz_W87 : ak_chW kz_M kz_e87 kz_l87 = true := by decide +kernel
set_option maxRecDepth 100000 in
set_option maxHeartbeats 0 in
theorem kz_E87 : ak_chS kz_K 167 kz_e87 = true ∧ ak_chE kz_M kz_CF kz_K kz_t87 167 kz_e87 kz_l87 3000 = true := by decide +kernel
set_option maxRecDepth 100000 in
set_option maxHeartbeats 0 in
theorem kz_N87_0 : ak_chN kz_M kz_CF kz_K kz_t87 167 kz_e87 kz_l87 3000 kz_n87_0 = true := by decide +kernel
set_option maxRecDepth 100000 in
set_option maxHeartbeats 0 in
theorem kz_N87_1 : ak_chN kz_M kz_CF kz_K kz_t87 167 kz_e87 kz_l87 3000 kz_n87_1 = true := by decide +kernel
set_option maxRecDepth 100000 in
set_option maxHeartbeats 0 in
theorem kz_W88 : ak_chW kz_M kz_e88 kz_l88 = true := by decide +kernel
set_option maxRecDepth 100000 in
set_option maxHeartbeats 0 in
theorem kz_E88 : ak_chS kz_K 111 kz_e88 = true ∧ ak_chE kz_M kz_CF kz_K kz_t88 111 kz_e88 kz_l88 3000 = true := by decide +kernel
set_option maxRecDepth 100000 in
set_option maxHeartbeats 0 in
theorem kz_N88_0 : ak_chN kz_M kz_CF kz_K kz_t88 111 kz_e88 kz_l88 3000 kz_n88_0 = true := by decide +kernel
set_option maxRecDepth 100000 in
set_option maxHeartbeats 0 in
theorem kz_W89 : ak_chW kz_M kz_e89 kz_l89 = true := by decide +kernel
set_option maxRecDepth 100000 in
set_option maxHeartbeats 0 in
theorem kz_E89 : ak_chS kz_K 12 kz_e89 = true ∧ ak_chE kz_M kz_CF kz_K kz_t89 12 kz_e89 kz_l89 3000 = true := by decide +kernel
set_option maxRecDepth 100000 in
set_option maxHeartbeats 0 in
theorem kz_W90 : ak_chW kz_M kz_e90 kz_l90 = true := by decide +kernel
set_option maxRecDepth 100000 in
set_option maxHeartbeats 0 in
theorem kz_E90 : ak_chS kz_K 10 kz_e90 = true ∧ ak_chE kz_M kz_CF kz_K kz_t90 10 kz_e90 kz_l90 3000 = true := by decide +kernel
set_option maxRecDepth 100000 in
set_option maxHeartbeats 0 in
theorem kz_N90_0 : ak_chN kz_M kz_CF kz_K kz_t90 10 kz_e90 kz_l90 3000 kz_n90_0 = true := by decide +kernel
set_option maxRecDepth 100000 in
set_option maxHeartbeats 0 in
theorem kz_W91 : ak_chW kz_M kz_e91 kz_l91 = true := by decide +kernel
set_option maxRecDepth 100000 in
set_option maxHeartbeats 0 in
theorem kz_E91 : ak_chS kz_K 9 kz_e91 = true ∧ ak_chE kz_M kz_CF kz_K kz_t91 9 kz_e91 kz_l91 3000 = true := by decide +kernel
