set_option maxRecDepth 100000 in
set_option maxHeartbeats 0 in
theorem kz_N76_6 : ak_chN kz_M kz_CF kz_K kz_t76 57 kz_e76 kz_l76 3000 kz_n76_6 = true := by decide +kernel
set_option maxRecDepth 100000 in
set_option maxHeartbeats 0 in
theorem kz_N76_7 : ak_chN kz_M kz_CF kz_K kz_t76 57 kz_e76 kz_l76 3000 kz_n76_7 = true := by decide +kernel
set_option maxRecDepth 100000 in
set_option maxHeartbeats 0 in
theorem kz_N76_8 : ak_chN kz_M kz_CF kz_K kz_t76 57 kz_e76 kz_l76 3000 kz_n76_8 = true := by decide +kernel
set_option maxRecDepth 100000 in
set_option maxHeartbeats 0 in
theorem kz_N76_9 : ak_chN kz_M kz_CF kz_K kz_t76 57 kz_e76 kz_l76 3000 kz_n76_9 = true := by decide +kernel
set_option maxRecDepth 100000 in
set_option maxHeartbeats 0 in
theorem kz_N76_10 : ak_chN kz_M kz_CF kz_K kz_t76 57 kz_e76 kz_l76 3000 kz_n76_10 = true := by decide +kernel
set_option maxRecDepth 100000 in
set_option maxHeartbeats 0 in
theorem kz_E77 : ak_chS kz_K 58 kz_e77 = true ∧ ak_chE kz_M kz_CF kz_K kz_t77 58 kz_e77 kz_l77 3000 = true := by decide +kernel
set_option maxRecDepth 100000 in
set_option maxHeartbeats 0 in
theorem kz_N77_0 : ak_chN kz_M kz_CF kz_K kz_t77 58 kz_e77 kz_l77 3000 kz_n77_0 = true := by decide +kernel
set_option maxRecDepth 100000 in
set_option maxHeartbeats 0 in
theorem kz_N77_1 : ak_chN kz_M kz_CF kz_K kz_t77 58 kz_e77 kz_l77 3000 kz_n77_1 = true := by decide +kernel
set_option maxRecDepth 100000 in
set_option maxHeartbeats 0 in
theorem kz_N77_2 : ak_chN kz_M kz_CF kz_K kz_t77 58 kz_e77 kz_l77 3000 kz_n77_2 = true := by decide +kernel
set_option maxRecDepth 100000 in
set_option maxHeartbeats 0 in
theorem kz_N77_3 : ak_chN kz_M kz_CF kz_K kz_t77 58 kz_e77 kz_l77 3000 kz_n77_3 = true := by decide +kernel
set_option maxRecDepth 100000 in
set_option maxHeartbeats 0 in
theorem kz_N77_4 : ak_chN kz_M kz_CF kz_K kz_t77 58 kz_e77 kz_l77 3000 kz_n77_4 = true := by decide +kernel
set_option maxRecDepth 100000 in
set_option maxHeartbeats 0 in
theorem kz_N77_5 : ak_chN kz_M kz_CF kz_K kz_t77 58 kz_e77 kz_l77 3000 kz_n77_5 = true := by decide +kernel
set_option maxRecDepth 100000 in
set_option maxHeartbeats 0 in
theorem kz_N77_6 : ak_chN kz_M kz_CF kz_K kz_t77 58 kz_e77 kz_l77 3000 kz_n77_6 = true := by decide +kernel
set_option maxRecDepth 100000 in
set_option maxHeartbeats 0 in
theorem kz_N77_7 : ak_chN kz_M kz_CF kz_K kz_t77 58 kz_e77 kz_l77 3000 kz_n77_7 = true := by decide +kernel
set_option maxRecDepth 100000 in
set_option maxHeartbeats 0 in
theorem kz_N77_8 : ak_chN kz_M kz_CF kz_K kz_t77 58 kz_e77 kz_l77 3000 kz_n77_8 = true := by decide +kernel
set_option maxRecDepth 100000 in
set_option maxHeartbeats 0 in
theorem kz_E78 : ak_chS kz_K 60 kz_e78 = true ∧ ak_chE kz_M kz_CF kz_K kz_t78 60 kz_e78 kz_l78 3000 = true := by decide +kernel
set_option maxRecDepth 100000 in
set_option maxHeartbeats 0 in
theorem kz_N78_0 : ak_chN kz_M kz_CF kz_K kz_t78 60 kz_e78 kz_l78 3000 kz_n78_0 = true := by decide +kernel
set_option maxRecDepth 100000 in
set_option maxHeartbeats 0 in
theorem kz_E79 : ak_chS kz_K 59 kz_e79 = true ∧ ak_chE kz_M kz_CF kz_K kz_t79 59 kz_e79 kz_l79 3000 = true := by decide +kernel
set_option maxRecDepth 100000 in
set_option maxHeartbeats 0 in
theorem kz_N79_0 : ak_chN kz_M kz_CF kz_K kz_t79 59 kz_e79 kz_l79 3000 kz_n79_0 = true := by decide +kernel
set_option maxRecDepth 100000 in
set_option maxHeartbeats 0 in
theorem kz_N79_1 : ak_chN kz_M kz_CF kz_K kz_t79 59 kz_e79 kz_l79 3000 kz_n79_1 = true := by decide +kernel
set_option maxRecDepth 100000 in
set_option maxHeartbeats 0 in
theorem kz_N79_2 : ak_chN kz_M kz_CF kz_K kz_t79 59 kz_e79 kz_l79 3000 kz_n79_2 = true := by decide +kernel
set_option maxRecDepth 100000 in
set_option maxHeartbeats 0 in
theorem kz_N79_3 : ak_chN kz_M kz_CF kz_K kz_t79 59 kz_e79 kz_l79 3000 kz_n79_3 = true := by decide +kernel
set_option maxRecDepth 100000 in
set_option maxHeartbeats 0 in
theorem kz_N79_4 : ak_chN kz_M kz_CF kz_K kz_t79 59 kz_e79 kz_l79 3000 kz_n79_4 = true := by decide +kernel
set_option maxRecDepth 100000 in
set_option maxHeartbeats 0 in
theorem kz_N79_5 : ak_chN kz_M kz_CF kz_K kz_t79 59 kz_e79 kz_l79 3000 kz_n79_5 = true := by decide +kernel
set_option maxRecDepth 100000 in
set_option maxHeartbeats 0 in
theorem kz_N79_6 : ak_chN kz_M kz_CF kz_K kz_t79 59 kz_e79 kz_l79 3000 kz_n79_6 = true := by decide +kernel
set_option maxRecDepth 100000 in
set_option maxHeartbeats 0 in
theorem kz_N79_7 : ak_chN kz_M kz_CF kz_K kz_t79 59 kz_e79 kz_l79 3000 kz_n79_7 = true := by decide +kernel
set_option maxRecDepth 100000 in
set_option maxHeartbeats 0 in
theorem kz_N79_8 : ak_chN kz_M kz_CF kz_K kz_t79 59 kz_e79 kz_l79 3000 kz_n79_8 = true := by decide +kernel
set_option maxRecDepth 100000 in
set_option maxHeartbeats 0 in
theorem kz_N79_9 : ak_chN kz_M kz_CF kz_K kz_t79 59 kz_e79 kz_l79 3000 kz_n79_9 = true := by decide +kernel
set_option maxRecDepth 100000 in
set_option maxHeartbeats 0 in
theorem kz_E80 : ak_chS kz_K 62 kz_e80 = true ∧ ak_chE kz_M kz_CF kz_K kz_t80 62 kz_e80 kz_l80 3000 = true := by decide +kernel
set_option maxRecDepth 100000 in
set_option maxHeartbeats 0 in
theorem kz_E81 : ak_chS kz_K 167 kz_e81 = true ∧ ak_chE kz_M kz_CF kz_K kz_t81 167 kz_e81 kz_l81 3000 = true := by decide +kernel
set_option maxRecDepth 100000 in
set_option maxHeartbeats 0 in
theorem kz_N81_0 : ak_chN kz_M kz_CF kz_K kz_t81 167 kz_e81 kz_l81 3000 kz_n81_0 = true := by decide +kernel
set_option maxRecDepth 100000 in
set_option maxHeartbeats 0 in
theorem kz_E82 : ak_chS kz_K 167 kz_e82 = true ∧ ak_chE kz_M kz_CF kz_K kz_t82 167 kz_e82 kz_l82 3000 = true := by decide +kernel
set_option maxRecDepth 100000 in
set_option maxHeartbeats 0 in
theorem kz_N82_0 : ak_chN kz_M kz_CF kz_K kz_t82 167 kz_e82 kz_l82 3000 kz_n82_0 = true := by decide +kernel
set_option maxRecDepth 100000 in
set_option maxHeartbeats 0 in
theorem kz_N82_1 : ak_chN kz_M kz_CF kz_K kz_t82 167 kz_e82 kz_l82 3000 kz_n82_1 = true := by decide +kernel
set_option maxRecDepth 100000 in
set_option maxHeartbeats 0 in
theorem kz_E83 : ak_chS kz_K 167 kz_e83 = true ∧ ak_chE kz_M kz_CF kz_K kz_t83 167 kz_e83 kz_l83 3000 = true := by decide +kernel
set_option maxRecDepth 100000 in
set_option maxHeartbeats 0 in
theorem kz_N83_0 : ak_chN kz_M kz_CF kz_K kz_t83 167 kz_e83 kz_l83 3000 kz_n83_0 = true := by decide +kernel
set_option maxRecDepth 100000 in
set_option maxHeartbeats 0 in
theorem kz_N83_1 : ak_chN kz_M kz_CF kz_K kz_t83 167 kz_e83 kz_l83 3000 kz_n83_1 = true := by decide +kernel
set_option maxRecDepth 100000 in
set_option maxHeartbeats 0 in
theorem kz_E84 : ak_chS kz_K 167 kz_e84 = true ∧ ak_chE kz_M kz_CF kz_K kz_t84 167 kz_e84 kz_l84 3000 = true := by decide +kernel
set_option maxRecDepth 100000 in
set_option maxHeartbeats 0 in
theorem kz_N84_0 : ak_chN kz_M kz_CF kz_K kz_t84 167 kz_e84 kz_l84 3000 kz_n84_0 = true := by decide +kernel
set_option maxRecDepth 100000 in
set_option maxHeartbeats 0 in
theorem kz_N84_1 : ak_chN kz_M kz_CF kz_K kz_t84 167 kz_e84 kz_l84 3000 kz_n84_1 = true := by decide +kernel
set_option maxRecDepth 100000 in
set_option maxHeartbeats 0 in
theorem kz_E85 : ak_chS kz_K 167 kz_e85 = true ∧ ak_chE kz_M kz_CF kz_K kz_t85 167 kz_e85 kz_l85 3000 = true := by decide +kernel
set_option maxRecDepth 100000 in
set_option maxHeartbeats 0 in
theorem kz_N85_0 : ak_chN kz_M kz_CF kz_K kz_t85 167 kz_e85 kz_l85 3000 kz_n85_0 = true := by decide +kernel
set_option maxRecDepth 100000 in
set_option maxHeartbeats 0 in
theorem kz_N85_1 : ak_chN kz_M kz_CF kz_K kz_t85 167 kz_e85 kz_l85 3000 kz_n85_1 = true := by decide +kernel
set_option maxRecDepth 100000 in
set_option maxHeartbeats 0 in
theorem kz_E86 : ak_chS kz_K 167 kz_e86 = true ∧ ak_chE kz_M kz_CF kz_K kz_t86 167 kz_e86 kz_l86 3000 = true := by decide +kernel
set_option maxRecDepth 100000 in
set_option maxHeartbeats 0 in
theorem kz_N86_0 : ak_chN kz_M kz_CF kz_K kz_t86 167 kz_e86 kz_l86 3000 kz_n86_0 = true := by decide +kernel
set_option maxRecDepth 100000 in
set_option maxHeartbeats 0 in
theorem kz_N86_1 : ak_chN kz_M kz_CF kz_K kz_t86 167 kz_e86 kz_l86 3000 kz_n86_1 = true := by decide +kernel
set_option maxRecDepth 100000 in
set_option maxHeartbeats 0 in
theorem kz_E87 : ak_chS kz_K 111 kz_e87 = true ∧ ak_chE kz_M kz_CF kz_K kz_t87 111 kz_e87 kz_l87 3000 = true := by decide +kernel
set_option maxRecDepth 100000 in
set_option maxHeartbeats 0 in
theorem kz_N87_0 : ak_chN kz_M kz_CF kz_K kz_t87 111 kz_e87 kz_l87 3000 kz_n87_0 = true := by decide +kernel
set_option maxRecDepth 100000 in
set_option maxHeartbeats 0 in
theorem kz_E88 : ak_chS kz_K 10 kz_e88 = true ∧ ak_chE kz_M kz_CF kz_K kz_t88 10 kz_e88 kz_l88 3000 = true := by decide +kernel
set_option maxRecDepth 100000 in
set_option maxHeartbeats 0 in
theorem kz_N88_0 : ak_chN kz_M kz_CF kz_K kz_t88 10 kz_e88 kz_l88 3000 kz_n88_0 = true := by decide +kernel
set_option maxRecDepth 100000 in
set_option maxHeartbeats 0 in
theorem kz_E89 : ak_chS kz_K 12 kz_e89 = true ∧ ak_chE kz_M kz_CF kz_K kz_t89 12 kz_e89 kz_l89 3000 = true := by decide +kernel
set_option maxRecDepth 100000 in
set_option maxHeartbeats 0 in
theorem kz_E90 : ak_chS kz_K 9 kz_e90 = true ∧ ak_chE kz_M kz_CF kz_K kz_t90 9 kz_e90 kz_l90 3000 = true := by decide +kernel
set_option maxRecDepth 100000 in
set_option maxHeartbeats 0 in
theorem kz_E91 : ak_chS kz_K 8 kz_e91 = true ∧ ak_chE kz_M kz_CF kz_K kz_t91 8 kz_e91 kz_l91 3000 = true := by decide +kernel
set_option maxRecDepth 100000 in
set_option maxHeartbeats 0 in
theorem kz_E92 : ak_chS kz_K 18 kz_e92 = true ∧ ak_chE kz_M kz_CF kz_K kz_t92 18 kz_e92 kz_l92 3000 = true := by decide +kernel
set_option maxRecDepth 100000 in
set_option maxHeartbeats 0 in
theorem kz_N92_0 : ak_chN kz_M kz_CF kz_K kz_t92 18 kz_e92 kz_l92 3000 kz_n92_0 = true := by decide +kernel
set_option maxRecDepth 100000 in
set_option maxHeartbeats 0 in
theorem kz_N92_1 : ak_chN kz_M kz_CF kz_K kz_t92 18 kz_e92 kz_l92 3000 kz_n92_1 = true := by decide +kernel
set_option maxRecDepth 100000 in
set_option maxHeartbeats 0 in
theorem kz_N92_2 : ak_chN kz_M kz_CF kz_K kz_t92 18 kz_e92 kz_l92 3000 kz_n92_2 = true := by decide +kernel
set_option maxRecDepth 100000 in
set_option maxHeartbeats 0 in
theorem kz_N92_3 : ak_chN kz_M kz_CF kz_K kz_t92 18 kz_e92 kz_l92 3000 kz_n92_3 = true := by decide +kernel
set_option maxRecDepth 100000 in
set_option maxHeartbeats 0 in
theorem kz_N92_4 : ak_chN kz_M kz_CF kz_K kz_t92 18 kz_e92 kz_l92 3000 kz_n92_4 = true := by decide +kernel
set_option maxRecDepth 100000 in
set_option maxHeartbeats 0 in
theorem kz_N92_5 : ak_chN kz_M kz_CF kz_K kz_t92 18 kz_e92 kz_l92 3000 kz_n92_5 = true := by decide +kernel
set_option maxRecDepth 100000 in
set_option maxHeartbeats 0 in
theorem kz_N92_6 : ak_chN kz_M kz_CF kz_K kz_t92 18 kz_e92 kz_l92 3000 kz_n92_6 = true := by decide +kernel
set_option maxRecDepth 100000 in
set_option maxHeartbeats 0 in
theorem kz_N92_7 : ak_chN kz_M kz_CF kz_K kz_t92 18 kz_e92 kz_l92 3000 kz_n92_7 = true := by decide +kernel
set_option maxRecDepth 100000 in
set_option maxHeartbeats 0 in
theorem kz_N92_8 : ak_chN kz_M kz_CF kz_K kz_t92 18 kz_e92 kz_l92 3000 kz_n92_8 = true := by decide +kernel
set_option maxRecDepth 100000 in
set_option maxHeartbeats 0 in
theorem kz_N92_9 : ak_chN kz_M kz_CF kz_K kz_t92 18 kz_e92 kz_l92 3000 kz_n92_9 = true := by decide +kernel
set_option maxRecDepth 100000 in
set_option maxHeartbeats 0 in
theorem kz_N92_10 : ak_chN kz_M kz_CF kz_K kz_t92 18 kz_e92 kz_l92 3000 kz_n92_10 = true := by decide +kernel
set_option maxRecDepth 100000 in
set_option maxHeartbeats 0 in
theorem kz_N92_11 : ak_chN kz_M kz_CF kz_K kz_t92 18 kz_e92 kz_l92 3000 kz_n92_11 = true := by decide +kernel
set_option maxRecDepth 100000 in
set_option maxHeartbeats 0 in
theorem kz_N92_12 : ak_chN kz_M kz_CF kz_K kz_t92 18 kz_e92 kz_l92 3000 kz_n92_12 = true := by decide +kernel
set_option maxRecDepth 100000 in
set_option maxHeartbeats 0 in
theorem kz_N92_13 : ak_chN kz_M kz_CF kz_K kz_t92 18 kz_e92 kz_l92 3000 kz_n92_13 = true := by decide +kernel
set_option maxRecDepth 100000 in
set_option maxHeartbeats 0 in
theorem kz_N92_14 : ak_chN kz_M kz_CF kz_K kz_t92 18 kz_e92 kz_l92 3000 kz_n92_14 = true := by decide +kernel
set_option maxRecDepth 100000 in
set_option maxHeartbeats 0 in
theorem kz_N92_15 : ak_chN kz_M kz_CF kz_K kz_t92 18 kz_e92 kz_l92 3000 kz_n92_15 = true := by decide +kernel
set_option maxRecDepth 100000 in
set_option maxHeartbeats 0 in
theorem kz_N92_16 : ak_chN kz_M kz_CF kz_K kz_t92 18 kz_e92 kz_l92 3000 kz_n92_16 = true := by decide +kernel
set_option maxRecDepth 100000 in
set_option maxHeartbeats 0 in
theorem kz_E93 : ak_chS kz_K 66 kz_e93 = true ∧ ak_chE kz_M kz_CF kz_K kz_t93 66 kz_e93 kz_l93 3000 = true := by decide +kernel
set_option maxRecDepth 100000 in
set_option maxHeartbeats 0 in
theorem kz_N93_0 : ak_chN kz_M kz_CF kz_K kz_t93 66 kz_e93 kz_l93 3000 kz_n93_0 = true := by decide +kernel
set_option maxRecDepth 100000 in
set_option maxHeartbeats 0 in
theorem kz_N93_1 : ak_chN kz_M kz_CF kz_K kz_t93 66 kz_e93 kz_l93 3000 kz_n93_1 = true := by decide +kernel
set_option maxRecDepth 100000 in
set_option maxHeartbeats 0 in
theorem kz_N93_2 : ak_chN kz_M kz_CF kz_K kz_t93 66 kz_e93 kz_l93 3000 kz_n93_2 = true := by decide +kernel
set_option maxRecDepth 100000 in
set_option maxHeartbeats 0 in
theorem kz_N93_3 : ak_chN kz_M kz_CF kz_K kz_t93 66 kz_e93 kz_l93 3000 kz_n93_3 = true := by decide +kernel
set_option maxRecDepth 100000 in
set_option maxHeartbeats 0 in
theorem kz_N93_4 : ak_chN kz_M kz_CF kz_K kz_t93 66 kz_e93 kz_l93 3000 kz_n93_4 = true := by decide +kernel
set_option maxRecDepth 100000 in
set_option maxHeartbeats 0 in
theorem kz_N93_5 : ak_chN kz_M kz_CF kz_K kz_t93 66 kz_e93 kz_l93 3000 kz_n93_5 = true := by decide +kernel
set_option maxRecDepth 100000 in
set_option maxHeartbeats 0 in
theorem kz_N93_6 : ak_chN kz_M kz_CF kz_K kz_t93 66 kz_e93 kz_l93 3000 kz_n93_6 = true := by decide +kernel
set_option maxRecDepth 100000 in
set_option maxHeartbeats 0 in
theorem kz_N93_7 : ak_chN kz_M kz_CF kz_K kz_t93 66 kz_e93 kz_l93 3000 kz_n93_7 = true := by decide +kernel
set_option maxRecDepth 100000 in
set_option maxHeartbeats 0 in
theorem kz_N93_8 : ak_chN kz_M kz_CF kz_K kz_t93 66 kz_e93 kz_l93 3000 kz_n93_8 = true := by decide +kernel
set_option maxRecDepth 100000 in
set_option maxHeartbeats 0 in
theorem kz_N93_9 : ak_chN kz_M kz_CF kz_K kz_t93 66 kz_e93 kz_l93 3000 kz_n93_9 = true := by decide +kernel
set_option maxRecDepth 100000 in
set_option maxHeartbeats 0 in
theorem kz_N93_10 : ak_chN kz_M kz_CF kz_K kz_t93 66 kz_e93 kz_l93 3000 kz_n93_10 = true := by decide +kernel
set_option maxRecDepth 100000 in
set_option maxHeartbeats 0 in
theorem kz_N93_11 : ak_chN kz_M kz_CF kz_K kz_t93 66 kz_e93 kz_l93 3000 kz_n93_11 = true := by decide +kernel
set_option maxRecDepth 100000 in
set_option maxHeartbeats 0 in
theorem kz_N93_12 : ak_chN kz_M kz_CF kz_K kz_t93 66 kz_e93 kz_l93 3000 kz_n93_12 = true := by decide +kernel
set_option maxRecDepth 100000 in
set_option maxHeartbeats 0 in
theorem kz_N93_13 : ak_chN kz_M kz_CF kz_K kz_t93 66 kz_e93 kz_l93 3000 kz_n93_13 = true := by decide +kernel
set_option maxRecDepth 100000 in
set_option maxHeartbeats 0 in
theorem kz_N93_14 : ak_chN kz_M kz_CF kz_K kz_t93 66 kz_e93 kz_l93 3000 kz_n93_14 = true := by decide +kernel
set_option maxRecDepth 100000 in
set_option maxHeartbeats 0 in
theorem kz_N93_15 : ak_chN kz_M kz_CF kz_K kz_t93 66 kz_e93 kz_l93 3000 kz_n93_15 = true := by decide +kernel
set_option maxRecDepth 100000 in
set_option maxHeartbeats 0 in
theorem kz_N93_16 : ak_chN kz_M kz_CF kz_K kz_t93 66 kz_e93 kz_l93 3000 kz_n93_16 = true := by decide +kernel
set_option maxRecDepth 100000 in
set_option maxHeartbeats 0 in
theorem kz_N93_17 : ak_chN kz_M kz_CF kz_K kz_t93 66 kz_e93 kz_l93 3000 kz_n93_17 = true := by decide +kernel
set_option maxRecDepth 100000 in
set_option maxHeartbeats 0 in
theorem kz_N93_18 : ak_chN kz_M kz_CF kz_K kz_t93 66 kz_e93 kz_l93 3000 kz_n93_18 = true := by decide +kernel
set_option maxRecDepth 100000 in
set_option maxHeartbeats 0 in
theorem kz_N93_19 : ak_chN kz_M kz_CF kz_K kz_t93 66 kz_e93 kz_l93 3000 kz_n93_19 = true := by decide +kernel
set_option maxRecDepth 100000 in
set_option maxHeartbeats 0 in
theorem kz_N93_20 : ak_chN kz_M kz_CF kz_K kz_t93 66 kz_e93 kz_l93 3000 kz_n93_20 = true := by decide +kernel
set_option maxRecDepth 100000 in
set_option maxHeartbeats 0 in
theorem kz_N93_21 : ak_chN kz_M kz_CF kz_K kz_t93 66 kz_e93 kz_l93 3000 kz_n93_21 = true := by decide +kernel
set_option maxRecDepth 100000 in
set_option maxHeartbeats 0 in
theorem kz_N93_22 : ak_chN kz_M kz_CF kz_K kz_t93 66 kz_e93 kz_l93 3000 kz_n93_22 = true := by decide +kernel
set_option maxRecDepth 100000 in
set_option maxHeartbeats 0 in
theorem kz_N93_23 : ak_chN kz_M kz_CF kz_K kz_t93 66 kz_e93 kz_l93 3000 kz_n93_23 = true := by decide +kernel
set_option maxRecDepth 100000 in
set_option maxHeartbeats 0 in
theorem kz_N93_24 : ak_chN kz_M kz_CF kz_K kz_t93 66 kz_e93 kz_l93 3000 kz_n93_24 = true := by decide +kernel
set_option maxRecDepth 100000 in
set_option maxHeartbeats 0 in
theorem kz_N93_25 : ak_chN kz_M kz_CF kz_K kz_t93 66 kz_e93 kz_l93 3000 kz_n93_25 = true := by decide +kernel
set_option maxRecDepth 100000 in
set_option maxHeartbeats 0 in
theorem kz_N93_26 : ak_chN kz_M kz_CF kz_K kz_t93 66 kz_e93 kz_l93 3000 kz_n93_26 = true := by decide +kernel
set_option maxRecDepth 100000 in
set_option maxHeartbeats 0 in
theorem kz_N93_27 : ak_chN kz_M kz_CF kz_K kz_t93 66 kz_e93 kz_l93 3000 kz_n93_27 = true := by decide +kernel
set_option maxRecDepth 100000 in
set_option maxHeartbeats 0 in
theorem kz_N93_28 : ak_chN kz_M kz_CF kz_K kz_t93 66 kz_e93 kz_l93 3000 kz_n93_28 = true := by decide +kernel
set_option maxRecDepth 100000 in
set_option maxHeartbeats 0 in
theorem kz_N93_29 : ak_chN kz_M kz_CF kz_K kz_t93 66 kz_e93 kz_l93 3000 kz_n93_29 = true := by decide +kernel
set_option maxRecDepth 100000 in
set_option maxHeartbeats 0 in
theorem kz_N93_30 : ak_chN kz_M kz_CF kz_K kz_t93 66 kz_e93 kz_l93 3000 kz_n93_30 = true := by decide +kernel
set_option maxRecDepth 100000 in
set_option maxHeartbeats 0 in
theorem kz_E94 : ak_chS kz_K 116 kz_e94 = true ∧ ak_chE kz_M kz_CF kz_K kz_t94 116 kz_e94 kz_l94 3000 = true := by decide +kernel
set_option maxRecDepth 100000 in
set_option maxHeartbeats 0 in
theorem kz_N94_0 : ak_chN kz_M kz_CF kz_K kz_t94 116 kz_e94 kz_l94 3000 kz_n94_0 = true := by decide +kernel
set_option maxRecDepth 100000 in
set_option maxHeartbeats 0 in
theorem kz_N94_1 : ak_chN kz_M kz_CF kz_K kz_t94 116 kz_e94 kz_l94 3000 kz_n94_1 = true := by decide +kernel
set_option maxRecDepth 100000 in
set_option maxHeartbeats 0 in
theorem kz_N94_2 : ak_chN kz_M kz_CF kz_K kz_t94 116 kz_e94 kz_l94 3000 kz_n94_2 = true := by decide +kernel
set_option maxRecDepth 100000 in
set_option maxHeartbeats 0 in
theorem kz_N94_3 : ak_chN kz_M kz_CF kz_K kz_t94 116 kz_e94 kz_l94 3000 kz_n94_3 = true := by decide +kernel
set_option maxRecDepth 100000 in
set_option maxHeartbeats 0 in
theorem kz_N94_4 : ak_chN kz_M kz_CF kz_K kz_t94 116 kz_e94 kz_l94 3000 kz_n94_4 = true := by decide +kernel
set_option maxRecDepth 100000 in
set_option maxHeartbeats 0 in
theorem kz_N94_5 : ak_chN kz_M kz_CF kz_K kz_t94 116 kz_e94 kz_l94 3000 kz_n94_5 = true := by decide +kernel
set_option maxRecDepth 100000 in
set_option maxHeartbeats 0 in
theorem kz_N94_6 : ak_chN kz_M kz_CF kz_K kz_t94 116 kz_e94 kz_l94 3000 kz_n94_6 = true := by decide +kernel
set_option maxRecDepth 100000 in
set_option maxHeartbeats 0 in
theorem kz_N94_7 : ak_chN kz_M kz_CF kz_K kz_t94 116 kz_e94 kz_l94 3000 kz_n94_7 = true := by decide +kernel
set_option maxRecDepth 100000 in
set_option maxHeartbeats 0 in
theorem kz_N94_8 : ak_chN kz_M kz_CF kz_K kz_t94 116 kz_e94 kz_l94 3000 kz_n94_8 = true := by decide +kernel
set_option maxRecDepth 100000 in
set_option maxHeartbeats 0 in
theorem kz_N94_9 : ak_chN kz_M kz_CF kz_K kz_t94 116 kz_e94 kz_l94 3000 kz_n94_9 = true := by decide +kernel
set_option maxRecDepth 100000 in
set_option maxHeartbeats 0 in
theorem kz_N94_10 : ak_chN kz_M kz_CF kz_K kz_t94 116 kz_e94 kz_l94 3000 kz_n94_10 = true := by decide +kernel
set_option maxRecDepth 100000 in
set_option maxHeartbeats 0 in
theorem kz_N94_11 : ak_chN kz_M kz_CF kz_K kz_t94 116 kz_e94 kz_l94 3000 kz_n94_11 = true := by decide +kernel
set_option maxRecDepth 100000 in
set_option maxHeartbeats 0 in
theorem kz_N94_12 : ak_chN kz_M kz_CF kz_K kz_t94 116 kz_e94 kz_l94 3000 kz_n94_12 = true := by decide +kernel
set_option maxRecDepth 100000 in
set_option maxHeartbeats 0 in
theorem kz_N94_13 : ak_chN kz_M kz_CF kz_K kz_t94 116 kz_e94 kz_l94 3000 kz_n94_13 = true := by decide +kernel
set_option maxRecDepth 100000 in
set_option maxHeartbeats 0 in
theorem kz_N94_14 : ak_chN kz_M kz_CF kz_K kz_t94 116 kz_e94 kz_l94 3000 kz_n94_14 = true := by decide +kernel
set_option maxRecDepth 100000 in
set_option maxHeartbeats 0 in
theorem kz_N94_15 : ak_chN kz_M kz_CF kz_K kz_t94 116 kz_e94 kz_l94 3000 kz_n94_15 = true := by decide +kernel
set_option maxRecDepth 100000 in
set_option maxHeartbeats 0 in
theorem kz_N94_16 : ak_chN kz_M kz_CF kz_K kz_t94 116 kz_e94 kz_l94 3000 kz_n94_16 = true := by decide +kernel
set_option maxRecDepth 100000 in
set_option maxHeartbeats 0 in
theorem kz_N94_17 : ak_chN kz_M kz_CF kz_K kz_t94 116 kz_e94 kz_l94 3000 kz_n94_17 = true := by decide +kernel
set_option maxRecDepth 100000 in
set_option maxHeartbeats 0 in
theorem kz_N94_18 : ak_chN kz_M kz_CF kz_K kz_t94 116 kz_e94 kz_l94 3000 kz_n94_18 = true := by decide +kernel
set_option maxRecDepth 100000 in
set_option maxHeartbeats 0 in
theorem kz_N94_19 : ak_chN kz_M kz_CF kz_K kz_t94 116 kz_e94 kz_l94 3000 kz_n94_19 = true := by decide +kernel
set_option maxRecDepth 100000 in
set_option maxHeartbeats 0 in
theorem kz_N94_20 : ak_chN kz_M kz_CF kz_K kz_t94 116 kz_e94 kz_l94 3000 kz_n94_20 = true := by decide +kernel
set_option maxRecDepth 100000 in
set_option maxHeartbeats 0 in
theorem kz_N94_21 : ak_chN kz_M kz_CF kz_K kz_t94 116 kz_e94 kz_l94 3000 kz_n94_21 = true := by decide +kernel
set_option maxRecDepth 100000 in
set_option maxHeartbeats 0 in
theorem kz_N94_22 : ak_chN kz_M kz_CF kz_K kz_t94 116 kz_e94 kz_l94 3000 kz_n94_22 = true := by decide +kernel
set_option maxRecDepth 100000 in
set_option maxHeartbeats 0 in
theorem kz_N94_23 : ak_chN kz_M kz_CF kz_K kz_t94 116 kz_e94 kz_l94 3000 kz_n94_23 = true := by decide +kernel
set_option maxRecDepth 100000 in
set_option maxHeartbeats 0 in
theorem kz_N94_24 : ak_chN kz_M kz_CF kz_K kz_t94 116 kz_e94 kz_l94 3000 kz_n94_24 = true := by decide +kernel
set_option maxRecDepth 100000 in
set_option maxHeartbeats 0 in
theorem kz_N94_25 : ak_chN kz_M kz_CF kz_K kz_t94 116 kz_e94 kz_l94 3000 kz_n94_25 = true := by decide +kernel
set_option maxRecDepth 100000 in
set_option maxHeartbeats 0 in
theorem kz_N94_26 : ak_chN kz_M kz_CF kz_K kz_t94 116 kz_e94 kz_l94 3000 kz_n94_26 = true := by decide +kernel
set_option maxRecDepth 100000 in
set_option maxHeartbeats 0 in
theorem kz_N94_27 : ak_chN kz_M kz_CF kz_K kz_t94 116 kz_e94 kz_l94 3000 kz_n94_27 = true := by decide +kernel
set_option maxRecDepth 100000 in
set_option maxHeartbeats 0 in
theorem kz_N94_28 : ak_chN kz_M kz_CF kz_K kz_t94 116 kz_e94 kz_l94 3000 kz_n94_28 = true := by decide +kernel
set_option maxRecDepth 100000 in
set_option maxHeartbeats 0 in
theorem kz_N94_29 : ak_chN kz_M kz_CF kz_K kz_t94 116 kz_e94 kz_l94 3000 kz_n94_29 = true := by decide +kernel
set_option maxRecDepth 100000 in
set_option maxHeartbeats 0 in
theorem kz_N94_30 : ak_chN kz_M kz_CF kz_K kz_t94 116 kz_e94 kz_l94 3000 kz_n94_30 = true := by decide +kernel
set_option maxRecDepth 100000 in
set_option maxHeartbeats 0 in
theorem kz_E95 : ak_chS kz_K 90 kz_e95 = true ∧ ak_chE kz_M kz_CF kz_K kz_t95 90 kz_e95 kz_l95 3000 = true := by decide +kernel
set_option maxRecDepth 100000 in
set_option maxHeartbeats 0 in
theorem kz_N95_0 : ak_chN kz_M kz_CF kz_K kz_t95 90 kz_e95 kz_l95 3000 kz_n95_0 = true := by decide +kernel
set_option maxRecDepth 100000 in
set_option maxHeartbeats 0 in
theorem kz_N95_1 : ak_chN kz_M kz_CF kz_K kz_t95 90 kz_e95 kz_l95 3000 kz_n95_1 = true := by decide +kernel
set_option maxRecDepth 100000 in
set_option maxHeartbeats 0 in
theorem kz_N95_2 : ak_chN kz_M kz_CF kz_K kz_t95 90 kz_e95 kz_l95 3000 kz_n95_2 = true := by decide +kernel
set_option maxRecDepth 100000 in
set_option maxHeartbeats 0 in
theorem kz_N95_3 : ak_chN kz_M kz_CF kz_K kz_t95 90 kz_e95 kz_l95 3000 kz_n95_3 = true := by decide +kernel
set_option maxRecDepth 100000 in
set_option maxHeartbeats 0 in
theorem kz_N95_4 : ak_chN kz_M kz_CF kz_K kz_t95 90 kz_e95 kz_l95 3000 kz_n95_4 = true := by decide +kernel
set_option maxRecDepth 100000 in
set_option maxHeartbeats 0 in
theorem kz_N95_5 : ak_chN kz_M kz_CF kz_K kz_t95 90 kz_e95 kz_l95 3000 kz_n95_5 = true := by decide +kernel
set_option maxRecDepth 100000 in
set_option maxHeartbeats 0 in
theorem kz_E96 : ak_chS kz_K 163 kz_e96 = true ∧ ak_chE kz_M kz_CF kz_K kz_t96 163 kz_e96 kz_l96 3000 = true := by decide +kernel
set_option maxRecDepth 100000 in
set_option maxHeartbeats 0 in
theorem kz_N96_0 : ak_chN kz_M kz_CF kz_K kz_t96 163 kz_e96 kz_l96 3000 kz_n96_0 = true := by decide +kernel
set_option maxRecDepth 100000 in
set_option maxHeartbeats 0 in
theorem kz_N96_1 : ak_chN kz_M kz_CF kz_K kz_t96 163 kz_e96 kz_l96 3000 kz_n96_1 = true := by decide +kernel
set_option maxRecDepth 100000 in
set_option maxHeartbeats 0 in
theorem kz_N96_2 : ak_chN kz_M kz_CF kz_K kz_t96 163 kz_e96 kz_l96 3000 kz_n96_2 = true := by decide +kernel
set_option maxRecDepth 100000 in
set_option maxHeartbeats 0 in
theorem kz_N96_3 : ak_chN kz_M kz_CF kz_K kz_t96 163 kz_e96 kz_l96 3000 kz_n96_3 = true := by decide +kernel
set_option maxRecDepth 100000 in
set_option maxHeartbeats 0 in
theorem kz_N96_4 : ak_chN kz_M kz_CF kz_K kz_t96 163 kz_e96 kz_l96 3000 kz_n96_4 = true := by decide +kernel
set_option maxRecDepth 100000 in
set_option maxHeartbeats 0 in
theorem kz_N96_5 : ak_chN kz_M kz_CF kz_K kz_t96 163 kz_e96 kz_l96 3000 kz_n96_5 = true := by decide +kernel
set_option maxRecDepth 100000 in
set_option maxHeartbeats 0 in
theorem kz_E97 : ak_chS kz_K 86 kz_e97 = true ∧ ak_chE kz_M kz_CF kz_K kz_t97 86 kz_e97 kz_l97 3000 = true := by decide +kernel
set_option maxRecDepth 100000 in
set_option maxHeartbeats 0 in
theorem kz_N97_0 : ak_chN kz_M kz_CF kz_K kz_t97 86 kz_e97 kz_l97 3000 kz_n97_0 = true := by decide +kernel
set_option maxRecDepth 100000 in
set_option maxHeartbeats 0 in
theorem kz_E98 : ak_chS kz_K 150 kz_e98 = true ∧ ak_chE kz_M kz_CF kz_K kz_t98 150 kz_e98 kz_l98 3000 = true := by decide +kernel
set_option maxRecDepth 100000 in
set_option maxHeartbeats 0 in
theorem kz_N98_0 : ak_chN kz_M kz_CF kz_K kz_t98 150 kz_e98 kz_l98 3000 kz_n98_0 = true := by decide +kernel
set_option maxRecDepth 100000 in
set_option maxHeartbeats 0 in
theorem kz_E99 : ak_chS kz_K 74 kz_e99 = true ∧ ak_chE kz_M kz_CF kz_K kz_t99 74 kz_e99 kz_l99 3000 = true := by decide +kernel
set_option maxRecDepth 100000 in
set_option maxHeartbeats 0 in
theorem kz_N99_0 : ak_chN kz_M kz_CF kz_K kz_t99 74 kz_e99 kz_l99 3000 kz_n99_0 = true := by decide +kernel
set_option maxRecDepth 100000 in
set_option maxHeartbeats 0 in
theorem kz_E100 : ak_chS kz_K 91 kz_e100 = true ∧ ak_chE kz_M kz_CF kz_K kz_t100 91 kz_e100 kz_l100 3000 = true := by decide +kernel
set_option maxRecDepth 100000 in
set_option maxHeartbeats 0 in
theorem kz_N100_0 : ak_chN kz_M kz_CF kz_K kz_t100 91 kz_e100 kz_l100 3000 kz_n100_0 = true := by decide +kernel
set_option maxRecDepth 100000 in
set_option maxHeartbeats 0 in
theorem kz_N100_1 : ak_chN kz_M kz_CF kz_K kz_t100 91 kz_e100 kz_l100 3000 kz_n100_1 = true := by decide +kernel
set_option maxRecDepth 100000 in
set_option maxHeartbeats 0 in
theorem kz_N100_2 : ak_chN kz_M kz_CF kz_K kz_t100 91 kz_e100 kz_l100 3000 kz_n100_2 = true := by decide +kernel
set_option maxRecDepth 100000 in
set_option maxHeartbeats 0 in
theorem kz_N100_3 : ak_chN kz_M kz_CF kz_K kz_t100 91 kz_e100 kz_l100 3000 kz_n100_3 = true := by decide +kernel
set_option maxRecDepth 100000 in
set_option maxHeartbeats 0 in
theorem kz_N100_4 : ak_chN kz_M kz_CF kz_K kz_t100 91 kz_e100 kz_l100 3000 kz_n100_4 = true := by decide +kernel
set_option maxRecDepth 100000 in
set_option maxHeartbeats 0 in
theorem kz_N100_5 : ak_chN kz_M kz_CF kz_K kz_t100 91 kz_e100 kz_l100 3000 kz_n100_5 = true := by decide +kernel
set_option maxRecDepth 100000 in
set_option maxHeartbeats 0 in
theorem kz_E101 : ak_chS kz_K 92 kz_e101 = true ∧ ak_chE kz_M kz_CF kz_K kz_t101 92 kz_e101 kz_l101 3000 = true := by decide +kernel
set_option maxRecDepth 100000 in
set_option maxHeartbeats 0 in
theorem kz_E102 : ak_chS kz_K 128 kz_e102 = true ∧ ak_chE kz_M kz_CF kz_K kz_t102 128 kz_e102 kz_l102 3000 = true := by decide +kernel
set_option maxRecDepth 100000 in
set_option maxHeartbeats 0 in
theorem kz_N102_0 : ak_chN kz_M kz_CF kz_K kz_t102 128 kz_e102 kz_l102 3000 kz_n102_0 = true := by decide +kernel
