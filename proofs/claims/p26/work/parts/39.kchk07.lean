set_option maxRecDepth 100000 in
set_option maxHeartbeats 0 in
theorem kz_N65_1 : ak_chN kz_M kz_CF kz_K kz_t65 151 kz_e65 kz_l65 3000 kz_n65_1 = true := by decide +kernel
set_option maxRecDepth 100000 in
set_option maxHeartbeats 0 in
theorem kz_N65_2 : ak_chN kz_M kz_CF kz_K kz_t65 151 kz_e65 kz_l65 3000 kz_n65_2 = true := by decide +kernel
set_option maxRecDepth 100000 in
set_option maxHeartbeats 0 in
theorem kz_N65_3 : ak_chN kz_M kz_CF kz_K kz_t65 151 kz_e65 kz_l65 3000 kz_n65_3 = true := by decide +kernel
set_option maxRecDepth 100000 in
set_option maxHeartbeats 0 in
theorem kz_N65_4 : ak_chN kz_M kz_CF kz_K kz_t65 151 kz_e65 kz_l65 3000 kz_n65_4 = true := by decide +kernel
set_option maxRecDepth 100000 in
set_option maxHeartbeats 0 in
theorem kz_N65_5 : ak_chN kz_M kz_CF kz_K kz_t65 151 kz_e65 kz_l65 3000 kz_n65_5 = true := by decide +kernel
set_option maxRecDepth 100000 in
set_option maxHeartbeats 0 in
theorem kz_E66 : ak_chS kz_K 155 kz_e66 = true ∧ ak_chE kz_M kz_CF kz_K kz_t66 155 kz_e66 kz_l66 3000 = true := by decide +kernel
set_option maxRecDepth 100000 in
set_option maxHeartbeats 0 in
theorem kz_E67 : ak_chS kz_K 16 kz_e67 = true ∧ ak_chE kz_M kz_CF kz_K kz_t67 16 kz_e67 kz_l67 3000 = true := by decide +kernel
set_option maxRecDepth 100000 in
set_option maxHeartbeats 0 in
theorem kz_E68 : ak_chS kz_K 15 kz_e68 = true ∧ ak_chE kz_M kz_CF kz_K kz_t68 15 kz_e68 kz_l68 3000 = true := by decide +kernel
set_option maxRecDepth 100000 in
set_option maxHeartbeats 0 in
theorem kz_E69 : ak_chS kz_K 14 kz_e69 = true ∧ ak_chE kz_M kz_CF kz_K kz_t69 14 kz_e69 kz_l69 3000 = true := by decide +kernel
set_option maxRecDepth 100000 in
set_option maxHeartbeats 0 in
theorem kz_N69_0 : ak_chN kz_M kz_CF kz_K kz_t69 14 kz_e69 kz_l69 3000 kz_n69_0 = true := by decide +kernel
set_option maxRecDepth 100000 in
set_option maxHeartbeats 0 in
theorem kz_N69_1 : ak_chN kz_M kz_CF kz_K kz_t69 14 kz_e69 kz_l69 3000 kz_n69_1 = true := by decide +kernel
set_option maxRecDepth 100000 in
set_option maxHeartbeats 0 in
theorem kz_N69_2 : ak_chN kz_M kz_CF kz_K kz_t69 14 kz_e69 kz_l69 3000 kz_n69_2 = true := by decide +kernel
set_option maxRecDepth 100000 in
set_option maxHeartbeats 0 in
theorem kz_N69_3 : ak_chN kz_M kz_CF kz_K kz_t69 14 kz_e69 kz_l69 3000 kz_n69_3 = true := by decide +kernel
set_option maxRecDepth 100000 in
set_option maxHeartbeats 0 in
theorem kz_N69_4 : ak_chN kz_M kz_CF kz_K kz_t69 14 kz_e69 kz_l69 3000 kz_n69_4 = true := by decide +kernel
set_option maxRecDepth 100000 in
set_option maxHeartbeats 0 in
theorem kz_N69_5 : ak_chN kz_M kz_CF kz_K kz_t69 14 kz_e69 kz_l69 3000 kz_n69_5 = true := by decide +kernel
set_option maxRecDepth 100000 in
set_option maxHeartbeats 0 in
theorem kz_E70 : ak_chS kz_K 11 kz_e70 = true ∧ ak_chE kz_M kz_CF kz_K kz_t70 11 kz_e70 kz_l70 3000 = true := by decide +kernel
set_option maxRecDepth 100000 in
set_option maxHeartbeats 0 in
theorem kz_N70_0 : ak_chN kz_M kz_CF kz_K kz_t70 11 kz_e70 kz_l70 3000 kz_n70_0 = true := by decide +kernel
set_option maxRecDepth 100000 in
set_option maxHeartbeats 0 in
theorem kz_E71 : ak_chS kz_K 87 kz_e71 = true ∧ ak_chE kz_M kz_CF kz_K kz_t71 87 kz_e71 kz_l71 3000 = true := by decide +kernel
set_option maxRecDepth 100000 in
set_option maxHeartbeats 0 in
theorem kz_N71_0 : ak_chN kz_M kz_CF kz_K kz_t71 87 kz_e71 kz_l71 3000 kz_n71_0 = true := by decide +kernel
set_option maxRecDepth 100000 in
set_option maxHeartbeats 0 in
theorem kz_E72 : ak_chS kz_K 93 kz_e72 = true ∧ ak_chE kz_M kz_CF kz_K kz_t72 93 kz_e72 kz_l72 3000 = true := by decide +kernel
set_option maxRecDepth 100000 in
set_option maxHeartbeats 0 in
theorem kz_N72_0 : ak_chN kz_M kz_CF kz_K kz_t72 93 kz_e72 kz_l72 3000 kz_n72_0 = true := by decide +kernel
set_option maxRecDepth 100000 in
set_option maxHeartbeats 0 in
theorem kz_N72_1 : ak_chN kz_M kz_CF kz_K kz_t72 93 kz_e72 kz_l72 3000 kz_n72_1 = true := by decide +kernel
set_option maxRecDepth 100000 in
set_option maxHeartbeats 0 in
theorem kz_E73 : ak_chS kz_K 145 kz_e73 = true ∧ ak_chE kz_M kz_CF kz_K kz_t73 145 kz_e73 kz_l73 3000 = true := by decide +kernel
set_option maxRecDepth 100000 in
set_option maxHeartbeats 0 in
theorem kz_N73_0 : ak_chN kz_M kz_CF kz_K kz_t73 145 kz_e73 kz_l73 3000 kz_n73_0 = true := by decide +kernel
set_option maxRecDepth 100000 in
set_option maxHeartbeats 0 in
theorem kz_N73_1 : ak_chN kz_M kz_CF kz_K kz_t73 145 kz_e73 kz_l73 3000 kz_n73_1 = true := by decide +kernel
set_option maxRecDepth 100000 in
set_option maxHeartbeats 0 in
theorem kz_E74 : ak_chS kz_K 144 kz_e74 = true ∧ ak_chE kz_M kz_CF kz_K kz_t74 144 kz_e74 kz_l74 3000 = true := by decide +kernel
set_option maxRecDepth 100000 in
set_option maxHeartbeats 0 in
theorem kz_N74_0 : ak_chN kz_M kz_CF kz_K kz_t74 144 kz_e74 kz_l74 3000 kz_n74_0 = true := by decide +kernel
set_option maxRecDepth 100000 in
set_option maxHeartbeats 0 in
theorem kz_N74_1 : ak_chN kz_M kz_CF kz_K kz_t74 144 kz_e74 kz_l74 3000 kz_n74_1 = true := by decide +kernel
set_option maxRecDepth 100000 in
set_option maxHeartbeats 0 in
theorem kz_E75 : ak_chS kz_K 166 kz_e75 = true ∧ ak_chE kz_M kz_CF kz_K kz_t75 166 kz_e75 kz_l75 3000 = true := by decide +kernel
set_option maxRecDepth 100000 in
set_option maxHeartbeats 0 in
theorem kz_N75_0 : ak_chN kz_M kz_CF kz_K kz_t75 166 kz_e75 kz_l75 3000 kz_n75_0 = true := by decide +kernel
set_option maxRecDepth 100000 in
set_option maxHeartbeats 0 in
theorem kz_N75_1 : ak_chN kz_M kz_CF kz_K kz_t75 166 kz_e75 kz_l75 3000 kz_n75_1 = true := by decide +kernel
set_option maxRecDepth 100000 in
set_option maxHeartbeats 0 in
theorem kz_N75_2 : ak_chN kz_M kz_CF kz_K kz_t75 166 kz_e75 kz_l75 3000 kz_n75_2 = true := by decide +kernel
set_option maxRecDepth 100000 in
set_option maxHeartbeats 0 in
theorem kz_N75_3 : ak_chN kz_M kz_CF kz_K kz_t75 166 kz_e75 kz_l75 3000 kz_n75_3 = true := by decide +kernel
set_option maxRecDepth 100000 in
set_option maxHeartbeats 0 in
theorem kz_N75_4 : ak_chN kz_M kz_CF kz_K kz_t75 166 kz_e75 kz_l75 3000 kz_n75_4 = true := by decide +kernel
set_option maxRecDepth 100000 in
set_option maxHeartbeats 0 in
theorem kz_N75_5 : ak_chN kz_M kz_CF kz_K kz_t75 166 kz_e75 kz_l75 3000 kz_n75_5 = true := by decide +kernel
set_option maxRecDepth 100000 in
set_option maxHeartbeats 0 in
theorem kz_E76 : ak_chS kz_K 57 kz_e76 = true ∧ ak_chE kz_M kz_CF kz_K kz_t76 57 kz_e76 kz_l76 3000 = true := by decide +kernel
set_option maxRecDepth 100000 in
set_option maxHeartbeats 0 in
theorem kz_N76_0 : ak_chN kz_M kz_CF kz_K kz_t76 57 kz_e76 kz_l76 3000 kz_n76_0 = true := by decide +kernel
set_option maxRecDepth 100000 in
set_option maxHeartbeats 0 in
theorem kz_N76_1 : ak_chN kz_M kz_CF kz_K kz_t76 57 kz_e76 kz_l76 3000 kz_n76_1 = true := by decide +kernel
set_option maxRecDepth 100000 in
set_option maxHeartbeats 0 in
theorem kz_N76_2 : ak_chN kz_M kz_CF kz_K kz_t76 57 kz_e76 kz_l76 3000 kz_n76_2 = true := by decide +kernel
set_option maxRecDepth 100000 in
set_option maxHeartbeats 0 in
theorem kz_N76_3 : ak_chN kz_M kz_CF kz_K kz_t76 57 kz_e76 kz_l76 3000 kz_n76_3 = true := by decide +kernel
set_option maxRecDepth 100000 in
set_option maxHeartbeats 0 in
theorem kz_N76_4 : ak_chN kz_M kz_CF kz_K kz_t76 57 kz_e76 kz_l76 3000 kz_n76_4 = true := by decide +kernel
set_option maxRecDepth 100000 in
set_option maxHeartbeats 0 in
theorem kz_N76_5 : ak_chN kz_M kz_CF kz_K kz_t76 57 kz_e76 kz_l76 3000 kz_n76_5 = true := by decide +kernel
