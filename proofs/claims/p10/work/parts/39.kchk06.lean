set_option maxRecDepth 100000 in
set_option maxHeartbeats 0 in
theorem kz_N64_4 : ak_chN kz_M kz_CF kz_K kz_t64 14 kz_e64 kz_l64 3000 kz_n64_4 = true := by decide +kernel
set_option maxRecDepth 100000 in
set_option maxHeartbeats 0 in
theorem kz_N64_5 : ak_chN kz_M kz_CF kz_K kz_t64 14 kz_e64 kz_l64 3000 kz_n64_5 = true := by decide +kernel
set_option maxRecDepth 100000 in
set_option maxHeartbeats 0 in
theorem kz_W65 : ak_chW kz_M kz_e65 kz_l65 = true := by decide +kernel
set_option maxRecDepth 100000 in
set_option maxHeartbeats 0 in
theorem kz_E65 : ak_chS kz_K 89 kz_e65 = true ∧ ak_chE kz_M kz_CF kz_K kz_t65 89 kz_e65 kz_l65 3000 = true := by decide +kernel
set_option maxRecDepth 100000 in
set_option maxHeartbeats 0 in
theorem kz_W66 : ak_chW kz_M kz_e66 kz_l66 = true := by decide +kernel
set_option maxRecDepth 100000 in
set_option maxHeartbeats 0 in
theorem kz_E66 : ak_chS kz_K 151 kz_e66 = true ∧ ak_chE kz_M kz_CF kz_K kz_t66 151 kz_e66 kz_l66 3000 = true := by decide +kernel
set_option maxRecDepth 100000 in
set_option maxHeartbeats 0 in
theorem kz_N66_0 : ak_chN kz_M kz_CF kz_K kz_t66 151 kz_e66 kz_l66 3000 kz_n66_0 = true := by decide +kernel
set_option maxRecDepth 100000 in
set_option maxHeartbeats 0 in
theorem kz_N66_1 : ak_chN kz_M kz_CF kz_K kz_t66 151 kz_e66 kz_l66 3000 kz_n66_1 = true := by decide +kernel
set_option maxRecDepth 100000 in
set_option maxHeartbeats 0 in
theorem kz_N66_2 : ak_chN kz_M kz_CF kz_K kz_t66 151 kz_e66 kz_l66 3000 kz_n66_2 = true := by decide +kernel
set_option maxRecDepth 100000 in
set_option maxHeartbeats 0 in
theorem kz_N66_3 : ak_chN kz_M kz_CF kz_K kz_t66 151 kz_e66 kz_l66 3000 kz_n66_3 = true := by decide +kernel
set_option maxRecDepth 100000 in
set_option maxHeartbeats 0 in
theorem kz_N66_4 : ak_chN kz_M kz_CF kz_K kz_t66 151 kz_e66 kz_l66 3000 kz_n66_4 = true := by decide +kernel
set_option maxRecDepth 100000 in
set_option maxHeartbeats 0 in
theorem kz_N66_5 : ak_chN kz_M kz_CF kz_K kz_t66 151 kz_e66 kz_l66 3000 kz_n66_5 = true := by decide +kernel
set_option maxRecDepth 100000 in
set_option maxHeartbeats 0 in
theorem kz_N66_6 : ak_chN kz_M kz_CF kz_K kz_t66 151 kz_e66 kz_l66 3000 kz_n66_6 = true := by decide +kernel
set_option maxRecDepth 100000 in
set_option maxHeartbeats 0 in
theorem kz_N66_7 : ak_chN kz_M kz_CF kz_K kz_t66 151 kz_e66 kz_l66 3000 kz_n66_7 = true := by decide +kernel
set_option maxRecDepth 100000 in
set_option maxHeartbeats 0 in
theorem kz_N66_8 : ak_chN kz_M kz_CF kz_K kz_t66 151 kz_e66 kz_l66 3000 kz_n66_8 = true := by decide +kernel
set_option maxRecDepth 100000 in
set_option maxHeartbeats 0 in
theorem kz_N66_9 : ak_chN kz_M kz_CF kz_K kz_t66 151 kz_e66 kz_l66 3000 kz_n66_9 = true := by decide +kernel
set_option maxRecDepth 100000 in
set_option maxHeartbeats 0 in
theorem kz_N66_10 : ak_chN kz_M kz_CF kz_K kz_t66 151 kz_e66 kz_l66 3000 kz_n66_10 = true := by decide +kernel
set_option maxRecDepth 100000 in
set_option maxHeartbeats 0 in
theorem kz_N66_11 : ak_chN kz_M kz_CF kz_K kz_t66 151 kz_e66 kz_l66 3000 kz_n66_11 = true := by decide +kernel
set_option maxRecDepth 100000 in
set_option maxHeartbeats 0 in
theorem kz_N66_12 : ak_chN kz_M kz_CF kz_K kz_t66 151 kz_e66 kz_l66 3000 kz_n66_12 = true := by decide +kernel
set_option maxRecDepth 100000 in
set_option maxHeartbeats 0 in
theorem kz_N66_13 : ak_chN kz_M kz_CF kz_K kz_t66 151 kz_e66 kz_l66 3000 kz_n66_13 = true := by decide +kernel
set_option maxRecDepth 100000 in
set_option maxHeartbeats 0 in
theorem kz_N66_14 : ak_chN kz_M kz_CF kz_K kz_t66 151 kz_e66 kz_l66 3000 kz_n66_14 = true := by decide +kernel
set_option maxRecDepth 100000 in
set_option maxHeartbeats 0 in
theorem kz_N66_15 : ak_chN kz_M kz_CF kz_K kz_t66 151 kz_e66 kz_l66 3000 kz_n66_15 = true := by decide +kernel
set_option maxRecDepth 100000 in
set_option maxHeartbeats 0 in
theorem kz_N66_16 : ak_chN kz_M kz_CF kz_K kz_t66 151 kz_e66 kz_l66 3000 kz_n66_16 = true := by decide +kernel
set_option maxRecDepth 100000 in
set_option maxHeartbeats 0 in
theorem kz_N66_17 : ak_chN kz_M kz_CF kz_K kz_t66 151 kz_e66 kz_l66 3000 kz_n66_17 = true := by decide +kernel
set_option maxRecDepth 100000 in
set_option maxHeartbeats 0 in
theorem kz_N66_18 : ak_chN kz_M kz_CF kz_K kz_t66 151 kz_e66 kz_l66 3000 kz_n66_18 = true := by decide +kernel
set_option maxRecDepth 100000 in
set_option maxHeartbeats 0 in
theorem kz_N66_19 : ak_chN kz_M kz_CF kz_K kz_t66 151 kz_e66 kz_l66 3000 kz_n66_19 = true := by decide +kernel
set_option maxRecDepth 100000 in
set_option maxHeartbeats 0 in
theorem kz_N66_20 : ak_chN kz_M kz_CF kz_K kz_t66 151 kz_e66 kz_l66 3000 kz_n66_20 = true := by decide +kernel
set_option maxRecDepth 100000 in
set_option maxHeartbeats 0 in
theorem kz_W67 : ak_chW kz_M kz_e67 kz_l67 = true := by decide +kernel
set_option maxRecDepth 100000 in
set_option maxHeartbeats 0 in
theorem kz_E67 : ak_chS kz_K 155 kz_e67 = true ∧ ak_chE kz_M kz_CF kz_K kz_t67 155 kz_e67 kz_l67 3000 = true := by decide +kernel
set_option maxRecDepth 100000 in
set_option maxHeartbeats 0 in
theorem kz_W68 : ak_chW kz_M kz_e68 kz_l68 = true := by decide +kernel
set_option maxRecDepth 100000 in
set_option maxHeartbeats 0 in
theorem kz_E68 : ak_chS kz_K 16 kz_e68 = true ∧ ak_chE kz_M kz_CF kz_K kz_t68 16 kz_e68 kz_l68 3000 = true := by decide +kernel
set_option maxRecDepth 100000 in
set_option maxHeartbeats 0 in
theorem kz_W69 : ak_chW kz_M kz_e69 kz_l69 = true := by decide +kernel
set_option maxRecDepth 100000 in
set_option maxHeartbeats 0 in
theorem kz_E69 : ak_chS kz_K 15 kz_e69 = true ∧ ak_chE kz_M kz_CF kz_K kz_t69 15 kz_e69 kz_l69 3000 = true := by decide +kernel
set_option maxRecDepth 100000 in
set_option maxHeartbeats 0 in
theorem kz_W70 : ak_chW kz_M kz_e70 kz_l70 = true := by decide +kernel
set_option maxRecDepth 100000 in
set_option maxHeartbeats 0 in
theorem kz_E70 : ak_chS kz_K 14 kz_e70 = true ∧ ak_chE kz_M kz_CF kz_K kz_t70 14 kz_e70 kz_l70 3000 = true := by decide +kernel
set_option maxRecDepth 100000 in
set_option maxHeartbeats 0 in
theorem kz_N70_0 : ak_chN kz_M kz_CF kz_K kz_t70 14 kz_e70 kz_l70 3000 kz_n70_0 = true := by decide +kernel
set_option maxRecDepth 100000 in
set_option maxHeartbeats 0 in
theorem kz_N70_1 : ak_chN kz_M kz_CF kz_K kz_t70 14 kz_e70 kz_l70 3000 kz_n70_1 = true := by decide +kernel
set_option maxRecDepth 100000 in
set_option maxHeartbeats 0 in
theorem kz_N70_2 : ak_chN kz_M kz_CF kz_K kz_t70 14 kz_e70 kz_l70 3000 kz_n70_2 = true := by decide +kernel
set_option maxRecDepth 100000 in
set_option maxHeartbeats 0 in
theorem kz_N70_3 : ak_chN kz_M kz_CF kz_K kz_t70 14 kz_e70 kz_l70 3000 kz_n70_3 = true := by decide +kernel
set_option maxRecDepth 100000 in
set_option maxHeartbeats 0 in
theorem kz_N70_4 : ak_chN kz_M kz_CF kz_K kz_t70 14 kz_e70 kz_l70 3000 kz_n70_4 = true := by decide +kernel
set_option maxRecDepth 100000 in
set_option maxHeartbeats 0 in
theorem kz_N70_5 : ak_chN kz_M kz_CF kz_K kz_t70 14 kz_e70 kz_l70 3000 kz_n70_5 = true := by decide +kernel
set_option maxRecDepth 100000 in
set_option maxHeartbeats 0 in
theorem kz_W71 : ak_chW kz_M kz_e71 kz_l71 = true := by decide +kernel
set_option maxRecDepth 100000 in
set_option maxHeartbeats 0 in
theorem kz_E71 : ak_chS kz_K 87 kz_e71 = true ∧ ak_chE kz_M kz_CF kz_K kz_t71 87 kz_e71 kz_l71 3000 = true := by decide +kernel
set_option maxRecDepth 100000 in
set_option maxHeartbeats 0 in
theorem kz_N71_0 : ak_chN kz_M kz_CF kz_K kz_t71 87 kz_e71 kz_l71 3000 kz_n71_0 = true := by decide +kernel
set_option maxRecDepth 100000 in
set_option maxHeartbeats 0 in
theorem kz_W72 : ak_chW kz_M kz_e72 kz_l72 = true := by decide +kernel
set_option maxRecDepth 100000 in
set_option maxHeartbeats 0 in
theorem kz_E72 : ak_chS kz_K 11 kz_e72 = true ∧ ak_chE kz_M kz_CF kz_K kz_t72 11 kz_e72 kz_l72 3000 = true := by decide +kernel
set_option maxRecDepth 100000 in
set_option maxHeartbeats 0 in
theorem kz_N72_0 : ak_chN kz_M kz_CF kz_K kz_t72 11 kz_e72 kz_l72 3000 kz_n72_0 = true := by decide +kernel
set_option maxRecDepth 100000 in
set_option maxHeartbeats 0 in
theorem kz_W73 : ak_chW kz_M kz_e73 kz_l73 = true := by decide +kernel
set_option maxRecDepth 100000 in
set_option maxHeartbeats 0 in
theorem kz_E73 : ak_chS kz_K 93 kz_e73 = true ∧ ak_chE kz_M kz_CF kz_K kz_t73 93 kz_e73 kz_l73 3000 = true := by decide +kernel
set_option maxRecDepth 100000 in
set_option maxHeartbeats 0 in
theorem kz_N73_0 : ak_chN kz_M kz_CF kz_K kz_t73 93 kz_e73 kz_l73 3000 kz_n73_0 = true := by decide +kernel
set_option maxRecDepth 100000 in
set_option maxHeartbeats 0 in
theorem kz_N73_1 : ak_chN kz_M kz_CF kz_K kz_t73 93 kz_e73 kz_l73 3000 kz_n73_1 = true := by decide +kernel
set_option maxRecDepth 100000 in
set_option maxHeartbeats 0 in
theorem kz_W74 : ak_chW kz_M kz_e74 kz_l74 = true := by decide +kernel
set_option maxRecDepth 100000 in
set_option maxHeartbeats 0 in
theorem kz_E74 : ak_chS kz_K 144 kz_e74 = true ∧ ak_chE kz_M kz_CF kz_K kz_t74 144 kz_e74 kz_l74 3000 = true := by decide +kernel
set_option maxRecDepth 100000 in
set_option maxHeartbeats 0 in
theorem kz_N74_0 : ak_chN kz_M kz_CF kz_K kz_t74 144 kz_e74 kz_l74 3000 kz_n74_0 = true := by decide +kernel
set_option maxRecDepth 100000 in
set_option maxHeartbeats 0 in
theorem kz_N74_1 : ak_chN kz_M kz_CF kz_K kz_t74 144 kz_e74 kz_l74 3000 kz_n74_1 = true := by decide +kernel
set_option maxRecDepth 100000 in
set_option maxHeartbeats 0 in
theorem kz_W75 : ak_chW kz_M kz_e75 kz_l75 = true := by decide +kernel
set_option maxRecDepth 100000 in
set_option maxHeartbeats 0 in
theorem kz_E75 : ak_chS kz_K 145 kz_e75 = true ∧ ak_chE kz_M kz_CF kz_K kz_t75 145 kz_e75 kz_l75 3000 = true := by decide +kernel
set_option maxRecDepth 100000 in
set_option maxHeartbeats 0 in
theorem kz_N75_0 : ak_chN kz_M kz_CF kz_K kz_t75 145 kz_e75 kz_l75 3000 kz_n75_0 = true := by decide +kernel
set_option maxRecDepth 100000 in
set_option maxHeartbeats 0 in
theorem kz_N75_1 : ak_chN kz_M kz_CF kz_K kz_t75 145 kz_e75 kz_l75 3000 kz_n75_1 = true := by decide +kernel
set_option maxRecDepth 100000 in
set_option maxHeartbeats 0 in
theorem kz_W76 : ak_chW kz_M kz_e76 kz_l76 = true := by decide +kernel
set_option maxRecDepth 100000 in
set_option maxHeartbeats 0 in
theorem kz_E76 : ak_chS kz_K 166 kz_e76 = true ∧ ak_chE kz_M kz_CF kz_K kz_t76 166 kz_e76 kz_l76 3000 = true := by decide +kernel
set_option maxRecDepth 100000 in
set_option maxHeartbeats 0 in
theorem kz_N76_0 : ak_chN kz_M kz_CF kz_K kz_t76 166 kz_e76 kz_l76 3000 kz_n76_0 = true := by decide +kernel
set_option maxRecDepth 100000 in
set_option maxHeartbeats 0 in
theorem kz_N76_1 : ak_chN kz_M kz_CF kz_K kz_t76 166 kz_e76 kz_l76 3000 kz_n76_1 = true := by decide +kernel
set_option maxRecDepth 100000 in
set_option maxHeartbeats 0 in
theorem kz_N76_2 : ak_chN kz_M kz_CF kz_K kz_t76 166 kz_e76 kz_l76 3000 kz_n76_2 = true := by decide +kernel
set_option maxRecDepth 100000 in
set_option maxHeartbeats 0 in
theorem kz_N76_3 : ak_chN kz_M kz_CF kz_K kz_t76 166 kz_e76 kz_l76 3000 kz_n76_3 = true := by decide +kernel
set_option maxRecDepth 100000 in
set_option maxHeartbeats 0 in
theorem kz_N76_4 : ak_chN kz_M kz_CF kz_K kz_t76 166 kz_e76 kz_l76 3000 kz_n76_4 = true := by decide +kernel
set_option maxRecDepth 100000 in
set_option maxHeartbeats 0 in
theorem kz_N76_5 : ak_chN kz_M kz_CF kz_K kz_t76 166 kz_e76 kz_l76 3000 kz_n76_5 = true := by decide +kernel
set_option maxRecDepth 100000 in
set_option maxHeartbeats 0 in
theorem kz_W77 : ak_chW kz_M kz_e77 kz_l77 = true := by decide +kernel
set_option maxRecDepth 100000 in
set_option maxHeartbeats 0 in
theorem kz_E77 : ak_chS kz_K 57 kz_e77 = true ∧ ak_chE kz_M kz_CF kz_K kz_t77 57 kz_e77 kz_l77 3000 = true := by decide +kernel
set_option maxRecDepth 100000 in
set_option maxHeartbeats 0 in
theorem kz_N77_0 : ak_chN kz_M kz_CF kz_K kz_t77 57 kz_e77 kz_l77 3000 kz_n77_0 = true := by decide +kernel
set_option maxRecDepth 100000 in
set_option maxHeartbeats 0 in
theorem kz_N77_1 : ak_chN kz_M kz_CF kz_K kz_t77 57 kz_e77 kz_l77 3000 kz_n77_1 = true := by decide +kernel
