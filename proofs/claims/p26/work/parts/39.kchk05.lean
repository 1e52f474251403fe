set_option maxRecDepth 100000 in
set_option maxHeartbeats 0 in
theorem kz_E34 : ak_chS kz_K 142 kz_e34 = true ∧ ak_chE kz_M kz_CF kz_K kz_t34 142 kz_e34 kz_l34 3000 = true := by decide +kernel
set_option maxRecDepth 100000 in
set_option maxHeartbeats 0 in
theorem kz_E35 : ak_chS kz_K 142 kz_e35 = true ∧ ak_chE kz_M kz_CF kz_K kz_t35 142 kz_e35 kz_l35 3000 = true := by decide +kernel
set_option maxRecDepth 100000 in
set_option maxHeartbeats 0 in
theorem kz_E36 : ak_chS kz_K 164 kz_e36 = true ∧ ak_chE kz_M kz_CF kz_K kz_t36 164 kz_e36 kz_l36 3000 = true := by decide +kernel
set_option maxRecDepth 100000 in
set_option maxHeartbeats 0 in
theorem kz_E37 : ak_chS kz_K 106 kz_e37 = true ∧ ak_chE kz_M kz_CF kz_K kz_t37 106 kz_e37 kz_l37 3000 = true := by decide +kernel
set_option maxRecDepth 100000 in
set_option maxHeartbeats 0 in
theorem kz_E38 : ak_chS kz_K 162 kz_e38 = true ∧ ak_chE kz_M kz_CF kz_K kz_t38 162 kz_e38 kz_l38 3000 = true := by decide +kernel
set_option maxRecDepth 100000 in
set_option maxHeartbeats 0 in
theorem kz_E39 : ak_chS kz_K 180 kz_e39 = true ∧ ak_chE kz_M kz_CF kz_K kz_t39 180 kz_e39 kz_l39 3000 = true := by decide +kernel
set_option maxRecDepth 100000 in
set_option maxHeartbeats 0 in
theorem kz_E40 : ak_chS kz_K 102 kz_e40 = true ∧ ak_chE kz_M kz_CF kz_K kz_t40 102 kz_e40 kz_l40 3000 = true := by decide +kernel
set_option maxRecDepth 100000 in
set_option maxHeartbeats 0 in
theorem kz_E41 : ak_chS kz_K 175 kz_e41 = true ∧ ak_chE kz_M kz_CF kz_K kz_t41 175 kz_e41 kz_l41 3000 = true := by decide +kernel
set_option maxRecDepth 100000 in
set_option maxHeartbeats 0 in
theorem kz_E42 : ak_chS kz_K 72 kz_e42 = true ∧ ak_chE kz_M kz_CF kz_K kz_t42 72 kz_e42 kz_l42 3000 = true := by decide +kernel
set_option maxRecDepth 100000 in
set_option maxHeartbeats 0 in
theorem kz_E43 : ak_chS kz_K 126 kz_e43 = true ∧ ak_chE kz_M kz_CF kz_K kz_t43 126 kz_e43 kz_l43 3000 = true := by decide +kernel
set_option maxRecDepth 100000 in
set_option maxHeartbeats 0 in
theorem kz_E44 : ak_chS kz_K 29 kz_e44 = true ∧ ak_chE kz_M kz_CF kz_K kz_t44 29 kz_e44 kz_l44 3000 = true := by decide +kernel
set_option maxRecDepth 100000 in
set_option maxHeartbeats 0 in
theorem kz_N44_0 : ak_chN kz_M kz_CF kz_K kz_t44 29 kz_e44 kz_l44 3000 kz_n44_0 = true := by decide +kernel
set_option maxRecDepth 100000 in
set_option maxHeartbeats 0 in
theorem kz_E45 : ak_chS kz_K 36 kz_e45 = true ∧ ak_chE kz_M kz_CF kz_K kz_t45 36 kz_e45 kz_l45 3000 = true := by decide +kernel
set_option maxRecDepth 100000 in
set_option maxHeartbeats 0 in
theorem kz_E46 : ak_chS kz_K 27 kz_e46 = true ∧ ak_chE kz_M kz_CF kz_K kz_t46 27 kz_e46 kz_l46 3000 = true := by decide +kernel
set_option maxRecDepth 100000 in
set_option maxHeartbeats 0 in
theorem kz_N46_0 : ak_chN kz_M kz_CF kz_K kz_t46 27 kz_e46 kz_l46 3000 kz_n46_0 = true := by decide +kernel
set_option maxRecDepth 100000 in
set_option maxHeartbeats 0 in
theorem kz_E47 : ak_chS kz_K 28 kz_e47 = true ∧ ak_chE kz_M kz_CF kz_K kz_t47 28 kz_e47 kz_l47 3000 = true := by decide +kernel
set_option maxRecDepth 100000 in
set_option maxHeartbeats 0 in
theorem kz_N47_0 : ak_chN kz_M kz_CF kz_K kz_t47 28 kz_e47 kz_l47 3000 kz_n47_0 = true := by decide +kernel
set_option maxRecDepth 100000 in
set_option maxHeartbeats 0 in
theorem kz_N47_1 : ak_chN kz_M kz_CF kz_K kz_t47 28 kz_e47 kz_l47 3000 kz_n47_1 = true := by decide +kernel
set_option maxRecDepth 100000 in
set_option maxHeartbeats 0 in
theorem kz_N47_2 : ak_chN kz_M kz_CF kz_K kz_t47 28 kz_e47 kz_l47 3000 kz_n47_2 = true := by decide +kernel
set_option maxRecDepth 100000 in
set_option maxHeartbeats 0 in
theorem kz_N47_3 : ak_chN kz_M kz_CF kz_K kz_t47 28 kz_e47 kz_l47 3000 kz_n47_3 = true := by decide +kernel
set_option maxRecDepth 100000 in
set_option maxHeartbeats 0 in
theorem kz_N47_4 : ak_chN kz_M kz_CF kz_K kz_t47 28 kz_e47 kz_l47 3000 kz_n47_4 = true := by decide +kernel
