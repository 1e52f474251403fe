set_option maxRecDepth 100000 in
set_option maxHeartbeats 0 in
theorem kz_N32_11 : ak_chN kz_M kz_CF kz_K kz_t32 123 kz_e32 kz_l32 3000 kz_n32_11 = true := by decide +kernel
set_option maxRecDepth 100000 in
set_option maxHeartbeats 0 in
theorem kz_N32_12 : ak_chN kz_M kz_CF kz_K kz_t32 123 kz_e32 kz_l32 3000 kz_n32_12 = true := by decide +kernel
set_option maxRecDepth 100000 in
set_option maxHeartbeats 0 in
theorem kz_N32_13 : ak_chN kz_M kz_CF kz_K kz_t32 123 kz_e32 kz_l32 3000 kz_n32_13 = true := by decide +kernel
set_option maxRecDepth 100000 in
set_option maxHeartbeats 0 in
theorem kz_N32_14 : ak_chN kz_M kz_CF kz_K kz_t32 123 kz_e32 kz_l32 3000 kz_n32_14 = true := by decide +kernel
set_option maxRecDepth 100000 in
set_option maxHeartbeats 0 in
theorem kz_N32_15 : ak_chN kz_M kz_CF kz_K kz_t32 123 kz_e32 kz_l32 3000 kz_n32_15 = true := by decide +kernel
set_option maxRecDepth 100000 in
set_option maxHeartbeats 0 in
theorem kz_N32_16 : ak_chN kz_M kz_CF kz_K kz_t32 123 kz_e32 kz_l32 3000 kz_n32_16 = true := by decide +kernel
set_option maxRecDepth 100000 in
set_option maxHeartbeats 0 in
theorem kz_N32_17 : ak_chN kz_M kz_CF kz_K kz_t32 123 kz_e32 kz_l32 3000 kz_n32_17 = true := by decide +kernel
set_option maxRecDepth 100000 in
set_option maxHeartbeats 0 in
theorem kz_N32_18 : ak_chN kz_M kz_CF kz_K kz_t32 123 kz_e32 kz_l32 3000 kz_n32_18 = true := by decide +kernel
set_option maxRecDepth 100000 in
set_option maxHeartbeats 0 in
theorem kz_N32_19 : ak_chN kz_M kz_CF kz_K kz_t32 123 kz_e32 kz_l32 3000 kz_n32_19 = true := by decide +kernel
set_option maxRecDepth 100000 in
set_option maxHeartbeats 0 in
theorem kz_N32_20 : ak_chN kz_M kz_CF kz_K kz_t32 123 kz_e32 kz_l32 3000 kz_n32_20 = true := by decide +kernel
set_option maxRecDepth 100000 in
set_option maxHeartbeats 0 in
theorem kz_N32_21 : ak_chN kz_M kz_CF kz_K kz_t32 123 kz_e32 kz_l32 3000 kz_n32_21 = true := by decide +kernel
set_option maxRecDepth 100000 in
set_option maxHeartbeats 0 in
theorem kz_N32_22 : ak_chN kz_M kz_CF kz_K kz_t32 123 kz_e32 kz_l32 3000 kz_n32_22 = true := by decide +kernel
set_option maxRecDepth 100000 in
set_option maxHeartbeats 0 in
theorem kz_N32_23 : ak_chN kz_M kz_CF kz_K kz_t32 123 kz_e32 kz_l32 3000 kz_n32_23 = true := by decide +kernel
set_option maxRecDepth 100000 in
set_option maxHeartbeats 0 in
theorem kz_N32_24 : ak_chN kz_M kz_CF kz_K kz_t32 123 kz_e32 kz_l32 3000 kz_n32_24 = true := by decide +kernel
set_option maxRecDepth 100000 in
set_option maxHeartbeats 0 in
theorem kz_N32_25 : ak_chN kz_M kz_CF kz_K kz_t32 123 kz_e32 kz_l32 3000 kz_n32_25 = true := by decide +kernel
set_option maxRecDepth 100000 in
set_option maxHeartbeats 0 in
theorem kz_N32_26 : ak_chN kz_M kz_CF kz_K kz_t32 123 kz_e32 kz_l32 3000 kz_n32_26 = true := by decide +kernel
set_option maxRecDepth 100000 in
set_option maxHeartbeats 0 in
theorem kz_N32_27 : ak_chN kz_M kz_CF kz_K kz_t32 123 kz_e32 kz_l32 3000 kz_n32_27 = true := by decide +kernel
set_option maxRecDepth 100000 in
set_option maxHeartbeats 0 in
theorem kz_N32_28 : ak_chN kz_M kz_CF kz_K kz_t32 123 kz_e32 kz_l32 3000 kz_n32_28 = true := by decide +kernel
set_option maxRecDepth 100000 in
set_option maxHeartbeats 0 in
theorem kz_N32_29 : ak_chN kz_M kz_CF kz_K kz_t32 123 kz_e32 kz_l32 3000 kz_n32_29 = true := by decide +kernel
set_option maxRecDepth 100000 in
set_option maxHeartbeats 0 in
theorem kz_N32_30 : ak_chN kz_M kz_CF kz_K kz_t32 123 kz_e32 kz_l32 3000 kz_n32_30 = true := by decide +kernel
set_option maxRecDepth 100000 in
set_option maxHeartbeats 0 in
theorem kz_N32_31 : ak_chN kz_M kz_CF kz_K kz_t32 123 kz_e32 kz_l32 3000 kz_n32_31 = true := by decide +kernel
set_option maxRecDepth 100000 in
set_option maxHeartbeats 0 in
theorem kz_N32_32 : ak_chN kz_M kz_CF kz_K kz_t32 123 kz_e32 kz_l32 3000 kz_n32_32 = true := by decide +kernel
set_option maxRecDepth 100000 in
set_option maxHeartbeats 0 in
theorem kz_N32_33 : ak_chN kz_M kz_CF kz_K kz_t32 123 kz_e32 kz_l32 3000 kz_n32_33 = true := by decide +kernel
set_option maxRecDepth 100000 in
set_option maxHeartbeats 0 in
theorem kz_W33 : ak_chW kz_M kz_e33 kz_l33 = true := by decide +kernel
set_option maxRecDepth 100000 in
set_option maxHeartbeats 0 in
theorem kz_E33 : ak_chS kz_K 156 kz_e33 = true ∧ ak_chE kz_M kz_CF kz_K kz_t33 156 kz_e33 kz_l33 3000 = true := by decide +kernel
set_option maxRecDepth 100000 in
set_option maxHeartbeats 0 in
theorem kz_W34 : ak_chW kz_M kz_e34 kz_l34 = true := by decide +kernel
set_option maxRecDepth 100000 in
set_option maxHeartbeats 0 in
theorem kz_E34 : ak_chS kz_K 172 kz_e34 = true ∧ ak_chE kz_M kz_CF kz_K kz_t34 172 kz_e34 kz_l34 3000 = true := by decide +kernel
set_option maxRecDepth 100000 in
set_option maxHeartbeats 0 in
theorem kz_N34_0 : ak_chN kz_M kz_CF kz_K kz_t34 172 kz_e34 kz_l34 3000 kz_n34_0 = true := by decide +kernel
set_option maxRecDepth 100000 in
set_option maxHeartbeats 0 in
theorem kz_N34_1 : ak_chN kz_M kz_CF kz_K kz_t34 172 kz_e34 kz_l34 3000 kz_n34_1 = true := by decide +kernel
set_option maxRecDepth 100000 in
set_option maxHeartbeats 0 in
theorem kz_N34_2 : ak_chN kz_M kz_CF kz_K kz_t34 172 kz_e34 kz_l34 3000 kz_n34_2 = true := by decide +kernel
set_option maxRecDepth 100000 in
set_option maxHeartbeats 0 in
theorem kz_N34_3 : ak_chN kz_M kz_CF kz_K kz_t34 172 kz_e34 kz_l34 3000 kz_n34_3 = true := by decide +kernel
set_option maxRecDepth 100000 in
set_option maxHeartbeats 0 in
theorem kz_N34_4 : ak_chN kz_M kz_CF kz_K kz_t34 172 kz_e34 kz_l34 3000 kz_n34_4 = true := by decide +kernel
set_option maxRecDepth 100000 in
set_option maxHeartbeats 0 in
theorem kz_W35 : ak_chW kz_M kz_e35 kz_l35 = true := by decide +kernel
set_option maxRecDepth 100000 in
set_option maxHeartbeats 0 in
theorem kz_E35 : ak_chS kz_K 161 kz_e35 = true ∧ ak_chE kz_M kz_CF kz_K kz_t35 161 kz_e35 kz_l35 3000 = true := by decide +kernel
set_option maxRecDepth 100000 in
set_option maxHeartbeats 0 in
theorem kz_W36 : ak_chW kz_M kz_e36 kz_l36 = true := by decide +kernel
set_option maxRecDepth 100000 in
set_option maxHeartbeats 0 in
theorem kz_E36 : ak_chS kz_K 142 kz_e36 = true ∧ ak_chE kz_M kz_CF kz_K kz_t36 142 kz_e36 kz_l36 3000 = true := by decide +kernel
set_option maxRecDepth 100000 in
set_option maxHeartbeats 0 in
theorem kz_W37 : ak_chW kz_M kz_e37 kz_l37 = true := by decide +kernel
set_option maxRecDepth 100000 in
set_option maxHeartbeats 0 in
theorem kz_E37 : ak_chS kz_K 164 kz_e37 = true ∧ ak_chE kz_M kz_CF kz_K kz_t37 164 kz_e37 kz_l37 3000 = true := by decide +kernel
set_option maxRecDepth 100000 in
set_option maxHeartbeats 0 in
theorem kz_N37_0 : ak_chN kz_M kz_CF kz_K kz_t37 164 kz_e37 kz_l37 3000 kz_n37_0 = true := by decide +kernel
set_option maxRecDepth 100000 in
set_option maxHeartbeats 0 in
theorem kz_N37_1 : ak_chN kz_M kz_CF kz_K kz_t37 164 kz_e37 kz_l37 3000 kz_n37_1 = true := by decide +kernel
set_option maxRecDepth 100000 in
set_option maxHeartbeats 0 in
theorem kz_N37_2 : ak_chN kz_M kz_CF kz_K kz_t37 164 kz_e37 kz_l37 3000 kz_n37_2 = true := by decide +kernel
set_option maxRecDepth 100000 in
set_option maxHeartbeats 0 in
theorem kz_N37_3 : ak_chN kz_M kz_CF kz_K kz_t37 164 kz_e37 kz_l37 3000 kz_n37_3 = true := by decide +kernel
set_option maxRecDepth 100000 in
set_option maxHeartbeats 0 in
theorem kz_N37_4 : ak_chN kz_M kz_CF kz_K kz_t37 164 kz_e37 kz_l37 3000 kz_n37_4 = true := by decide +kernel
set_option maxRecDepth 100000 in
set_option maxHeartbeats 0 in
theorem kz_N37_5 : ak_chN kz_M kz_CF kz_K kz_t37 164 kz_e37 kz_l37 3000 kz_n37_5 = true := by decide +kernel
set_option maxRecDepth 100000 in
set_option maxHeartbeats 0 in
theorem kz_N37_6 : ak_chN kz_M kz_CF kz_K kz_t37 164 kz_e37 kz_l37 3000 kz_n37_6 = true := by decide +kernel
set_option maxRecDepth 100000 in
set_option maxHeartbeats 0 in
theorem kz_N37_7 : ak_chN kz_M kz_CF kz_K kz_t37 164 kz_e37 kz_l37 3000 kz_n37_7 = true := by decide +kernel
set_option maxRecDepth 100000 in
set_option maxHeartbeats 0 in
theorem kz_N37_8 : ak_chN kz_M kz_CF kz_K kz_t37 164 kz_e37 kz_l37 3000 kz_n37_8 = true := by decide +kernel
set_option maxRecDepth 100000 in
set_option maxHeartbeats 0 in
theorem kz_W38 : ak_chW kz_M kz_e38 kz_l38 = true := by decide +kernel
set_option maxRecDepth 100000 in
set_option maxHeartbeats 0 in
theorem kz_E38 : ak_chS kz_K 106 kz_e38 = true ∧ ak_chE kz_M kz_CF kz_K kz_t38 106 kz_e38 kz_l38 3000 = true := by decide +kernel
set_option maxRecDepth 100000 in
set_option maxHeartbeats 0 in
theorem kz_W39 : ak_chW kz_M kz_e39 kz_l39 = true := by decide +kernel
set_option maxRecDepth 100000 in
set_option maxHeartbeats 0 in
theorem kz_E39 : ak_chS kz_K 162 kz_e39 = true ∧ ak_chE kz_M kz_CF kz_K kz_t39 162 kz_e39 kz_l39 3000 = true := by decide +kernel
set_option maxRecDepth 100000 in
set_option maxHeartbeats 0 in
theorem kz_W40 : ak_chW kz_M kz_e40 kz_l40 = true := by decide +kernel
set_option maxRecDepth 100000 in
set_option maxHeartbeats 0 in
theorem kz_E40 : ak_chS kz_K 180 kz_e40 = true ∧ ak_chE kz_M kz_CF kz_K kz_t40 180 kz_e40 kz_l40 3000 = true := by decide +kernel
set_option maxRecDepth 100000 in
set_option maxHeartbeats 0 in
theorem kz_W41 : ak_chW kz_M kz_e41 kz_l41 = true := by decide +kernel
set_option maxRecDepth 100000 in
set_option maxHeartbeats 0 in
theorem kz_E41 : ak_chS kz_K 102 kz_e41 = true ∧ ak_chE kz_M kz_CF kz_K kz_t41 102 kz_e41 kz_l41 3000 = true := by decide +kernel
set_option maxRecDepth 100000 in
set_option maxHeartbeats 0 in
theorem kz_W42 : ak_chW kz_M kz_e42 kz_l42 = true := by decide +kernel
set_option maxRecDepth 100000 in
set_option maxHeartbeats 0 in
theorem kz_E42 : ak_chS kz_K 175 kz_e42 = true ∧ ak_chE kz_M kz_CF kz_K kz_t42 175 kz_e42 kz_l42 3000 = true := by decide +kernel
set_option maxRecDepth 100000 in
set_option maxHeartbeats 0 in
theorem kz_W43 : ak_chW kz_M kz_e43 kz_l43 = true := by decide +kernel
set_option maxRecDepth 100000 in
set_option maxHeartbeats 0 in
theorem kz_E43 : ak_chS kz_K 72 kz_e43 = true ∧ ak_chE kz_M kz_CF kz_K kz_t43 72 kz_e43 kz_l43 3000 = true := by decide +kernel
set_option maxRecDepth 100000 in
set_option maxHeartbeats 0 in
theorem kz_W44 : ak_chW kz_M kz_e44 kz_l44 = true := by decide +kernel
set_option maxRecDepth 100000 in
set_option maxHeartbeats 0 in
theorem kz_E44 : ak_chS kz_K 126 kz_e44 = true ∧ ak_chE kz_M kz_CF kz_K kz_t44 126 kz_e44 kz_l44 3000 = true := by decide +kernel
set_option maxRecDepth 100000 in
set_option maxHeartbeats 0 in
theorem kz_W45 : ak_chW kz_M kz_e45 kz_l45 = true := by decide +kernel
set_option maxRecDepth 100000 in
set_option maxHeartbeats 0 in
theorem kz_E45 : ak_chS kz_K 29 kz_e45 = true ∧ ak_chE kz_M kz_CF kz_K kz_t45 29 kz_e45 kz_l45 3000 = true := by decide +kernel
set_option maxRecDepth 100000 in
set_option maxHeartbeats 0 in
theorem kz_N45_0 : ak_chN kz_M kz_CF kz_K kz_t45 29 kz_e45 kz_l45 3000 kz_n45_0 = true := by decide +kernel
set_option maxRecDepth 100000 in
set_option maxHeartbeats 0 in
theorem kz_W46 : ak_chW kz_M kz_e46 kz_l46 = true := by decide +kernel
set_option maxRecDepth 100000 in
set_option maxHeartbeats 0 in
theorem kz_E46 : ak_chS kz_K 36 kz_e46 = true ∧ ak_chE kz_M kz_CF kz_K kz_t46 36 kz_e46 kz_l46 3000 = true := by decide +kernel
set_option maxRecDepth 100000 in
set_option maxHeartbeats 0 in
theorem kz_W47 : ak_chW kz_M kz_e47 kz_l47 = true := by decide +kernel
set_option maxRecDepth 100000 in
set_option maxHeartbeats 0 in
theorem kz_E47 : ak_chS kz_K 27 kz_e47 = true ∧ ak_chE kz_M kz_CF kz_K kz_t47 27 kz_e47 kz_l47 3000 = true := by decide +kernel
set_option maxRecDepth 100000 in
set_option maxHeartbeats 0 in
theorem kz_N47_0 : ak_chN kz_M kz_CF kz_K kz_t47 27 kz_e47 kz_l47 3000 kz_n47_0 = true := by decide +kernel
set_option maxRecDepth 100000 in
set_option maxHeartbeats 0 in
theorem kz_W48 : ak_chW kz_M kz_e48 kz_l48 = true := by decide +kernel
set_option maxRecDepth 100000 in
set_option maxHeartbeats 0 in
theorem kz_E48 : ak_chS kz_K 28 kz_e48 = true ∧ ak_chE kz_M kz_CF kz_K kz_t48 28 kz_e48 kz_l48 3000 = true := by decide +kernel
set_option maxRecDepth 100000 in
set_option maxHeartbeats 0 in
theorem kz_N48_0 : ak_chN kz_M kz_CF kz_K kz_t48 28 kz_e48 kz_l48 3000 kz_n48_0 = true := by decide +kernel
set_option maxRecDepth 100000 in
set_option maxHeartbeats 0 in
theorem kz_N48_1 : ak_chN kz_M kz_CF kz_K kz_t48 28 kz_e48 kz_l48 3000 kz_n48_1 = true := by decide +kernel
set_option maxRecDepth 100000 in
set_option maxHeartbeats 0 in
theorem kz_N48_2 : ak_chN kz_M kz_CF kz_K kz_t48 28 kz_e48 kz_l48 3000 kz_n48_2 = true := by decide +kernel
set_option maxRecDepth 100000 in
set_option maxHeartbeats 0 in
theorem kz_N48_3 : ak_chN kz_M kz_CF kz_K kz_t48 28 kz_e48 kz_l48 3000 kz_n48_3 = true := by decide +kernel
set_option maxRecDepth 100000 in
set_option maxHeartbeats 0 in
theorem kz_N48_4 : ak_chN kz_M kz_CF kz_K kz_t48 28 kz_e48 kz_l48 3000 kz_n48_4 = true := by decide +kernel
set_option maxRecDepth 100000 in
set_option maxHeartbeats 0 in
theorem kz_N48_5 : ak_chN kz_M kz_CF kz_K kz_t48 28 kz_e48 kz_l48 3000 kz_n48_5 = true := by decide +kernel
set_option maxRecDepth 100000 in
set_option maxHeartbeats 0 in
theorem kz_N48_6 : ak_chN kz_M kz_CF kz_K kz_t48 28 kz_e48 kz_l48 3000 kz_n48_6 = true := by decide +kernel
set_option maxRecDepth 100000 in
set_option maxHeartbeats 0 in
theorem kz_N48_7 : ak_chN kz_M kz_CF kz_K kz_t48 28 kz_e48 kz_l48 3000 kz_n48_7 = true := by decide +kernel
set_option maxRecDepth 100000 in
set_option maxHeartbeats 0 in
theorem kz_N48_8 : ak_chN kz_M kz_CF kz_K kz_t48 28 kz_e48 kz_l48 3000 kz_n48_8 = true := by decide +kernel
set_option maxRecDepth 100000 in
set_option maxHeartbeats 0 in
theorem kz_N48_9 : ak_chN kz_M kz_CF kz_K kz_t48 28 kz_e48 kz_l48 3000 kz_n48_9 = true := by decide +kernel
set_option maxRecDepth 100000 in
set_option maxHeartbeats 0 in
theorem kz_N48_10 : ak_chN kz_M kz_CF kz_K kz_t48 28 kz_e48 kz_l48 3000 kz_n48_10 = true := by decide +kernel
set_option maxRecDepth 100000 in
set_option maxHeartbeats 0 in
theorem kz_N48_11 : ak_chN kz_M kz_CF kz_K kz_t48 28 kz_e48 kz_l48 3000 kz_n48_11 = true := by decide +kernel
set_option maxRecDepth 100000 in
set_option maxHeartbeats 0 in
theorem kz_N48_12 : ak_chN kz_M kz_CF kz_K kz_t48 28 kz_e48 kz_l48 3000 kz_n48_12 = true := by decide +kernel
