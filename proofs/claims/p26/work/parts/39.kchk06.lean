set_option maxRecDepth 100000 in
set_option maxHeartbeats 0 in
theorem kz_N47_5 : ak_chN kz_M kz_CF kz_K kz_t47 28 kz_e47 kz_l47 3000 kz_n47_5 = true := by decide +kernel
set_option maxRecDepth 100000 in
set_option maxHeartbeats 0 in
theorem kz_N47_6 : ak_chN kz_M kz_CF kz_K kz_t47 28 kz_e47 kz_l47 3000 kz_n47_6 = true := by decide +kernel
set_option maxRecDepth 100000 in
set_option maxHeartbeats 0 in
theorem kz_N47_7 : ak_chN kz_M kz_CF kz_K kz_t47 28 kz_e47 kz_l47 3000 kz_n47_7 = true := by decide +kernel
set_option maxRecDepth 100000 in
set_option maxHeartbeats 0 in
theorem kz_E48 : ak_chS kz_K 26 kz_e48 = true ∧ ak_chE kz_M kz_CF kz_K kz_t48 26 kz_e48 kz_l48 3000 = true := by decide +kernel
set_option maxRecDepth 100000 in
set_option maxHeartbeats 0 in
theorem kz_N48_0 : ak_chN kz_M kz_CF kz_K kz_t48 26 kz_e48 kz_l48 3000 kz_n48_0 = true := by decide +kernel
set_option maxRecDepth 100000 in
set_option maxHeartbeats 0 in
theorem kz_E49 : ak_chS kz_K 39 kz_e49 = true ∧ ak_chE kz_M kz_CF kz_K kz_t49 39 kz_e49 kz_l49 3000 = true := by decide +kernel
set_option maxRecDepth 100000 in
set_option maxHeartbeats 0 in
theorem kz_N49_0 : ak_chN kz_M kz_CF kz_K kz_t49 39 kz_e49 kz_l49 3000 kz_n49_0 = true := by decide +kernel
set_option maxRecDepth 100000 in
set_option maxHeartbeats 0 in
theorem kz_N49_1 : ak_chN kz_M kz_CF kz_K kz_t49 39 kz_e49 kz_l49 3000 kz_n49_1 = true := by decide +kernel
set_option maxRecDepth 100000 in
set_option maxHeartbeats 0 in
theorem kz_N49_2 : ak_chN kz_M kz_CF kz_K kz_t49 39 kz_e49 kz_l49 3000 kz_n49_2 = true := by decide +kernel
set_option maxRecDepth 100000 in
set_option maxHeartbeats 0 in
theorem kz_N49_3 : ak_chN kz_M kz_CF kz_K kz_t49 39 kz_e49 kz_l49 3000 kz_n49_3 = true := by decide +kernel
set_option maxRecDepth 100000 in
set_option maxHeartbeats 0 in
theorem kz_E50 : ak_chS kz_K 100 kz_e50 = true ∧ ak_chE kz_M kz_CF kz_K kz_t50 100 kz_e50 kz_l50 3000 = true := by decide +kernel
set_option maxRecDepth 100000 in
set_option maxHeartbeats 0 in
theorem kz_E51 : ak_chS kz_K 173 kz_e51 = true ∧ ak_chE kz_M kz_CF kz_K kz_t51 173 kz_e51 kz_l51 3000 = true := by decide +kernel
set_option maxRecDepth 100000 in
set_option maxHeartbeats 0 in
theorem kz_N51_0 : ak_chN kz_M kz_CF kz_K kz_t51 173 kz_e51 kz_l51 3000 kz_n51_0 = true := by decide +kernel
set_option maxRecDepth 100000 in
set_option maxHeartbeats 0 in
theorem kz_E52 : ak_chS kz_K 75 kz_e52 = true ∧ ak_chE kz_M kz_CF kz_K kz_t52 75 kz_e52 kz_l52 3000 = true := by decide +kernel
set_option maxRecDepth 100000 in
set_option maxHeartbeats 0 in
theorem kz_E53 : ak_chS kz_K 130 kz_e53 = true ∧ ak_chE kz_M kz_CF kz_K kz_t53 130 kz_e53 kz_l53 3000 = true := by decide +kernel
set_option maxRecDepth 100000 in
set_option maxHeartbeats 0 in
theorem kz_E54 : ak_chS kz_K 8 kz_e54 = true ∧ ak_chE kz_M kz_CF kz_K kz_t54 8 kz_e54 kz_l54 3000 = true := by decide +kernel
set_option maxRecDepth 100000 in
set_option maxHeartbeats 0 in
theorem kz_E55 : ak_chS kz_K 83 kz_e55 = true ∧ ak_chE kz_M kz_CF kz_K kz_t55 83 kz_e55 kz_l55 3000 = true := by decide +kernel
set_option maxRecDepth 100000 in
set_option maxHeartbeats 0 in
theorem kz_E56 : ak_chS kz_K 131 kz_e56 = true ∧ ak_chE kz_M kz_CF kz_K kz_t56 131 kz_e56 kz_l56 3000 = true := by decide +kernel
set_option maxRecDepth 100000 in
set_option maxHeartbeats 0 in
theorem kz_N56_0 : ak_chN kz_M kz_CF kz_K kz_t56 131 kz_e56 kz_l56 3000 kz_n56_0 = true := by decide +kernel
set_option maxRecDepth 100000 in
set_option maxHeartbeats 0 in
theorem kz_N56_1 : ak_chN kz_M kz_CF kz_K kz_t56 131 kz_e56 kz_l56 3000 kz_n56_1 = true := by decide +kernel
set_option maxRecDepth 100000 in
set_option maxHeartbeats 0 in
theorem kz_E57 : ak_chS kz_K 147 kz_e57 = true ∧ ak_chE kz_M kz_CF kz_K kz_t57 147 kz_e57 kz_l57 3000 = true := by decide +kernel
set_option maxRecDepth 100000 in
set_option maxHeartbeats 0 in
theorem kz_E58 : ak_chS kz_K 146 kz_e58 = true ∧ ak_chE kz_M kz_CF kz_K kz_t58 146 kz_e58 kz_l58 3000 = true := by decide +kernel
set_option maxRecDepth 100000 in
set_option maxHeartbeats 0 in
theorem kz_E59 : ak_chS kz_K 18 kz_e59 = true ∧ ak_chE kz_M kz_CF kz_K kz_t59 18 kz_e59 kz_l59 3000 = true := by decide +kernel
set_option maxRecDepth 100000 in
set_option maxHeartbeats 0 in
theorem kz_N59_0 : ak_chN kz_M kz_CF kz_K kz_t59 18 kz_e59 kz_l59 3000 kz_n59_0 = true := by decide +kernel
set_option maxRecDepth 100000 in
set_option maxHeartbeats 0 in
theorem kz_N59_1 : ak_chN kz_M kz_CF kz_K kz_t59 18 kz_e59 kz_l59 3000 kz_n59_1 = true := by decide +kernel
set_option maxRecDepth 100000 in
set_option maxHeartbeats 0 in
theorem kz_N59_2 : ak_chN kz_M kz_CF kz_K kz_t59 18 kz_e59 kz_l59 3000 kz_n59_2 = true := by decide +kernel
set_option maxRecDepth 100000 in
set_option maxHeartbeats 0 in
theorem kz_N59_3 : ak_chN kz_M kz_CF kz_K kz_t59 18 kz_e59 kz_l59 3000 kz_n59_3 = true := by decide +kernel
set_option maxRecDepth 100000 in
set_option maxHeartbeats 0 in
theorem kz_N59_4 : ak_chN kz_M kz_CF kz_K kz_t59 18 kz_e59 kz_l59 3000 kz_n59_4 = true := by decide +kernel
set_option maxRecDepth 100000 in
set_option maxHeartbeats 0 in
theorem kz_N59_5 : ak_chN kz_M kz_CF kz_K kz_t59 18 kz_e59 kz_l59 3000 kz_n59_5 = true := by decide +kernel
set_option maxRecDepth 100000 in
set_option maxHeartbeats 0 in
theorem kz_N59_6 : ak_chN kz_M kz_CF kz_K kz_t59 18 kz_e59 kz_l59 3000 kz_n59_6 = true := by decide +kernel
set_option maxRecDepth 100000 in
set_option maxHeartbeats 0 in
theorem kz_N59_7 : ak_chN kz_M kz_CF kz_K kz_t59 18 kz_e59 kz_l59 3000 kz_n59_7 = true := by decide +kernel
set_option maxRecDepth 100000 in
set_option maxHeartbeats 0 in
theorem kz_N59_8 : ak_chN kz_M kz_CF kz_K kz_t59 18 kz_e59 kz_l59 3000 kz_n59_8 = true := by decide +kernel
set_option maxRecDepth 100000 in
set_option maxHeartbeats 0 in
theorem kz_N59_9 : ak_chN kz_M kz_CF kz_K kz_t59 18 kz_e59 kz_l59 3000 kz_n59_9 = true := by decide +kernel
set_option maxRecDepth 100000 in
set_option maxHeartbeats 0 in
theorem kz_N59_10 : ak_chN kz_M kz_CF kz_K kz_t59 18 kz_e59 kz_l59 3000 kz_n59_10 = true := by decide +kernel
set_option maxRecDepth 100000 in
set_option maxHeartbeats 0 in
theorem kz_N59_11 : ak_chN kz_M kz_CF kz_K kz_t59 18 kz_e59 kz_l59 3000 kz_n59_11 = true := by decide +kernel
set_option maxRecDepth 100000 in
set_option maxHeartbeats 0 in
theorem kz_N59_12 : ak_chN kz_M kz_CF kz_K kz_t59 18 kz_e59 kz_l59 3000 kz_n59_12 = true := by decide +kernel
set_option maxRecDepth 100000 in
set_option maxHeartbeats 0 in
theorem kz_N59_13 : ak_chN kz_M kz_CF kz_K kz_t59 18 kz_e59 kz_l59 3000 kz_n59_13 = true := by decide +kernel
set_option maxRecDepth 100000 in
set_option maxHeartbeats 0 in
theorem kz_N59_14 : ak_chN kz_M kz_CF kz_K kz_t59 18 kz_e59 kz_l59 3000 kz_n59_14 = true := by decide +kernel
set_option maxRecDepth 100000 in
set_option maxHeartbeats 0 in
theorem kz_N59_15 : ak_chN kz_M kz_CF kz_K kz_t59 18 kz_e59 kz_l59 3000 kz_n59_15 = true := by decide +kernel
set_option maxRecDepth 100000 in
set_option maxHeartbeats 0 in
theorem kz_N59_16 : ak_chN kz_M kz_CF kz_K kz_t59 18 kz_e59 kz_l59 3000 kz_n59_16 = true := by decide +kernel
set_option maxRecDepth 100000 in
set_option maxHeartbeats 0 in
theorem kz_E60 : ak_chS kz_K 103 kz_e60 = true ∧ ak_chE kz_M kz_CF kz_K kz_t60 103 kz_e60 kz_l60 3000 = true := by decide +kernel
set_option maxRecDepth 100000 in
set_option maxHeartbeats 0 in
theorem kz_E61 : ak_chS kz_K 179 kz_e61 = true ∧ ak_chE kz_M kz_CF kz_K kz_t61 179 kz_e61 kz_l61 3000 = true := by decide +kernel
set_option maxRecDepth 100000 in
set_option maxHeartbeats 0 in
theorem kz_N61_0 : ak_chN kz_M kz_CF kz_K kz_t61 179 kz_e61 kz_l61 3000 kz_n61_0 = true := by decide +kernel
set_option maxRecDepth 100000 in
set_option maxHeartbeats 0 in
theorem kz_N61_1 : ak_chN kz_M kz_CF kz_K kz_t61 179 kz_e61 kz_l61 3000 kz_n61_1 = true := by decide +kernel
set_option maxRecDepth 100000 in
set_option maxHeartbeats 0 in
theorem kz_N61_2 : ak_chN kz_M kz_CF kz_K kz_t61 179 kz_e61 kz_l61 3000 kz_n61_2 = true := by decide +kernel
set_option maxRecDepth 100000 in
set_option maxHeartbeats 0 in
theorem kz_N61_3 : ak_chN kz_M kz_CF kz_K kz_t61 179 kz_e61 kz_l61 3000 kz_n61_3 = true := by decide +kernel
set_option maxRecDepth 100000 in
set_option maxHeartbeats 0 in
theorem kz_N61_4 : ak_chN kz_M kz_CF kz_K kz_t61 179 kz_e61 kz_l61 3000 kz_n61_4 = true := by decide +kernel
set_option maxRecDepth 100000 in
set_option maxHeartbeats 0 in
theorem kz_N61_5 : ak_chN kz_M kz_CF kz_K kz_t61 179 kz_e61 kz_l61 3000 kz_n61_5 = true := by decide +kernel
set_option maxRecDepth 100000 in
set_option maxHeartbeats 0 in
theorem kz_N61_6 : ak_chN kz_M kz_CF kz_K kz_t61 179 kz_e61 kz_l61 3000 kz_n61_6 = true := by decide +kernel
set_option maxRecDepth 100000 in
set_option maxHeartbeats 0 in
theorem kz_N61_7 : ak_chN kz_M kz_CF kz_K kz_t61 179 kz_e61 kz_l61 3000 kz_n61_7 = true := by decide +kernel
set_option maxRecDepth 100000 in
set_option maxHeartbeats 0 in
theorem kz_N61_8 : ak_chN kz_M kz_CF kz_K kz_t61 179 kz_e61 kz_l61 3000 kz_n61_8 = true := by decide +kernel
set_option maxRecDepth 100000 in
set_option maxHeartbeats 0 in
theorem kz_N61_9 : ak_chN kz_M kz_CF kz_K kz_t61 179 kz_e61 kz_l61 3000 kz_n61_9 = true := by decide +kernel
set_option maxRecDepth 100000 in
set_option maxHeartbeats 0 in
theorem kz_N61_10 : ak_chN kz_M kz_CF kz_K kz_t61 179 kz_e61 kz_l61 3000 kz_n61_10 = true := by decide +kernel
set_option maxRecDepth 100000 in
set_option maxHeartbeats 0 in
theorem kz_N61_11 : ak_chN kz_M kz_CF kz_K kz_t61 179 kz_e61 kz_l61 3000 kz_n61_11 = true := by decide +kernel
set_option maxRecDepth 100000 in
set_option maxHeartbeats 0 in
theorem kz_N61_12 : ak_chN kz_M kz_CF kz_K kz_t61 179 kz_e61 kz_l61 3000 kz_n61_12 = true := by decide +kernel
set_option maxRecDepth 100000 in
set_option maxHeartbeats 0 in
theorem kz_N61_13 : ak_chN kz_M kz_CF kz_K kz_t61 179 kz_e61 kz_l61 3000 kz_n61_13 = true := by decide +kernel
set_option maxRecDepth 100000 in
set_option maxHeartbeats 0 in
theorem kz_N61_14 : ak_chN kz_M kz_CF kz_K kz_t61 179 kz_e61 kz_l61 3000 kz_n61_14 = true := by decide +kernel
set_option maxRecDepth 100000 in
set_option maxHeartbeats 0 in
theorem kz_N61_15 : ak_chN kz_M kz_CF kz_K kz_t61 179 kz_e61 kz_l61 3000 kz_n61_15 = true := by decide +kernel
set_option maxRecDepth 100000 in
set_option maxHeartbeats 0 in
theorem kz_N61_16 : ak_chN kz_M kz_CF kz_K kz_t61 179 kz_e61 kz_l61 3000 kz_n61_16 = true := by decide +kernel
set_option maxRecDepth 100000 in
set_option maxHeartbeats 0 in
theorem kz_E62 : ak_chS kz_K 178 kz_e62 = true ∧ ak_chE kz_M kz_CF kz_K kz_t62 178 kz_e62 kz_l62 3000 = true := by decide +kernel
set_option maxRecDepth 100000 in
set_option maxHeartbeats 0 in
theorem kz_E63 : ak_chS kz_K 14 kz_e63 = true ∧ ak_chE kz_M kz_CF kz_K kz_t63 14 kz_e63 kz_l63 3000 = true := by decide +kernel
set_option maxRecDepth 100000 in
set_option maxHeartbeats 0 in
theorem kz_N63_0 : ak_chN kz_M kz_CF kz_K kz_t63 14 kz_e63 kz_l63 3000 kz_n63_0 = true := by decide +kernel
set_option maxRecDepth 100000 in
set_option maxHeartbeats 0 in
theorem kz_N63_1 : ak_chN kz_M kz_CF kz_K kz_t63 14 kz_e63 kz_l63 3000 kz_n63_1 = true := by decide +kernel
set_option maxRecDepth 100000 in
set_option maxHeartbeats 0 in
theorem kz_N63_2 : ak_chN kz_M kz_CF kz_K kz_t63 14 kz_e63 kz_l63 3000 kz_n63_2 = true := by decide +kernel
set_option maxRecDepth 100000 in
set_option maxHeartbeats 0 in
theorem kz_N63_3 : ak_chN kz_M kz_CF kz_K kz_t63 14 kz_e63 kz_l63 3000 kz_n63_3 = true := by decide +kernel
set_option maxRecDepth 100000 in
set_option maxHeartbeats 0 in
theorem kz_N63_4 : ak_chN kz_M kz_CF kz_K kz_t63 14 kz_e63 kz_l63 3000 kz_n63_4 = true := by decide +kernel
set_option maxRecDepth 100000 in
set_option maxHeartbeats 0 in
theorem kz_N63_5 : ak_chN kz_M kz_CF kz_K kz_t63 14 kz_e63 kz_l63 3000 kz_n63_5 = true := by decide +kernel
set_option maxRecDepth 100000 in
set_option maxHeartbeats 0 in
theorem kz_E64 : ak_chS kz_K 89 kz_e64 = true ∧ ak_chE kz_M kz_CF kz_K kz_t64 89 kz_e64 kz_l64 3000 = true := by decide +kernel
set_option maxRecDepth 100000 in
set_option maxHeartbeats 0 in
theorem kz_E65 : ak_chS kz_K 151 kz_e65 = true ∧ ak_chE kz_M kz_CF kz_K kz_t65 151 kz_e65 kz_l65 3000 = true := by decide +kernel
set_option maxRecDepth 100000 in
set_option maxHeartbeats 0 in
theorem kz_N65_0 : ak_chN kz_M kz_CF kz_K kz_t65 151 kz_e65 kz_l65 3000 kz_n65_0 = true := by decide +kernel
