set_option maxRecDepth 100000 in
set_option maxHeartbeats 0 in
theorem kz_N48_13 : ak_chN kz_M kz_CF kz_K kz_t48 28 kz_e48 kz_l48 3000 kz_n48_13 = true := by decide +kernel
set_option maxRecDepth 100000 in
set_option maxHeartbeats 0 in
theorem kz_N48_14 : ak_chN kz_M kz_CF kz_K kz_t48 28 kz_e48 kz_l48 3000 kz_n48_14 = true := by decide +kernel
set_option maxRecDepth 100000 in
set_option maxHeartbeats 0 in
theorem kz_N48_15 : ak_chN kz_M kz_CF kz_K kz_t48 28 kz_e48 kz_l48 3000 kz_n48_15 = true := by decide +kernel
set_option maxRecDepth 100000 in
set_option maxHeartbeats 0 in
theorem kz_N48_16 : ak_chN kz_M kz_CF kz_K kz_t48 28 kz_e48 kz_l48 3000 kz_n48_16 = true := by decide +kernel
set_option maxRecDepth 100000 in
set_option maxHeartbeats 0 in
theorem kz_N48_17 : ak_chN kz_M kz_CF kz_K kz_t48 28 kz_e48 kz_l48 3000 kz_n48_17 = true := by decide +kernel
set_option maxRecDepth 100000 in
set_option maxHeartbeats 0 in
theorem kz_N48_18 : ak_chN kz_M kz_CF kz_K kz_t48 28 kz_e48 kz_l48 3000 kz_n48_18 = true := by decide +kernel
set_option maxRecDepth 100000 in
set_option maxHeartbeats 0 in
theorem kz_N48_19 : ak_chN kz_M kz_CF kz_K kz_t48 28 kz_e48 kz_l48 3000 kz_n48_19 = true := by decide +kernel
set_option maxRecDepth 100000 in
set_option maxHeartbeats 0 in
theorem kz_N48_20 : ak_chN kz_M kz_CF kz_K kz_t48 28 kz_e48 kz_l48 3000 kz_n48_20 = true := by decide +kernel
set_option maxRecDepth 100000 in
set_option maxHeartbeats 0 in
theorem kz_N48_21 : ak_chN kz_M kz_CF kz_K kz_t48 28 kz_e48 kz_l48 3000 kz_n48_21 = true := by decide +kernel
set_option maxRecDepth 100000 in
set_option maxHeartbeats 0 in
theorem kz_N48_22 : ak_chN kz_M kz_CF kz_K kz_t48 28 kz_e48 kz_l48 3000 kz_n48_22 = true := by decide +kernel
set_option maxRecDepth 100000 in
set_option maxHeartbeats 0 in
theorem kz_N48_23 : ak_chN kz_M kz_CF kz_K kz_t48 28 kz_e48 kz_l48 3000 kz_n48_23 = true := by decide +kernel
set_option maxRecDepth 100000 in
set_option maxHeartbeats 0 in
theorem kz_W49 : ak_chW kz_M kz_e49 kz_l49 = true := by decide +kernel
set_option maxRecDepth 100000 in
set_option maxHeartbeats 0 in
theorem kz_E49 : ak_chS kz_K 26 kz_e49 = true ∧ ak_chE kz_M kz_CF kz_K kz_t49 26 kz_e49 kz_l49 3000 = true := by decide +kernel
set_option maxRecDepth 100000 in
set_option maxHeartbeats 0 in
theorem kz_N49_0 : ak_chN kz_M kz_CF kz_K kz_t49 26 kz_e49 kz_l49 3000 kz_n49_0 = true := by decide +kernel
set_option maxRecDepth 100000 in
set_option maxHeartbeats 0 in
theorem kz_W50 : ak_chW kz_M kz_e50 kz_l50 = true := by decide +kernel
set_option maxRecDepth 100000 in
set_option maxHeartbeats 0 in
theorem kz_E50 : ak_chS kz_K 39 kz_e50 = true ∧ ak_chE kz_M kz_CF kz_K kz_t50 39 kz_e50 kz_l50 3000 = true := by decide +kernel
set_option maxRecDepth 100000 in
set_option maxHeartbeats 0 in
theorem kz_N50_0 : ak_chN kz_M kz_CF kz_K kz_t50 39 kz_e50 kz_l50 3000 kz_n50_0 = true := by decide +kernel
set_option maxRecDepth 100000 in
set_option maxHeartbeats 0 in
theorem kz_N50_1 : ak_chN kz_M kz_CF kz_K kz_t50 39 kz_e50 kz_l50 3000 kz_n50_1 = true := by decide +kernel
set_option maxRecDepth 100000 in
set_option maxHeartbeats 0 in
theorem kz_N50_2 : ak_chN kz_M kz_CF kz_K kz_t50 39 kz_e50 kz_l50 3000 kz_n50_2 = true := by decide +kernel
set_option maxRecDepth 100000 in
set_option maxHeartbeats 0 in
theorem kz_N50_3 : ak_chN kz_M kz_CF kz_K kz_t50 39 kz_e50 kz_l50 3000 kz_n50_3 = true := by decide +kernel
set_option maxRecDepth 100000 in
set_option maxHeartbeats 0 in
theorem kz_W51 : ak_chW kz_M kz_e51 kz_l51 = true := by decide +kernel
set_option maxRecDepth 100000 in
set_option maxHeartbeats 0 in
theorem kz_E51 : ak_chS kz_K 100 kz_e51 = true ∧ ak_chE kz_M kz_CF kz_K kz_t51 100 kz_e51 kz_l51 3000 = true := by decide +kernel
set_option maxRecDepth 100000 in
set_option maxHeartbeats 0 in
theorem kz_W52 : ak_chW kz_M kz_e52 kz_l52 = true := by decide +kernel
set_option maxRecDepth 100000 in
set_option maxHeartbeats 0 in
theorem kz_E52 : ak_chS kz_K 173 kz_e52 = true ∧ ak_chE kz_M kz_CF kz_K kz_t52 173 kz_e52 kz_l52 3000 = true := by decide +kernel
set_option maxRecDepth 100000 in
set_option maxHeartbeats 0 in
theorem kz_N52_0 : ak_chN kz_M kz_CF kz_K kz_t52 173 kz_e52 kz_l52 3000 kz_n52_0 = true := by decide +kernel
set_option maxRecDepth 100000 in
set_option maxHeartbeats 0 in
theorem kz_W53 : ak_chW kz_M kz_e53 kz_l53 = true := by decide +kernel
set_option maxRecDepth 100000 in
set_option maxHeartbeats 0 in
theorem kz_E53 : ak_chS kz_K 75 kz_e53 = true ∧ ak_chE kz_M kz_CF kz_K kz_t53 75 kz_e53 kz_l53 3000 = true := by decide +kernel
set_option maxRecDepth 100000 in
set_option maxHeartbeats 0 in
theorem kz_W54 : ak_chW kz_M kz_e54 kz_l54 = true := by decide +kernel
set_option maxRecDepth 100000 in
set_option maxHeartbeats 0 in
theorem kz_E54 : ak_chS kz_K 130 kz_e54 = true ∧ ak_chE kz_M kz_CF kz_K kz_t54 130 kz_e54 kz_l54 3000 = true := by decide +kernel
set_option maxRecDepth 100000 in
set_option maxHeartbeats 0 in
theorem kz_W55 : ak_chW kz_M kz_e55 kz_l55 = true := by decide +kernel
set_option maxRecDepth 100000 in
set_option maxHeartbeats 0 in
theorem kz_E55 : ak_chS kz_K 8 kz_e55 = true ∧ ak_chE kz_M kz_CF kz_K kz_t55 8 kz_e55 kz_l55 3000 = true := by decide +kernel
set_option maxRecDepth 100000 in
set_option maxHeartbeats 0 in
theorem kz_W56 : ak_chW kz_M kz_e56 kz_l56 = true := by decide +kernel
set_option maxRecDepth 100000 in
set_option maxHeartbeats 0 in
theorem kz_E56 : ak_chS kz_K 83 kz_e56 = true ∧ ak_chE kz_M kz_CF kz_K kz_t56 83 kz_e56 kz_l56 3000 = true := by decide +kernel
set_option maxRecDepth 100000 in
set_option maxHeartbeats 0 in
theorem kz_W57 : ak_chW kz_M kz_e57 kz_l57 = true := by decide +kernel
set_option maxRecDepth 100000 in
set_option maxHeartbeats 0 in
theorem kz_E57 : ak_chS kz_K 147 kz_e57 = true ∧ ak_chE kz_M kz_CF kz_K kz_t57 147 kz_e57 kz_l57 3000 = true := by decide +kernel
set_option maxRecDepth 100000 in
set_option maxHeartbeats 0 in
theorem kz_W58 : ak_chW kz_M kz_e58 kz_l58 = true := by decide +kernel
set_option maxRecDepth 100000 in
set_option maxHeartbeats 0 in
theorem kz_E58 : ak_chS kz_K 131 kz_e58 = true ∧ ak_chE kz_M kz_CF kz_K kz_t58 131 kz_e58 kz_l58 3000 = true := by decide +kernel
set_option maxRecDepth 100000 in
set_option maxHeartbeats 0 in
theorem kz_N58_0 : ak_chN kz_M kz_CF kz_K kz_t58 131 kz_e58 kz_l58 3000 kz_n58_0 = true := by decide +kernel
set_option maxRecDepth 100000 in
set_option maxHeartbeats 0 in
theorem kz_N58_1 : ak_chN kz_M kz_CF kz_K kz_t58 131 kz_e58 kz_l58 3000 kz_n58_1 = true := by decide +kernel
set_option maxRecDepth 100000 in
set_option maxHeartbeats 0 in
theorem kz_W59 : ak_chW kz_M kz_e59 kz_l59 = true := by decide +kernel
set_option maxRecDepth 100000 in
set_option maxHeartbeats 0 in
theorem kz_E59 : ak_chS kz_K 146 kz_e59 = true ∧ ak_chE kz_M kz_CF kz_K kz_t59 146 kz_e59 kz_l59 3000 = true := by decide +kernel
set_option maxRecDepth 100000 in
set_option maxHeartbeats 0 in
theorem kz_W60 : ak_chW kz_M kz_e60 kz_l60 = true := by decide +kernel
set_option maxRecDepth 100000 in
set_option maxHeartbeats 0 in
theorem kz_E60 : ak_chS kz_K 18 kz_e60 = true ∧ ak_chE kz_M kz_CF kz_K kz_t60 18 kz_e60 kz_l60 3000 = true := by decide +kernel
set_option maxRecDepth 100000 in
set_option maxHeartbeats 0 in
theorem kz_N60_0 : ak_chN kz_M kz_CF kz_K kz_t60 18 kz_e60 kz_l60 3000 kz_n60_0 = true := by decide +kernel
set_option maxRecDepth 100000 in
set_option maxHeartbeats 0 in
theorem kz_N60_1 : ak_chN kz_M kz_CF kz_K kz_t60 18 kz_e60 kz_l60 3000 kz_n60_1 = true := by decide +kernel
set_option maxRecDepth 100000 in
set_option maxHeartbeats 0 in
theorem kz_N60_2 : ak_chN kz_M kz_CF kz_K kz_t60 18 kz_e60 kz_l60 3000 kz_n60_2 = true := by decide +kernel
set_option maxRecDepth 100000 in
set_option maxHeartbeats 0 in
theorem kz_N60_3 : ak_chN kz_M kz_CF kz_K kz_t60 18 kz_e60 kz_l60 3000 kz_n60_3 = true := by decide +kernel
set_option maxRecDepth 100000 in
set_option maxHeartbeats 0 in
theorem kz_N60_4 : ak_chN kz_M kz_CF kz_K kz_t60 18 kz_e60 kz_l60 3000 kz_n60_4 = true := by decide +kernel
set_option maxRecDepth 100000 in
set_option maxHeartbeats 0 in
theorem kz_N60_5 : ak_chN kz_M kz_CF kz_K kz_t60 18 kz_e60 kz_l60 3000 kz_n60_5 = true := by decide +kernel
set_option maxRecDepth 100000 in
set_option maxHeartbeats 0 in
theorem kz_N60_6 : ak_chN kz_M kz_CF kz_K kz_t60 18 kz_e60 kz_l60 3000 kz_n60_6 = true := by decide +kernel
set_option maxRecDepth 100000 in
set_option maxHeartbeats 0 in
theorem kz_N60_7 : ak_chN kz_M kz_CF kz_K kz_t60 18 kz_e60 kz_l60 3000 kz_n60_7 = true := by decide +kernel
set_option maxRecDepth 100000 in
set_option maxHeartbeats 0 in
theorem kz_N60_8 : ak_chN kz_M kz_CF kz_K kz_t60 18 kz_e60 kz_l60 3000 kz_n60_8 = true := by decide +kernel
set_option maxRecDepth 100000 in
set_option maxHeartbeats 0 in
theorem kz_N60_9 : ak_chN kz_M kz_CF kz_K kz_t60 18 kz_e60 kz_l60 3000 kz_n60_9 = true := by decide +kernel
set_option maxRecDepth 100000 in
set_option maxHeartbeats 0 in
theorem kz_N60_10 : ak_chN kz_M kz_CF kz_K kz_t60 18 kz_e60 kz_l60 3000 kz_n60_10 = true := by decide +kernel
set_option maxRecDepth 100000 in
set_option maxHeartbeats 0 in
theorem kz_N60_11 : ak_chN kz_M kz_CF kz_K kz_t60 18 kz_e60 kz_l60 3000 kz_n60_11 = true := by decide +kernel
set_option maxRecDepth 100000 in
set_option maxHeartbeats 0 in
theorem kz_N60_12 : ak_chN kz_M kz_CF kz_K kz_t60 18 kz_e60 kz_l60 3000 kz_n60_12 = true := by decide +kernel
set_option maxRecDepth 100000 in
set_option maxHeartbeats 0 in
theorem kz_N60_13 : ak_chN kz_M kz_CF kz_K kz_t60 18 kz_e60 kz_l60 3000 kz_n60_13 = true := by decide +kernel
set_option maxRecDepth 100000 in
set_option maxHeartbeats 0 in
theorem kz_N60_14 : ak_chN kz_M kz_CF kz_K kz_t60 18 kz_e60 kz_l60 3000 kz_n60_14 = true := by decide +kernel
set_option maxRecDepth 100000 in
set_option maxHeartbeats 0 in
theorem kz_N60_15 : ak_chN kz_M kz_CF kz_K kz_t60 18 kz_e60 kz_l60 3000 kz_n60_15 = true := by decide +kernel
set_option maxRecDepth 100000 in
set_option maxHeartbeats 0 in
theorem kz_N60_16 : ak_chN kz_M kz_CF kz_K kz_t60 18 kz_e60 kz_l60 3000 kz_n60_16 = true := by decide +kernel
set_option maxRecDepth 100000 in
set_option maxHeartbeats 0 in
theorem kz_W61 : ak_chW kz_M kz_e61 kz_l61 = true := by decide +kernel
set_option maxRecDepth 100000 in
set_option maxHeartbeats 0 in
theorem kz_E61 : ak_chS kz_K 103 kz_e61 = true ∧ ak_chE kz_M kz_CF kz_K kz_t61 103 kz_e61 kz_l61 3000 = true := by decide +kernel
set_option maxRecDepth 100000 in
set_option maxHeartbeats 0 in
theorem kz_W62 : ak_chW kz_M kz_e62 kz_l62 = true := by decide +kernel
set_option maxRecDepth 100000 in
set_option maxHeartbeats 0 in
theorem kz_E62 : ak_chS kz_K 179 kz_e62 = true ∧ ak_chE kz_M kz_CF kz_K kz_t62 179 kz_e62 kz_l62 3000 = true := by decide +kernel
set_option maxRecDepth 100000 in
set_option maxHeartbeats 0 in
theorem kz_N62_0 : ak_chN kz_M kz_CF kz_K kz_t62 179 kz_e62 kz_l62 3000 kz_n62_0 = true := by decide +kernel
set_option maxRecDepth 100000 in
set_option maxHeartbeats 0 in
theorem kz_N62_1 : ak_chN kz_M kz_CF kz_K kz_t62 179 kz_e62 kz_l62 3000 kz_n62_1 = true := by decide +kernel
set_option maxRecDepth 100000 in
set_option maxHeartbeats 0 in
theorem kz_N62_2 : ak_chN kz_M kz_CF kz_K kz_t62 179 kz_e62 kz_l62 3000 kz_n62_2 = true := by decide +kernel
set_option maxRecDepth 100000 in
set_option maxHeartbeats 0 in
theorem kz_N62_3 : ak_chN kz_M kz_CF kz_K kz_t62 179 kz_e62 kz_l62 3000 kz_n62_3 = true := by decide +kernel
set_option maxRecDepth 100000 in
set_option maxHeartbeats 0 in
theorem kz_N62_4 : ak_chN kz_M kz_CF kz_K kz_t62 179 kz_e62 kz_l62 3000 kz_n62_4 = true := by decide +kernel
set_option maxRecDepth 100000 in
set_option maxHeartbeats 0 in
theorem kz_N62_5 : ak_chN kz_M kz_CF kz_K kz_t62 179 kz_e62 kz_l62 3000 kz_n62_5 = true := by decide +kernel
set_option maxRecDepth 100000 in
set_option maxHeartbeats 0 in
theorem kz_N62_6 : ak_chN kz_M kz_CF kz_K kz_t62 179 kz_e62 kz_l62 3000 kz_n62_6 = true := by decide +kernel
set_option maxRecDepth 100000 in
set_option maxHeartbeats 0 in
theorem kz_N62_7 : ak_chN kz_M kz_CF kz_K kz_t62 179 kz_e62 kz_l62 3000 kz_n62_7 = true := by decide +kernel
set_option maxRecDepth 100000 in
set_option maxHeartbeats 0 in
theorem kz_N62_8 : ak_chN kz_M kz_CF kz_K kz_t62 179 kz_e62 kz_l62 3000 kz_n62_8 = true := by decide +kernel
set_option maxRecDepth 100000 in
set_option maxHeartbeats 0 in
theorem kz_N62_9 : ak_chN kz_M kz_CF kz_K kz_t62 179 kz_e62 kz_l62 3000 kz_n62_9 = true := by decide +kernel
set_option maxRecDepth 100000 in
set_option maxHeartbeats 0 in
theorem kz_N62_10 : ak_chN kz_M kz_CF kz_K kz_t62 179 kz_e62 kz_l62 3000 kz_n62_10 = true := by decide +kernel
set_option maxRecDepth 100000 in
set_option maxHeartbeats 0 in
theorem kz_N62_11 : ak_chN kz_M kz_CF kz_K kz_t62 179 kz_e62 kz_l62 3000 kz_n62_11 = true := by decide +kernel
set_option maxRecDepth 100000 in
set_option maxHeartbeats 0 in
theorem kz_N62_12 : ak_chN kz_M kz_CF kz_K kz_t62 179 kz_e62 kz_l62 3000 kz_n62_12 = true := by decide +kernel
set_option maxRecDepth 100000 in
set_option maxHeartbeats 0 in
theorem kz_N62_13 : ak_chN kz_M kz_CF kz_K kz_t62 179 kz_e62 kz_l62 3000 kz_n62_13 = true := by decide +kernel
set_option maxRecDepth 100000 in
set_option maxHeartbeats 0 in
theorem kz_N62_14 : ak_chN kz_M kz_CF kz_K kz_t62 179 kz_e62 kz_l62 3000 kz_n62_14 = true := by decide +kernel
set_option maxRecDepth 100000 in
set_option maxHeartbeats 0 in
theorem kz_N62_15 : ak_chN kz_M kz_CF kz_K kz_t62 179 kz_e62 kz_l62 3000 kz_n62_15 = true := by decide +kernel
set_option maxRecDepth 100000 in
set_option maxHeartbeats 0 in
theorem kz_N62_16 : ak_chN kz_M kz_CF kz_K kz_t62 179 kz_e62 kz_l62 3000 kz_n62_16 = true := by decide +kernel
set_option maxRecDepth 100000 in
set_option maxHeartbeats 0 in
theorem kz_W63 : ak_chW kz_M kz_e63 kz_l63 = true := by decide +kernel
set_option maxRecDepth 100000 in
set_option maxHeartbeats 0 in
theorem kz_E63 : ak_chS kz_K 178 kz_e63 = true ∧ ak_chE kz_M kz_CF kz_K kz_t63 178 kz_e63 kz_l63 3000 = true := by decide +kernel
set_option maxRecDepth 100000 in
set_option maxHeartbeats 0 in
theorem kz_W64 : ak_chW kz_M kz_e64 kz_l64 = true := by decide +kernel
set_option maxRecDepth 100000 in
set_option maxHeartbeats 0 in
theorem kz_E64 : ak_chS kz_K 14 kz_e64 = true ∧ ak_chE kz_M kz_CF kz_K kz_t64 14 kz_e64 kz_l64 3000 = true := by decide +kernel
set_option maxRecDepth 100000 in
set_option maxHeartbeats 0 in
theorem kz_N64_0 : ak_chN kz_M kz_CF kz_K kz_t64 14 kz_e64 kz_l64 3000 kz_n64_0 = true := by decide +kernel
set_option maxRecDepth 100000 in
set_option maxHeartbeats 0 in
theorem kz_N64_1 : ak_chN kz_M kz_CF kz_K kz_t64 14 kz_e64 kz_l64 3000 kz_n64_1 = true := by decide +kernel
set_option maxRecDepth 100000 in
set_option maxHeartbeats 0 in
theorem kz_N64_2 : ak_chN kz_M kz_CF kz_K kz_t64 14 kz_e64 kz_l64 3000 kz_n64_2 = true := by decide +kernel
set_option maxRecDepth 100000 in
set_option maxHeartbeats 0 in
theorem kz_N64_3 : ak_chN kz_M kz_CF kz_K kz_t64 14 kz_e64 kz_l64 3000 kz_n64_3 = true := by decide +kernel
