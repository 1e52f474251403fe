set_option maxRecDepth 100000 in
set_option maxHeartbeats 0 in
theorem kz_N18_129 : ak_chN kz_M kz_CF kz_K kz_t18 154 kz_e18 kz_l18 3000 kz_n18_129 = true := by decide +kernel
set_option maxRecDepth 100000 in
set_option maxHeartbeats 0 in
theorem kz_N18_130 : ak_chN kz_M kz_CF kz_K kz_t18 154 kz_e18 kz_l18 3000 kz_n18_130 = true := by decide +kernel
set_option maxRecDepth 100000 in
set_option maxHeartbeats 0 in
theorem kz_N18_131 : ak_chN kz_M kz_CF kz_K kz_t18 154 kz_e18 kz_l18 3000 kz_n18_131 = true := by decide +kernel
set_option maxRecDepth 100000 in
set_option maxHeartbeats 0 in
theorem kz_N18_132 : ak_chN kz_M kz_CF kz_K kz_t18 154 kz_e18 kz_l18 3000 kz_n18_132 = true := by decide +kernel
set_option maxRecDepth 100000 in
set_option maxHeartbeats 0 in
theorem kz_N18_133 : ak_chN kz_M kz_CF kz_K kz_t18 154 kz_e18 kz_l18 3000 kz_n18_133 = true := by decide +kernel
set_option maxRecDepth 100000 in
set_option maxHeartbeats 0 in
theorem kz_N18_134 : ak_chN kz_M kz_CF kz_K kz_t18 154 kz_e18 kz_l18 3000 kz_n18_134 = true := by decide +kernel
set_option maxRecDepth 100000 in
set_option maxHeartbeats 0 in
theorem kz_N18_135 : ak_chN kz_M kz_CF kz_K kz_t18 154 kz_e18 kz_l18 3000 kz_n18_135 = true := by decide +kernel
set_option maxRecDepth 100000 in
set_option maxHeartbeats 0 in
theorem kz_N18_136 : ak_chN kz_M kz_CF kz_K kz_t18 154 kz_e18 kz_l18 3000 kz_n18_136 = true := by decide +kernel
set_option maxRecDepth 100000 in
set_option maxHeartbeats 0 in
theorem kz_N18_137 : ak_chN kz_M kz_CF kz_K kz_t18 154 kz_e18 kz_l18 3000 kz_n18_137 = true := by decide +kernel
set_option maxRecDepth 100000 in
set_option maxHeartbeats 0 in
theorem kz_N18_138 : ak_chN kz_M kz_CF kz_K kz_t18 154 kz_e18 kz_l18 3000 kz_n18_138 = true := by decide +kernel
set_option maxRecDepth 100000 in
set_option maxHeartbeats 0 in
theorem kz_N18_139 : ak_chN kz_M kz_CF kz_K kz_t18 154 kz_e18 kz_l18 3000 kz_n18_139 = true := by decide +kernel
set_option maxRecDepth 100000 in
set_option maxHeartbeats 0 in
theorem kz_N18_140 : ak_chN kz_M kz_CF kz_K kz_t18 154 kz_e18 kz_l18 3000 kz_n18_140 = true := by decide +kernel
set_option maxRecDepth 100000 in
set_option maxHeartbeats 0 in
theorem kz_N18_141 : ak_chN kz_M kz_CF kz_K kz_t18 154 kz_e18 kz_l18 3000 kz_n18_141 = true := by decide +kernel
set_option maxRecDepth 100000 in
set_option maxHeartbeats 0 in
theorem kz_N18_142 : ak_chN kz_M kz_CF kz_K kz_t18 154 kz_e18 kz_l18 3000 kz_n18_142 = true := by decide +kernel
set_option maxRecDepth 100000 in
set_option maxHeartbeats 0 in
theorem kz_N18_143 : ak_chN kz_M kz_CF kz_K kz_t18 154 kz_e18 kz_l18 3000 kz_n18_143 = true := by decide +kernel
set_option maxRecDepth 100000 in
set_option maxHeartbeats 0 in
theorem kz_N18_144 : ak_chN kz_M kz_CF kz_K kz_t18 154 kz_e18 kz_l18 3000 kz_n18_144 = true := by decide +kernel
set_option maxRecDepth 100000 in
set_option maxHeartbeats 0 in
theorem kz_N18_145 : ak_chN kz_M kz_CF kz_K kz_t18 154 kz_e18 kz_l18 3000 kz_n18_145 = true := by decide +kernel
set_option maxRecDepth 100000 in
set_option maxHeartbeats 0 in
theorem kz_N18_146 : ak_chN kz_M kz_CF kz_K kz_t18 154 kz_e18 kz_l18 3000 kz_n18_146 = true := by decide +kernel
set_option maxRecDepth 100000 in
set_option maxHeartbeats 0 in
theorem kz_N18_147 : ak_chN kz_M kz_CF kz_K kz_t18 154 kz_e18 kz_l18 3000 kz_n18_147 = true := by decide +kernel
set_option maxRecDepth 100000 in
set_option maxHeartbeats 0 in
theorem kz_N18_148 : ak_chN kz_M kz_CF kz_K kz_t18 154 kz_e18 kz_l18 3000 kz_n18_148 = true := by decide +kernel
set_option maxRecDepth 100000 in
set_option maxHeartbeats 0 in
theorem kz_N18_149 : ak_chN kz_M kz_CF kz_K kz_t18 154 kz_e18 kz_l18 3000 kz_n18_149 = true := by decide +kernel
set_option maxRecDepth 100000 in
set_option maxHeartbeats 0 in
theorem kz_N18_150 : ak_chN kz_M kz_CF kz_K kz_t18 154 kz_e18 kz_l18 3000 kz_n18_150 = true := by decide +kernel
set_option maxRecDepth 100000 in
set_option maxHeartbeats 0 in
theorem kz_N18_151 : ak_chN kz_M kz_CF kz_K kz_t18 154 kz_e18 kz_l18 3000 kz_n18_151 = true := by decide +kernel
set_option maxRecDepth 100000 in
set_option maxHeartbeats 0 in
theorem kz_N18_152 : ak_chN kz_M kz_CF kz_K kz_t18 154 kz_e18 kz_l18 3000 kz_n18_152 = true := by decide +kernel
set_option maxRecDepth 100000 in
set_option maxHeartbeats 0 in
theorem kz_N18_153 : ak_chN kz_M kz_CF kz_K kz_t18 154 kz_e18 kz_l18 3000 kz_n18_153 = true := by decide +kernel
set_option maxRecDepth 100000 in
set_option maxHeartbeats 0 in
theorem kz_N18_154 : ak_chN kz_M kz_CF kz_K kz_t18 154 kz_e18 kz_l18 3000 kz_n18_154 = true := by decide +kernel
set_option maxRecDepth 100000 in
set_option maxHeartbeats 0 in
theorem kz_N18_155 : ak_chN kz_M kz_CF kz_K kz_t18 154 kz_e18 kz_l18 3000 kz_n18_155 = true := by decide +kernel
set_option maxRecDepth 100000 in
set_option maxHeartbeats 0 in
theorem kz_N18_156 : ak_chN kz_M kz_CF kz_K kz_t18 154 kz_e18 kz_l18 3000 kz_n18_156 = true := by decide +kernel
set_option maxRecDepth 100000 in
set_option maxHeartbeats 0 in
theorem kz_N18_157 : ak_chN kz_M kz_CF kz_K kz_t18 154 kz_e18 kz_l18 3000 kz_n18_157 = true := by decide +kernel
set_option maxRecDepth 100000 in
set_option maxHeartbeats 0 in
theorem kz_N18_158 : ak_chN kz_M kz_CF kz_K kz_t18 154 kz_e18 kz_l18 3000 kz_n18_158 = true := by decide +kernel
set_option maxRecDepth 100000 in
set_option maxHeartbeats 0 in
theorem kz_N18_159 : ak_chN kz_M kz_CF kz_K kz_t18 154 kz_e18 kz_l18 3000 kz_n18_159 = true := by decide +kernel
set_option maxRecDepth 100000 in
set_option maxHeartbeats 0 in
theorem kz_N18_160 : ak_chN kz_M kz_CF kz_K kz_t18 154 kz_e18 kz_l18 3000 kz_n18_160 = true := by decide +kernel
set_option maxRecDepth 100000 in
set_option maxHeartbeats 0 in
theorem kz_N18_161 : ak_chN kz_M kz_CF kz_K kz_t18 154 kz_e18 kz_l18 3000 kz_n18_161 = true := by decide +kernel
set_option maxRecDepth 100000 in
set_option maxHeartbeats 0 in
theorem kz_N18_162 : ak_chN kz_M kz_CF kz_K kz_t18 154 kz_e18 kz_l18 3000 kz_n18_162 = true := by decide +kernel
set_option maxRecDepth 100000 in
set_option maxHeartbeats 0 in
theorem kz_N18_163 : ak_chN kz_M kz_CF kz_K kz_t18 154 kz_e18 kz_l18 3000 kz_n18_163 = true := by decide +kernel
set_option maxRecDepth 100000 in
set_option maxHeartbeats 0 in
theorem kz_E19 : ak_chS kz_K 142 kz_e19 = true ∧ ak_chE kz_M kz_CF kz_K kz_t19 142 kz_e19 kz_l19 3000 = true := by decide +kernel
set_option maxRecDepth 100000 in
set_option maxHeartbeats 0 in
theorem kz_E20 : ak_chS kz_K 142 kz_e20 = true ∧ ak_chE kz_M kz_CF kz_K kz_t20 142 kz_e20 kz_l20 3000 = true := by decide +kernel
set_option maxRecDepth 100000 in
set_option maxHeartbeats 0 in
theorem kz_E21 : ak_chS kz_K 142 kz_e21 = true ∧ ak_chE kz_M kz_CF kz_K kz_t21 142 kz_e21 kz_l21 3000 = true := by decide +kernel
set_option maxRecDepth 100000 in
set_option maxHeartbeats 0 in
theorem kz_E22 : ak_chS kz_K 142 kz_e22 = true ∧ ak_chE kz_M kz_CF kz_K kz_t22 142 kz_e22 kz_l22 3000 = true := by decide +kernel
set_option maxRecDepth 100000 in
set_option maxHeartbeats 0 in
theorem kz_E23 : ak_chS kz_K 142 kz_e23 = true ∧ ak_chE kz_M kz_CF kz_K kz_t23 142 kz_e23 kz_l23 3000 = true := by decide +kernel
set_option maxRecDepth 100000 in
set_option maxHeartbeats 0 in
theorem kz_E24 : ak_chS kz_K 142 kz_e24 = true ∧ ak_chE kz_M kz_CF kz_K kz_t24 142 kz_e24 kz_l24 3000 = true := by decide +kernel
set_option maxRecDepth 100000 in
set_option maxHeartbeats 0 in
theorem kz_E25 : ak_chS kz_K 142 kz_e25 = true ∧ ak_chE kz_M kz_CF kz_K kz_t25 142 kz_e25 kz_l25 3000 = true := by decide +kernel
set_option maxRecDepth 100000 in
set_option maxHeartbeats 0 in
theorem kz_E26 : ak_chS kz_K 105 kz_e26 = true ∧ ak_chE kz_M kz_CF kz_K kz_t26 105 kz_e26 kz_l26 3000 = true := by decide +kernel
set_option maxRecDepth 100000 in
set_option maxHeartbeats 0 in
theorem kz_N26_0 : ak_chN kz_M kz_CF kz_K kz_t26 105 kz_e26 kz_l26 3000 kz_n26_0 = true := by decide +kernel
set_option maxRecDepth 100000 in
set_option maxHeartbeats 0 in
theorem kz_N26_1 : ak_chN kz_M kz_CF kz_K kz_t26 105 kz_e26 kz_l26 3000 kz_n26_1 = true := by decide +kernel
set_option maxRecDepth 100000 in
set_option maxHeartbeats 0 in
theorem kz_N26_2 : ak_chN kz_M kz_CF kz_K kz_t26 105 kz_e26 kz_l26 3000 kz_n26_2 = true := by decide +kernel
set_option maxRecDepth 100000 in
set_option maxHeartbeats 0 in
theorem kz_N26_3 : ak_chN kz_M kz_CF kz_K kz_t26 105 kz_e26 kz_l26 3000 kz_n26_3 = true := by decide +kernel
set_option maxRecDepth 100000 in
set_option maxHeartbeats 0 in
theorem kz_N26_4 : ak_chN kz_M kz_CF kz_K kz_t26 105 kz_e26 kz_l26 3000 kz_n26_4 = true := by decide +kernel
set_option maxRecDepth 100000 in
set_option maxHeartbeats 0 in
theorem kz_E27 : ak_chS kz_K 107 kz_e27 = true ∧ ak_chE kz_M kz_CF kz_K kz_t27 107 kz_e27 kz_l27 3000 = true := by decide +kernel
set_option maxRecDepth 100000 in
set_option maxHeartbeats 0 in
theorem kz_E28 : ak_chS kz_K 112 kz_e28 = true ∧ ak_chE kz_M kz_CF kz_K kz_t28 112 kz_e28 kz_l28 3000 = true := by decide +kernel
set_option maxRecDepth 100000 in
set_option maxHeartbeats 0 in
theorem kz_N28_0 : ak_chN kz_M kz_CF kz_K kz_t28 112 kz_e28 kz_l28 3000 kz_n28_0 = true := by decide +kernel
set_option maxRecDepth 100000 in
set_option maxHeartbeats 0 in
theorem kz_N28_1 : ak_chN kz_M kz_CF kz_K kz_t28 112 kz_e28 kz_l28 3000 kz_n28_1 = true := by decide +kernel
set_option maxRecDepth 100000 in
set_option maxHeartbeats 0 in
theorem kz_N28_2 : ak_chN kz_M kz_CF kz_K kz_t28 112 kz_e28 kz_l28 3000 kz_n28_2 = true := by decide +kernel
