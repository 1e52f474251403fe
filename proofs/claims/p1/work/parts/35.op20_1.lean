set_option maxRecDepth 100000 in
set_option maxHeartbeats 0 in
theorem la_op20_1_0 : ai_lx la_no 1000000 30 1000000 733 102 3945 (ai_set la_T20_1 (1, 3) (2, 14)) la_M2 la_l [(2, 1)] = true := by decide +kernel
set_option maxRecDepth 100000 in
set_option maxHeartbeats 0 in
theorem la_op20_1_1 : ai_lx la_no 1000000 30 1000000 733 102 3945 (ai_set la_T20_1 (1, 3) (15, 19)) la_M2 la_l [(2, 1)] = true := by decide +kernel
set_option maxRecDepth 100000 in
set_option maxHeartbeats 0 in
theorem la_op20_1_2 : ai_lx la_no 1000000 30 1000000 733 102 3945 (ai_set la_T20_1 (1, 3) (20, 20)) la_M2 la_l [(2, 1)] = true := by decide +kernel
