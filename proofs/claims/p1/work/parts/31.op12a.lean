set_option maxRecDepth 100000 in
set_option maxHeartbeats 0 in
theorem la_op12_0 : ai_lx la_no 1000000 30 1000000 490 102 3945 [(6, 6), la_q, la_q, (-2147483648, -1), la_q, la_q, la_q, (12, 12)] la_M la_l [] = true := by decide +kernel
set_option maxRecDepth 100000 in
set_option maxHeartbeats 0 in
theorem la_op12_1 : ai_lx la_no 1000000 30 1000000 490 102 3945 [(6, 6), la_q, la_q, (4, 2147483647), la_q, la_q, la_q, (12, 12)] la_M la_l [] = true := by decide +kernel
set_option maxRecDepth 100000 in
set_option maxHeartbeats 0 in
theorem la_op12_2 : ai_lx la_no 1000000 30 1000000 490 102 3945 [(6, 6), la_q, (-2147483648, 30), (0, 0), la_q, la_q, la_q, (12, 12)] la_M la_l [] = true := by decide +kernel
set_option maxRecDepth 100000 in
set_option maxHeartbeats 0 in
theorem la_op12_3 : ai_lx la_no 1000000 30 1000000 490 102 3945 [(6, 6), la_q, (31, 2147483647), (0, 0), la_q, la_q, la_q, (12, 12)] la_M la_l [] = true := by decide +kernel
set_option maxRecDepth 100000 in
set_option maxHeartbeats 0 in
theorem la_op12_4 : ai_lx la_no 1000000 30 1000000 490 102 3945 [(6, 6), la_q, (-2147483648, 30), (1, 1), la_q, la_q, la_q, (12, 12)] la_M la_l [] = true := by decide +kernel
set_option maxRecDepth 100000 in
set_option maxHeartbeats 0 in
theorem la_op12_5 : ai_lx la_no 1000000 30 1000000 490 102 3945 [(6, 6), la_q, (31, 2147483647), (1, 1), la_q, la_q, la_q, (12, 12)] la_M la_l [] = true := by decide +kernel
