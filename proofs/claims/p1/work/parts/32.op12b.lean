set_option maxRecDepth 100000 in
set_option maxHeartbeats 0 in
theorem la_op12_6 : ai_lx la_no 1000000 30 1000000 490 102 3945 [(6, 6), la_q, (-2147483648, 30), (2, 2), la_q, la_q, la_q, (12, 12)] la_M la_l [] = true := by decide +kernel
set_option maxRecDepth 100000 in
set_option maxHeartbeats 0 in
theorem la_op12_7 : ai_lx la_no 1000000 30 1000000 490 102 3945 [(6, 6), la_q, (31, 2147483647), (2, 2), la_q, la_q, la_q, (12, 12)] la_M la_l [] = true := by decide +kernel
set_option maxRecDepth 100000 in
set_option maxHeartbeats 0 in
theorem la_op12_8 : ai_lx la_no 1000000 30 1000000 490 102 3945 [(6, 6), la_q, (-2147483648, 30), (3, 3), la_q, la_q, la_q, (12, 12)] la_M la_l [] = true := by decide +kernel
set_option maxRecDepth 100000 in
set_option maxHeartbeats 0 in
theorem la_op12_9 : ai_lx la_no 1000000 30 1000000 490 102 3945 [(6, 6), la_q, (31, 2147483647), (3, 3), la_q, la_q, la_q, (12, 12)] la_M la_l [] = true := by decide +kernel
