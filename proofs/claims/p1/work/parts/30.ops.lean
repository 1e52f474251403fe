set_option maxRecDepth 100000 in
set_option maxHeartbeats 0 in
theorem la_op0 : ai_lx la_no 1000000 30 1000000 164 102 3945 (la_Tk 0) la_M la_l [] = true := by decide +kernel
set_option maxRecDepth 100000 in
set_option maxHeartbeats 0 in
theorem la_op1 : ai_lx la_no 1000000 30 1000000 207 102 3945 (la_Tk 1) la_M la_l [] = true := by decide +kernel
set_option maxRecDepth 100000 in
set_option maxHeartbeats 0 in
theorem la_op2 : ai_lx la_no 1000000 30 1000000 250 102 3945 (la_Tk 2) la_M la_l [] = true := by decide +kernel
set_option maxRecDepth 100000 in
set_option maxHeartbeats 0 in
theorem la_op3 : ai_lx la_no 1000000 30 1000000 283 102 3945 (la_Tk 3) la_M la_l [] = true := by decide +kernel
set_option maxRecDepth 100000 in
set_option maxHeartbeats 0 in
theorem la_op4 : ai_lx la_no 1000000 30 1000000 316 102 3945 (la_Tk 4) la_M la_l [] = true := by decide +kernel
set_option maxRecDepth 100000 in
set_option maxHeartbeats 0 in
theorem la_op5 : ai_lx la_no 1000000 30 1000000 359 102 3945 (la_Tk 5) la_M la_l [] = true := by decide +kernel
set_option maxRecDepth 100000 in
set_option maxHeartbeats 0 in
theorem la_op6 : ai_lx la_no 1000000 30 1000000 382 102 3945 (la_Tk 6) la_M la_l [] = true := by decide +kernel
set_option maxRecDepth 100000 in
set_option maxHeartbeats 0 in
theorem la_op7 : ai_lx la_no 1000000 30 1000000 405 102 3945 (la_Tk 7) la_M la_l [] = true := by decide +kernel
set_option maxRecDepth 100000 in
set_option maxHeartbeats 0 in
theorem la_op8 : ai_lx la_no 1000000 30 1000000 418 102 3945 (la_Tk 8) la_M la_l [] = true := by decide +kernel
set_option maxRecDepth 100000 in
set_option maxHeartbeats 0 in
theorem la_op9 : ai_lx la_no 1000000 30 1000000 441 102 3945 (la_Tk 9) la_M la_l [] = true := by decide +kernel
set_option maxRecDepth 100000 in
set_option maxHeartbeats 0 in
theorem la_op10 : ai_lx la_no 1000000 30 1000000 464 102 3945 (la_Tk 10) la_M la_l [] = true := by decide +kernel
set_option maxRecDepth 100000 in
set_option maxHeartbeats 0 in
theorem la_op11 : ai_lx la_no 1000000 30 1000000 477 102 3945 (la_Tk 11) la_M la_l [] = true := by decide +kernel
set_option maxRecDepth 100000 in
set_option maxHeartbeats 0 in
theorem la_op13 : ai_lx la_no 1000000 30 1000000 523 102 3945 (la_Tk 13) la_M la_l [] = true := by decide +kernel
set_option maxRecDepth 100000 in
set_option maxHeartbeats 0 in
theorem la_op14 : ai_lx la_no 1000000 30 1000000 546 102 3945 (la_Tk 14) la_M la_l [] = true := by decide +kernel
set_option maxRecDepth 100000 in
set_option maxHeartbeats 0 in
theorem la_op15 : ai_lx la_no 1000000 30 1000000 569 102 3945 (la_Tk 15) la_M la_l [] = true := by decide +kernel
set_option maxRecDepth 100000 in
set_option maxHeartbeats 0 in
theorem la_op16 : ai_lx la_no 1000000 30 1000000 592 102 3945 (la_Tk 16) la_M la_l [] = true := by decide +kernel
set_option maxRecDepth 100000 in
set_option maxHeartbeats 0 in
theorem la_op17 : ai_lx la_no 1000000 30 1000000 615 102 3945 (la_Tk 17) la_M la_l [] = true := by decide +kernel
set_option maxRecDepth 100000 in
set_option maxHeartbeats 0 in
theorem la_op18 : ai_lx la_no 1000000 30 1000000 658 102 3945 (la_Tk 18) la_M la_l [] = true := by decide +kernel
set_option maxRecDepth 100000 in
set_option maxHeartbeats 0 in
theorem la_op19 : ai_lx la_no 1000000 30 1000000 691 102 3945 (la_Tk 19) la_M la_l [] = true := by decide +kernel
set_option maxRecDepth 100000 in
set_option maxHeartbeats 0 in
theorem la_op21 : ai_lx la_no 1000000 30 1000000 758 102 3945 (la_Tk 21) la_M la_l [] = true := by decide +kernel
set_option maxRecDepth 100000 in
set_option maxHeartbeats 0 in
theorem la_op22 : ai_lx la_no 1000000 30 1000000 771 102 3945 (la_Tk 22) la_M la_l [] = true := by decide +kernel
set_option maxRecDepth 100000 in
set_option maxHeartbeats 0 in
theorem la_op23 : ai_lx la_no 1000000 30 1000000 784 102 3945 (la_Tk 23) la_M la_l [] = true := by decide +kernel
set_option maxRecDepth 100000 in
set_option maxHeartbeats 0 in
theorem la_op24 : ai_lx la_no 1000000 30 1000000 807 102 3945 (la_Tk 24) la_M la_l [] = true := by decide +kernel
set_option maxRecDepth 100000 in
set_option maxHeartbeats 0 in
theorem la_op25 : ai_lx la_no 1000000 30 1000000 850 102 3945 (la_Tk 25) la_M la_l [] = true := by decide +kernel
set_option maxRecDepth 100000 in
set_option maxHeartbeats 0 in
theorem la_op26 : ai_lx la_no 1000000 30 1000000 893 102 3945 (la_Tk 26) la_M la_l [] = true := by decide +kernel
set_option maxRecDepth 100000 in
set_option maxHeartbeats 0 in
theorem la_op27 : ai_lx la_no 1000000 30 1000000 956 102 3945 (la_Tk 27) la_M la_l [] = true := by decide +kernel
set_option maxRecDepth 100000 in
set_option maxHeartbeats 0 in
theorem la_op28 : ai_lx la_no 1000000 30 1000000 1009 102 3945 (la_Tk 28) la_M la_l [] = true := by decide +kernel
