set_option maxRecDepth 1000000 in
set_option maxHeartbeats 0 in
theorem ai_t1 : (ai_ex false 0 0 100000 20 78 0 (0, 0, [], [(0, 0, ai_dv 0)], [(0, (4, 0))], [])).isSome = true := by decide +kernel
