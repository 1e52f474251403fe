theorem tt_1 : (ai_ex false 0 0 60000 30 78 0 (0, 0, [], [(0, 5, ai_dv 5)], [(0, (4, 0))], [])).isSome = true := by decide +kernel
