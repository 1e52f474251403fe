def la_M2 : ai_M := la_M.set 41 (0, 0, [(4, 1), (4, 42), (4, 43), (4, 44), (4, 45), (4, 46), (4, 47), (4, 48), (0, 0), (0, 0), (0, 20), (0, 0), (0, 0)])
def la_T20_0 : ai_T := [(6, 6), la_q, la_q, (1, 20), (0, 0), la_q, la_q, (20, 20), la_q, la_q, la_q, la_q, la_q, la_q, la_q, la_q, la_q, la_q, la_q, la_q, la_q, la_q, la_q, la_q, la_q, la_q, la_q, la_q]
def la_T20_1 : ai_T := [(6, 6), la_q, la_q, (2, 20), (1, 1), la_q, la_q, (20, 20), la_q, la_q, la_q, la_q, la_q, la_q, la_q, la_q, la_q, la_q, la_q, la_q, la_q, la_q, la_q, la_q, la_q, la_q, la_q, la_q]
noncomputable def la_k2 : ai_Z := fun pc ce sl T M l st => bif Nat.beq pc 733 && (la_teq T la_T20_0 || la_teq T la_T20_1) then (Nat.beq ce 102 && Nat.beq sl 3945) && (la_leq l la_l && (decide (st = [(2, 1)]) && ai_leq ai_ceq M la_M2)) else false
set_option maxRecDepth 100000 in
set_option maxHeartbeats 0 in
theorem la_op20 : ai_lx la_k2 1000000 30 1000000 714 102 3945 (la_Tk 20) la_M la_l [] = true := by decide +kernel
