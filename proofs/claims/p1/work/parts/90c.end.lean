/-! The entry, laid by wip/am/p1e.py. -/
def p1_E0 : List (Nat × List ck_Sum) := [(0, [pc_130]), (235, [pc_132])]
theorem p1_E0h {X : Int → Int} {LX : Nat} : ck_OkE ck_O0 X LX p1_E0 := ck_E1 (ck_S1 pc_130_s ck_S0) (ck_E1 (ck_S1 pc_132_s ck_S0) ck_E0)
set_option maxRecDepth 100000 in
theorem p1_pre : ck_to ck_O0 p1_E0 370 280 0 ([], []) p1_outs 23 p1_L 245 p1_F1 1000 2000 60 600002 7302232 0 [some (.inr (.inr (.inr 2000))), none, none, none, none, none, none] [] 0 ([], [], []) = true := by decide +kernel
