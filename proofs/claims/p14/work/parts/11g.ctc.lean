/-! WHAT IS CAUGHT: class of the code, place; the number of the class caught; word. Laid by wip/am/gen_tables.py -/
def gm_ctl : List ((Nat × Nat) × Nat × Nat) := [((15, 13), 0, 808), ((15, 15), 1, 809), ((15, 28), 3, 1214), ((15, 37), 4, 1259), ((15, 57), 2, 1359)]
def gm_ctc (o ix : Nat) : Option Nat := (gm_ctl.lookup (o, ix)).map fun q => q.1
theorem gm_ctl_ok : gm_ctl.all (fun q => decide (q.2.1 < 5) && decide (gm_tb (q.2.2) = some (.classLink (gm_rn q.1.1) q.1.2 (gm_xn q.2.1)))) = true := by decide +kernel
