/-! SYSTEM.ARRAYCOPY: class of the code, place; word. Laid by wip/am/gen_tables.py -/
def gm_acl : List ((Nat × Nat) × Nat) := [((2, 40), 756), ((5, 150), 1182)]
def gm_ac (o ix : Nat) : Bool := (gm_acl.lookup (o, ix)).isSome
theorem gm_acl_ok : gm_acl.all (fun q => decide (gm_tb (q.2) = some (.methodLink (gm_rn q.1.1) q.1.2 arraycopyName))) = true := by decide +kernel
set_option maxRecDepth 100000 in
theorem gm_ac1 : (.native arraycopyName : Jvm.Cond) ∈ gm_T := gm_T_in (i := 758) (by decide +kernel) rfl
set_option maxRecDepth 100000 in
theorem gm_ac2 : (.static arraycopyName : Jvm.Cond) ∈ gm_T := gm_T_in (i := 757) (by decide +kernel) rfl
set_option maxRecDepth 100000 in
theorem gm_ac3 : (.initialized "java/lang/System" : Jvm.Cond) ∈ gm_T := gm_T_in (i := 168) (by decide +kernel) rfl
