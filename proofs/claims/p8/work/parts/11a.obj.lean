/-- Object's constructor: class of the code, place; word -/
noncomputable def gm_oil : List ((Nat × Nat) × Nat) := [((0, 3), 188), ((1, 3), 196), ((2, 3), 202), ((3, 3), 312), ((4, 3), 331), ((7, 3), 391), ((8, 3), 429), ((10, 3), 453), ((11, 3), 459), ((13, 3), 1186), ((20, 7), 1683)]
noncomputable def gm_oi (o ix : Nat) : Bool := (gm_oil.lookup (o, ix)).isSome
theorem gm_oil_ok : gm_oil.all (fun q => decide (gm_tb (q.2) = some (.methodLink (gm_rn q.1.1) q.1.2 Lib.objectInit))) = true := by decide +kernel
set_option maxRecDepth 100000 in
theorem gm_oi1 : Jvm.Cond.instanceMethod Lib.objectInit ∈ gm_T := gm_T_in (i := 189) (by decide +kernel) rfl
set_option maxRecDepth 100000 in
theorem gm_oi2 : Jvm.Cond.code Lib.objectInit ⟨#[0xb1]⟩ 1 none ∈ gm_T := gm_T_in (i := 190) (by decide +kernel) rfl
noncomputable def gm_jmax : Nat := 11
noncomputable def gm_jmin : Nat := 26
set_option maxRecDepth 100000 in
theorem gm_jwmax : Jvm.Cond.code Lib.Math.max.name Lib.Math.max.code 2 (some .int) ∈ gm_T := gm_T_in (i := 358) (by decide +kernel) rfl
theorem gm_jnmax : gm_mn gm_jmax = Lib.Math.max.name := by decide +kernel
set_option maxRecDepth 100000 in
theorem gm_jwmin : Jvm.Cond.code Lib.Math.min.name Lib.Math.min.code 2 (some .int) ∈ gm_T := gm_T_in (i := 610) (by decide +kernel) rfl
theorem gm_jnmin : gm_mn gm_jmin = Lib.Math.min.name := by decide +kernel
/-- the number of a method's class among those of which objects are made -/
noncomputable def gm_cio (i : Nat) : Nat := (([0, 1, 2, 3, 4, 4, 4, 4, 999, 2, 2, 999, 4, 5, 6, 7, 999, 8, 9, 0, 0, 0, 0, 0, 0, 2, 999, 5, 1, 5, 5, 5, 5, 5, 4, 4, 4, 4, 999, 4, 10, 10, 4, 5, 4, 2, 0, 0, 0, 999, 0, 0, 0, 0, 0, 3, 3, 1, 2, 0, 0, 0, 3, 0, 0, 0, 0, 0, 0, 3, 999, 0, 999, 9, 7, 8, 8, 8, 8, 9, 9, 8, 999, 999, 999, 999, 999, 999, 999, 999, 999, 999, 999, 8, 8, 8, 9, 9, 8, 9, 9, 9, 2, 7, 7, 1, 7, 7, 2, 7, 7, 7, 8, 7, 7, 7, 7, 7, 7, 1, 7, 8, 999, 0, 9, 999, 10, 999, 0, 0, 999, 0, 0, 0, 0, 999, 0, 999, 0, 0, 0, 999, 0, 0, 0, 0, 999, 0, 5, 999, 0, 999, 0, 0, 3, 999, 0, 999, 0, 1, 999, 0, 0, 0, 4, 10, 999, 0, 999, 0, 5, 999, 0, 999, 0, 5, 999, 0, 999, 0, 0, 0, 0, 0, 0, 999, 0, 0, 0, 999, 0, 999, 0, 0, 999, 0, 999, 0, 0, 0, 999, 0, 6, 6, 6, 6, 999, 0, 6, 6, 999, 0, 999, 0, 0, 0, 0, 999, 0, 0, 999, 0, 999, 0, 999, 0, 999, 0, 999, 0, 999, 0, 999, 0, 11, 11, 11, 11, 11, 11, 11, 11, 11, 11, 11, 11, 11, 11, 11, 11, 11, 11, 11, 11, 11, 11, 11, 11, 11, 11, 11, 11, 11, 11, 11, 11, 11, 11, 11, 11, 11, 11, 11, 11, 11, 11, 11, 11, 11, 11, 11, 11, 11, 11, 11, 11, 11, 11, 11, 11, 11, 11, 11, 11, 11, 11, 11, 11, 11, 11, 11, 11, 11, 11, 11, 11, 11, 11, 11, 11, 11, 11, 11, 11, 11, 11, 11, 11, 11, 11, 11, 11, 11, 11, 11, 11, 11, 11, 11, 11, 11, 11, 11, 11, 11, 11, 11, 11, 11, 11, 11, 11, 11, 11, 11, 11, 11, 11, 11, 11, 11, 11, 11, 11, 11, 11, 11, 11, 11, 11, 11, 11, 11, 11, 11, 11, 11, 11, 11, 11, 999] : List Nat)[i]?).getD 999
theorem gm_cio_ok : (List.range 371).all (fun i => decide (gm_cio i = 999) || (decide (gm_cio i < 12) && decide (gm_cn (gm_cio i) = (gm_mn i).cls))) = true := by decide +kernel
