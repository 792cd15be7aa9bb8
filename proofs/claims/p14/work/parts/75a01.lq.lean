/-! THE CLASS'S law(): reading, and a new Law (laid by wip/am/p2m.py). -/
set_option maxRecDepth 100000 in
/-- GlacierMail$Ice.renew -/
def pm_s91 : ck_Sum := ((2, 0, 0), 249, [.inr (.inr (.inl 200))], ([], [], []), ([(200, 6, 6), (201, 0, 299), (202, 0, 593), (203, 0, 299)], []), [(.inr none, 249, ([], [], [(200, 6, 6, ck_one 1)]))])
set_option maxRecDepth 100000 in
theorem pm_s91_e : ck_ok p2_OL none [] [(6, [pm_s82]), (7, [pm_s86]), (12, [pm_s90])] 5 [] 90 pm_s91 = true := by decide +kernel
theorem pm_s91_s {X : Int → Int} {LX : Nat} : ck_Ok p2_OL X LX 5 pm_s91 := ck_ok_s ⟨pl_nmu, ck_E1 (ck_S1 pm_s82_s ck_S0) (ck_E1 (ck_S1 pm_s86_s ck_S0) (ck_E1 (ck_S1 pm_s90_s ck_S0) ck_E0))⟩ ck_X0 ck_l0 pm_s91_e
set_option maxRecDepth 100000 in
/-- GlacierMail$History.forget -/
def pm_s92 : ck_Sum := ((0, 0, 0), 249, [.inr (.inr (.inl 42))], ([], [], []), ([(42, 2, 2)], []), [(.inr none, 249, ([], [], [(42, 2, 2, ck_one 0)]))])
set_option maxRecDepth 100000 in
theorem pm_s92_e : ck_ok p2_OL none [] [] 62 [] 78 pm_s92 = true := by decide +kernel
theorem pm_s92_s {X : Int → Int} {LX : Nat} : ck_Ok p2_OL X LX 62 pm_s92 := ck_ok_s ⟨pl_nmu, ck_E0⟩ ck_X0 ck_l0 pm_s92_e
set_option maxRecDepth 100000 in
/-- GlacierMail.forgetWays -/
def lq_fw : ck_Sum := ((3, 0, 0), 249, [.inr (.inr (.inl 1))], ([], [], []), ([(1, 15, 15), (42, 2, 2), (200, 6, 6), (201, 0, 299), (202, 0, 593), (203, 0, 299)], []), [(.inr none, 249, ([], [], [(1, 15, 15, ck_one 0), (42, 2, 2, ck_one 0), (200, 6, 6, ck_one 1)]))])
set_option maxRecDepth 100000 in
theorem lq_fw_e : ck_ok p2_OL none [] [(5, [pm_s91]), (62, [pm_s92])] 61 [] 90 lq_fw = true := by decide +kernel
theorem lq_fw_s {X : Int → Int} {LX : Nat} : ck_Ok p2_OL X LX 61 lq_fw := ck_ok_s ⟨pl_nmu, ck_E1 (ck_S1 pm_s91_s ck_S0) (ck_E1 (ck_S1 pm_s92_s ck_S0) ck_E0)⟩ ck_X0 ck_l0 lq_fw_e
set_option maxRecDepth 100000 in
/-- GlacierMail$Rows.size -/
def pm_s94 : ck_Sum := ((0, 0, 0), 249, [.inr (.inr (.inl 248))], ([], [], []), ([], []), [(.inr (some (.inl (0, 12, []))), 249, ([], [], []))])
set_option maxRecDepth 100000 in
theorem pm_s94_e : ck_ok p2_OL none [] [] 9 [] 76 pm_s94 = true := by decide +kernel
theorem pm_s94_s {X : Int → Int} {LX : Nat} : ck_Ok p2_OL X LX 9 pm_s94 := ck_ok_s ⟨pl_nmu, ck_E0⟩ ck_X0 ck_l0 pm_s94_e
set_option maxRecDepth 100000 in
/-- GlacierMail.lawLines -/
def lq_ll : ck_Sum := ((1, 0, 0), 249, [.inr (.inr (.inl 1))], ([], [(3, 8, 246)], []), ([], []), [(.inr (some (.inl (0, 12, []))), 249, ([], [], []))])
set_option maxRecDepth 100000 in
theorem lq_ll_e : ck_ok p2_OL none [] [(9, [pm_s94])] 64 [] 90 lq_ll = true := by decide +kernel
theorem lq_ll_s {X : Int → Int} {LX : Nat} : ck_Ok p2_OL X LX 64 lq_ll := ck_ok_s ⟨pl_nmu, ck_E1 (ck_S1 pm_s94_s ck_S0) ck_E0⟩ ck_X0 ck_l0 lq_ll_e
