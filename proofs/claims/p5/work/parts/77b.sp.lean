/-! THE LAW'S CASES that tell something of the TAPE: feed, end, law. -/
def lqh_o (N : Nat) : ck_Oc := (.inr (some (.inl (ck_one 0))), 249, (lq_oc N).2.2)
def lqh_W : List (Nat × Int × Int) × List (Nat × Int) := ((245, 0, 0) :: lq_W.1, lq_W.2)
/-- GlacierMailLaw.law, the one that calls the class -/
def lqh_S : ck_Sum := ((26, 5, 470), 245, [.inr (.inr (.inl 1)), .inr (.inr (.inl 245))], ([], [(3, 8, 100003)], [(216, 3, 3, (0, 400, [(13, 0)])), (1, 1, 1, (0, 400, [(6, 0)]))]), lqh_W, (.inr (some (.inl (ck_one 1))), 245, ([], [(3, 8, 100003)], [(1, 1, 1, ck_one 0)])) :: (List.range 401).map lqh_o)
set_option maxRecDepth 100000 in
theorem lqh_e : ck_ok p2_O none [] [(123, [lq_S])] 122 [] 60 lqh_S = true := by decide +kernel
theorem lqh_s {X : Int → Int} {LX : Nat} : ck_Ok p2_O X LX 122 lqh_S := ck_ok_s ⟨p2_nmu, ck_E1 (ck_S1 lq_S_s ck_S0) ck_E0⟩ ck_X0 ck_l0 lqh_e
