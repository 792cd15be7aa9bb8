/-! ROWS THAT KEEP SOMETHING, again under q0_O (laid by wip/rel/gh2.py). -/
section GH0
variable {X : Int → Int} {LX : Nat}
theorem Q240 : ck_Ok q0_O X LX 24 (q24 0 q24_W0) := q24_0 p2_s349_s
theorem q0l_p2_s331 : ck_Ok q0_O X LX 9 p2_s331 := q0_l p2_s331_s (by decide +kernel)
theorem q0l_p2_s335 : ck_Ok q0_O X LX 10 p2_s335 := q0_l p2_s335_s (by decide +kernel)
theorem q0l_p2_s352 : ck_Ok q0_O X LX 66 p2_s352 := q0_l p2_s352_s (by decide +kernel)
def q_p2_s353 : ck_Sum := ((21, 0, 0), 245, [.inr (.inr (.inl 1)), .inl (0, 7, [])], ([], [(3, 8, 0)], [(3, 6, 6, (0, 299, [(10, 0)]))]), ([(1, 15, 15), (206, 2, 8), (220, 3, 3), (221, 0, 47)], []), [(.inr (some (.inl ((-2147483648), 2147483647, []))), 245, ([], [], [(1, 15, 15, ck_one 1)]))])
set_option maxRecDepth 100000 in
theorem q_p2_s353_e : ck_ok q0_O none [] [(24, [(q24 0 q24_W0)]), (9, [p2_s331]), (10, [p2_s335]), (66, [p2_s352])] 65 [(8, [some (.inr (.inr (.inl 1))), some (.inl (0, 7, [])), some (.inl ((-2147483648), 2147483647, [])), some (.inl (0, 24, [])), none], ([], [(3, 8, 0)], [(1, 15, 15, ck_one 1), (3, 6, 6, (0, 299, [(10, 0)]))]), 100, .inl 3, true)] 210 q_p2_s353 = true := by decide +kernel
theorem q_p2_s353_s : ck_Ok q0_O X LX 65 q_p2_s353 := ck_ok_s ⟨q0_nmu, (ck_E1 (ck_S1 Q240 ck_S0) (ck_E1 (ck_S1 q0l_p2_s331 ck_S0) (ck_E1 (ck_S1 q0l_p2_s335 ck_S0) (ck_E1 (ck_S1 q0l_p2_s352 ck_S0) ck_E0))))⟩ ck_X0 ck_l0 q_p2_s353_e
theorem q0l_p2_s328 : ck_Ok q0_O X LX 139 p2_s328 := q0_l p2_s328_s (by decide +kernel)
theorem q0l_p2_s354 : ck_Ok q0_O X LX 140 p2_s354 := q0_l p2_s354_s (by decide +kernel)
theorem q0l_p2_s355 : ck_Ok q0_O X LX 140 p2_s355 := q0_l p2_s355_s (by decide +kernel)
theorem q0l_p2_s356 : ck_Ok q0_O X LX 10 p2_s356 := q0_l p2_s356_s (by decide +kernel)
def q_p2_s357 : ck_Sum := ((24, 2, 12), 245, [.inr (.inr (.inl 1)), .inl (0, 7, []), .inl (0, 9, [])], ([], [(3, 8, 0)], [(3, 6, 6, (0, 299, [(10, 0)]))]), ([(1, 15, 15), (206, 2, 8), (220, 3, 3), (221, 0, 47)], []), [(.inl 3, 245, ([], [], [])), (.inl 4, 245, ([], [], [])), (.inr (some (.inl ((-2147483648), 2147483647, []))), 245, ([], [], []))])
set_option maxRecDepth 100000 in
theorem q_p2_s357_e : ck_ok q0_O none [] [(139, [p2_s328]), (65, [q_p2_s353]), (140, [p2_s354, p2_s355]), (10, [p2_s356])] 138 [] 94 q_p2_s357 = true := by decide +kernel
theorem q_p2_s357_s : ck_Ok q0_O X LX 138 q_p2_s357 := ck_ok_s ⟨q0_nmu, (ck_E1 (ck_S1 q0l_p2_s328 ck_S0) (ck_E1 (ck_S1 q_p2_s353_s ck_S0) (ck_E1 (ck_S1 q0l_p2_s354 (ck_S1 q0l_p2_s355 ck_S0)) (ck_E1 (ck_S1 q0l_p2_s356 ck_S0) ck_E0))))⟩ ck_X0 ck_l0 q_p2_s357_e
theorem q0l_p2_s332 : ck_Ok q0_O X LX 9 p2_s332 := q0_l p2_s332_s (by decide +kernel)
theorem q0l_p2_s350 : ck_Ok q0_O X LX 10 p2_s350 := q0_l p2_s350_s (by decide +kernel)
def q_p2_s1369 : ck_Sum := ((21, 0, 0), 245, [.inr (.inr (.inl 1))], ([], [(3, 8, 0)], []), ([(1, 15, 15), (206, 2, 8), (220, 3, 3), (221, 0, 47)], []), [(.inr (some (.inl ((-2147483648), 2147483647, []))), 245, ([], [], [(1, 15, 15, ck_one 1)]))])
set_option maxRecDepth 100000 in
theorem q_p2_s1369_e : ck_ok q0_O none [] [(24, [(q24 0 q24_W0)]), (9, [p2_s332]), (10, [p2_s350])] 23 [(8, [some (.inr (.inr (.inl 1))), some (.inl ((-2147483648), 2147483647, [])), some (.inl (0, 24, []))], ([], [(3, 8, 0)], [(1, 15, 15, ck_one 1)]), 100, .inl 2, true)] 174 q_p2_s1369 = true := by decide +kernel
theorem q_p2_s1369_s : ck_Ok q0_O X LX 23 q_p2_s1369 := ck_ok_s ⟨q0_nmu, (ck_E1 (ck_S1 Q240 ck_S0) (ck_E1 (ck_S1 q0l_p2_s332 ck_S0) (ck_E1 (ck_S1 q0l_p2_s350 ck_S0) ck_E0)))⟩ ck_X0 ck_l0 q_p2_s1369_e
theorem q0l_p2_s1371 : ck_Ok q0_O X LX 47 p2_s1371 := q0_l p2_s1371_s (by decide +kernel)
def q_p2_s1372 : ck_Sum := ((21, 0, 0), 245, [.inr (.inr (.inl 1)), .inl (0, 1, [])], ([], [(3, 8, 0)], []), ([(1, 15, 15), (206, 2, 8), (220, 3, 3), (221, 0, 47)], []), [(.inr (some (.inl ((-2147483648), 299, []))), 245, ([], [], [(1, 15, 15, ck_one 1)])), (.inr (some (.inl (0, 2147483647, []))), 245, ([], [], [(1, 15, 15, ck_one 1)]))])
set_option maxRecDepth 100000 in
theorem q_p2_s1372_e : ck_ok q0_O none [] [(24, [(q24 0 q24_W0)]), (9, [p2_s332]), (10, [p2_s350]), (47, [p2_s1371])] 46 [(11, [some (.inr (.inr (.inl 1))), some (.inl (0, 1, [])), some (.inl ((-2147483648), 299, [])), some (.inl (0, 2147483647, [])), some (.inl (0, 24, [])), none, none], ([], [(3, 8, 0)], [(1, 15, 15, ck_one 1)]), 100, .inl 4, true)] 230 q_p2_s1372 = true := by decide +kernel
theorem q_p2_s1372_s : ck_Ok q0_O X LX 46 q_p2_s1372 := ck_ok_s ⟨q0_nmu, (ck_E1 (ck_S1 Q240 ck_S0) (ck_E1 (ck_S1 q0l_p2_s332 ck_S0) (ck_E1 (ck_S1 q0l_p2_s350 ck_S0) (ck_E1 (ck_S1 q0l_p2_s1371 ck_S0) ck_E0))))⟩ ck_X0 ck_l0 q_p2_s1372_e
theorem q0l_p2_s1558 : ck_Ok q0_O X LX 214 p2_s1558 := q0_l p2_s1558_s (by decide +kernel)
theorem q0l_p2_s1563 : ck_Ok q0_O X LX 215 p2_s1563 := q0_l p2_s1563_s (by decide +kernel)
theorem q0l_p2_s1565 : ck_Ok q0_O X LX 25 p2_s1565 := q0_l p2_s1565_s (by decide +kernel)
theorem q0l_p2_s1566 : ck_Ok q0_O X LX 10 p2_s1566 := q0_l p2_s1566_s (by decide +kernel)
theorem q0l_p2_s1561 : ck_Ok q0_O X LX 10 p2_s1561 := q0_l p2_s1561_s (by decide +kernel)
theorem q0l_p2_s1567 : ck_Ok q0_O X LX 216 p2_s1567 := q0_l p2_s1567_s (by decide +kernel)
theorem q0l_p2_s1568 : ck_Ok q0_O X LX 45 p2_s1568 := q0_l p2_s1568_s (by decide +kernel)
def q_p2_s1569 : ck_Sum := ((23, 1, 6), 245, [.inr (.inr (.inl 1)), .inl (0, 30, []), .inl (0, 1, [])], ([], [(3, 8, 0)], [(3, 6, 6, (0, 299, [(10, 0)]))]), ([(1, 15, 15), (206, 2, 8), (220, 3, 3), (221, 0, 47), (222, 3, 3), (223, 0, 179), (224, 3, 3), (225, 0, 185)], []), [(.inl 0, 245, ([], [], [])), (.inr (some (.inl ((-2147483648), 2147483647, []))), 245, ([], [], [(224, 3, 3, (1, 31, [])), (1, 15, 15, ck_one 1)])), (.inr (some (.inl (0, 5, []))), 245, ([], [], [(224, 3, 3, (1, 31, [])), (1, 15, 15, ck_one 1)]))])
set_option maxRecDepth 100000 in
theorem q_p2_s1569_e : ck_ok q0_O none [] [(214, [p2_s1558]), (24, [(q24 0 q24_W0)]), (215, [p2_s1563]), (25, [p2_s1565]), (10, [p2_s1566, p2_s1561]), (216, [p2_s1567]), (45, [p2_s1568])] 213 [(28, [some (.inr (.inr (.inl 1))), some (.inl (0, 30, [])), some (.inl (0, 1, [])), some (.inl ((-1), 29, [])), none], ([], [(3, 8, 0)], [(224, 3, 3, (1, 31, [])), (1, 15, 15, ck_one 1), (3, 6, 6, (0, 299, [(10, 0)]))]), 100, .inl 3, false), (94, [some (.inr (.inr (.inl 1))), some (.inl (0, 30, [])), some (.inl (0, 1, [])), some (.inl (0, 5, [])), some (.inl (1, 6, []))], ([], [(3, 8, 0)], [(224, 3, 3, (1, 31, [])), (1, 15, 15, ck_one 1), (3, 6, 6, (0, 299, [(10, 0)]))]), 300, .inl 4, true), (35, [some (.inr (.inr (.inl 1))), some (.inl (0, 30, [])), some (.inl (0, 1, [])), some (.inl (0, 29, [(100, 0)])), some (.inl (0, 6, []))], ([], [(3, 8, 0)], [(224, 3, 3, (1, 31, [])), (1, 15, 15, ck_one 1), (3, 6, 6, (0, 299, [(10, 0)]))]), 500, .inl 4, true)] 330 q_p2_s1569 = true := by decide +kernel
theorem q_p2_s1569_s : ck_Ok q0_O X LX 213 q_p2_s1569 := ck_ok_s ⟨q0_nmu, (ck_E1 (ck_S1 q0l_p2_s1558 ck_S0) (ck_E1 (ck_S1 Q240 ck_S0) (ck_E1 (ck_S1 q0l_p2_s1563 ck_S0) (ck_E1 (ck_S1 q0l_p2_s1565 ck_S0) (ck_E1 (ck_S1 q0l_p2_s1566 (ck_S1 q0l_p2_s1561 ck_S0)) (ck_E1 (ck_S1 q0l_p2_s1567 ck_S0) (ck_E1 (ck_S1 q0l_p2_s1568 ck_S0) ck_E0)))))))⟩ ck_X0 ck_l0 q_p2_s1569_e
theorem q0l_p2_s1585 : ck_Ok q0_O X LX 219 p2_s1585 := q0_l p2_s1585_s (by decide +kernel)
theorem q0l_p2_s1586 : ck_Ok q0_O X LX 219 p2_s1586 := q0_l p2_s1586_s (by decide +kernel)
def q_p2_s1587 : ck_Sum := ((23, 1, 6), 245, [.inr (.inr (.inl 1)), .inl (0, 30, []), .inl (0, 1, [])], ([], [(3, 8, 0)], [(3, 6, 6, (0, 299, [(10, 0)]))]), ([(1, 15, 15), (206, 2, 8), (220, 3, 3), (221, 0, 47), (222, 3, 3), (223, 0, 179)], []), [(.inl 0, 245, ([], [], [])), (.inr (some (.inl (0, 2147483647, []))), 245, ([], [], [(1, 15, 15, ck_one 1)]))])
set_option maxRecDepth 100000 in
theorem q_p2_s1587_e : ck_ok q0_O none [] [(214, [p2_s1558]), (24, [(q24 0 q24_W0)]), (215, [p2_s1563]), (219, [p2_s1585, p2_s1586])] 218 [(19, [some (.inr (.inr (.inl 1))), some (.inl (0, 30, [])), some (.inl (0, 1, [])), some (.inl (0, 5, [])), some (.inl (1, 6, []))], ([], [(3, 8, 0)], [(1, 15, 15, ck_one 1), (3, 6, 6, (0, 299, [(10, 0)]))]), 100, .inl 4, true)] 166 q_p2_s1587 = true := by decide +kernel
theorem q_p2_s1587_s : ck_Ok q0_O X LX 218 q_p2_s1587 := ck_ok_s ⟨q0_nmu, (ck_E1 (ck_S1 q0l_p2_s1558 ck_S0) (ck_E1 (ck_S1 Q240 ck_S0) (ck_E1 (ck_S1 q0l_p2_s1563 ck_S0) (ck_E1 (ck_S1 q0l_p2_s1585 (ck_S1 q0l_p2_s1586 ck_S0)) ck_E0))))⟩ ck_X0 ck_l0 q_p2_s1587_e
theorem q0l_p2_s253 : ck_Ok q0_O X LX 129 p2_s253 := q0_l p2_s253_s (by decide +kernel)
theorem q0l_p2_s1605 : ck_Ok q0_O X LX 47 p2_s1605 := q0_l p2_s1605_s (by decide +kernel)
def q_p2_s1606 : ck_Sum := ((21, 0, 0), 245, [.inr (.inr (.inl 1)), .inl (0, 299, [])], ([], [(3, 8, 0)], []), ([(1, 15, 15), (206, 2, 8), (220, 3, 3), (221, 0, 47)], []), [(.inr (some (.inl ((-2147483648), 2147483647, []))), 245, ([], [], [(1, 15, 15, ck_one 1)]))])
set_option maxRecDepth 100000 in
theorem q_p2_s1606_e : ck_ok q0_O none [] [(129, [p2_s253]), (24, [(q24 0 q24_W0)]), (47, [p2_s1605])] 223 [] 90 q_p2_s1606 = true := by decide +kernel
theorem q_p2_s1606_s : ck_Ok q0_O X LX 223 q_p2_s1606 := ck_ok_s ⟨q0_nmu, (ck_E1 (ck_S1 q0l_p2_s253 ck_S0) (ck_E1 (ck_S1 Q240 ck_S0) (ck_E1 (ck_S1 q0l_p2_s1605 ck_S0) ck_E0)))⟩ ck_X0 ck_l0 q_p2_s1606_e
theorem q0l_p2_s1610 : ck_Ok q0_O X LX 53 p2_s1610 := q0_l p2_s1610_s (by decide +kernel)
def q_p2_s1611 : ck_Sum := ((21, 0, 0), 245, [.inr (.inr (.inl 1)), .inl ((-2147483648), 2147483647, [])], ([], [(3, 8, 0)], []), ([(1, 15, 15), (206, 2, 8), (220, 3, 3), (221, 0, 47)], []), [(.inr (some (.inl (ck_one (-1)))), 245, ([], [], [(1, 15, 15, ck_one 1)])), (.inr (some (.inl (0, 23, []))), 245, ([], [], [(1, 15, 15, ck_one 1)]))])
set_option maxRecDepth 100000 in
theorem q_p2_s1611_e : ck_ok q0_O none [] [(24, [(q24 0 q24_W0)]), (9, [p2_s332]), (10, [p2_s350]), (53, [p2_s1610])] 52 [(6, [some (.inr (.inr (.inl 1))), some (.inl ((-2147483648), 2147483647, [])), some (.inl (0, 24, []))], ([], [(3, 8, 0)], [(1, 15, 15, ck_one 1)]), 100, .inl 2, true)] 170 q_p2_s1611 = true := by decide +kernel
theorem q_p2_s1611_s : ck_Ok q0_O X LX 52 q_p2_s1611 := ck_ok_s ⟨q0_nmu, (ck_E1 (ck_S1 Q240 ck_S0) (ck_E1 (ck_S1 q0l_p2_s332 ck_S0) (ck_E1 (ck_S1 q0l_p2_s350 ck_S0) (ck_E1 (ck_S1 q0l_p2_s1610 ck_S0) ck_E0))))⟩ ck_X0 ck_l0 q_p2_s1611_e
theorem q0l_p2_s351 : ck_Ok q0_O X LX 67 p2_s351 := q0_l p2_s351_s (by decide +kernel)
def q_p2_s1615 : ck_Sum := ((21, 0, 0), 245, [.inr (.inr (.inl 1)), .inl (0, 299, []), .inl (0, 1, [])], ([], [(3, 8, 0)], []), ([(1, 15, 15), (206, 2, 8), (220, 3, 3), (221, 0, 47)], []), [(.inr (some (.inl ((-2147483648), 2147483647, []))), 245, ([], [], [(1, 15, 15, ck_one 1)]))])
set_option maxRecDepth 100000 in
theorem q_p2_s1615_e : ck_ok q0_O none [] [(129, [p2_s253]), (24, [(q24 0 q24_W0)]), (9, [p2_s332]), (10, [p2_s335, p2_s350]), (67, [p2_s351])] 225 [(14, [some (.inr (.inr (.inl 1))), some (.inl (0, 299, [])), some (.inl (0, 1, [])), some (.inl ((-2147483648), 2147483647, [])), some (.inl (0, 24, [])), none], ([], [(3, 8, 0)], [(1, 15, 15, ck_one 1)]), 100, .inl 4, true)] 226 q_p2_s1615 = true := by decide +kernel
theorem q_p2_s1615_s : ck_Ok q0_O X LX 225 q_p2_s1615 := ck_ok_s ⟨q0_nmu, (ck_E1 (ck_S1 q0l_p2_s253 ck_S0) (ck_E1 (ck_S1 Q240 ck_S0) (ck_E1 (ck_S1 q0l_p2_s332 ck_S0) (ck_E1 (ck_S1 q0l_p2_s335 (ck_S1 q0l_p2_s350 ck_S0)) (ck_E1 (ck_S1 q0l_p2_s351 ck_S0) ck_E0)))))⟩ ck_X0 ck_l0 q_p2_s1615_e
def q_p2_s1765 : ck_Sum := ((21, 0, 0), 245, [.inr (.inr (.inl 1))], ([], [(3, 8, 0)], [(3, 6, 6, (0, 299, [(10, 0)]))]), ([(1, 15, 15), (206, 2, 8), (220, 3, 3), (221, 0, 47)], []), [(.inr (some (.inl ((-2147483648), 2147483647, []))), 245, ([], [], [(1, 15, 15, ck_one 1)]))])
set_option maxRecDepth 100000 in
theorem q_p2_s1765_e : ck_ok q0_O none [] [(24, [(q24 0 q24_W0)]), (9, [p2_s331]), (10, [p2_s350]), (67, [p2_s351])] 68 [(8, [some (.inr (.inr (.inl 1))), some (.inl ((-2147483648), 2147483647, [])), some (.inl (0, 24, []))], ([], [(3, 8, 0)], [(1, 15, 15, ck_one 1), (3, 6, 6, (0, 299, [(10, 0)]))]), 100, .inl 2, true)] 174 q_p2_s1765 = true := by decide +kernel
theorem q_p2_s1765_s : ck_Ok q0_O X LX 68 q_p2_s1765 := ck_ok_s ⟨q0_nmu, (ck_E1 (ck_S1 Q240 ck_S0) (ck_E1 (ck_S1 q0l_p2_s331 ck_S0) (ck_E1 (ck_S1 q0l_p2_s350 ck_S0) (ck_E1 (ck_S1 q0l_p2_s351 ck_S0) ck_E0))))⟩ ck_X0 ck_l0 q_p2_s1765_e
def q_p2_s1766 : ck_Sum := ((21, 0, 0), 245, [.inr (.inr (.inl 1)), .inl (ck_one (-1))], ([], [(3, 8, 0)], [(3, 6, 6, (0, 299, [(10, 0)]))]), ([(1, 15, 15), (206, 2, 8), (220, 3, 3), (221, 0, 47)], []), [(.inr (some (.inl ((-2147483648), 2147483647, []))), 245, ([], [], [(1, 15, 15, ck_one 1)]))])
set_option maxRecDepth 100000 in
theorem q_p2_s1766_e : ck_ok q0_O none [] [(24, [(q24 0 q24_W0)]), (9, [p2_s331]), (66, [p2_s352])] 65 [(8, [some (.inr (.inr (.inl 1))), some (.inl (ck_one (-1))), some (.inl ((-2147483648), 2147483647, [])), some (.inl (0, 24, [])), none], ([], [(3, 8, 0)], [(1, 15, 15, ck_one 1), (3, 6, 6, (0, 299, [(10, 0)]))]), 100, .inl 3, true)] 178 q_p2_s1766 = true := by decide +kernel
theorem q_p2_s1766_s : ck_Ok q0_O X LX 65 q_p2_s1766 := ck_ok_s ⟨q0_nmu, (ck_E1 (ck_S1 Q240 ck_S0) (ck_E1 (ck_S1 q0l_p2_s331 ck_S0) (ck_E1 (ck_S1 q0l_p2_s352 ck_S0) ck_E0)))⟩ ck_X0 ck_l0 q_p2_s1766_e
theorem q0l_p2_s1764 : ck_Ok q0_O X LX 69 p2_s1764 := q0_l p2_s1764_s (by decide +kernel)
theorem q0l_p2_s1767 : ck_Ok q0_O X LX 9 p2_s1767 := q0_l p2_s1767_s (by decide +kernel)
def q_p2_s1768 : ck_Sum := ((22, 0, 0), 245, [.inr (.inr (.inl 1)), .inl (10, 2147483647, [])], ([], [(3, 8, 0)], [(3, 6, 6, (0, 299, [(10, 0)]))]), ([(1, 15, 15), (206, 2, 8), (220, 3, 3), (221, 0, 47)], []), [(.inr (some (.inl ((-2147483648), 2147483647, []))), 245, ([], [], [])), (.inr (some (.inl (0, 9999, []))), 245, ([], [], []))])
set_option maxRecDepth 100000 in
theorem q_p2_s1768_e : ck_ok q0_O none [] [(69, [p2_s1764]), (68, [q_p2_s1765]), (65, [q_p2_s1766]), (9, [p2_s1767])] 63 [] 84 q_p2_s1768 = true := by decide +kernel
theorem q_p2_s1768_s : ck_Ok q0_O X LX 63 q_p2_s1768 := ck_ok_s ⟨q0_nmu, (ck_E1 (ck_S1 q0l_p2_s1764 ck_S0) (ck_E1 (ck_S1 q_p2_s1765_s ck_S0) (ck_E1 (ck_S1 q_p2_s1766_s ck_S0) (ck_E1 (ck_S1 q0l_p2_s1767 ck_S0) ck_E0))))⟩ ck_X0 ck_l0 q_p2_s1768_e
def q_p2_h20 : ck_Sum := ((25, 2, 12), 245, [.inr (.inr (.inl 1)), .inl (0, 7, []), .inl (0, 9, []), .inr (.inr (.inl 245))], ([], [(3, 8, 0)], [(3, 6, 6, (0, 299, [(10, 0)]))]), ([(1, 15, 15), (206, 2, 8), (220, 3, 3), (221, 0, 47), (245, 0, 0)], []), [(.inr (some (.inl (ck_one 1))), 245, ([], [], [])), (.inr (some (.inl (ck_one 0))), 245, ([], [], [])), (.inr (some (.inl (ck_one 2))), 245, ([], [], []))])
set_option maxRecDepth 100000 in
theorem q_p2_h20_e : ck_ok q0_O none [] [(138, [q_p2_s357])] 137 [] 92 q_p2_h20 = true := by decide +kernel
theorem q_p2_h20_s : ck_Ok q0_O X LX 137 q_p2_h20 := ck_ok_s ⟨q0_nmu, (ck_E1 (ck_S1 q_p2_s357_s ck_S0) ck_E0)⟩ ck_X0 ck_l0 q_p2_h20_e
def q_p2_h200 : ck_Sum := ((24, 1, 6), 245, [.inr (.inr (.inl 1)), .inl (0, 30, []), .inl (0, 1, []), .inr (.inr (.inl 245))], ([], [(3, 8, 0)], [(3, 6, 6, (0, 299, [(10, 0)]))]), ([(1, 15, 15), (206, 2, 8), (220, 3, 3), (221, 0, 47), (222, 3, 3), (223, 0, 179), (224, 3, 3), (225, 0, 185), (245, 0, 0)], []), [(.inr (some (.inl (ck_one 1))), 245, ([], [], [])), (.inr (some (.inl (ck_one 0))), 245, ([], [], [(224, 3, 3, (1, 31, [])), (1, 15, 15, ck_one 1)]))])
set_option maxRecDepth 100000 in
theorem q_p2_h200_e : ck_ok q0_O none [] [(213, [q_p2_s1569])] 212 [] 92 q_p2_h200 = true := by decide +kernel
theorem q_p2_h200_s : ck_Ok q0_O X LX 212 q_p2_h200 := ck_ok_s ⟨q0_nmu, (ck_E1 (ck_S1 q_p2_s1569_s ck_S0) ck_E0)⟩ ck_X0 ck_l0 q_p2_h200_e
def q_p2_h203 : ck_Sum := ((24, 1, 6), 245, [.inr (.inr (.inl 1)), .inl (0, 30, []), .inl (0, 1, []), .inr (.inr (.inl 245))], ([], [(3, 8, 0)], [(3, 6, 6, (0, 299, [(10, 0)]))]), ([(1, 15, 15), (206, 2, 8), (220, 3, 3), (221, 0, 47), (222, 3, 3), (223, 0, 179), (245, 0, 0)], []), [(.inr (some (.inl (ck_one 1))), 245, ([], [], [])), (.inr (some (.inl (ck_one 0))), 245, ([], [], [(245, 0, 0, (0, 2147483647, [])), (1, 15, 15, ck_one 1)]))])
set_option maxRecDepth 100000 in
theorem q_p2_h203_e : ck_ok q0_O none [] [(218, [q_p2_s1587])] 217 [] 92 q_p2_h203 = true := by decide +kernel
theorem q_p2_h203_s : ck_Ok q0_O X LX 217 q_p2_h203 := ck_ok_s ⟨q0_nmu, (ck_E1 (ck_S1 q_p2_s1587_s ck_S0) ck_E0)⟩ ck_X0 ck_l0 q_p2_h203_e
def q_p2_h211 : ck_Sum := ((22, 0, 0), 245, [.inr (.inr (.inl 1)), .inl (0, 299, []), .inr (.inr (.inl 245))], ([], [(3, 8, 0)], []), ([(1, 15, 15), (206, 2, 8), (220, 3, 3), (221, 0, 47), (245, 0, 0)], []), [(.inr (some (.inl (ck_one 0))), 245, ([], [], [(1, 15, 15, ck_one 1)]))])
set_option maxRecDepth 100000 in
theorem q_p2_h211_e : ck_ok q0_O none [] [(223, [q_p2_s1606])] 222 [] 90 q_p2_h211 = true := by decide +kernel
theorem q_p2_h211_s : ck_Ok q0_O X LX 222 q_p2_h211 := ck_ok_s ⟨q0_nmu, (ck_E1 (ck_S1 q_p2_s1606_s ck_S0) ck_E0)⟩ ck_X0 ck_l0 q_p2_h211_e
def q_p2_h214 : ck_Sum := ((22, 0, 0), 245, [.inr (.inr (.inl 1)), .inl (0, 299, []), .inl (0, 1, []), .inr (.inr (.inl 245))], ([], [(3, 8, 0)], []), ([(1, 15, 15), (206, 2, 8), (220, 3, 3), (221, 0, 47), (245, 0, 0)], []), [(.inr (some (.inl (ck_one 0))), 245, ([], [], [(1, 15, 15, ck_one 1)]))])
set_option maxRecDepth 100000 in
theorem q_p2_h214_e : ck_ok q0_O none [] [(225, [q_p2_s1615])] 224 [] 92 q_p2_h214 = true := by decide +kernel
theorem q_p2_h214_s : ck_Ok q0_O X LX 224 q_p2_h214 := ck_ok_s ⟨q0_nmu, (ck_E1 (ck_S1 q_p2_s1615_s ck_S0) ck_E0)⟩ ck_X0 ck_l0 q_p2_h214_e
end GH0
