/-! heat, on a new object, piece 1: laid by wip/am/p1g.py. -/
set_option maxRecDepth 100000 in
def p5y1_493 : ck_Sum := ((0, 0, 0), 245, [.inr (.inr (.inl 1)), .inl (ck_one 50)], ([], [], []), ([], []), [(.inr none, 245, ([], [], []))])
set_option maxRecDepth 100000 in
theorem p5y1_493_e : ck_ok p1_O none [] [] 129 [] 82 p5y1_493 = true := by decide +kernel
theorem p5y1_493_s {X : Int → Int} {LX : Nat} : ck_Ok p1_O X LX 129 p5y1_493 := ck_ok_s (ck_E0) ck_X0 ck_l0 p5y1_493_e
set_option maxRecDepth 100000 in
def p5y1_494 : ck_Sum := ((0, 0, 0), 245, [.inr (.inr (.inl 200)), .inl (ck_one 50)], ([], [], [(201, 50, 50, ck_one 3)]), ([], []), [(.inr (some (.inl (ck_one 3))), 245, ([], [], []))])
set_option maxRecDepth 100000 in
theorem p5y1_494_e : ck_ok p1_O none [] [] 34 [] 92 p5y1_494 = true := by decide +kernel
theorem p5y1_494_s {X : Int → Int} {LX : Nat} : ck_Ok p1_O X LX 34 p5y1_494 := ck_ok_s (ck_E0) ck_X0 ck_l0 p5y1_494_e
set_option maxRecDepth 100000 in
def p5y1_495 : ck_Sum := ((1, 0, 0), 245, [.inr (.inr (.inl 1)), .inl (ck_one 50)], ([], [], [(201, 50, 50, ck_one 3)]), ([], []), [(.inr (some (.inl (ck_one 3))), 245, ([], [], []))])
set_option maxRecDepth 100000 in
theorem p5y1_495_e : ck_ok p1_O none [] [(129, [p5y1_493]), (34, [p5y1_494])] 128 [] 86 p5y1_495 = true := by decide +kernel
theorem p5y1_495_s {X : Int → Int} {LX : Nat} : ck_Ok p1_O X LX 128 p5y1_495 := ck_ok_s (ck_E1 (ck_S1 p5y1_493_s ck_S0) (ck_E1 (ck_S1 p5y1_494_s ck_S0) ck_E0)) ck_X0 ck_l0 p5y1_495_e
set_option maxRecDepth 100000 in
def p5y1_496 : ck_Sum := ((2, 0, 0), 245, [.inr (.inr (.inl 1)), .inl (ck_one 50), .inr (.inr (.inl 245))], ([], [], [(201, 50, 50, ck_one 3)]), ([(245, 0, 0)], []), [(.inr (some (.inl (ck_one 0))), 245, ([], [], [(245, 0, 0, ck_one 3)]))])
set_option maxRecDepth 100000 in
theorem p5y1_496_e : ck_ok p1_O none [] [(128, [p5y1_495])] 127 [] 90 p5y1_496 = true := by decide +kernel
theorem p5y1_496_s {X : Int → Int} {LX : Nat} : ck_Ok p1_O X LX 127 p5y1_496 := ck_ok_s (ck_E1 (ck_S1 p5y1_495_s ck_S0) ck_E0) ck_X0 ck_l0 p5y1_496_e
set_option maxRecDepth 100000 in
def p5y1_500 : ck_Sum := ((0, 0, 0), 245, [.inr (.inr (.inl 1)), .inl (ck_one 51)], ([], [], []), ([], []), [(.inr none, 245, ([], [], []))])
set_option maxRecDepth 100000 in
theorem p5y1_500_e : ck_ok p1_O none [] [] 129 [] 82 p5y1_500 = true := by decide +kernel
theorem p5y1_500_s {X : Int → Int} {LX : Nat} : ck_Ok p1_O X LX 129 p5y1_500 := ck_ok_s (ck_E0) ck_X0 ck_l0 p5y1_500_e
set_option maxRecDepth 100000 in
def p5y1_501 : ck_Sum := ((0, 0, 0), 245, [.inr (.inr (.inl 200)), .inl (ck_one 51)], ([], [], [(201, 51, 51, ck_one 0)]), ([], []), [(.inr (some (.inl (ck_one 0))), 245, ([], [], []))])
set_option maxRecDepth 100000 in
theorem p5y1_501_e : ck_ok p1_O none [] [] 34 [] 92 p5y1_501 = true := by decide +kernel
theorem p5y1_501_s {X : Int → Int} {LX : Nat} : ck_Ok p1_O X LX 34 p5y1_501 := ck_ok_s (ck_E0) ck_X0 ck_l0 p5y1_501_e
set_option maxRecDepth 100000 in
def p5y1_502 : ck_Sum := ((1, 0, 0), 245, [.inr (.inr (.inl 1)), .inl (ck_one 51)], ([], [], [(201, 51, 51, ck_one 0)]), ([], []), [(.inr (some (.inl (ck_one 0))), 245, ([], [], []))])
set_option maxRecDepth 100000 in
theorem p5y1_502_e : ck_ok p1_O none [] [(129, [p5y1_500]), (34, [p5y1_501])] 128 [] 86 p5y1_502 = true := by decide +kernel
theorem p5y1_502_s {X : Int → Int} {LX : Nat} : ck_Ok p1_O X LX 128 p5y1_502 := ck_ok_s (ck_E1 (ck_S1 p5y1_500_s ck_S0) (ck_E1 (ck_S1 p5y1_501_s ck_S0) ck_E0)) ck_X0 ck_l0 p5y1_502_e
set_option maxRecDepth 100000 in
def p5y1_503 : ck_Sum := ((2, 0, 0), 245, [.inr (.inr (.inl 1)), .inl (ck_one 51), .inr (.inr (.inl 245))], ([], [], [(201, 51, 51, ck_one 0)]), ([(245, 0, 0)], []), [(.inr (some (.inl (ck_one 0))), 245, ([], [], [(245, 0, 0, ck_one 0)]))])
set_option maxRecDepth 100000 in
theorem p5y1_503_e : ck_ok p1_O none [] [(128, [p5y1_502])] 127 [] 90 p5y1_503 = true := by decide +kernel
theorem p5y1_503_s {X : Int → Int} {LX : Nat} : ck_Ok p1_O X LX 127 p5y1_503 := ck_ok_s (ck_E1 (ck_S1 p5y1_502_s ck_S0) ck_E0) ck_X0 ck_l0 p5y1_503_e
set_option maxRecDepth 100000 in
def p5y1_507 : ck_Sum := ((0, 0, 0), 245, [.inr (.inr (.inl 1)), .inl (ck_one 52)], ([], [], []), ([], []), [(.inr none, 245, ([], [], []))])
set_option maxRecDepth 100000 in
theorem p5y1_507_e : ck_ok p1_O none [] [] 129 [] 82 p5y1_507 = true := by decide +kernel
theorem p5y1_507_s {X : Int → Int} {LX : Nat} : ck_Ok p1_O X LX 129 p5y1_507 := ck_ok_s (ck_E0) ck_X0 ck_l0 p5y1_507_e
set_option maxRecDepth 100000 in
def p5y1_508 : ck_Sum := ((0, 0, 0), 245, [.inr (.inr (.inl 200)), .inl (ck_one 52)], ([], [], [(201, 52, 52, ck_one 4)]), ([], []), [(.inr (some (.inl (ck_one 4))), 245, ([], [], []))])
set_option maxRecDepth 100000 in
theorem p5y1_508_e : ck_ok p1_O none [] [] 34 [] 92 p5y1_508 = true := by decide +kernel
theorem p5y1_508_s {X : Int → Int} {LX : Nat} : ck_Ok p1_O X LX 34 p5y1_508 := ck_ok_s (ck_E0) ck_X0 ck_l0 p5y1_508_e
set_option maxRecDepth 100000 in
def p5y1_509 : ck_Sum := ((1, 0, 0), 245, [.inr (.inr (.inl 1)), .inl (ck_one 52)], ([], [], [(201, 52, 52, ck_one 4)]), ([], []), [(.inr (some (.inl (ck_one 4))), 245, ([], [], []))])
set_option maxRecDepth 100000 in
theorem p5y1_509_e : ck_ok p1_O none [] [(129, [p5y1_507]), (34, [p5y1_508])] 128 [] 86 p5y1_509 = true := by decide +kernel
theorem p5y1_509_s {X : Int → Int} {LX : Nat} : ck_Ok p1_O X LX 128 p5y1_509 := ck_ok_s (ck_E1 (ck_S1 p5y1_507_s ck_S0) (ck_E1 (ck_S1 p5y1_508_s ck_S0) ck_E0)) ck_X0 ck_l0 p5y1_509_e
set_option maxRecDepth 100000 in
def p5y1_510 : ck_Sum := ((2, 0, 0), 245, [.inr (.inr (.inl 1)), .inl (ck_one 52), .inr (.inr (.inl 245))], ([], [], [(201, 52, 52, ck_one 4)]), ([(245, 0, 0)], []), [(.inr (some (.inl (ck_one 0))), 245, ([], [], [(245, 0, 0, ck_one 4)]))])
set_option maxRecDepth 100000 in
theorem p5y1_510_e : ck_ok p1_O none [] [(128, [p5y1_509])] 127 [] 90 p5y1_510 = true := by decide +kernel
theorem p5y1_510_s {X : Int → Int} {LX : Nat} : ck_Ok p1_O X LX 127 p5y1_510 := ck_ok_s (ck_E1 (ck_S1 p5y1_509_s ck_S0) ck_E0) ck_X0 ck_l0 p5y1_510_e
set_option maxRecDepth 100000 in
def p5y1_514 : ck_Sum := ((0, 0, 0), 245, [.inr (.inr (.inl 1)), .inl (ck_one 53)], ([], [], []), ([], []), [(.inr none, 245, ([], [], []))])
set_option maxRecDepth 100000 in
theorem p5y1_514_e : ck_ok p1_O none [] [] 129 [] 82 p5y1_514 = true := by decide +kernel
theorem p5y1_514_s {X : Int → Int} {LX : Nat} : ck_Ok p1_O X LX 129 p5y1_514 := ck_ok_s (ck_E0) ck_X0 ck_l0 p5y1_514_e
set_option maxRecDepth 100000 in
def p5y1_515 : ck_Sum := ((0, 0, 0), 245, [.inr (.inr (.inl 200)), .inl (ck_one 53)], ([], [], [(201, 53, 53, ck_one 3)]), ([], []), [(.inr (some (.inl (ck_one 3))), 245, ([], [], []))])
set_option maxRecDepth 100000 in
theorem p5y1_515_e : ck_ok p1_O none [] [] 34 [] 92 p5y1_515 = true := by decide +kernel
theorem p5y1_515_s {X : Int → Int} {LX : Nat} : ck_Ok p1_O X LX 34 p5y1_515 := ck_ok_s (ck_E0) ck_X0 ck_l0 p5y1_515_e
set_option maxRecDepth 100000 in
def p5y1_516 : ck_Sum := ((1, 0, 0), 245, [.inr (.inr (.inl 1)), .inl (ck_one 53)], ([], [], [(201, 53, 53, ck_one 3)]), ([], []), [(.inr (some (.inl (ck_one 3))), 245, ([], [], []))])
set_option maxRecDepth 100000 in
theorem p5y1_516_e : ck_ok p1_O none [] [(129, [p5y1_514]), (34, [p5y1_515])] 128 [] 86 p5y1_516 = true := by decide +kernel
theorem p5y1_516_s {X : Int → Int} {LX : Nat} : ck_Ok p1_O X LX 128 p5y1_516 := ck_ok_s (ck_E1 (ck_S1 p5y1_514_s ck_S0) (ck_E1 (ck_S1 p5y1_515_s ck_S0) ck_E0)) ck_X0 ck_l0 p5y1_516_e
set_option maxRecDepth 100000 in
def p5y1_517 : ck_Sum := ((2, 0, 0), 245, [.inr (.inr (.inl 1)), .inl (ck_one 53), .inr (.inr (.inl 245))], ([], [], [(201, 53, 53, ck_one 3)]), ([(245, 0, 0)], []), [(.inr (some (.inl (ck_one 0))), 245, ([], [], [(245, 0, 0, ck_one 3)]))])
set_option maxRecDepth 100000 in
theorem p5y1_517_e : ck_ok p1_O none [] [(128, [p5y1_516])] 127 [] 90 p5y1_517 = true := by decide +kernel
theorem p5y1_517_s {X : Int → Int} {LX : Nat} : ck_Ok p1_O X LX 127 p5y1_517 := ck_ok_s (ck_E1 (ck_S1 p5y1_516_s ck_S0) ck_E0) ck_X0 ck_l0 p5y1_517_e
set_option maxRecDepth 100000 in
def p5y1_521 : ck_Sum := ((0, 0, 0), 245, [.inr (.inr (.inl 1)), .inl (ck_one 54)], ([], [], []), ([], []), [(.inr none, 245, ([], [], []))])
set_option maxRecDepth 100000 in
theorem p5y1_521_e : ck_ok p1_O none [] [] 129 [] 82 p5y1_521 = true := by decide +kernel
theorem p5y1_521_s {X : Int → Int} {LX : Nat} : ck_Ok p1_O X LX 129 p5y1_521 := ck_ok_s (ck_E0) ck_X0 ck_l0 p5y1_521_e
set_option maxRecDepth 100000 in
def p5y1_522 : ck_Sum := ((0, 0, 0), 245, [.inr (.inr (.inl 200)), .inl (ck_one 54)], ([], [], [(201, 54, 54, ck_one 2)]), ([], []), [(.inr (some (.inl (ck_one 2))), 245, ([], [], []))])
set_option maxRecDepth 100000 in
theorem p5y1_522_e : ck_ok p1_O none [] [] 34 [] 92 p5y1_522 = true := by decide +kernel
theorem p5y1_522_s {X : Int → Int} {LX : Nat} : ck_Ok p1_O X LX 34 p5y1_522 := ck_ok_s (ck_E0) ck_X0 ck_l0 p5y1_522_e
set_option maxRecDepth 100000 in
def p5y1_523 : ck_Sum := ((1, 0, 0), 245, [.inr (.inr (.inl 1)), .inl (ck_one 54)], ([], [], [(201, 54, 54, ck_one 2)]), ([], []), [(.inr (some (.inl (ck_one 2))), 245, ([], [], []))])
set_option maxRecDepth 100000 in
theorem p5y1_523_e : ck_ok p1_O none [] [(129, [p5y1_521]), (34, [p5y1_522])] 128 [] 86 p5y1_523 = true := by decide +kernel
theorem p5y1_523_s {X : Int → Int} {LX : Nat} : ck_Ok p1_O X LX 128 p5y1_523 := ck_ok_s (ck_E1 (ck_S1 p5y1_521_s ck_S0) (ck_E1 (ck_S1 p5y1_522_s ck_S0) ck_E0)) ck_X0 ck_l0 p5y1_523_e
set_option maxRecDepth 100000 in
def p5y1_524 : ck_Sum := ((2, 0, 0), 245, [.inr (.inr (.inl 1)), .inl (ck_one 54), .inr (.inr (.inl 245))], ([], [], [(201, 54, 54, ck_one 2)]), ([(245, 0, 0)], []), [(.inr (some (.inl (ck_one 0))), 245, ([], [], [(245, 0, 0, ck_one 2)]))])
set_option maxRecDepth 100000 in
theorem p5y1_524_e : ck_ok p1_O none [] [(128, [p5y1_523])] 127 [] 90 p5y1_524 = true := by decide +kernel
theorem p5y1_524_s {X : Int → Int} {LX : Nat} : ck_Ok p1_O X LX 127 p5y1_524 := ck_ok_s (ck_E1 (ck_S1 p5y1_523_s ck_S0) ck_E0) ck_X0 ck_l0 p5y1_524_e
set_option maxRecDepth 100000 in
def p5y1_528 : ck_Sum := ((0, 0, 0), 245, [.inr (.inr (.inl 1)), .inl (ck_one 55)], ([], [], []), ([], []), [(.inr none, 245, ([], [], []))])
set_option maxRecDepth 100000 in
theorem p5y1_528_e : ck_ok p1_O none [] [] 129 [] 82 p5y1_528 = true := by decide +kernel
theorem p5y1_528_s {X : Int → Int} {LX : Nat} : ck_Ok p1_O X LX 129 p5y1_528 := ck_ok_s (ck_E0) ck_X0 ck_l0 p5y1_528_e
set_option maxRecDepth 100000 in
def p5y1_529 : ck_Sum := ((0, 0, 0), 245, [.inr (.inr (.inl 200)), .inl (ck_one 55)], ([], [], [(201, 55, 55, ck_one 8)]), ([], []), [(.inr (some (.inl (ck_one 8))), 245, ([], [], []))])
set_option maxRecDepth 100000 in
theorem p5y1_529_e : ck_ok p1_O none [] [] 34 [] 92 p5y1_529 = true := by decide +kernel
theorem p5y1_529_s {X : Int → Int} {LX : Nat} : ck_Ok p1_O X LX 34 p5y1_529 := ck_ok_s (ck_E0) ck_X0 ck_l0 p5y1_529_e
set_option maxRecDepth 100000 in
def p5y1_530 : ck_Sum := ((1, 0, 0), 245, [.inr (.inr (.inl 1)), .inl (ck_one 55)], ([], [], [(201, 55, 55, ck_one 8)]), ([], []), [(.inr (some (.inl (ck_one 8))), 245, ([], [], []))])
set_option maxRecDepth 100000 in
theorem p5y1_530_e : ck_ok p1_O none [] [(129, [p5y1_528]), (34, [p5y1_529])] 128 [] 86 p5y1_530 = true := by decide +kernel
theorem p5y1_530_s {X : Int → Int} {LX : Nat} : ck_Ok p1_O X LX 128 p5y1_530 := ck_ok_s (ck_E1 (ck_S1 p5y1_528_s ck_S0) (ck_E1 (ck_S1 p5y1_529_s ck_S0) ck_E0)) ck_X0 ck_l0 p5y1_530_e
set_option maxRecDepth 100000 in
def p5y1_531 : ck_Sum := ((2, 0, 0), 245, [.inr (.inr (.inl 1)), .inl (ck_one 55), .inr (.inr (.inl 245))], ([], [], [(201, 55, 55, ck_one 8)]), ([(245, 0, 0)], []), [(.inr (some (.inl (ck_one 0))), 245, ([], [], [(245, 0, 0, ck_one 8)]))])
set_option maxRecDepth 100000 in
theorem p5y1_531_e : ck_ok p1_O none [] [(128, [p5y1_530])] 127 [] 90 p5y1_531 = true := by decide +kernel
theorem p5y1_531_s {X : Int → Int} {LX : Nat} : ck_Ok p1_O X LX 127 p5y1_531 := ck_ok_s (ck_E1 (ck_S1 p5y1_530_s ck_S0) ck_E0) ck_X0 ck_l0 p5y1_531_e
set_option maxRecDepth 100000 in
def p5y1_535 : ck_Sum := ((0, 0, 0), 245, [.inr (.inr (.inl 1)), .inl (ck_one 56)], ([], [], []), ([], []), [(.inr none, 245, ([], [], []))])
set_option maxRecDepth 100000 in
theorem p5y1_535_e : ck_ok p1_O none [] [] 129 [] 82 p5y1_535 = true := by decide +kernel
theorem p5y1_535_s {X : Int → Int} {LX : Nat} : ck_Ok p1_O X LX 129 p5y1_535 := ck_ok_s (ck_E0) ck_X0 ck_l0 p5y1_535_e
set_option maxRecDepth 100000 in
def p5y1_536 : ck_Sum := ((0, 0, 0), 245, [.inr (.inr (.inl 200)), .inl (ck_one 56)], ([], [], [(201, 56, 56, ck_one 2)]), ([], []), [(.inr (some (.inl (ck_one 2))), 245, ([], [], []))])
set_option maxRecDepth 100000 in
theorem p5y1_536_e : ck_ok p1_O none [] [] 34 [] 92 p5y1_536 = true := by decide +kernel
theorem p5y1_536_s {X : Int → Int} {LX : Nat} : ck_Ok p1_O X LX 34 p5y1_536 := ck_ok_s (ck_E0) ck_X0 ck_l0 p5y1_536_e
set_option maxRecDepth 100000 in
def p5y1_537 : ck_Sum := ((1, 0, 0), 245, [.inr (.inr (.inl 1)), .inl (ck_one 56)], ([], [], [(201, 56, 56, ck_one 2)]), ([], []), [(.inr (some (.inl (ck_one 2))), 245, ([], [], []))])
set_option maxRecDepth 100000 in
theorem p5y1_537_e : ck_ok p1_O none [] [(129, [p5y1_535]), (34, [p5y1_536])] 128 [] 86 p5y1_537 = true := by decide +kernel
theorem p5y1_537_s {X : Int → Int} {LX : Nat} : ck_Ok p1_O X LX 128 p5y1_537 := ck_ok_s (ck_E1 (ck_S1 p5y1_535_s ck_S0) (ck_E1 (ck_S1 p5y1_536_s ck_S0) ck_E0)) ck_X0 ck_l0 p5y1_537_e
set_option maxRecDepth 100000 in
def p5y1_538 : ck_Sum := ((2, 0, 0), 245, [.inr (.inr (.inl 1)), .inl (ck_one 56), .inr (.inr (.inl 245))], ([], [], [(201, 56, 56, ck_one 2)]), ([(245, 0, 0)], []), [(.inr (some (.inl (ck_one 0))), 245, ([], [], [(245, 0, 0, ck_one 2)]))])
set_option maxRecDepth 100000 in
theorem p5y1_538_e : ck_ok p1_O none [] [(128, [p5y1_537])] 127 [] 90 p5y1_538 = true := by decide +kernel
theorem p5y1_538_s {X : Int → Int} {LX : Nat} : ck_Ok p1_O X LX 127 p5y1_538 := ck_ok_s (ck_E1 (ck_S1 p5y1_537_s ck_S0) ck_E0) ck_X0 ck_l0 p5y1_538_e
set_option maxRecDepth 100000 in
def p5y1_542 : ck_Sum := ((0, 0, 0), 245, [.inr (.inr (.inl 1)), .inl (ck_one 57)], ([], [], []), ([], []), [(.inr none, 245, ([], [], []))])
set_option maxRecDepth 100000 in
theorem p5y1_542_e : ck_ok p1_O none [] [] 129 [] 82 p5y1_542 = true := by decide +kernel
theorem p5y1_542_s {X : Int → Int} {LX : Nat} : ck_Ok p1_O X LX 129 p5y1_542 := ck_ok_s (ck_E0) ck_X0 ck_l0 p5y1_542_e
set_option maxRecDepth 100000 in
def p5y1_543 : ck_Sum := ((0, 0, 0), 245, [.inr (.inr (.inl 200)), .inl (ck_one 57)], ([], [], [(201, 57, 57, ck_one 7)]), ([], []), [(.inr (some (.inl (ck_one 7))), 245, ([], [], []))])
set_option maxRecDepth 100000 in
theorem p5y1_543_e : ck_ok p1_O none [] [] 34 [] 92 p5y1_543 = true := by decide +kernel
theorem p5y1_543_s {X : Int → Int} {LX : Nat} : ck_Ok p1_O X LX 34 p5y1_543 := ck_ok_s (ck_E0) ck_X0 ck_l0 p5y1_543_e
set_option maxRecDepth 100000 in
def p5y1_544 : ck_Sum := ((1, 0, 0), 245, [.inr (.inr (.inl 1)), .inl (ck_one 57)], ([], [], [(201, 57, 57, ck_one 7)]), ([], []), [(.inr (some (.inl (ck_one 7))), 245, ([], [], []))])
set_option maxRecDepth 100000 in
theorem p5y1_544_e : ck_ok p1_O none [] [(129, [p5y1_542]), (34, [p5y1_543])] 128 [] 86 p5y1_544 = true := by decide +kernel
theorem p5y1_544_s {X : Int → Int} {LX : Nat} : ck_Ok p1_O X LX 128 p5y1_544 := ck_ok_s (ck_E1 (ck_S1 p5y1_542_s ck_S0) (ck_E1 (ck_S1 p5y1_543_s ck_S0) ck_E0)) ck_X0 ck_l0 p5y1_544_e
set_option maxRecDepth 100000 in
def p5y1_545 : ck_Sum := ((2, 0, 0), 245, [.inr (.inr (.inl 1)), .inl (ck_one 57), .inr (.inr (.inl 245))], ([], [], [(201, 57, 57, ck_one 7)]), ([(245, 0, 0)], []), [(.inr (some (.inl (ck_one 0))), 245, ([], [], [(245, 0, 0, ck_one 7)]))])
set_option maxRecDepth 100000 in
theorem p5y1_545_e : ck_ok p1_O none [] [(128, [p5y1_544])] 127 [] 90 p5y1_545 = true := by decide +kernel
theorem p5y1_545_s {X : Int → Int} {LX : Nat} : ck_Ok p1_O X LX 127 p5y1_545 := ck_ok_s (ck_E1 (ck_S1 p5y1_544_s ck_S0) ck_E0) ck_X0 ck_l0 p5y1_545_e
set_option maxRecDepth 100000 in
def p5y1_549 : ck_Sum := ((0, 0, 0), 245, [.inr (.inr (.inl 1)), .inl (ck_one 58)], ([], [], []), ([], []), [(.inr none, 245, ([], [], []))])
set_option maxRecDepth 100000 in
theorem p5y1_549_e : ck_ok p1_O none [] [] 129 [] 82 p5y1_549 = true := by decide +kernel
theorem p5y1_549_s {X : Int → Int} {LX : Nat} : ck_Ok p1_O X LX 129 p5y1_549 := ck_ok_s (ck_E0) ck_X0 ck_l0 p5y1_549_e
set_option maxRecDepth 100000 in
def p5y1_550 : ck_Sum := ((0, 0, 0), 245, [.inr (.inr (.inl 200)), .inl (ck_one 58)], ([], [], [(201, 58, 58, ck_one 7)]), ([], []), [(.inr (some (.inl (ck_one 7))), 245, ([], [], []))])
set_option maxRecDepth 100000 in
theorem p5y1_550_e : ck_ok p1_O none [] [] 34 [] 92 p5y1_550 = true := by decide +kernel
theorem p5y1_550_s {X : Int → Int} {LX : Nat} : ck_Ok p1_O X LX 34 p5y1_550 := ck_ok_s (ck_E0) ck_X0 ck_l0 p5y1_550_e
set_option maxRecDepth 100000 in
def p5y1_551 : ck_Sum := ((1, 0, 0), 245, [.inr (.inr (.inl 1)), .inl (ck_one 58)], ([], [], [(201, 58, 58, ck_one 7)]), ([], []), [(.inr (some (.inl (ck_one 7))), 245, ([], [], []))])
set_option maxRecDepth 100000 in
theorem p5y1_551_e : ck_ok p1_O none [] [(129, [p5y1_549]), (34, [p5y1_550])] 128 [] 86 p5y1_551 = true := by decide +kernel
theorem p5y1_551_s {X : Int → Int} {LX : Nat} : ck_Ok p1_O X LX 128 p5y1_551 := ck_ok_s (ck_E1 (ck_S1 p5y1_549_s ck_S0) (ck_E1 (ck_S1 p5y1_550_s ck_S0) ck_E0)) ck_X0 ck_l0 p5y1_551_e
set_option maxRecDepth 100000 in
def p5y1_552 : ck_Sum := ((2, 0, 0), 245, [.inr (.inr (.inl 1)), .inl (ck_one 58), .inr (.inr (.inl 245))], ([], [], [(201, 58, 58, ck_one 7)]), ([(245, 0, 0)], []), [(.inr (some (.inl (ck_one 0))), 245, ([], [], [(245, 0, 0, ck_one 7)]))])
set_option maxRecDepth 100000 in
theorem p5y1_552_e : ck_ok p1_O none [] [(128, [p5y1_551])] 127 [] 90 p5y1_552 = true := by decide +kernel
theorem p5y1_552_s {X : Int → Int} {LX : Nat} : ck_Ok p1_O X LX 127 p5y1_552 := ck_ok_s (ck_E1 (ck_S1 p5y1_551_s ck_S0) ck_E0) ck_X0 ck_l0 p5y1_552_e
set_option maxRecDepth 100000 in
def p5y1_556 : ck_Sum := ((0, 0, 0), 245, [.inr (.inr (.inl 1)), .inl (ck_one 59)], ([], [], []), ([], []), [(.inr none, 245, ([], [], []))])
set_option maxRecDepth 100000 in
theorem p5y1_556_e : ck_ok p1_O none [] [] 129 [] 82 p5y1_556 = true := by decide +kernel
theorem p5y1_556_s {X : Int → Int} {LX : Nat} : ck_Ok p1_O X LX 129 p5y1_556 := ck_ok_s (ck_E0) ck_X0 ck_l0 p5y1_556_e
set_option maxRecDepth 100000 in
def p5y1_557 : ck_Sum := ((0, 0, 0), 245, [.inr (.inr (.inl 200)), .inl (ck_one 59)], ([], [], [(201, 59, 59, ck_one 5)]), ([], []), [(.inr (some (.inl (ck_one 5))), 245, ([], [], []))])
set_option maxRecDepth 100000 in
theorem p5y1_557_e : ck_ok p1_O none [] [] 34 [] 92 p5y1_557 = true := by decide +kernel
theorem p5y1_557_s {X : Int → Int} {LX : Nat} : ck_Ok p1_O X LX 34 p5y1_557 := ck_ok_s (ck_E0) ck_X0 ck_l0 p5y1_557_e
set_option maxRecDepth 100000 in
def p5y1_558 : ck_Sum := ((1, 0, 0), 245, [.inr (.inr (.inl 1)), .inl (ck_one 59)], ([], [], [(201, 59, 59, ck_one 5)]), ([], []), [(.inr (some (.inl (ck_one 5))), 245, ([], [], []))])
set_option maxRecDepth 100000 in
theorem p5y1_558_e : ck_ok p1_O none [] [(129, [p5y1_556]), (34, [p5y1_557])] 128 [] 86 p5y1_558 = true := by decide +kernel
theorem p5y1_558_s {X : Int → Int} {LX : Nat} : ck_Ok p1_O X LX 128 p5y1_558 := ck_ok_s (ck_E1 (ck_S1 p5y1_556_s ck_S0) (ck_E1 (ck_S1 p5y1_557_s ck_S0) ck_E0)) ck_X0 ck_l0 p5y1_558_e
set_option maxRecDepth 100000 in
def p5y1_559 : ck_Sum := ((2, 0, 0), 245, [.inr (.inr (.inl 1)), .inl (ck_one 59), .inr (.inr (.inl 245))], ([], [], [(201, 59, 59, ck_one 5)]), ([(245, 0, 0)], []), [(.inr (some (.inl (ck_one 0))), 245, ([], [], [(245, 0, 0, ck_one 5)]))])
set_option maxRecDepth 100000 in
theorem p5y1_559_e : ck_ok p1_O none [] [(128, [p5y1_558])] 127 [] 90 p5y1_559 = true := by decide +kernel
theorem p5y1_559_s {X : Int → Int} {LX : Nat} : ck_Ok p1_O X LX 127 p5y1_559 := ck_ok_s (ck_E1 (ck_S1 p5y1_558_s ck_S0) ck_E0) ck_X0 ck_l0 p5y1_559_e
set_option maxRecDepth 100000 in
def p5y1_563 : ck_Sum := ((0, 0, 0), 245, [.inr (.inr (.inl 1)), .inl (ck_one 60)], ([], [], []), ([], []), [(.inr none, 245, ([], [], []))])
set_option maxRecDepth 100000 in
theorem p5y1_563_e : ck_ok p1_O none [] [] 129 [] 82 p5y1_563 = true := by decide +kernel
theorem p5y1_563_s {X : Int → Int} {LX : Nat} : ck_Ok p1_O X LX 129 p5y1_563 := ck_ok_s (ck_E0) ck_X0 ck_l0 p5y1_563_e
set_option maxRecDepth 100000 in
def p5y1_564 : ck_Sum := ((0, 0, 0), 245, [.inr (.inr (.inl 200)), .inl (ck_one 60)], ([], [], [(201, 60, 60, ck_one 9)]), ([], []), [(.inr (some (.inl (ck_one 9))), 245, ([], [], []))])
set_option maxRecDepth 100000 in
theorem p5y1_564_e : ck_ok p1_O none [] [] 34 [] 92 p5y1_564 = true := by decide +kernel
theorem p5y1_564_s {X : Int → Int} {LX : Nat} : ck_Ok p1_O X LX 34 p5y1_564 := ck_ok_s (ck_E0) ck_X0 ck_l0 p5y1_564_e
set_option maxRecDepth 100000 in
def p5y1_565 : ck_Sum := ((1, 0, 0), 245, [.inr (.inr (.inl 1)), .inl (ck_one 60)], ([], [], [(201, 60, 60, ck_one 9)]), ([], []), [(.inr (some (.inl (ck_one 9))), 245, ([], [], []))])
set_option maxRecDepth 100000 in
theorem p5y1_565_e : ck_ok p1_O none [] [(129, [p5y1_563]), (34, [p5y1_564])] 128 [] 86 p5y1_565 = true := by decide +kernel
theorem p5y1_565_s {X : Int → Int} {LX : Nat} : ck_Ok p1_O X LX 128 p5y1_565 := ck_ok_s (ck_E1 (ck_S1 p5y1_563_s ck_S0) (ck_E1 (ck_S1 p5y1_564_s ck_S0) ck_E0)) ck_X0 ck_l0 p5y1_565_e
set_option maxRecDepth 100000 in
def p5y1_566 : ck_Sum := ((2, 0, 0), 245, [.inr (.inr (.inl 1)), .inl (ck_one 60), .inr (.inr (.inl 245))], ([], [], [(201, 60, 60, ck_one 9)]), ([(245, 0, 0)], []), [(.inr (some (.inl (ck_one 0))), 245, ([], [], [(245, 0, 0, ck_one 9)]))])
set_option maxRecDepth 100000 in
theorem p5y1_566_e : ck_ok p1_O none [] [(128, [p5y1_565])] 127 [] 90 p5y1_566 = true := by decide +kernel
theorem p5y1_566_s {X : Int → Int} {LX : Nat} : ck_Ok p1_O X LX 127 p5y1_566 := ck_ok_s (ck_E1 (ck_S1 p5y1_565_s ck_S0) ck_E0) ck_X0 ck_l0 p5y1_566_e
set_option maxRecDepth 100000 in
def p5y1_570 : ck_Sum := ((0, 0, 0), 245, [.inr (.inr (.inl 1)), .inl (ck_one 61)], ([], [], []), ([], []), [(.inr none, 245, ([], [], []))])
set_option maxRecDepth 100000 in
theorem p5y1_570_e : ck_ok p1_O none [] [] 129 [] 82 p5y1_570 = true := by decide +kernel
theorem p5y1_570_s {X : Int → Int} {LX : Nat} : ck_Ok p1_O X LX 129 p5y1_570 := ck_ok_s (ck_E0) ck_X0 ck_l0 p5y1_570_e
set_option maxRecDepth 100000 in
def p5y1_571 : ck_Sum := ((0, 0, 0), 245, [.inr (.inr (.inl 200)), .inl (ck_one 61)], ([], [], [(201, 61, 61, ck_one 3)]), ([], []), [(.inr (some (.inl (ck_one 3))), 245, ([], [], []))])
set_option maxRecDepth 100000 in
theorem p5y1_571_e : ck_ok p1_O none [] [] 34 [] 92 p5y1_571 = true := by decide +kernel
theorem p5y1_571_s {X : Int → Int} {LX : Nat} : ck_Ok p1_O X LX 34 p5y1_571 := ck_ok_s (ck_E0) ck_X0 ck_l0 p5y1_571_e
set_option maxRecDepth 100000 in
def p5y1_572 : ck_Sum := ((1, 0, 0), 245, [.inr (.inr (.inl 1)), .inl (ck_one 61)], ([], [], [(201, 61, 61, ck_one 3)]), ([], []), [(.inr (some (.inl (ck_one 3))), 245, ([], [], []))])
set_option maxRecDepth 100000 in
theorem p5y1_572_e : ck_ok p1_O none [] [(129, [p5y1_570]), (34, [p5y1_571])] 128 [] 86 p5y1_572 = true := by decide +kernel
theorem p5y1_572_s {X : Int → Int} {LX : Nat} : ck_Ok p1_O X LX 128 p5y1_572 := ck_ok_s (ck_E1 (ck_S1 p5y1_570_s ck_S0) (ck_E1 (ck_S1 p5y1_571_s ck_S0) ck_E0)) ck_X0 ck_l0 p5y1_572_e
set_option maxRecDepth 100000 in
def p5y1_573 : ck_Sum := ((2, 0, 0), 245, [.inr (.inr (.inl 1)), .inl (ck_one 61), .inr (.inr (.inl 245))], ([], [], [(201, 61, 61, ck_one 3)]), ([(245, 0, 0)], []), [(.inr (some (.inl (ck_one 0))), 245, ([], [], [(245, 0, 0, ck_one 3)]))])
set_option maxRecDepth 100000 in
theorem p5y1_573_e : ck_ok p1_O none [] [(128, [p5y1_572])] 127 [] 90 p5y1_573 = true := by decide +kernel
theorem p5y1_573_s {X : Int → Int} {LX : Nat} : ck_Ok p1_O X LX 127 p5y1_573 := ck_ok_s (ck_E1 (ck_S1 p5y1_572_s ck_S0) ck_E0) ck_X0 ck_l0 p5y1_573_e
set_option maxRecDepth 100000 in
def p5y1_577 : ck_Sum := ((0, 0, 0), 245, [.inr (.inr (.inl 1)), .inl (ck_one 62)], ([], [], []), ([], []), [(.inr none, 245, ([], [], []))])
set_option maxRecDepth 100000 in
theorem p5y1_577_e : ck_ok p1_O none [] [] 129 [] 82 p5y1_577 = true := by decide +kernel
theorem p5y1_577_s {X : Int → Int} {LX : Nat} : ck_Ok p1_O X LX 129 p5y1_577 := ck_ok_s (ck_E0) ck_X0 ck_l0 p5y1_577_e
set_option maxRecDepth 100000 in
def p5y1_578 : ck_Sum := ((0, 0, 0), 245, [.inr (.inr (.inl 200)), .inl (ck_one 62)], ([], [], [(201, 62, 62, ck_one 1)]), ([], []), [(.inr (some (.inl (ck_one 1))), 245, ([], [], []))])
set_option maxRecDepth 100000 in
theorem p5y1_578_e : ck_ok p1_O none [] [] 34 [] 92 p5y1_578 = true := by decide +kernel
theorem p5y1_578_s {X : Int → Int} {LX : Nat} : ck_Ok p1_O X LX 34 p5y1_578 := ck_ok_s (ck_E0) ck_X0 ck_l0 p5y1_578_e
set_option maxRecDepth 100000 in
def p5y1_579 : ck_Sum := ((1, 0, 0), 245, [.inr (.inr (.inl 1)), .inl (ck_one 62)], ([], [], [(201, 62, 62, ck_one 1)]), ([], []), [(.inr (some (.inl (ck_one 1))), 245, ([], [], []))])
set_option maxRecDepth 100000 in
theorem p5y1_579_e : ck_ok p1_O none [] [(129, [p5y1_577]), (34, [p5y1_578])] 128 [] 86 p5y1_579 = true := by decide +kernel
theorem p5y1_579_s {X : Int → Int} {LX : Nat} : ck_Ok p1_O X LX 128 p5y1_579 := ck_ok_s (ck_E1 (ck_S1 p5y1_577_s ck_S0) (ck_E1 (ck_S1 p5y1_578_s ck_S0) ck_E0)) ck_X0 ck_l0 p5y1_579_e
set_option maxRecDepth 100000 in
def p5y1_580 : ck_Sum := ((2, 0, 0), 245, [.inr (.inr (.inl 1)), .inl (ck_one 62), .inr (.inr (.inl 245))], ([], [], [(201, 62, 62, ck_one 1)]), ([(245, 0, 0)], []), [(.inr (some (.inl (ck_one 0))), 245, ([], [], [(245, 0, 0, ck_one 1)]))])
set_option maxRecDepth 100000 in
theorem p5y1_580_e : ck_ok p1_O none [] [(128, [p5y1_579])] 127 [] 90 p5y1_580 = true := by decide +kernel
theorem p5y1_580_s {X : Int → Int} {LX : Nat} : ck_Ok p1_O X LX 127 p5y1_580 := ck_ok_s (ck_E1 (ck_S1 p5y1_579_s ck_S0) ck_E0) ck_X0 ck_l0 p5y1_580_e
set_option maxRecDepth 100000 in
def p5y1_584 : ck_Sum := ((0, 0, 0), 245, [.inr (.inr (.inl 1)), .inl (ck_one 63)], ([], [], []), ([], []), [(.inr none, 245, ([], [], []))])
set_option maxRecDepth 100000 in
theorem p5y1_584_e : ck_ok p1_O none [] [] 129 [] 82 p5y1_584 = true := by decide +kernel
theorem p5y1_584_s {X : Int → Int} {LX : Nat} : ck_Ok p1_O X LX 129 p5y1_584 := ck_ok_s (ck_E0) ck_X0 ck_l0 p5y1_584_e
set_option maxRecDepth 100000 in
def p5y1_585 : ck_Sum := ((0, 0, 0), 245, [.inr (.inr (.inl 200)), .inl (ck_one 63)], ([], [], [(201, 63, 63, ck_one 4)]), ([], []), [(.inr (some (.inl (ck_one 4))), 245, ([], [], []))])
set_option maxRecDepth 100000 in
theorem p5y1_585_e : ck_ok p1_O none [] [] 34 [] 92 p5y1_585 = true := by decide +kernel
theorem p5y1_585_s {X : Int → Int} {LX : Nat} : ck_Ok p1_O X LX 34 p5y1_585 := ck_ok_s (ck_E0) ck_X0 ck_l0 p5y1_585_e
set_option maxRecDepth 100000 in
def p5y1_586 : ck_Sum := ((1, 0, 0), 245, [.inr (.inr (.inl 1)), .inl (ck_one 63)], ([], [], [(201, 63, 63, ck_one 4)]), ([], []), [(.inr (some (.inl (ck_one 4))), 245, ([], [], []))])
set_option maxRecDepth 100000 in
theorem p5y1_586_e : ck_ok p1_O none [] [(129, [p5y1_584]), (34, [p5y1_585])] 128 [] 86 p5y1_586 = true := by decide +kernel
theorem p5y1_586_s {X : Int → Int} {LX : Nat} : ck_Ok p1_O X LX 128 p5y1_586 := ck_ok_s (ck_E1 (ck_S1 p5y1_584_s ck_S0) (ck_E1 (ck_S1 p5y1_585_s ck_S0) ck_E0)) ck_X0 ck_l0 p5y1_586_e
set_option maxRecDepth 100000 in
def p5y1_587 : ck_Sum := ((2, 0, 0), 245, [.inr (.inr (.inl 1)), .inl (ck_one 63), .inr (.inr (.inl 245))], ([], [], [(201, 63, 63, ck_one 4)]), ([(245, 0, 0)], []), [(.inr (some (.inl (ck_one 0))), 245, ([], [], [(245, 0, 0, ck_one 4)]))])
set_option maxRecDepth 100000 in
theorem p5y1_587_e : ck_ok p1_O none [] [(128, [p5y1_586])] 127 [] 90 p5y1_587 = true := by decide +kernel
theorem p5y1_587_s {X : Int → Int} {LX : Nat} : ck_Ok p1_O X LX 127 p5y1_587 := ck_ok_s (ck_E1 (ck_S1 p5y1_586_s ck_S0) ck_E0) ck_X0 ck_l0 p5y1_587_e
set_option maxRecDepth 100000 in
def p5y1_591 : ck_Sum := ((0, 0, 0), 245, [.inr (.inr (.inl 1)), .inl (ck_one 64)], ([], [], []), ([], []), [(.inr none, 245, ([], [], []))])
set_option maxRecDepth 100000 in
theorem p5y1_591_e : ck_ok p1_O none [] [] 129 [] 82 p5y1_591 = true := by decide +kernel
theorem p5y1_591_s {X : Int → Int} {LX : Nat} : ck_Ok p1_O X LX 129 p5y1_591 := ck_ok_s (ck_E0) ck_X0 ck_l0 p5y1_591_e
set_option maxRecDepth 100000 in
def p5y1_592 : ck_Sum := ((0, 0, 0), 245, [.inr (.inr (.inl 200)), .inl (ck_one 64)], ([], [], [(201, 64, 64, ck_one 0)]), ([], []), [(.inr (some (.inl (ck_one 0))), 245, ([], [], []))])
set_option maxRecDepth 100000 in
theorem p5y1_592_e : ck_ok p1_O none [] [] 34 [] 92 p5y1_592 = true := by decide +kernel
theorem p5y1_592_s {X : Int → Int} {LX : Nat} : ck_Ok p1_O X LX 34 p5y1_592 := ck_ok_s (ck_E0) ck_X0 ck_l0 p5y1_592_e
set_option maxRecDepth 100000 in
def p5y1_593 : ck_Sum := ((1, 0, 0), 245, [.inr (.inr (.inl 1)), .inl (ck_one 64)], ([], [], [(201, 64, 64, ck_one 0)]), ([], []), [(.inr (some (.inl (ck_one 0))), 245, ([], [], []))])
set_option maxRecDepth 100000 in
theorem p5y1_593_e : ck_ok p1_O none [] [(129, [p5y1_591]), (34, [p5y1_592])] 128 [] 86 p5y1_593 = true := by decide +kernel
theorem p5y1_593_s {X : Int → Int} {LX : Nat} : ck_Ok p1_O X LX 128 p5y1_593 := ck_ok_s (ck_E1 (ck_S1 p5y1_591_s ck_S0) (ck_E1 (ck_S1 p5y1_592_s ck_S0) ck_E0)) ck_X0 ck_l0 p5y1_593_e
set_option maxRecDepth 100000 in
def p5y1_594 : ck_Sum := ((2, 0, 0), 245, [.inr (.inr (.inl 1)), .inl (ck_one 64), .inr (.inr (.inl 245))], ([], [], [(201, 64, 64, ck_one 0)]), ([(245, 0, 0)], []), [(.inr (some (.inl (ck_one 0))), 245, ([], [], [(245, 0, 0, ck_one 0)]))])
set_option maxRecDepth 100000 in
theorem p5y1_594_e : ck_ok p1_O none [] [(128, [p5y1_593])] 127 [] 90 p5y1_594 = true := by decide +kernel
theorem p5y1_594_s {X : Int → Int} {LX : Nat} : ck_Ok p1_O X LX 127 p5y1_594 := ck_ok_s (ck_E1 (ck_S1 p5y1_593_s ck_S0) ck_E0) ck_X0 ck_l0 p5y1_594_e
set_option maxRecDepth 100000 in
def p5y1_598 : ck_Sum := ((0, 0, 0), 245, [.inr (.inr (.inl 1)), .inl (ck_one 65)], ([], [], []), ([], []), [(.inr none, 245, ([], [], []))])
set_option maxRecDepth 100000 in
theorem p5y1_598_e : ck_ok p1_O none [] [] 129 [] 82 p5y1_598 = true := by decide +kernel
theorem p5y1_598_s {X : Int → Int} {LX : Nat} : ck_Ok p1_O X LX 129 p5y1_598 := ck_ok_s (ck_E0) ck_X0 ck_l0 p5y1_598_e
set_option maxRecDepth 100000 in
def p5y1_599 : ck_Sum := ((0, 0, 0), 245, [.inr (.inr (.inl 200)), .inl (ck_one 65)], ([], [], [(201, 65, 65, ck_one 9)]), ([], []), [(.inr (some (.inl (ck_one 9))), 245, ([], [], []))])
set_option maxRecDepth 100000 in
theorem p5y1_599_e : ck_ok p1_O none [] [] 34 [] 92 p5y1_599 = true := by decide +kernel
theorem p5y1_599_s {X : Int → Int} {LX : Nat} : ck_Ok p1_O X LX 34 p5y1_599 := ck_ok_s (ck_E0) ck_X0 ck_l0 p5y1_599_e
set_option maxRecDepth 100000 in
def p5y1_600 : ck_Sum := ((1, 0, 0), 245, [.inr (.inr (.inl 1)), .inl (ck_one 65)], ([], [], [(201, 65, 65, ck_one 9)]), ([], []), [(.inr (some (.inl (ck_one 9))), 245, ([], [], []))])
set_option maxRecDepth 100000 in
theorem p5y1_600_e : ck_ok p1_O none [] [(129, [p5y1_598]), (34, [p5y1_599])] 128 [] 86 p5y1_600 = true := by decide +kernel
theorem p5y1_600_s {X : Int → Int} {LX : Nat} : ck_Ok p1_O X LX 128 p5y1_600 := ck_ok_s (ck_E1 (ck_S1 p5y1_598_s ck_S0) (ck_E1 (ck_S1 p5y1_599_s ck_S0) ck_E0)) ck_X0 ck_l0 p5y1_600_e
set_option maxRecDepth 100000 in
def p5y1_601 : ck_Sum := ((2, 0, 0), 245, [.inr (.inr (.inl 1)), .inl (ck_one 65), .inr (.inr (.inl 245))], ([], [], [(201, 65, 65, ck_one 9)]), ([(245, 0, 0)], []), [(.inr (some (.inl (ck_one 0))), 245, ([], [], [(245, 0, 0, ck_one 9)]))])
set_option maxRecDepth 100000 in
theorem p5y1_601_e : ck_ok p1_O none [] [(128, [p5y1_600])] 127 [] 90 p5y1_601 = true := by decide +kernel
theorem p5y1_601_s {X : Int → Int} {LX : Nat} : ck_Ok p1_O X LX 127 p5y1_601 := ck_ok_s (ck_E1 (ck_S1 p5y1_600_s ck_S0) ck_E0) ck_X0 ck_l0 p5y1_601_e
set_option maxRecDepth 100000 in
def p5y1_605 : ck_Sum := ((0, 0, 0), 245, [.inr (.inr (.inl 1)), .inl (ck_one 66)], ([], [], []), ([], []), [(.inr none, 245, ([], [], []))])
set_option maxRecDepth 100000 in
theorem p5y1_605_e : ck_ok p1_O none [] [] 129 [] 82 p5y1_605 = true := by decide +kernel
theorem p5y1_605_s {X : Int → Int} {LX : Nat} : ck_Ok p1_O X LX 129 p5y1_605 := ck_ok_s (ck_E0) ck_X0 ck_l0 p5y1_605_e
set_option maxRecDepth 100000 in
def p5y1_606 : ck_Sum := ((0, 0, 0), 245, [.inr (.inr (.inl 200)), .inl (ck_one 66)], ([], [], [(201, 66, 66, ck_one 8)]), ([], []), [(.inr (some (.inl (ck_one 8))), 245, ([], [], []))])
set_option maxRecDepth 100000 in
theorem p5y1_606_e : ck_ok p1_O none [] [] 34 [] 92 p5y1_606 = true := by decide +kernel
theorem p5y1_606_s {X : Int → Int} {LX : Nat} : ck_Ok p1_O X LX 34 p5y1_606 := ck_ok_s (ck_E0) ck_X0 ck_l0 p5y1_606_e
set_option maxRecDepth 100000 in
def p5y1_607 : ck_Sum := ((1, 0, 0), 245, [.inr (.inr (.inl 1)), .inl (ck_one 66)], ([], [], [(201, 66, 66, ck_one 8)]), ([], []), [(.inr (some (.inl (ck_one 8))), 245, ([], [], []))])
set_option maxRecDepth 100000 in
theorem p5y1_607_e : ck_ok p1_O none [] [(129, [p5y1_605]), (34, [p5y1_606])] 128 [] 86 p5y1_607 = true := by decide +kernel
theorem p5y1_607_s {X : Int → Int} {LX : Nat} : ck_Ok p1_O X LX 128 p5y1_607 := ck_ok_s (ck_E1 (ck_S1 p5y1_605_s ck_S0) (ck_E1 (ck_S1 p5y1_606_s ck_S0) ck_E0)) ck_X0 ck_l0 p5y1_607_e
set_option maxRecDepth 100000 in
def p5y1_608 : ck_Sum := ((2, 0, 0), 245, [.inr (.inr (.inl 1)), .inl (ck_one 66), .inr (.inr (.inl 245))], ([], [], [(201, 66, 66, ck_one 8)]), ([(245, 0, 0)], []), [(.inr (some (.inl (ck_one 0))), 245, ([], [], [(245, 0, 0, ck_one 8)]))])
set_option maxRecDepth 100000 in
theorem p5y1_608_e : ck_ok p1_O none [] [(128, [p5y1_607])] 127 [] 90 p5y1_608 = true := by decide +kernel
theorem p5y1_608_s {X : Int → Int} {LX : Nat} : ck_Ok p1_O X LX 127 p5y1_608 := ck_ok_s (ck_E1 (ck_S1 p5y1_607_s ck_S0) ck_E0) ck_X0 ck_l0 p5y1_608_e
set_option maxRecDepth 100000 in
def p5y1_612 : ck_Sum := ((0, 0, 0), 245, [.inr (.inr (.inl 1)), .inl (ck_one 67)], ([], [], []), ([], []), [(.inr none, 245, ([], [], []))])
set_option maxRecDepth 100000 in
theorem p5y1_612_e : ck_ok p1_O none [] [] 129 [] 82 p5y1_612 = true := by decide +kernel
theorem p5y1_612_s {X : Int → Int} {LX : Nat} : ck_Ok p1_O X LX 129 p5y1_612 := ck_ok_s (ck_E0) ck_X0 ck_l0 p5y1_612_e
set_option maxRecDepth 100000 in
def p5y1_613 : ck_Sum := ((0, 0, 0), 245, [.inr (.inr (.inl 200)), .inl (ck_one 67)], ([], [], [(201, 67, 67, ck_one 7)]), ([], []), [(.inr (some (.inl (ck_one 7))), 245, ([], [], []))])
set_option maxRecDepth 100000 in
theorem p5y1_613_e : ck_ok p1_O none [] [] 34 [] 92 p5y1_613 = true := by decide +kernel
theorem p5y1_613_s {X : Int → Int} {LX : Nat} : ck_Ok p1_O X LX 34 p5y1_613 := ck_ok_s (ck_E0) ck_X0 ck_l0 p5y1_613_e
set_option maxRecDepth 100000 in
def p5y1_614 : ck_Sum := ((1, 0, 0), 245, [.inr (.inr (.inl 1)), .inl (ck_one 67)], ([], [], [(201, 67, 67, ck_one 7)]), ([], []), [(.inr (some (.inl (ck_one 7))), 245, ([], [], []))])
set_option maxRecDepth 100000 in
theorem p5y1_614_e : ck_ok p1_O none [] [(129, [p5y1_612]), (34, [p5y1_613])] 128 [] 86 p5y1_614 = true := by decide +kernel
theorem p5y1_614_s {X : Int → Int} {LX : Nat} : ck_Ok p1_O X LX 128 p5y1_614 := ck_ok_s (ck_E1 (ck_S1 p5y1_612_s ck_S0) (ck_E1 (ck_S1 p5y1_613_s ck_S0) ck_E0)) ck_X0 ck_l0 p5y1_614_e
set_option maxRecDepth 100000 in
def p5y1_615 : ck_Sum := ((2, 0, 0), 245, [.inr (.inr (.inl 1)), .inl (ck_one 67), .inr (.inr (.inl 245))], ([], [], [(201, 67, 67, ck_one 7)]), ([(245, 0, 0)], []), [(.inr (some (.inl (ck_one 0))), 245, ([], [], [(245, 0, 0, ck_one 7)]))])
set_option maxRecDepth 100000 in
theorem p5y1_615_e : ck_ok p1_O none [] [(128, [p5y1_614])] 127 [] 90 p5y1_615 = true := by decide +kernel
theorem p5y1_615_s {X : Int → Int} {LX : Nat} : ck_Ok p1_O X LX 127 p5y1_615 := ck_ok_s (ck_E1 (ck_S1 p5y1_614_s ck_S0) ck_E0) ck_X0 ck_l0 p5y1_615_e
set_option maxRecDepth 100000 in
def p5y1_619 : ck_Sum := ((0, 0, 0), 245, [.inr (.inr (.inl 1)), .inl (ck_one 68)], ([], [], []), ([], []), [(.inr none, 245, ([], [], []))])
set_option maxRecDepth 100000 in
theorem p5y1_619_e : ck_ok p1_O none [] [] 129 [] 82 p5y1_619 = true := by decide +kernel
theorem p5y1_619_s {X : Int → Int} {LX : Nat} : ck_Ok p1_O X LX 129 p5y1_619 := ck_ok_s (ck_E0) ck_X0 ck_l0 p5y1_619_e
set_option maxRecDepth 100000 in
def p5y1_620 : ck_Sum := ((0, 0, 0), 245, [.inr (.inr (.inl 200)), .inl (ck_one 68)], ([], [], [(201, 68, 68, ck_one 9)]), ([], []), [(.inr (some (.inl (ck_one 9))), 245, ([], [], []))])
set_option maxRecDepth 100000 in
theorem p5y1_620_e : ck_ok p1_O none [] [] 34 [] 92 p5y1_620 = true := by decide +kernel
theorem p5y1_620_s {X : Int → Int} {LX : Nat} : ck_Ok p1_O X LX 34 p5y1_620 := ck_ok_s (ck_E0) ck_X0 ck_l0 p5y1_620_e
set_option maxRecDepth 100000 in
def p5y1_621 : ck_Sum := ((1, 0, 0), 245, [.inr (.inr (.inl 1)), .inl (ck_one 68)], ([], [], [(201, 68, 68, ck_one 9)]), ([], []), [(.inr (some (.inl (ck_one 9))), 245, ([], [], []))])
set_option maxRecDepth 100000 in
theorem p5y1_621_e : ck_ok p1_O none [] [(129, [p5y1_619]), (34, [p5y1_620])] 128 [] 86 p5y1_621 = true := by decide +kernel
theorem p5y1_621_s {X : Int → Int} {LX : Nat} : ck_Ok p1_O X LX 128 p5y1_621 := ck_ok_s (ck_E1 (ck_S1 p5y1_619_s ck_S0) (ck_E1 (ck_S1 p5y1_620_s ck_S0) ck_E0)) ck_X0 ck_l0 p5y1_621_e
set_option maxRecDepth 100000 in
def p5y1_622 : ck_Sum := ((2, 0, 0), 245, [.inr (.inr (.inl 1)), .inl (ck_one 68), .inr (.inr (.inl 245))], ([], [], [(201, 68, 68, ck_one 9)]), ([(245, 0, 0)], []), [(.inr (some (.inl (ck_one 0))), 245, ([], [], [(245, 0, 0, ck_one 9)]))])
set_option maxRecDepth 100000 in
theorem p5y1_622_e : ck_ok p1_O none [] [(128, [p5y1_621])] 127 [] 90 p5y1_622 = true := by decide +kernel
theorem p5y1_622_s {X : Int → Int} {LX : Nat} : ck_Ok p1_O X LX 127 p5y1_622 := ck_ok_s (ck_E1 (ck_S1 p5y1_621_s ck_S0) ck_E0) ck_X0 ck_l0 p5y1_622_e
set_option maxRecDepth 100000 in
def p5y1_626 : ck_Sum := ((0, 0, 0), 245, [.inr (.inr (.inl 1)), .inl (ck_one 69)], ([], [], []), ([], []), [(.inr none, 245, ([], [], []))])
set_option maxRecDepth 100000 in
theorem p5y1_626_e : ck_ok p1_O none [] [] 129 [] 82 p5y1_626 = true := by decide +kernel
theorem p5y1_626_s {X : Int → Int} {LX : Nat} : ck_Ok p1_O X LX 129 p5y1_626 := ck_ok_s (ck_E0) ck_X0 ck_l0 p5y1_626_e
set_option maxRecDepth 100000 in
def p5y1_627 : ck_Sum := ((0, 0, 0), 245, [.inr (.inr (.inl 200)), .inl (ck_one 69)], ([], [], [(201, 69, 69, ck_one 6)]), ([], []), [(.inr (some (.inl (ck_one 6))), 245, ([], [], []))])
set_option maxRecDepth 100000 in
theorem p5y1_627_e : ck_ok p1_O none [] [] 34 [] 92 p5y1_627 = true := by decide +kernel
theorem p5y1_627_s {X : Int → Int} {LX : Nat} : ck_Ok p1_O X LX 34 p5y1_627 := ck_ok_s (ck_E0) ck_X0 ck_l0 p5y1_627_e
set_option maxRecDepth 100000 in
def p5y1_628 : ck_Sum := ((1, 0, 0), 245, [.inr (.inr (.inl 1)), .inl (ck_one 69)], ([], [], [(201, 69, 69, ck_one 6)]), ([], []), [(.inr (some (.inl (ck_one 6))), 245, ([], [], []))])
set_option maxRecDepth 100000 in
theorem p5y1_628_e : ck_ok p1_O none [] [(129, [p5y1_626]), (34, [p5y1_627])] 128 [] 86 p5y1_628 = true := by decide +kernel
theorem p5y1_628_s {X : Int → Int} {LX : Nat} : ck_Ok p1_O X LX 128 p5y1_628 := ck_ok_s (ck_E1 (ck_S1 p5y1_626_s ck_S0) (ck_E1 (ck_S1 p5y1_627_s ck_S0) ck_E0)) ck_X0 ck_l0 p5y1_628_e
set_option maxRecDepth 100000 in
def p5y1_629 : ck_Sum := ((2, 0, 0), 245, [.inr (.inr (.inl 1)), .inl (ck_one 69), .inr (.inr (.inl 245))], ([], [], [(201, 69, 69, ck_one 6)]), ([(245, 0, 0)], []), [(.inr (some (.inl (ck_one 0))), 245, ([], [], [(245, 0, 0, ck_one 6)]))])
set_option maxRecDepth 100000 in
theorem p5y1_629_e : ck_ok p1_O none [] [(128, [p5y1_628])] 127 [] 90 p5y1_629 = true := by decide +kernel
theorem p5y1_629_s {X : Int → Int} {LX : Nat} : ck_Ok p1_O X LX 127 p5y1_629 := ck_ok_s (ck_E1 (ck_S1 p5y1_628_s ck_S0) ck_E0) ck_X0 ck_l0 p5y1_629_e
set_option maxRecDepth 100000 in
def p5y1_633 : ck_Sum := ((0, 0, 0), 245, [.inr (.inr (.inl 1)), .inl (ck_one 70)], ([], [], []), ([], []), [(.inr none, 245, ([], [], []))])
set_option maxRecDepth 100000 in
theorem p5y1_633_e : ck_ok p1_O none [] [] 129 [] 82 p5y1_633 = true := by decide +kernel
theorem p5y1_633_s {X : Int → Int} {LX : Nat} : ck_Ok p1_O X LX 129 p5y1_633 := ck_ok_s (ck_E0) ck_X0 ck_l0 p5y1_633_e
set_option maxRecDepth 100000 in
def p5y1_634 : ck_Sum := ((0, 0, 0), 245, [.inr (.inr (.inl 200)), .inl (ck_one 70)], ([], [], [(201, 70, 70, ck_one 6)]), ([], []), [(.inr (some (.inl (ck_one 6))), 245, ([], [], []))])
set_option maxRecDepth 100000 in
theorem p5y1_634_e : ck_ok p1_O none [] [] 34 [] 92 p5y1_634 = true := by decide +kernel
theorem p5y1_634_s {X : Int → Int} {LX : Nat} : ck_Ok p1_O X LX 34 p5y1_634 := ck_ok_s (ck_E0) ck_X0 ck_l0 p5y1_634_e
set_option maxRecDepth 100000 in
def p5y1_635 : ck_Sum := ((1, 0, 0), 245, [.inr (.inr (.inl 1)), .inl (ck_one 70)], ([], [], [(201, 70, 70, ck_one 6)]), ([], []), [(.inr (some (.inl (ck_one 6))), 245, ([], [], []))])
set_option maxRecDepth 100000 in
theorem p5y1_635_e : ck_ok p1_O none [] [(129, [p5y1_633]), (34, [p5y1_634])] 128 [] 86 p5y1_635 = true := by decide +kernel
theorem p5y1_635_s {X : Int → Int} {LX : Nat} : ck_Ok p1_O X LX 128 p5y1_635 := ck_ok_s (ck_E1 (ck_S1 p5y1_633_s ck_S0) (ck_E1 (ck_S1 p5y1_634_s ck_S0) ck_E0)) ck_X0 ck_l0 p5y1_635_e
set_option maxRecDepth 100000 in
def p5y1_636 : ck_Sum := ((2, 0, 0), 245, [.inr (.inr (.inl 1)), .inl (ck_one 70), .inr (.inr (.inl 245))], ([], [], [(201, 70, 70, ck_one 6)]), ([(245, 0, 0)], []), [(.inr (some (.inl (ck_one 0))), 245, ([], [], [(245, 0, 0, ck_one 6)]))])
set_option maxRecDepth 100000 in
theorem p5y1_636_e : ck_ok p1_O none [] [(128, [p5y1_635])] 127 [] 90 p5y1_636 = true := by decide +kernel
theorem p5y1_636_s {X : Int → Int} {LX : Nat} : ck_Ok p1_O X LX 127 p5y1_636 := ck_ok_s (ck_E1 (ck_S1 p5y1_635_s ck_S0) ck_E0) ck_X0 ck_l0 p5y1_636_e
set_option maxRecDepth 100000 in
def p5y1_640 : ck_Sum := ((0, 0, 0), 245, [.inr (.inr (.inl 1)), .inl (ck_one 71)], ([], [], []), ([], []), [(.inr none, 245, ([], [], []))])
set_option maxRecDepth 100000 in
theorem p5y1_640_e : ck_ok p1_O none [] [] 129 [] 82 p5y1_640 = true := by decide +kernel
theorem p5y1_640_s {X : Int → Int} {LX : Nat} : ck_Ok p1_O X LX 129 p5y1_640 := ck_ok_s (ck_E0) ck_X0 ck_l0 p5y1_640_e
set_option maxRecDepth 100000 in
def p5y1_641 : ck_Sum := ((0, 0, 0), 245, [.inr (.inr (.inl 200)), .inl (ck_one 71)], ([], [], [(201, 71, 71, ck_one 0)]), ([], []), [(.inr (some (.inl (ck_one 0))), 245, ([], [], []))])
set_option maxRecDepth 100000 in
theorem p5y1_641_e : ck_ok p1_O none [] [] 34 [] 92 p5y1_641 = true := by decide +kernel
theorem p5y1_641_s {X : Int → Int} {LX : Nat} : ck_Ok p1_O X LX 34 p5y1_641 := ck_ok_s (ck_E0) ck_X0 ck_l0 p5y1_641_e
set_option maxRecDepth 100000 in
def p5y1_642 : ck_Sum := ((1, 0, 0), 245, [.inr (.inr (.inl 1)), .inl (ck_one 71)], ([], [], [(201, 71, 71, ck_one 0)]), ([], []), [(.inr (some (.inl (ck_one 0))), 245, ([], [], []))])
set_option maxRecDepth 100000 in
theorem p5y1_642_e : ck_ok p1_O none [] [(129, [p5y1_640]), (34, [p5y1_641])] 128 [] 86 p5y1_642 = true := by decide +kernel
theorem p5y1_642_s {X : Int → Int} {LX : Nat} : ck_Ok p1_O X LX 128 p5y1_642 := ck_ok_s (ck_E1 (ck_S1 p5y1_640_s ck_S0) (ck_E1 (ck_S1 p5y1_641_s ck_S0) ck_E0)) ck_X0 ck_l0 p5y1_642_e
set_option maxRecDepth 100000 in
def p5y1_643 : ck_Sum := ((2, 0, 0), 245, [.inr (.inr (.inl 1)), .inl (ck_one 71), .inr (.inr (.inl 245))], ([], [], [(201, 71, 71, ck_one 0)]), ([(245, 0, 0)], []), [(.inr (some (.inl (ck_one 0))), 245, ([], [], [(245, 0, 0, ck_one 0)]))])
set_option maxRecDepth 100000 in
theorem p5y1_643_e : ck_ok p1_O none [] [(128, [p5y1_642])] 127 [] 90 p5y1_643 = true := by decide +kernel
theorem p5y1_643_s {X : Int → Int} {LX : Nat} : ck_Ok p1_O X LX 127 p5y1_643 := ck_ok_s (ck_E1 (ck_S1 p5y1_642_s ck_S0) ck_E0) ck_X0 ck_l0 p5y1_643_e
set_option maxRecDepth 100000 in
def p5y1_647 : ck_Sum := ((0, 0, 0), 245, [.inr (.inr (.inl 1)), .inl (ck_one 72)], ([], [], []), ([], []), [(.inr none, 245, ([], [], []))])
set_option maxRecDepth 100000 in
theorem p5y1_647_e : ck_ok p1_O none [] [] 129 [] 82 p5y1_647 = true := by decide +kernel
theorem p5y1_647_s {X : Int → Int} {LX : Nat} : ck_Ok p1_O X LX 129 p5y1_647 := ck_ok_s (ck_E0) ck_X0 ck_l0 p5y1_647_e
set_option maxRecDepth 100000 in
def p5y1_648 : ck_Sum := ((0, 0, 0), 245, [.inr (.inr (.inl 200)), .inl (ck_one 72)], ([], [], [(201, 72, 72, ck_one 8)]), ([], []), [(.inr (some (.inl (ck_one 8))), 245, ([], [], []))])
set_option maxRecDepth 100000 in
theorem p5y1_648_e : ck_ok p1_O none [] [] 34 [] 92 p5y1_648 = true := by decide +kernel
theorem p5y1_648_s {X : Int → Int} {LX : Nat} : ck_Ok p1_O X LX 34 p5y1_648 := ck_ok_s (ck_E0) ck_X0 ck_l0 p5y1_648_e
set_option maxRecDepth 100000 in
def p5y1_649 : ck_Sum := ((1, 0, 0), 245, [.inr (.inr (.inl 1)), .inl (ck_one 72)], ([], [], [(201, 72, 72, ck_one 8)]), ([], []), [(.inr (some (.inl (ck_one 8))), 245, ([], [], []))])
set_option maxRecDepth 100000 in
theorem p5y1_649_e : ck_ok p1_O none [] [(129, [p5y1_647]), (34, [p5y1_648])] 128 [] 86 p5y1_649 = true := by decide +kernel
theorem p5y1_649_s {X : Int → Int} {LX : Nat} : ck_Ok p1_O X LX 128 p5y1_649 := ck_ok_s (ck_E1 (ck_S1 p5y1_647_s ck_S0) (ck_E1 (ck_S1 p5y1_648_s ck_S0) ck_E0)) ck_X0 ck_l0 p5y1_649_e
set_option maxRecDepth 100000 in
def p5y1_650 : ck_Sum := ((2, 0, 0), 245, [.inr (.inr (.inl 1)), .inl (ck_one 72), .inr (.inr (.inl 245))], ([], [], [(201, 72, 72, ck_one 8)]), ([(245, 0, 0)], []), [(.inr (some (.inl (ck_one 0))), 245, ([], [], [(245, 0, 0, ck_one 8)]))])
set_option maxRecDepth 100000 in
theorem p5y1_650_e : ck_ok p1_O none [] [(128, [p5y1_649])] 127 [] 90 p5y1_650 = true := by decide +kernel
theorem p5y1_650_s {X : Int → Int} {LX : Nat} : ck_Ok p1_O X LX 127 p5y1_650 := ck_ok_s (ck_E1 (ck_S1 p5y1_649_s ck_S0) ck_E0) ck_X0 ck_l0 p5y1_650_e
set_option maxRecDepth 100000 in
def p5y1_654 : ck_Sum := ((0, 0, 0), 245, [.inr (.inr (.inl 1)), .inl (ck_one 73)], ([], [], []), ([], []), [(.inr none, 245, ([], [], []))])
set_option maxRecDepth 100000 in
theorem p5y1_654_e : ck_ok p1_O none [] [] 129 [] 82 p5y1_654 = true := by decide +kernel
theorem p5y1_654_s {X : Int → Int} {LX : Nat} : ck_Ok p1_O X LX 129 p5y1_654 := ck_ok_s (ck_E0) ck_X0 ck_l0 p5y1_654_e
set_option maxRecDepth 100000 in
def p5y1_655 : ck_Sum := ((0, 0, 0), 245, [.inr (.inr (.inl 200)), .inl (ck_one 73)], ([], [], [(201, 73, 73, ck_one 6)]), ([], []), [(.inr (some (.inl (ck_one 6))), 245, ([], [], []))])
set_option maxRecDepth 100000 in
theorem p5y1_655_e : ck_ok p1_O none [] [] 34 [] 92 p5y1_655 = true := by decide +kernel
theorem p5y1_655_s {X : Int → Int} {LX : Nat} : ck_Ok p1_O X LX 34 p5y1_655 := ck_ok_s (ck_E0) ck_X0 ck_l0 p5y1_655_e
set_option maxRecDepth 100000 in
def p5y1_656 : ck_Sum := ((1, 0, 0), 245, [.inr (.inr (.inl 1)), .inl (ck_one 73)], ([], [], [(201, 73, 73, ck_one 6)]), ([], []), [(.inr (some (.inl (ck_one 6))), 245, ([], [], []))])
set_option maxRecDepth 100000 in
theorem p5y1_656_e : ck_ok p1_O none [] [(129, [p5y1_654]), (34, [p5y1_655])] 128 [] 86 p5y1_656 = true := by decide +kernel
theorem p5y1_656_s {X : Int → Int} {LX : Nat} : ck_Ok p1_O X LX 128 p5y1_656 := ck_ok_s (ck_E1 (ck_S1 p5y1_654_s ck_S0) (ck_E1 (ck_S1 p5y1_655_s ck_S0) ck_E0)) ck_X0 ck_l0 p5y1_656_e
set_option maxRecDepth 100000 in
def p5y1_657 : ck_Sum := ((2, 0, 0), 245, [.inr (.inr (.inl 1)), .inl (ck_one 73), .inr (.inr (.inl 245))], ([], [], [(201, 73, 73, ck_one 6)]), ([(245, 0, 0)], []), [(.inr (some (.inl (ck_one 0))), 245, ([], [], [(245, 0, 0, ck_one 6)]))])
set_option maxRecDepth 100000 in
theorem p5y1_657_e : ck_ok p1_O none [] [(128, [p5y1_656])] 127 [] 90 p5y1_657 = true := by decide +kernel
theorem p5y1_657_s {X : Int → Int} {LX : Nat} : ck_Ok p1_O X LX 127 p5y1_657 := ck_ok_s (ck_E1 (ck_S1 p5y1_656_s ck_S0) ck_E0) ck_X0 ck_l0 p5y1_657_e
set_option maxRecDepth 100000 in
def p5y1_661 : ck_Sum := ((0, 0, 0), 245, [.inr (.inr (.inl 1)), .inl (ck_one 74)], ([], [], []), ([], []), [(.inr none, 245, ([], [], []))])
set_option maxRecDepth 100000 in
theorem p5y1_661_e : ck_ok p1_O none [] [] 129 [] 82 p5y1_661 = true := by decide +kernel
theorem p5y1_661_s {X : Int → Int} {LX : Nat} : ck_Ok p1_O X LX 129 p5y1_661 := ck_ok_s (ck_E0) ck_X0 ck_l0 p5y1_661_e
set_option maxRecDepth 100000 in
def p5y1_662 : ck_Sum := ((0, 0, 0), 245, [.inr (.inr (.inl 200)), .inl (ck_one 74)], ([], [], [(201, 74, 74, ck_one 4)]), ([], []), [(.inr (some (.inl (ck_one 4))), 245, ([], [], []))])
set_option maxRecDepth 100000 in
theorem p5y1_662_e : ck_ok p1_O none [] [] 34 [] 92 p5y1_662 = true := by decide +kernel
theorem p5y1_662_s {X : Int → Int} {LX : Nat} : ck_Ok p1_O X LX 34 p5y1_662 := ck_ok_s (ck_E0) ck_X0 ck_l0 p5y1_662_e
set_option maxRecDepth 100000 in
def p5y1_663 : ck_Sum := ((1, 0, 0), 245, [.inr (.inr (.inl 1)), .inl (ck_one 74)], ([], [], [(201, 74, 74, ck_one 4)]), ([], []), [(.inr (some (.inl (ck_one 4))), 245, ([], [], []))])
set_option maxRecDepth 100000 in
theorem p5y1_663_e : ck_ok p1_O none [] [(129, [p5y1_661]), (34, [p5y1_662])] 128 [] 86 p5y1_663 = true := by decide +kernel
theorem p5y1_663_s {X : Int → Int} {LX : Nat} : ck_Ok p1_O X LX 128 p5y1_663 := ck_ok_s (ck_E1 (ck_S1 p5y1_661_s ck_S0) (ck_E1 (ck_S1 p5y1_662_s ck_S0) ck_E0)) ck_X0 ck_l0 p5y1_663_e
set_option maxRecDepth 100000 in
def p5y1_664 : ck_Sum := ((2, 0, 0), 245, [.inr (.inr (.inl 1)), .inl (ck_one 74), .inr (.inr (.inl 245))], ([], [], [(201, 74, 74, ck_one 4)]), ([(245, 0, 0)], []), [(.inr (some (.inl (ck_one 0))), 245, ([], [], [(245, 0, 0, ck_one 4)]))])
set_option maxRecDepth 100000 in
theorem p5y1_664_e : ck_ok p1_O none [] [(128, [p5y1_663])] 127 [] 90 p5y1_664 = true := by decide +kernel
theorem p5y1_664_s {X : Int → Int} {LX : Nat} : ck_Ok p1_O X LX 127 p5y1_664 := ck_ok_s (ck_E1 (ck_S1 p5y1_663_s ck_S0) ck_E0) ck_X0 ck_l0 p5y1_664_e
set_option maxRecDepth 100000 in
def p5y1_668 : ck_Sum := ((0, 0, 0), 245, [.inr (.inr (.inl 1)), .inl (ck_one 75)], ([], [], []), ([], []), [(.inr none, 245, ([], [], []))])
set_option maxRecDepth 100000 in
theorem p5y1_668_e : ck_ok p1_O none [] [] 129 [] 82 p5y1_668 = true := by decide +kernel
theorem p5y1_668_s {X : Int → Int} {LX : Nat} : ck_Ok p1_O X LX 129 p5y1_668 := ck_ok_s (ck_E0) ck_X0 ck_l0 p5y1_668_e
set_option maxRecDepth 100000 in
def p5y1_669 : ck_Sum := ((0, 0, 0), 245, [.inr (.inr (.inl 200)), .inl (ck_one 75)], ([], [], [(201, 75, 75, ck_one 2)]), ([], []), [(.inr (some (.inl (ck_one 2))), 245, ([], [], []))])
set_option maxRecDepth 100000 in
theorem p5y1_669_e : ck_ok p1_O none [] [] 34 [] 92 p5y1_669 = true := by decide +kernel
theorem p5y1_669_s {X : Int → Int} {LX : Nat} : ck_Ok p1_O X LX 34 p5y1_669 := ck_ok_s (ck_E0) ck_X0 ck_l0 p5y1_669_e
set_option maxRecDepth 100000 in
def p5y1_670 : ck_Sum := ((1, 0, 0), 245, [.inr (.inr (.inl 1)), .inl (ck_one 75)], ([], [], [(201, 75, 75, ck_one 2)]), ([], []), [(.inr (some (.inl (ck_one 2))), 245, ([], [], []))])
set_option maxRecDepth 100000 in
theorem p5y1_670_e : ck_ok p1_O none [] [(129, [p5y1_668]), (34, [p5y1_669])] 128 [] 86 p5y1_670 = true := by decide +kernel
theorem p5y1_670_s {X : Int → Int} {LX : Nat} : ck_Ok p1_O X LX 128 p5y1_670 := ck_ok_s (ck_E1 (ck_S1 p5y1_668_s ck_S0) (ck_E1 (ck_S1 p5y1_669_s ck_S0) ck_E0)) ck_X0 ck_l0 p5y1_670_e
set_option maxRecDepth 100000 in
def p5y1_671 : ck_Sum := ((2, 0, 0), 245, [.inr (.inr (.inl 1)), .inl (ck_one 75), .inr (.inr (.inl 245))], ([], [], [(201, 75, 75, ck_one 2)]), ([(245, 0, 0)], []), [(.inr (some (.inl (ck_one 0))), 245, ([], [], [(245, 0, 0, ck_one 2)]))])
set_option maxRecDepth 100000 in
theorem p5y1_671_e : ck_ok p1_O none [] [(128, [p5y1_670])] 127 [] 90 p5y1_671 = true := by decide +kernel
theorem p5y1_671_s {X : Int → Int} {LX : Nat} : ck_Ok p1_O X LX 127 p5y1_671 := ck_ok_s (ck_E1 (ck_S1 p5y1_670_s ck_S0) ck_E0) ck_X0 ck_l0 p5y1_671_e
set_option maxRecDepth 100000 in
def p5y1_675 : ck_Sum := ((0, 0, 0), 245, [.inr (.inr (.inl 1)), .inl (ck_one 76)], ([], [], []), ([], []), [(.inr none, 245, ([], [], []))])
set_option maxRecDepth 100000 in
theorem p5y1_675_e : ck_ok p1_O none [] [] 129 [] 82 p5y1_675 = true := by decide +kernel
theorem p5y1_675_s {X : Int → Int} {LX : Nat} : ck_Ok p1_O X LX 129 p5y1_675 := ck_ok_s (ck_E0) ck_X0 ck_l0 p5y1_675_e
set_option maxRecDepth 100000 in
def p5y1_676 : ck_Sum := ((0, 0, 0), 245, [.inr (.inr (.inl 200)), .inl (ck_one 76)], ([], [], [(201, 76, 76, ck_one 6)]), ([], []), [(.inr (some (.inl (ck_one 6))), 245, ([], [], []))])
set_option maxRecDepth 100000 in
theorem p5y1_676_e : ck_ok p1_O none [] [] 34 [] 92 p5y1_676 = true := by decide +kernel
theorem p5y1_676_s {X : Int → Int} {LX : Nat} : ck_Ok p1_O X LX 34 p5y1_676 := ck_ok_s (ck_E0) ck_X0 ck_l0 p5y1_676_e
set_option maxRecDepth 100000 in
def p5y1_677 : ck_Sum := ((1, 0, 0), 245, [.inr (.inr (.inl 1)), .inl (ck_one 76)], ([], [], [(201, 76, 76, ck_one 6)]), ([], []), [(.inr (some (.inl (ck_one 6))), 245, ([], [], []))])
set_option maxRecDepth 100000 in
theorem p5y1_677_e : ck_ok p1_O none [] [(129, [p5y1_675]), (34, [p5y1_676])] 128 [] 86 p5y1_677 = true := by decide +kernel
theorem p5y1_677_s {X : Int → Int} {LX : Nat} : ck_Ok p1_O X LX 128 p5y1_677 := ck_ok_s (ck_E1 (ck_S1 p5y1_675_s ck_S0) (ck_E1 (ck_S1 p5y1_676_s ck_S0) ck_E0)) ck_X0 ck_l0 p5y1_677_e
set_option maxRecDepth 100000 in
def p5y1_678 : ck_Sum := ((2, 0, 0), 245, [.inr (.inr (.inl 1)), .inl (ck_one 76), .inr (.inr (.inl 245))], ([], [], [(201, 76, 76, ck_one 6)]), ([(245, 0, 0)], []), [(.inr (some (.inl (ck_one 0))), 245, ([], [], [(245, 0, 0, ck_one 6)]))])
set_option maxRecDepth 100000 in
theorem p5y1_678_e : ck_ok p1_O none [] [(128, [p5y1_677])] 127 [] 90 p5y1_678 = true := by decide +kernel
theorem p5y1_678_s {X : Int → Int} {LX : Nat} : ck_Ok p1_O X LX 127 p5y1_678 := ck_ok_s (ck_E1 (ck_S1 p5y1_677_s ck_S0) ck_E0) ck_X0 ck_l0 p5y1_678_e
set_option maxRecDepth 100000 in
def p5y1_682 : ck_Sum := ((0, 0, 0), 245, [.inr (.inr (.inl 1)), .inl (ck_one 77)], ([], [], []), ([], []), [(.inr none, 245, ([], [], []))])
set_option maxRecDepth 100000 in
theorem p5y1_682_e : ck_ok p1_O none [] [] 129 [] 82 p5y1_682 = true := by decide +kernel
theorem p5y1_682_s {X : Int → Int} {LX : Nat} : ck_Ok p1_O X LX 129 p5y1_682 := ck_ok_s (ck_E0) ck_X0 ck_l0 p5y1_682_e
set_option maxRecDepth 100000 in
def p5y1_683 : ck_Sum := ((0, 0, 0), 245, [.inr (.inr (.inl 200)), .inl (ck_one 77)], ([], [], [(201, 77, 77, ck_one 5)]), ([], []), [(.inr (some (.inl (ck_one 5))), 245, ([], [], []))])
set_option maxRecDepth 100000 in
theorem p5y1_683_e : ck_ok p1_O none [] [] 34 [] 92 p5y1_683 = true := by decide +kernel
theorem p5y1_683_s {X : Int → Int} {LX : Nat} : ck_Ok p1_O X LX 34 p5y1_683 := ck_ok_s (ck_E0) ck_X0 ck_l0 p5y1_683_e
set_option maxRecDepth 100000 in
def p5y1_684 : ck_Sum := ((1, 0, 0), 245, [.inr (.inr (.inl 1)), .inl (ck_one 77)], ([], [], [(201, 77, 77, ck_one 5)]), ([], []), [(.inr (some (.inl (ck_one 5))), 245, ([], [], []))])
set_option maxRecDepth 100000 in
theorem p5y1_684_e : ck_ok p1_O none [] [(129, [p5y1_682]), (34, [p5y1_683])] 128 [] 86 p5y1_684 = true := by decide +kernel
theorem p5y1_684_s {X : Int → Int} {LX : Nat} : ck_Ok p1_O X LX 128 p5y1_684 := ck_ok_s (ck_E1 (ck_S1 p5y1_682_s ck_S0) (ck_E1 (ck_S1 p5y1_683_s ck_S0) ck_E0)) ck_X0 ck_l0 p5y1_684_e
set_option maxRecDepth 100000 in
def p5y1_685 : ck_Sum := ((2, 0, 0), 245, [.inr (.inr (.inl 1)), .inl (ck_one 77), .inr (.inr (.inl 245))], ([], [], [(201, 77, 77, ck_one 5)]), ([(245, 0, 0)], []), [(.inr (some (.inl (ck_one 0))), 245, ([], [], [(245, 0, 0, ck_one 5)]))])
set_option maxRecDepth 100000 in
theorem p5y1_685_e : ck_ok p1_O none [] [(128, [p5y1_684])] 127 [] 90 p5y1_685 = true := by decide +kernel
theorem p5y1_685_s {X : Int → Int} {LX : Nat} : ck_Ok p1_O X LX 127 p5y1_685 := ck_ok_s (ck_E1 (ck_S1 p5y1_684_s ck_S0) ck_E0) ck_X0 ck_l0 p5y1_685_e
set_option maxRecDepth 100000 in
def p5y1_689 : ck_Sum := ((0, 0, 0), 245, [.inr (.inr (.inl 1)), .inl (ck_one 78)], ([], [], []), ([], []), [(.inr none, 245, ([], [], []))])
set_option maxRecDepth 100000 in
theorem p5y1_689_e : ck_ok p1_O none [] [] 129 [] 82 p5y1_689 = true := by decide +kernel
theorem p5y1_689_s {X : Int → Int} {LX : Nat} : ck_Ok p1_O X LX 129 p5y1_689 := ck_ok_s (ck_E0) ck_X0 ck_l0 p5y1_689_e
set_option maxRecDepth 100000 in
def p5y1_690 : ck_Sum := ((0, 0, 0), 245, [.inr (.inr (.inl 200)), .inl (ck_one 78)], ([], [], [(201, 78, 78, ck_one 1)]), ([], []), [(.inr (some (.inl (ck_one 1))), 245, ([], [], []))])
set_option maxRecDepth 100000 in
theorem p5y1_690_e : ck_ok p1_O none [] [] 34 [] 92 p5y1_690 = true := by decide +kernel
theorem p5y1_690_s {X : Int → Int} {LX : Nat} : ck_Ok p1_O X LX 34 p5y1_690 := ck_ok_s (ck_E0) ck_X0 ck_l0 p5y1_690_e
set_option maxRecDepth 100000 in
def p5y1_691 : ck_Sum := ((1, 0, 0), 245, [.inr (.inr (.inl 1)), .inl (ck_one 78)], ([], [], [(201, 78, 78, ck_one 1)]), ([], []), [(.inr (some (.inl (ck_one 1))), 245, ([], [], []))])
set_option maxRecDepth 100000 in
theorem p5y1_691_e : ck_ok p1_O none [] [(129, [p5y1_689]), (34, [p5y1_690])] 128 [] 86 p5y1_691 = true := by decide +kernel
theorem p5y1_691_s {X : Int → Int} {LX : Nat} : ck_Ok p1_O X LX 128 p5y1_691 := ck_ok_s (ck_E1 (ck_S1 p5y1_689_s ck_S0) (ck_E1 (ck_S1 p5y1_690_s ck_S0) ck_E0)) ck_X0 ck_l0 p5y1_691_e
set_option maxRecDepth 100000 in
def p5y1_692 : ck_Sum := ((2, 0, 0), 245, [.inr (.inr (.inl 1)), .inl (ck_one 78), .inr (.inr (.inl 245))], ([], [], [(201, 78, 78, ck_one 1)]), ([(245, 0, 0)], []), [(.inr (some (.inl (ck_one 0))), 245, ([], [], [(245, 0, 0, ck_one 1)]))])
set_option maxRecDepth 100000 in
theorem p5y1_692_e : ck_ok p1_O none [] [(128, [p5y1_691])] 127 [] 90 p5y1_692 = true := by decide +kernel
theorem p5y1_692_s {X : Int → Int} {LX : Nat} : ck_Ok p1_O X LX 127 p5y1_692 := ck_ok_s (ck_E1 (ck_S1 p5y1_691_s ck_S0) ck_E0) ck_X0 ck_l0 p5y1_692_e
set_option maxRecDepth 100000 in
def p5y1_696 : ck_Sum := ((0, 0, 0), 245, [.inr (.inr (.inl 1)), .inl (ck_one 79)], ([], [], []), ([], []), [(.inr none, 245, ([], [], []))])
set_option maxRecDepth 100000 in
theorem p5y1_696_e : ck_ok p1_O none [] [] 129 [] 82 p5y1_696 = true := by decide +kernel
theorem p5y1_696_s {X : Int → Int} {LX : Nat} : ck_Ok p1_O X LX 129 p5y1_696 := ck_ok_s (ck_E0) ck_X0 ck_l0 p5y1_696_e
set_option maxRecDepth 100000 in
def p5y1_697 : ck_Sum := ((0, 0, 0), 245, [.inr (.inr (.inl 200)), .inl (ck_one 79)], ([], [], [(201, 79, 79, ck_one 4)]), ([], []), [(.inr (some (.inl (ck_one 4))), 245, ([], [], []))])
set_option maxRecDepth 100000 in
theorem p5y1_697_e : ck_ok p1_O none [] [] 34 [] 92 p5y1_697 = true := by decide +kernel
theorem p5y1_697_s {X : Int → Int} {LX : Nat} : ck_Ok p1_O X LX 34 p5y1_697 := ck_ok_s (ck_E0) ck_X0 ck_l0 p5y1_697_e
set_option maxRecDepth 100000 in
def p5y1_698 : ck_Sum := ((1, 0, 0), 245, [.inr (.inr (.inl 1)), .inl (ck_one 79)], ([], [], [(201, 79, 79, ck_one 4)]), ([], []), [(.inr (some (.inl (ck_one 4))), 245, ([], [], []))])
set_option maxRecDepth 100000 in
theorem p5y1_698_e : ck_ok p1_O none [] [(129, [p5y1_696]), (34, [p5y1_697])] 128 [] 86 p5y1_698 = true := by decide +kernel
theorem p5y1_698_s {X : Int → Int} {LX : Nat} : ck_Ok p1_O X LX 128 p5y1_698 := ck_ok_s (ck_E1 (ck_S1 p5y1_696_s ck_S0) (ck_E1 (ck_S1 p5y1_697_s ck_S0) ck_E0)) ck_X0 ck_l0 p5y1_698_e
set_option maxRecDepth 100000 in
def p5y1_699 : ck_Sum := ((2, 0, 0), 245, [.inr (.inr (.inl 1)), .inl (ck_one 79), .inr (.inr (.inl 245))], ([], [], [(201, 79, 79, ck_one 4)]), ([(245, 0, 0)], []), [(.inr (some (.inl (ck_one 0))), 245, ([], [], [(245, 0, 0, ck_one 4)]))])
set_option maxRecDepth 100000 in
theorem p5y1_699_e : ck_ok p1_O none [] [(128, [p5y1_698])] 127 [] 90 p5y1_699 = true := by decide +kernel
theorem p5y1_699_s {X : Int → Int} {LX : Nat} : ck_Ok p1_O X LX 127 p5y1_699 := ck_ok_s (ck_E1 (ck_S1 p5y1_698_s ck_S0) ck_E0) ck_X0 ck_l0 p5y1_699_e
set_option maxRecDepth 100000 in
def p5y1_703 : ck_Sum := ((0, 0, 0), 245, [.inr (.inr (.inl 1)), .inl (ck_one 80)], ([], [], []), ([], []), [(.inr none, 245, ([], [], []))])
set_option maxRecDepth 100000 in
theorem p5y1_703_e : ck_ok p1_O none [] [] 129 [] 82 p5y1_703 = true := by decide +kernel
theorem p5y1_703_s {X : Int → Int} {LX : Nat} : ck_Ok p1_O X LX 129 p5y1_703 := ck_ok_s (ck_E0) ck_X0 ck_l0 p5y1_703_e
set_option maxRecDepth 100000 in
def p5y1_704 : ck_Sum := ((0, 0, 0), 245, [.inr (.inr (.inl 200)), .inl (ck_one 80)], ([], [], [(201, 80, 80, ck_one 3)]), ([], []), [(.inr (some (.inl (ck_one 3))), 245, ([], [], []))])
set_option maxRecDepth 100000 in
theorem p5y1_704_e : ck_ok p1_O none [] [] 34 [] 92 p5y1_704 = true := by decide +kernel
theorem p5y1_704_s {X : Int → Int} {LX : Nat} : ck_Ok p1_O X LX 34 p5y1_704 := ck_ok_s (ck_E0) ck_X0 ck_l0 p5y1_704_e
set_option maxRecDepth 100000 in
def p5y1_705 : ck_Sum := ((1, 0, 0), 245, [.inr (.inr (.inl 1)), .inl (ck_one 80)], ([], [], [(201, 80, 80, ck_one 3)]), ([], []), [(.inr (some (.inl (ck_one 3))), 245, ([], [], []))])
set_option maxRecDepth 100000 in
theorem p5y1_705_e : ck_ok p1_O none [] [(129, [p5y1_703]), (34, [p5y1_704])] 128 [] 86 p5y1_705 = true := by decide +kernel
theorem p5y1_705_s {X : Int → Int} {LX : Nat} : ck_Ok p1_O X LX 128 p5y1_705 := ck_ok_s (ck_E1 (ck_S1 p5y1_703_s ck_S0) (ck_E1 (ck_S1 p5y1_704_s ck_S0) ck_E0)) ck_X0 ck_l0 p5y1_705_e
set_option maxRecDepth 100000 in
def p5y1_706 : ck_Sum := ((2, 0, 0), 245, [.inr (.inr (.inl 1)), .inl (ck_one 80), .inr (.inr (.inl 245))], ([], [], [(201, 80, 80, ck_one 3)]), ([(245, 0, 0)], []), [(.inr (some (.inl (ck_one 0))), 245, ([], [], [(245, 0, 0, ck_one 3)]))])
set_option maxRecDepth 100000 in
theorem p5y1_706_e : ck_ok p1_O none [] [(128, [p5y1_705])] 127 [] 90 p5y1_706 = true := by decide +kernel
theorem p5y1_706_s {X : Int → Int} {LX : Nat} : ck_Ok p1_O X LX 127 p5y1_706 := ck_ok_s (ck_E1 (ck_S1 p5y1_705_s ck_S0) ck_E0) ck_X0 ck_l0 p5y1_706_e
set_option maxRecDepth 100000 in
def p5y1_710 : ck_Sum := ((0, 0, 0), 245, [.inr (.inr (.inl 1)), .inl (ck_one 81)], ([], [], []), ([], []), [(.inr none, 245, ([], [], []))])
set_option maxRecDepth 100000 in
theorem p5y1_710_e : ck_ok p1_O none [] [] 129 [] 82 p5y1_710 = true := by decide +kernel
theorem p5y1_710_s {X : Int → Int} {LX : Nat} : ck_Ok p1_O X LX 129 p5y1_710 := ck_ok_s (ck_E0) ck_X0 ck_l0 p5y1_710_e
set_option maxRecDepth 100000 in
def p5y1_711 : ck_Sum := ((0, 0, 0), 245, [.inr (.inr (.inl 200)), .inl (ck_one 81)], ([], [], [(201, 81, 81, ck_one 2)]), ([], []), [(.inr (some (.inl (ck_one 2))), 245, ([], [], []))])
set_option maxRecDepth 100000 in
theorem p5y1_711_e : ck_ok p1_O none [] [] 34 [] 92 p5y1_711 = true := by decide +kernel
theorem p5y1_711_s {X : Int → Int} {LX : Nat} : ck_Ok p1_O X LX 34 p5y1_711 := ck_ok_s (ck_E0) ck_X0 ck_l0 p5y1_711_e
set_option maxRecDepth 100000 in
def p5y1_712 : ck_Sum := ((1, 0, 0), 245, [.inr (.inr (.inl 1)), .inl (ck_one 81)], ([], [], [(201, 81, 81, ck_one 2)]), ([], []), [(.inr (some (.inl (ck_one 2))), 245, ([], [], []))])
set_option maxRecDepth 100000 in
theorem p5y1_712_e : ck_ok p1_O none [] [(129, [p5y1_710]), (34, [p5y1_711])] 128 [] 86 p5y1_712 = true := by decide +kernel
theorem p5y1_712_s {X : Int → Int} {LX : Nat} : ck_Ok p1_O X LX 128 p5y1_712 := ck_ok_s (ck_E1 (ck_S1 p5y1_710_s ck_S0) (ck_E1 (ck_S1 p5y1_711_s ck_S0) ck_E0)) ck_X0 ck_l0 p5y1_712_e
set_option maxRecDepth 100000 in
def p5y1_713 : ck_Sum := ((2, 0, 0), 245, [.inr (.inr (.inl 1)), .inl (ck_one 81), .inr (.inr (.inl 245))], ([], [], [(201, 81, 81, ck_one 2)]), ([(245, 0, 0)], []), [(.inr (some (.inl (ck_one 0))), 245, ([], [], [(245, 0, 0, ck_one 2)]))])
set_option maxRecDepth 100000 in
theorem p5y1_713_e : ck_ok p1_O none [] [(128, [p5y1_712])] 127 [] 90 p5y1_713 = true := by decide +kernel
theorem p5y1_713_s {X : Int → Int} {LX : Nat} : ck_Ok p1_O X LX 127 p5y1_713 := ck_ok_s (ck_E1 (ck_S1 p5y1_712_s ck_S0) ck_E0) ck_X0 ck_l0 p5y1_713_e
set_option maxRecDepth 100000 in
def p5y1_717 : ck_Sum := ((0, 0, 0), 245, [.inr (.inr (.inl 1)), .inl (ck_one 82)], ([], [], []), ([], []), [(.inr none, 245, ([], [], []))])
set_option maxRecDepth 100000 in
theorem p5y1_717_e : ck_ok p1_O none [] [] 129 [] 82 p5y1_717 = true := by decide +kernel
theorem p5y1_717_s {X : Int → Int} {LX : Nat} : ck_Ok p1_O X LX 129 p5y1_717 := ck_ok_s (ck_E0) ck_X0 ck_l0 p5y1_717_e
set_option maxRecDepth 100000 in
def p5y1_718 : ck_Sum := ((0, 0, 0), 245, [.inr (.inr (.inl 200)), .inl (ck_one 82)], ([], [], [(201, 82, 82, ck_one 3)]), ([], []), [(.inr (some (.inl (ck_one 3))), 245, ([], [], []))])
set_option maxRecDepth 100000 in
theorem p5y1_718_e : ck_ok p1_O none [] [] 34 [] 92 p5y1_718 = true := by decide +kernel
theorem p5y1_718_s {X : Int → Int} {LX : Nat} : ck_Ok p1_O X LX 34 p5y1_718 := ck_ok_s (ck_E0) ck_X0 ck_l0 p5y1_718_e
set_option maxRecDepth 100000 in
def p5y1_719 : ck_Sum := ((1, 0, 0), 245, [.inr (.inr (.inl 1)), .inl (ck_one 82)], ([], [], [(201, 82, 82, ck_one 3)]), ([], []), [(.inr (some (.inl (ck_one 3))), 245, ([], [], []))])
set_option maxRecDepth 100000 in
theorem p5y1_719_e : ck_ok p1_O none [] [(129, [p5y1_717]), (34, [p5y1_718])] 128 [] 86 p5y1_719 = true := by decide +kernel
theorem p5y1_719_s {X : Int → Int} {LX : Nat} : ck_Ok p1_O X LX 128 p5y1_719 := ck_ok_s (ck_E1 (ck_S1 p5y1_717_s ck_S0) (ck_E1 (ck_S1 p5y1_718_s ck_S0) ck_E0)) ck_X0 ck_l0 p5y1_719_e
set_option maxRecDepth 100000 in
def p5y1_720 : ck_Sum := ((2, 0, 0), 245, [.inr (.inr (.inl 1)), .inl (ck_one 82), .inr (.inr (.inl 245))], ([], [], [(201, 82, 82, ck_one 3)]), ([(245, 0, 0)], []), [(.inr (some (.inl (ck_one 0))), 245, ([], [], [(245, 0, 0, ck_one 3)]))])
set_option maxRecDepth 100000 in
theorem p5y1_720_e : ck_ok p1_O none [] [(128, [p5y1_719])] 127 [] 90 p5y1_720 = true := by decide +kernel
theorem p5y1_720_s {X : Int → Int} {LX : Nat} : ck_Ok p1_O X LX 127 p5y1_720 := ck_ok_s (ck_E1 (ck_S1 p5y1_719_s ck_S0) ck_E0) ck_X0 ck_l0 p5y1_720_e
set_option maxRecDepth 100000 in
def p5y1_724 : ck_Sum := ((0, 0, 0), 245, [.inr (.inr (.inl 1)), .inl (ck_one 83)], ([], [], []), ([], []), [(.inr none, 245, ([], [], []))])
set_option maxRecDepth 100000 in
theorem p5y1_724_e : ck_ok p1_O none [] [] 129 [] 82 p5y1_724 = true := by decide +kernel
theorem p5y1_724_s {X : Int → Int} {LX : Nat} : ck_Ok p1_O X LX 129 p5y1_724 := ck_ok_s (ck_E0) ck_X0 ck_l0 p5y1_724_e
set_option maxRecDepth 100000 in
def p5y1_725 : ck_Sum := ((0, 0, 0), 245, [.inr (.inr (.inl 200)), .inl (ck_one 83)], ([], [], [(201, 83, 83, ck_one 6)]), ([], []), [(.inr (some (.inl (ck_one 6))), 245, ([], [], []))])
set_option maxRecDepth 100000 in
theorem p5y1_725_e : ck_ok p1_O none [] [] 34 [] 92 p5y1_725 = true := by decide +kernel
theorem p5y1_725_s {X : Int → Int} {LX : Nat} : ck_Ok p1_O X LX 34 p5y1_725 := ck_ok_s (ck_E0) ck_X0 ck_l0 p5y1_725_e
set_option maxRecDepth 100000 in
def p5y1_726 : ck_Sum := ((1, 0, 0), 245, [.inr (.inr (.inl 1)), .inl (ck_one 83)], ([], [], [(201, 83, 83, ck_one 6)]), ([], []), [(.inr (some (.inl (ck_one 6))), 245, ([], [], []))])
set_option maxRecDepth 100000 in
theorem p5y1_726_e : ck_ok p1_O none [] [(129, [p5y1_724]), (34, [p5y1_725])] 128 [] 86 p5y1_726 = true := by decide +kernel
theorem p5y1_726_s {X : Int → Int} {LX : Nat} : ck_Ok p1_O X LX 128 p5y1_726 := ck_ok_s (ck_E1 (ck_S1 p5y1_724_s ck_S0) (ck_E1 (ck_S1 p5y1_725_s ck_S0) ck_E0)) ck_X0 ck_l0 p5y1_726_e
set_option maxRecDepth 100000 in
def p5y1_727 : ck_Sum := ((2, 0, 0), 245, [.inr (.inr (.inl 1)), .inl (ck_one 83), .inr (.inr (.inl 245))], ([], [], [(201, 83, 83, ck_one 6)]), ([(245, 0, 0)], []), [(.inr (some (.inl (ck_one 0))), 245, ([], [], [(245, 0, 0, ck_one 6)]))])
set_option maxRecDepth 100000 in
theorem p5y1_727_e : ck_ok p1_O none [] [(128, [p5y1_726])] 127 [] 90 p5y1_727 = true := by decide +kernel
theorem p5y1_727_s {X : Int → Int} {LX : Nat} : ck_Ok p1_O X LX 127 p5y1_727 := ck_ok_s (ck_E1 (ck_S1 p5y1_726_s ck_S0) ck_E0) ck_X0 ck_l0 p5y1_727_e
set_option maxRecDepth 100000 in
def p5y1_731 : ck_Sum := ((0, 0, 0), 245, [.inr (.inr (.inl 1)), .inl (ck_one 84)], ([], [], []), ([], []), [(.inr none, 245, ([], [], []))])
set_option maxRecDepth 100000 in
theorem p5y1_731_e : ck_ok p1_O none [] [] 129 [] 82 p5y1_731 = true := by decide +kernel
theorem p5y1_731_s {X : Int → Int} {LX : Nat} : ck_Ok p1_O X LX 129 p5y1_731 := ck_ok_s (ck_E0) ck_X0 ck_l0 p5y1_731_e
set_option maxRecDepth 100000 in
def p5y1_732 : ck_Sum := ((0, 0, 0), 245, [.inr (.inr (.inl 200)), .inl (ck_one 84)], ([], [], [(201, 84, 84, ck_one 0)]), ([], []), [(.inr (some (.inl (ck_one 0))), 245, ([], [], []))])
set_option maxRecDepth 100000 in
theorem p5y1_732_e : ck_ok p1_O none [] [] 34 [] 92 p5y1_732 = true := by decide +kernel
theorem p5y1_732_s {X : Int → Int} {LX : Nat} : ck_Ok p1_O X LX 34 p5y1_732 := ck_ok_s (ck_E0) ck_X0 ck_l0 p5y1_732_e
set_option maxRecDepth 100000 in
def p5y1_733 : ck_Sum := ((1, 0, 0), 245, [.inr (.inr (.inl 1)), .inl (ck_one 84)], ([], [], [(201, 84, 84, ck_one 0)]), ([], []), [(.inr (some (.inl (ck_one 0))), 245, ([], [], []))])
set_option maxRecDepth 100000 in
theorem p5y1_733_e : ck_ok p1_O none [] [(129, [p5y1_731]), (34, [p5y1_732])] 128 [] 86 p5y1_733 = true := by decide +kernel
theorem p5y1_733_s {X : Int → Int} {LX : Nat} : ck_Ok p1_O X LX 128 p5y1_733 := ck_ok_s (ck_E1 (ck_S1 p5y1_731_s ck_S0) (ck_E1 (ck_S1 p5y1_732_s ck_S0) ck_E0)) ck_X0 ck_l0 p5y1_733_e
set_option maxRecDepth 100000 in
def p5y1_734 : ck_Sum := ((2, 0, 0), 245, [.inr (.inr (.inl 1)), .inl (ck_one 84), .inr (.inr (.inl 245))], ([], [], [(201, 84, 84, ck_one 0)]), ([(245, 0, 0)], []), [(.inr (some (.inl (ck_one 0))), 245, ([], [], [(245, 0, 0, ck_one 0)]))])
set_option maxRecDepth 100000 in
theorem p5y1_734_e : ck_ok p1_O none [] [(128, [p5y1_733])] 127 [] 90 p5y1_734 = true := by decide +kernel
theorem p5y1_734_s {X : Int → Int} {LX : Nat} : ck_Ok p1_O X LX 127 p5y1_734 := ck_ok_s (ck_E1 (ck_S1 p5y1_733_s ck_S0) ck_E0) ck_X0 ck_l0 p5y1_734_e
set_option maxRecDepth 100000 in
def p5y1_738 : ck_Sum := ((0, 0, 0), 245, [.inr (.inr (.inl 1)), .inl (ck_one 85)], ([], [], []), ([], []), [(.inr none, 245, ([], [], []))])
set_option maxRecDepth 100000 in
theorem p5y1_738_e : ck_ok p1_O none [] [] 129 [] 82 p5y1_738 = true := by decide +kernel
theorem p5y1_738_s {X : Int → Int} {LX : Nat} : ck_Ok p1_O X LX 129 p5y1_738 := ck_ok_s (ck_E0) ck_X0 ck_l0 p5y1_738_e
set_option maxRecDepth 100000 in
def p5y1_739 : ck_Sum := ((0, 0, 0), 245, [.inr (.inr (.inl 200)), .inl (ck_one 85)], ([], [], [(201, 85, 85, ck_one 9)]), ([], []), [(.inr (some (.inl (ck_one 9))), 245, ([], [], []))])
set_option maxRecDepth 100000 in
theorem p5y1_739_e : ck_ok p1_O none [] [] 34 [] 92 p5y1_739 = true := by decide +kernel
theorem p5y1_739_s {X : Int → Int} {LX : Nat} : ck_Ok p1_O X LX 34 p5y1_739 := ck_ok_s (ck_E0) ck_X0 ck_l0 p5y1_739_e
set_option maxRecDepth 100000 in
def p5y1_740 : ck_Sum := ((1, 0, 0), 245, [.inr (.inr (.inl 1)), .inl (ck_one 85)], ([], [], [(201, 85, 85, ck_one 9)]), ([], []), [(.inr (some (.inl (ck_one 9))), 245, ([], [], []))])
set_option maxRecDepth 100000 in
theorem p5y1_740_e : ck_ok p1_O none [] [(129, [p5y1_738]), (34, [p5y1_739])] 128 [] 86 p5y1_740 = true := by decide +kernel
theorem p5y1_740_s {X : Int → Int} {LX : Nat} : ck_Ok p1_O X LX 128 p5y1_740 := ck_ok_s (ck_E1 (ck_S1 p5y1_738_s ck_S0) (ck_E1 (ck_S1 p5y1_739_s ck_S0) ck_E0)) ck_X0 ck_l0 p5y1_740_e
set_option maxRecDepth 100000 in
def p5y1_741 : ck_Sum := ((2, 0, 0), 245, [.inr (.inr (.inl 1)), .inl (ck_one 85), .inr (.inr (.inl 245))], ([], [], [(201, 85, 85, ck_one 9)]), ([(245, 0, 0)], []), [(.inr (some (.inl (ck_one 0))), 245, ([], [], [(245, 0, 0, ck_one 9)]))])
set_option maxRecDepth 100000 in
theorem p5y1_741_e : ck_ok p1_O none [] [(128, [p5y1_740])] 127 [] 90 p5y1_741 = true := by decide +kernel
theorem p5y1_741_s {X : Int → Int} {LX : Nat} : ck_Ok p1_O X LX 127 p5y1_741 := ck_ok_s (ck_E1 (ck_S1 p5y1_740_s ck_S0) ck_E0) ck_X0 ck_l0 p5y1_741_e
set_option maxRecDepth 100000 in
def p5y1_745 : ck_Sum := ((0, 0, 0), 245, [.inr (.inr (.inl 1)), .inl (ck_one 86)], ([], [], []), ([], []), [(.inr none, 245, ([], [], []))])
set_option maxRecDepth 100000 in
theorem p5y1_745_e : ck_ok p1_O none [] [] 129 [] 82 p5y1_745 = true := by decide +kernel
theorem p5y1_745_s {X : Int → Int} {LX : Nat} : ck_Ok p1_O X LX 129 p5y1_745 := ck_ok_s (ck_E0) ck_X0 ck_l0 p5y1_745_e
set_option maxRecDepth 100000 in
def p5y1_746 : ck_Sum := ((0, 0, 0), 245, [.inr (.inr (.inl 200)), .inl (ck_one 86)], ([], [], [(201, 86, 86, ck_one 1)]), ([], []), [(.inr (some (.inl (ck_one 1))), 245, ([], [], []))])
set_option maxRecDepth 100000 in
theorem p5y1_746_e : ck_ok p1_O none [] [] 34 [] 92 p5y1_746 = true := by decide +kernel
theorem p5y1_746_s {X : Int → Int} {LX : Nat} : ck_Ok p1_O X LX 34 p5y1_746 := ck_ok_s (ck_E0) ck_X0 ck_l0 p5y1_746_e
set_option maxRecDepth 100000 in
def p5y1_747 : ck_Sum := ((1, 0, 0), 245, [.inr (.inr (.inl 1)), .inl (ck_one 86)], ([], [], [(201, 86, 86, ck_one 1)]), ([], []), [(.inr (some (.inl (ck_one 1))), 245, ([], [], []))])
set_option maxRecDepth 100000 in
theorem p5y1_747_e : ck_ok p1_O none [] [(129, [p5y1_745]), (34, [p5y1_746])] 128 [] 86 p5y1_747 = true := by decide +kernel
theorem p5y1_747_s {X : Int → Int} {LX : Nat} : ck_Ok p1_O X LX 128 p5y1_747 := ck_ok_s (ck_E1 (ck_S1 p5y1_745_s ck_S0) (ck_E1 (ck_S1 p5y1_746_s ck_S0) ck_E0)) ck_X0 ck_l0 p5y1_747_e
set_option maxRecDepth 100000 in
def p5y1_748 : ck_Sum := ((2, 0, 0), 245, [.inr (.inr (.inl 1)), .inl (ck_one 86), .inr (.inr (.inl 245))], ([], [], [(201, 86, 86, ck_one 1)]), ([(245, 0, 0)], []), [(.inr (some (.inl (ck_one 0))), 245, ([], [], [(245, 0, 0, ck_one 1)]))])
set_option maxRecDepth 100000 in
theorem p5y1_748_e : ck_ok p1_O none [] [(128, [p5y1_747])] 127 [] 90 p5y1_748 = true := by decide +kernel
theorem p5y1_748_s {X : Int → Int} {LX : Nat} : ck_Ok p1_O X LX 127 p5y1_748 := ck_ok_s (ck_E1 (ck_S1 p5y1_747_s ck_S0) ck_E0) ck_X0 ck_l0 p5y1_748_e
set_option maxRecDepth 100000 in
def p5y1_752 : ck_Sum := ((0, 0, 0), 245, [.inr (.inr (.inl 1)), .inl (ck_one 87)], ([], [], []), ([], []), [(.inr none, 245, ([], [], []))])
set_option maxRecDepth 100000 in
theorem p5y1_752_e : ck_ok p1_O none [] [] 129 [] 82 p5y1_752 = true := by decide +kernel
theorem p5y1_752_s {X : Int → Int} {LX : Nat} : ck_Ok p1_O X LX 129 p5y1_752 := ck_ok_s (ck_E0) ck_X0 ck_l0 p5y1_752_e
set_option maxRecDepth 100000 in
def p5y1_753 : ck_Sum := ((0, 0, 0), 245, [.inr (.inr (.inl 200)), .inl (ck_one 87)], ([], [], [(201, 87, 87, ck_one 1)]), ([], []), [(.inr (some (.inl (ck_one 1))), 245, ([], [], []))])
set_option maxRecDepth 100000 in
theorem p5y1_753_e : ck_ok p1_O none [] [] 34 [] 92 p5y1_753 = true := by decide +kernel
theorem p5y1_753_s {X : Int → Int} {LX : Nat} : ck_Ok p1_O X LX 34 p5y1_753 := ck_ok_s (ck_E0) ck_X0 ck_l0 p5y1_753_e
set_option maxRecDepth 100000 in
def p5y1_754 : ck_Sum := ((1, 0, 0), 245, [.inr (.inr (.inl 1)), .inl (ck_one 87)], ([], [], [(201, 87, 87, ck_one 1)]), ([], []), [(.inr (some (.inl (ck_one 1))), 245, ([], [], []))])
set_option maxRecDepth 100000 in
theorem p5y1_754_e : ck_ok p1_O none [] [(129, [p5y1_752]), (34, [p5y1_753])] 128 [] 86 p5y1_754 = true := by decide +kernel
theorem p5y1_754_s {X : Int → Int} {LX : Nat} : ck_Ok p1_O X LX 128 p5y1_754 := ck_ok_s (ck_E1 (ck_S1 p5y1_752_s ck_S0) (ck_E1 (ck_S1 p5y1_753_s ck_S0) ck_E0)) ck_X0 ck_l0 p5y1_754_e
set_option maxRecDepth 100000 in
def p5y1_755 : ck_Sum := ((2, 0, 0), 245, [.inr (.inr (.inl 1)), .inl (ck_one 87), .inr (.inr (.inl 245))], ([], [], [(201, 87, 87, ck_one 1)]), ([(245, 0, 0)], []), [(.inr (some (.inl (ck_one 0))), 245, ([], [], [(245, 0, 0, ck_one 1)]))])
set_option maxRecDepth 100000 in
theorem p5y1_755_e : ck_ok p1_O none [] [(128, [p5y1_754])] 127 [] 90 p5y1_755 = true := by decide +kernel
theorem p5y1_755_s {X : Int → Int} {LX : Nat} : ck_Ok p1_O X LX 127 p5y1_755 := ck_ok_s (ck_E1 (ck_S1 p5y1_754_s ck_S0) ck_E0) ck_X0 ck_l0 p5y1_755_e
set_option maxRecDepth 100000 in
def p5y1_759 : ck_Sum := ((0, 0, 0), 245, [.inr (.inr (.inl 1)), .inl (ck_one 88)], ([], [], []), ([], []), [(.inr none, 245, ([], [], []))])
set_option maxRecDepth 100000 in
theorem p5y1_759_e : ck_ok p1_O none [] [] 129 [] 82 p5y1_759 = true := by decide +kernel
theorem p5y1_759_s {X : Int → Int} {LX : Nat} : ck_Ok p1_O X LX 129 p5y1_759 := ck_ok_s (ck_E0) ck_X0 ck_l0 p5y1_759_e
set_option maxRecDepth 100000 in
def p5y1_760 : ck_Sum := ((0, 0, 0), 245, [.inr (.inr (.inl 200)), .inl (ck_one 88)], ([], [], [(201, 88, 88, ck_one 6)]), ([], []), [(.inr (some (.inl (ck_one 6))), 245, ([], [], []))])
set_option maxRecDepth 100000 in
theorem p5y1_760_e : ck_ok p1_O none [] [] 34 [] 92 p5y1_760 = true := by decide +kernel
theorem p5y1_760_s {X : Int → Int} {LX : Nat} : ck_Ok p1_O X LX 34 p5y1_760 := ck_ok_s (ck_E0) ck_X0 ck_l0 p5y1_760_e
set_option maxRecDepth 100000 in
def p5y1_761 : ck_Sum := ((1, 0, 0), 245, [.inr (.inr (.inl 1)), .inl (ck_one 88)], ([], [], [(201, 88, 88, ck_one 6)]), ([], []), [(.inr (some (.inl (ck_one 6))), 245, ([], [], []))])
set_option maxRecDepth 100000 in
theorem p5y1_761_e : ck_ok p1_O none [] [(129, [p5y1_759]), (34, [p5y1_760])] 128 [] 86 p5y1_761 = true := by decide +kernel
theorem p5y1_761_s {X : Int → Int} {LX : Nat} : ck_Ok p1_O X LX 128 p5y1_761 := ck_ok_s (ck_E1 (ck_S1 p5y1_759_s ck_S0) (ck_E1 (ck_S1 p5y1_760_s ck_S0) ck_E0)) ck_X0 ck_l0 p5y1_761_e
set_option maxRecDepth 100000 in
def p5y1_762 : ck_Sum := ((2, 0, 0), 245, [.inr (.inr (.inl 1)), .inl (ck_one 88), .inr (.inr (.inl 245))], ([], [], [(201, 88, 88, ck_one 6)]), ([(245, 0, 0)], []), [(.inr (some (.inl (ck_one 0))), 245, ([], [], [(245, 0, 0, ck_one 6)]))])
set_option maxRecDepth 100000 in
theorem p5y1_762_e : ck_ok p1_O none [] [(128, [p5y1_761])] 127 [] 90 p5y1_762 = true := by decide +kernel
theorem p5y1_762_s {X : Int → Int} {LX : Nat} : ck_Ok p1_O X LX 127 p5y1_762 := ck_ok_s (ck_E1 (ck_S1 p5y1_761_s ck_S0) ck_E0) ck_X0 ck_l0 p5y1_762_e
set_option maxRecDepth 100000 in
def p5y1_766 : ck_Sum := ((0, 0, 0), 245, [.inr (.inr (.inl 1)), .inl (ck_one 89)], ([], [], []), ([], []), [(.inr none, 245, ([], [], []))])
set_option maxRecDepth 100000 in
theorem p5y1_766_e : ck_ok p1_O none [] [] 129 [] 82 p5y1_766 = true := by decide +kernel
theorem p5y1_766_s {X : Int → Int} {LX : Nat} : ck_Ok p1_O X LX 129 p5y1_766 := ck_ok_s (ck_E0) ck_X0 ck_l0 p5y1_766_e
set_option maxRecDepth 100000 in
def p5y1_767 : ck_Sum := ((0, 0, 0), 245, [.inr (.inr (.inl 200)), .inl (ck_one 89)], ([], [], [(201, 89, 89, ck_one 1)]), ([], []), [(.inr (some (.inl (ck_one 1))), 245, ([], [], []))])
set_option maxRecDepth 100000 in
theorem p5y1_767_e : ck_ok p1_O none [] [] 34 [] 92 p5y1_767 = true := by decide +kernel
theorem p5y1_767_s {X : Int → Int} {LX : Nat} : ck_Ok p1_O X LX 34 p5y1_767 := ck_ok_s (ck_E0) ck_X0 ck_l0 p5y1_767_e
set_option maxRecDepth 100000 in
def p5y1_768 : ck_Sum := ((1, 0, 0), 245, [.inr (.inr (.inl 1)), .inl (ck_one 89)], ([], [], [(201, 89, 89, ck_one 1)]), ([], []), [(.inr (some (.inl (ck_one 1))), 245, ([], [], []))])
set_option maxRecDepth 100000 in
theorem p5y1_768_e : ck_ok p1_O none [] [(129, [p5y1_766]), (34, [p5y1_767])] 128 [] 86 p5y1_768 = true := by decide +kernel
theorem p5y1_768_s {X : Int → Int} {LX : Nat} : ck_Ok p1_O X LX 128 p5y1_768 := ck_ok_s (ck_E1 (ck_S1 p5y1_766_s ck_S0) (ck_E1 (ck_S1 p5y1_767_s ck_S0) ck_E0)) ck_X0 ck_l0 p5y1_768_e
set_option maxRecDepth 100000 in
def p5y1_769 : ck_Sum := ((2, 0, 0), 245, [.inr (.inr (.inl 1)), .inl (ck_one 89), .inr (.inr (.inl 245))], ([], [], [(201, 89, 89, ck_one 1)]), ([(245, 0, 0)], []), [(.inr (some (.inl (ck_one 0))), 245, ([], [], [(245, 0, 0, ck_one 1)]))])
set_option maxRecDepth 100000 in
theorem p5y1_769_e : ck_ok p1_O none [] [(128, [p5y1_768])] 127 [] 90 p5y1_769 = true := by decide +kernel
theorem p5y1_769_s {X : Int → Int} {LX : Nat} : ck_Ok p1_O X LX 127 p5y1_769 := ck_ok_s (ck_E1 (ck_S1 p5y1_768_s ck_S0) ck_E0) ck_X0 ck_l0 p5y1_769_e
set_option maxRecDepth 100000 in
def p5y1_773 : ck_Sum := ((0, 0, 0), 245, [.inr (.inr (.inl 1)), .inl (ck_one 90)], ([], [], []), ([], []), [(.inr none, 245, ([], [], []))])
set_option maxRecDepth 100000 in
theorem p5y1_773_e : ck_ok p1_O none [] [] 129 [] 82 p5y1_773 = true := by decide +kernel
theorem p5y1_773_s {X : Int → Int} {LX : Nat} : ck_Ok p1_O X LX 129 p5y1_773 := ck_ok_s (ck_E0) ck_X0 ck_l0 p5y1_773_e
set_option maxRecDepth 100000 in
def p5y1_774 : ck_Sum := ((0, 0, 0), 245, [.inr (.inr (.inl 200)), .inl (ck_one 90)], ([], [], [(201, 90, 90, ck_one 0)]), ([], []), [(.inr (some (.inl (ck_one 0))), 245, ([], [], []))])
set_option maxRecDepth 100000 in
theorem p5y1_774_e : ck_ok p1_O none [] [] 34 [] 92 p5y1_774 = true := by decide +kernel
theorem p5y1_774_s {X : Int → Int} {LX : Nat} : ck_Ok p1_O X LX 34 p5y1_774 := ck_ok_s (ck_E0) ck_X0 ck_l0 p5y1_774_e
set_option maxRecDepth 100000 in
def p5y1_775 : ck_Sum := ((1, 0, 0), 245, [.inr (.inr (.inl 1)), .inl (ck_one 90)], ([], [], [(201, 90, 90, ck_one 0)]), ([], []), [(.inr (some (.inl (ck_one 0))), 245, ([], [], []))])
set_option maxRecDepth 100000 in
theorem p5y1_775_e : ck_ok p1_O none [] [(129, [p5y1_773]), (34, [p5y1_774])] 128 [] 86 p5y1_775 = true := by decide +kernel
theorem p5y1_775_s {X : Int → Int} {LX : Nat} : ck_Ok p1_O X LX 128 p5y1_775 := ck_ok_s (ck_E1 (ck_S1 p5y1_773_s ck_S0) (ck_E1 (ck_S1 p5y1_774_s ck_S0) ck_E0)) ck_X0 ck_l0 p5y1_775_e
set_option maxRecDepth 100000 in
def p5y1_776 : ck_Sum := ((2, 0, 0), 245, [.inr (.inr (.inl 1)), .inl (ck_one 90), .inr (.inr (.inl 245))], ([], [], [(201, 90, 90, ck_one 0)]), ([(245, 0, 0)], []), [(.inr (some (.inl (ck_one 0))), 245, ([], [], [(245, 0, 0, ck_one 0)]))])
set_option maxRecDepth 100000 in
theorem p5y1_776_e : ck_ok p1_O none [] [(128, [p5y1_775])] 127 [] 90 p5y1_776 = true := by decide +kernel
theorem p5y1_776_s {X : Int → Int} {LX : Nat} : ck_Ok p1_O X LX 127 p5y1_776 := ck_ok_s (ck_E1 (ck_S1 p5y1_775_s ck_S0) ck_E0) ck_X0 ck_l0 p5y1_776_e
set_option maxRecDepth 100000 in
def p5y1_780 : ck_Sum := ((0, 0, 0), 245, [.inr (.inr (.inl 1)), .inl (ck_one 91)], ([], [], []), ([], []), [(.inr none, 245, ([], [], []))])
set_option maxRecDepth 100000 in
theorem p5y1_780_e : ck_ok p1_O none [] [] 129 [] 82 p5y1_780 = true := by decide +kernel
theorem p5y1_780_s {X : Int → Int} {LX : Nat} : ck_Ok p1_O X LX 129 p5y1_780 := ck_ok_s (ck_E0) ck_X0 ck_l0 p5y1_780_e
set_option maxRecDepth 100000 in
def p5y1_781 : ck_Sum := ((0, 0, 0), 245, [.inr (.inr (.inl 200)), .inl (ck_one 91)], ([], [], [(201, 91, 91, ck_one 5)]), ([], []), [(.inr (some (.inl (ck_one 5))), 245, ([], [], []))])
set_option maxRecDepth 100000 in
theorem p5y1_781_e : ck_ok p1_O none [] [] 34 [] 92 p5y1_781 = true := by decide +kernel
theorem p5y1_781_s {X : Int → Int} {LX : Nat} : ck_Ok p1_O X LX 34 p5y1_781 := ck_ok_s (ck_E0) ck_X0 ck_l0 p5y1_781_e
set_option maxRecDepth 100000 in
def p5y1_782 : ck_Sum := ((1, 0, 0), 245, [.inr (.inr (.inl 1)), .inl (ck_one 91)], ([], [], [(201, 91, 91, ck_one 5)]), ([], []), [(.inr (some (.inl (ck_one 5))), 245, ([], [], []))])
set_option maxRecDepth 100000 in
theorem p5y1_782_e : ck_ok p1_O none [] [(129, [p5y1_780]), (34, [p5y1_781])] 128 [] 86 p5y1_782 = true := by decide +kernel
theorem p5y1_782_s {X : Int → Int} {LX : Nat} : ck_Ok p1_O X LX 128 p5y1_782 := ck_ok_s (ck_E1 (ck_S1 p5y1_780_s ck_S0) (ck_E1 (ck_S1 p5y1_781_s ck_S0) ck_E0)) ck_X0 ck_l0 p5y1_782_e
set_option maxRecDepth 100000 in
def p5y1_783 : ck_Sum := ((2, 0, 0), 245, [.inr (.inr (.inl 1)), .inl (ck_one 91), .inr (.inr (.inl 245))], ([], [], [(201, 91, 91, ck_one 5)]), ([(245, 0, 0)], []), [(.inr (some (.inl (ck_one 0))), 245, ([], [], [(245, 0, 0, ck_one 5)]))])
set_option maxRecDepth 100000 in
theorem p5y1_783_e : ck_ok p1_O none [] [(128, [p5y1_782])] 127 [] 90 p5y1_783 = true := by decide +kernel
theorem p5y1_783_s {X : Int → Int} {LX : Nat} : ck_Ok p1_O X LX 127 p5y1_783 := ck_ok_s (ck_E1 (ck_S1 p5y1_782_s ck_S0) ck_E0) ck_X0 ck_l0 p5y1_783_e
set_option maxRecDepth 100000 in
def p5y1_787 : ck_Sum := ((0, 0, 0), 245, [.inr (.inr (.inl 1)), .inl (ck_one 92)], ([], [], []), ([], []), [(.inr none, 245, ([], [], []))])
set_option maxRecDepth 100000 in
theorem p5y1_787_e : ck_ok p1_O none [] [] 129 [] 82 p5y1_787 = true := by decide +kernel
theorem p5y1_787_s {X : Int → Int} {LX : Nat} : ck_Ok p1_O X LX 129 p5y1_787 := ck_ok_s (ck_E0) ck_X0 ck_l0 p5y1_787_e
set_option maxRecDepth 100000 in
def p5y1_788 : ck_Sum := ((0, 0, 0), 245, [.inr (.inr (.inl 200)), .inl (ck_one 92)], ([], [], [(201, 92, 92, ck_one 9)]), ([], []), [(.inr (some (.inl (ck_one 9))), 245, ([], [], []))])
set_option maxRecDepth 100000 in
theorem p5y1_788_e : ck_ok p1_O none [] [] 34 [] 92 p5y1_788 = true := by decide +kernel
theorem p5y1_788_s {X : Int → Int} {LX : Nat} : ck_Ok p1_O X LX 34 p5y1_788 := ck_ok_s (ck_E0) ck_X0 ck_l0 p5y1_788_e
set_option maxRecDepth 100000 in
def p5y1_789 : ck_Sum := ((1, 0, 0), 245, [.inr (.inr (.inl 1)), .inl (ck_one 92)], ([], [], [(201, 92, 92, ck_one 9)]), ([], []), [(.inr (some (.inl (ck_one 9))), 245, ([], [], []))])
set_option maxRecDepth 100000 in
theorem p5y1_789_e : ck_ok p1_O none [] [(129, [p5y1_787]), (34, [p5y1_788])] 128 [] 86 p5y1_789 = true := by decide +kernel
theorem p5y1_789_s {X : Int → Int} {LX : Nat} : ck_Ok p1_O X LX 128 p5y1_789 := ck_ok_s (ck_E1 (ck_S1 p5y1_787_s ck_S0) (ck_E1 (ck_S1 p5y1_788_s ck_S0) ck_E0)) ck_X0 ck_l0 p5y1_789_e
set_option maxRecDepth 100000 in
def p5y1_790 : ck_Sum := ((2, 0, 0), 245, [.inr (.inr (.inl 1)), .inl (ck_one 92), .inr (.inr (.inl 245))], ([], [], [(201, 92, 92, ck_one 9)]), ([(245, 0, 0)], []), [(.inr (some (.inl (ck_one 0))), 245, ([], [], [(245, 0, 0, ck_one 9)]))])
set_option maxRecDepth 100000 in
theorem p5y1_790_e : ck_ok p1_O none [] [(128, [p5y1_789])] 127 [] 90 p5y1_790 = true := by decide +kernel
theorem p5y1_790_s {X : Int → Int} {LX : Nat} : ck_Ok p1_O X LX 127 p5y1_790 := ck_ok_s (ck_E1 (ck_S1 p5y1_789_s ck_S0) ck_E0) ck_X0 ck_l0 p5y1_790_e
set_option maxRecDepth 100000 in
def p5y1_794 : ck_Sum := ((0, 0, 0), 245, [.inr (.inr (.inl 1)), .inl (ck_one 93)], ([], [], []), ([], []), [(.inr none, 245, ([], [], []))])
set_option maxRecDepth 100000 in
theorem p5y1_794_e : ck_ok p1_O none [] [] 129 [] 82 p5y1_794 = true := by decide +kernel
theorem p5y1_794_s {X : Int → Int} {LX : Nat} : ck_Ok p1_O X LX 129 p5y1_794 := ck_ok_s (ck_E0) ck_X0 ck_l0 p5y1_794_e
set_option maxRecDepth 100000 in
def p5y1_795 : ck_Sum := ((0, 0, 0), 245, [.inr (.inr (.inl 200)), .inl (ck_one 93)], ([], [], [(201, 93, 93, ck_one 4)]), ([], []), [(.inr (some (.inl (ck_one 4))), 245, ([], [], []))])
set_option maxRecDepth 100000 in
theorem p5y1_795_e : ck_ok p1_O none [] [] 34 [] 92 p5y1_795 = true := by decide +kernel
theorem p5y1_795_s {X : Int → Int} {LX : Nat} : ck_Ok p1_O X LX 34 p5y1_795 := ck_ok_s (ck_E0) ck_X0 ck_l0 p5y1_795_e
set_option maxRecDepth 100000 in
def p5y1_796 : ck_Sum := ((1, 0, 0), 245, [.inr (.inr (.inl 1)), .inl (ck_one 93)], ([], [], [(201, 93, 93, ck_one 4)]), ([], []), [(.inr (some (.inl (ck_one 4))), 245, ([], [], []))])
set_option maxRecDepth 100000 in
theorem p5y1_796_e : ck_ok p1_O none [] [(129, [p5y1_794]), (34, [p5y1_795])] 128 [] 86 p5y1_796 = true := by decide +kernel
theorem p5y1_796_s {X : Int → Int} {LX : Nat} : ck_Ok p1_O X LX 128 p5y1_796 := ck_ok_s (ck_E1 (ck_S1 p5y1_794_s ck_S0) (ck_E1 (ck_S1 p5y1_795_s ck_S0) ck_E0)) ck_X0 ck_l0 p5y1_796_e
set_option maxRecDepth 100000 in
def p5y1_797 : ck_Sum := ((2, 0, 0), 245, [.inr (.inr (.inl 1)), .inl (ck_one 93), .inr (.inr (.inl 245))], ([], [], [(201, 93, 93, ck_one 4)]), ([(245, 0, 0)], []), [(.inr (some (.inl (ck_one 0))), 245, ([], [], [(245, 0, 0, ck_one 4)]))])
set_option maxRecDepth 100000 in
theorem p5y1_797_e : ck_ok p1_O none [] [(128, [p5y1_796])] 127 [] 90 p5y1_797 = true := by decide +kernel
theorem p5y1_797_s {X : Int → Int} {LX : Nat} : ck_Ok p1_O X LX 127 p5y1_797 := ck_ok_s (ck_E1 (ck_S1 p5y1_796_s ck_S0) ck_E0) ck_X0 ck_l0 p5y1_797_e
set_option maxRecDepth 100000 in
def p5y1_801 : ck_Sum := ((0, 0, 0), 245, [.inr (.inr (.inl 1)), .inl (ck_one 94)], ([], [], []), ([], []), [(.inr none, 245, ([], [], []))])
set_option maxRecDepth 100000 in
theorem p5y1_801_e : ck_ok p1_O none [] [] 129 [] 82 p5y1_801 = true := by decide +kernel
theorem p5y1_801_s {X : Int → Int} {LX : Nat} : ck_Ok p1_O X LX 129 p5y1_801 := ck_ok_s (ck_E0) ck_X0 ck_l0 p5y1_801_e
set_option maxRecDepth 100000 in
def p5y1_802 : ck_Sum := ((0, 0, 0), 245, [.inr (.inr (.inl 200)), .inl (ck_one 94)], ([], [], [(201, 94, 94, ck_one 5)]), ([], []), [(.inr (some (.inl (ck_one 5))), 245, ([], [], []))])
set_option maxRecDepth 100000 in
theorem p5y1_802_e : ck_ok p1_O none [] [] 34 [] 92 p5y1_802 = true := by decide +kernel
theorem p5y1_802_s {X : Int → Int} {LX : Nat} : ck_Ok p1_O X LX 34 p5y1_802 := ck_ok_s (ck_E0) ck_X0 ck_l0 p5y1_802_e
set_option maxRecDepth 100000 in
def p5y1_803 : ck_Sum := ((1, 0, 0), 245, [.inr (.inr (.inl 1)), .inl (ck_one 94)], ([], [], [(201, 94, 94, ck_one 5)]), ([], []), [(.inr (some (.inl (ck_one 5))), 245, ([], [], []))])
set_option maxRecDepth 100000 in
theorem p5y1_803_e : ck_ok p1_O none [] [(129, [p5y1_801]), (34, [p5y1_802])] 128 [] 86 p5y1_803 = true := by decide +kernel
theorem p5y1_803_s {X : Int → Int} {LX : Nat} : ck_Ok p1_O X LX 128 p5y1_803 := ck_ok_s (ck_E1 (ck_S1 p5y1_801_s ck_S0) (ck_E1 (ck_S1 p5y1_802_s ck_S0) ck_E0)) ck_X0 ck_l0 p5y1_803_e
set_option maxRecDepth 100000 in
def p5y1_804 : ck_Sum := ((2, 0, 0), 245, [.inr (.inr (.inl 1)), .inl (ck_one 94), .inr (.inr (.inl 245))], ([], [], [(201, 94, 94, ck_one 5)]), ([(245, 0, 0)], []), [(.inr (some (.inl (ck_one 0))), 245, ([], [], [(245, 0, 0, ck_one 5)]))])
set_option maxRecDepth 100000 in
theorem p5y1_804_e : ck_ok p1_O none [] [(128, [p5y1_803])] 127 [] 90 p5y1_804 = true := by decide +kernel
theorem p5y1_804_s {X : Int → Int} {LX : Nat} : ck_Ok p1_O X LX 127 p5y1_804 := ck_ok_s (ck_E1 (ck_S1 p5y1_803_s ck_S0) ck_E0) ck_X0 ck_l0 p5y1_804_e
set_option maxRecDepth 100000 in
def p5y1_808 : ck_Sum := ((0, 0, 0), 245, [.inr (.inr (.inl 1)), .inl (ck_one 95)], ([], [], []), ([], []), [(.inr none, 245, ([], [], []))])
set_option maxRecDepth 100000 in
theorem p5y1_808_e : ck_ok p1_O none [] [] 129 [] 82 p5y1_808 = true := by decide +kernel
theorem p5y1_808_s {X : Int → Int} {LX : Nat} : ck_Ok p1_O X LX 129 p5y1_808 := ck_ok_s (ck_E0) ck_X0 ck_l0 p5y1_808_e
set_option maxRecDepth 100000 in
def p5y1_809 : ck_Sum := ((0, 0, 0), 245, [.inr (.inr (.inl 200)), .inl (ck_one 95)], ([], [], [(201, 95, 95, ck_one 3)]), ([], []), [(.inr (some (.inl (ck_one 3))), 245, ([], [], []))])
set_option maxRecDepth 100000 in
theorem p5y1_809_e : ck_ok p1_O none [] [] 34 [] 92 p5y1_809 = true := by decide +kernel
theorem p5y1_809_s {X : Int → Int} {LX : Nat} : ck_Ok p1_O X LX 34 p5y1_809 := ck_ok_s (ck_E0) ck_X0 ck_l0 p5y1_809_e
set_option maxRecDepth 100000 in
def p5y1_810 : ck_Sum := ((1, 0, 0), 245, [.inr (.inr (.inl 1)), .inl (ck_one 95)], ([], [], [(201, 95, 95, ck_one 3)]), ([], []), [(.inr (some (.inl (ck_one 3))), 245, ([], [], []))])
set_option maxRecDepth 100000 in
theorem p5y1_810_e : ck_ok p1_O none [] [(129, [p5y1_808]), (34, [p5y1_809])] 128 [] 86 p5y1_810 = true := by decide +kernel
theorem p5y1_810_s {X : Int → Int} {LX : Nat} : ck_Ok p1_O X LX 128 p5y1_810 := ck_ok_s (ck_E1 (ck_S1 p5y1_808_s ck_S0) (ck_E1 (ck_S1 p5y1_809_s ck_S0) ck_E0)) ck_X0 ck_l0 p5y1_810_e
set_option maxRecDepth 100000 in
def p5y1_811 : ck_Sum := ((2, 0, 0), 245, [.inr (.inr (.inl 1)), .inl (ck_one 95), .inr (.inr (.inl 245))], ([], [], [(201, 95, 95, ck_one 3)]), ([(245, 0, 0)], []), [(.inr (some (.inl (ck_one 0))), 245, ([], [], [(245, 0, 0, ck_one 3)]))])
set_option maxRecDepth 100000 in
theorem p5y1_811_e : ck_ok p1_O none [] [(128, [p5y1_810])] 127 [] 90 p5y1_811 = true := by decide +kernel
theorem p5y1_811_s {X : Int → Int} {LX : Nat} : ck_Ok p1_O X LX 127 p5y1_811 := ck_ok_s (ck_E1 (ck_S1 p5y1_810_s ck_S0) ck_E0) ck_X0 ck_l0 p5y1_811_e
set_option maxRecDepth 100000 in
def p5y1_815 : ck_Sum := ((0, 0, 0), 245, [.inr (.inr (.inl 1)), .inl (ck_one 96)], ([], [], []), ([], []), [(.inr none, 245, ([], [], []))])
set_option maxRecDepth 100000 in
theorem p5y1_815_e : ck_ok p1_O none [] [] 129 [] 82 p5y1_815 = true := by decide +kernel
theorem p5y1_815_s {X : Int → Int} {LX : Nat} : ck_Ok p1_O X LX 129 p5y1_815 := ck_ok_s (ck_E0) ck_X0 ck_l0 p5y1_815_e
set_option maxRecDepth 100000 in
def p5y1_816 : ck_Sum := ((0, 0, 0), 245, [.inr (.inr (.inl 200)), .inl (ck_one 96)], ([], [], [(201, 96, 96, ck_one 4)]), ([], []), [(.inr (some (.inl (ck_one 4))), 245, ([], [], []))])
set_option maxRecDepth 100000 in
theorem p5y1_816_e : ck_ok p1_O none [] [] 34 [] 92 p5y1_816 = true := by decide +kernel
theorem p5y1_816_s {X : Int → Int} {LX : Nat} : ck_Ok p1_O X LX 34 p5y1_816 := ck_ok_s (ck_E0) ck_X0 ck_l0 p5y1_816_e
set_option maxRecDepth 100000 in
def p5y1_817 : ck_Sum := ((1, 0, 0), 245, [.inr (.inr (.inl 1)), .inl (ck_one 96)], ([], [], [(201, 96, 96, ck_one 4)]), ([], []), [(.inr (some (.inl (ck_one 4))), 245, ([], [], []))])
set_option maxRecDepth 100000 in
theorem p5y1_817_e : ck_ok p1_O none [] [(129, [p5y1_815]), (34, [p5y1_816])] 128 [] 86 p5y1_817 = true := by decide +kernel
theorem p5y1_817_s {X : Int → Int} {LX : Nat} : ck_Ok p1_O X LX 128 p5y1_817 := ck_ok_s (ck_E1 (ck_S1 p5y1_815_s ck_S0) (ck_E1 (ck_S1 p5y1_816_s ck_S0) ck_E0)) ck_X0 ck_l0 p5y1_817_e
set_option maxRecDepth 100000 in
def p5y1_818 : ck_Sum := ((2, 0, 0), 245, [.inr (.inr (.inl 1)), .inl (ck_one 96), .inr (.inr (.inl 245))], ([], [], [(201, 96, 96, ck_one 4)]), ([(245, 0, 0)], []), [(.inr (some (.inl (ck_one 0))), 245, ([], [], [(245, 0, 0, ck_one 4)]))])
set_option maxRecDepth 100000 in
theorem p5y1_818_e : ck_ok p1_O none [] [(128, [p5y1_817])] 127 [] 90 p5y1_818 = true := by decide +kernel
theorem p5y1_818_s {X : Int → Int} {LX : Nat} : ck_Ok p1_O X LX 127 p5y1_818 := ck_ok_s (ck_E1 (ck_S1 p5y1_817_s ck_S0) ck_E0) ck_X0 ck_l0 p5y1_818_e
set_option maxRecDepth 100000 in
def p5y1_822 : ck_Sum := ((0, 0, 0), 245, [.inr (.inr (.inl 1)), .inl (ck_one 97)], ([], [], []), ([], []), [(.inr none, 245, ([], [], []))])
set_option maxRecDepth 100000 in
theorem p5y1_822_e : ck_ok p1_O none [] [] 129 [] 82 p5y1_822 = true := by decide +kernel
theorem p5y1_822_s {X : Int → Int} {LX : Nat} : ck_Ok p1_O X LX 129 p5y1_822 := ck_ok_s (ck_E0) ck_X0 ck_l0 p5y1_822_e
set_option maxRecDepth 100000 in
def p5y1_823 : ck_Sum := ((0, 0, 0), 245, [.inr (.inr (.inl 200)), .inl (ck_one 97)], ([], [], [(201, 97, 97, ck_one 9)]), ([], []), [(.inr (some (.inl (ck_one 9))), 245, ([], [], []))])
set_option maxRecDepth 100000 in
theorem p5y1_823_e : ck_ok p1_O none [] [] 34 [] 92 p5y1_823 = true := by decide +kernel
theorem p5y1_823_s {X : Int → Int} {LX : Nat} : ck_Ok p1_O X LX 34 p5y1_823 := ck_ok_s (ck_E0) ck_X0 ck_l0 p5y1_823_e
set_option maxRecDepth 100000 in
def p5y1_824 : ck_Sum := ((1, 0, 0), 245, [.inr (.inr (.inl 1)), .inl (ck_one 97)], ([], [], [(201, 97, 97, ck_one 9)]), ([], []), [(.inr (some (.inl (ck_one 9))), 245, ([], [], []))])
set_option maxRecDepth 100000 in
theorem p5y1_824_e : ck_ok p1_O none [] [(129, [p5y1_822]), (34, [p5y1_823])] 128 [] 86 p5y1_824 = true := by decide +kernel
theorem p5y1_824_s {X : Int → Int} {LX : Nat} : ck_Ok p1_O X LX 128 p5y1_824 := ck_ok_s (ck_E1 (ck_S1 p5y1_822_s ck_S0) (ck_E1 (ck_S1 p5y1_823_s ck_S0) ck_E0)) ck_X0 ck_l0 p5y1_824_e
set_option maxRecDepth 100000 in
def p5y1_825 : ck_Sum := ((2, 0, 0), 245, [.inr (.inr (.inl 1)), .inl (ck_one 97), .inr (.inr (.inl 245))], ([], [], [(201, 97, 97, ck_one 9)]), ([(245, 0, 0)], []), [(.inr (some (.inl (ck_one 0))), 245, ([], [], [(245, 0, 0, ck_one 9)]))])
set_option maxRecDepth 100000 in
theorem p5y1_825_e : ck_ok p1_O none [] [(128, [p5y1_824])] 127 [] 90 p5y1_825 = true := by decide +kernel
theorem p5y1_825_s {X : Int → Int} {LX : Nat} : ck_Ok p1_O X LX 127 p5y1_825 := ck_ok_s (ck_E1 (ck_S1 p5y1_824_s ck_S0) ck_E0) ck_X0 ck_l0 p5y1_825_e
set_option maxRecDepth 100000 in
def p5y1_829 : ck_Sum := ((0, 0, 0), 245, [.inr (.inr (.inl 1)), .inl (ck_one 98)], ([], [], []), ([], []), [(.inr none, 245, ([], [], []))])
set_option maxRecDepth 100000 in
theorem p5y1_829_e : ck_ok p1_O none [] [] 129 [] 82 p5y1_829 = true := by decide +kernel
theorem p5y1_829_s {X : Int → Int} {LX : Nat} : ck_Ok p1_O X LX 129 p5y1_829 := ck_ok_s (ck_E0) ck_X0 ck_l0 p5y1_829_e
set_option maxRecDepth 100000 in
def p5y1_830 : ck_Sum := ((0, 0, 0), 245, [.inr (.inr (.inl 200)), .inl (ck_one 98)], ([], [], [(201, 98, 98, ck_one 8)]), ([], []), [(.inr (some (.inl (ck_one 8))), 245, ([], [], []))])
set_option maxRecDepth 100000 in
theorem p5y1_830_e : ck_ok p1_O none [] [] 34 [] 92 p5y1_830 = true := by decide +kernel
theorem p5y1_830_s {X : Int → Int} {LX : Nat} : ck_Ok p1_O X LX 34 p5y1_830 := ck_ok_s (ck_E0) ck_X0 ck_l0 p5y1_830_e
set_option maxRecDepth 100000 in
def p5y1_831 : ck_Sum := ((1, 0, 0), 245, [.inr (.inr (.inl 1)), .inl (ck_one 98)], ([], [], [(201, 98, 98, ck_one 8)]), ([], []), [(.inr (some (.inl (ck_one 8))), 245, ([], [], []))])
set_option maxRecDepth 100000 in
theorem p5y1_831_e : ck_ok p1_O none [] [(129, [p5y1_829]), (34, [p5y1_830])] 128 [] 86 p5y1_831 = true := by decide +kernel
theorem p5y1_831_s {X : Int → Int} {LX : Nat} : ck_Ok p1_O X LX 128 p5y1_831 := ck_ok_s (ck_E1 (ck_S1 p5y1_829_s ck_S0) (ck_E1 (ck_S1 p5y1_830_s ck_S0) ck_E0)) ck_X0 ck_l0 p5y1_831_e
set_option maxRecDepth 100000 in
def p5y1_832 : ck_Sum := ((2, 0, 0), 245, [.inr (.inr (.inl 1)), .inl (ck_one 98), .inr (.inr (.inl 245))], ([], [], [(201, 98, 98, ck_one 8)]), ([(245, 0, 0)], []), [(.inr (some (.inl (ck_one 0))), 245, ([], [], [(245, 0, 0, ck_one 8)]))])
set_option maxRecDepth 100000 in
theorem p5y1_832_e : ck_ok p1_O none [] [(128, [p5y1_831])] 127 [] 90 p5y1_832 = true := by decide +kernel
theorem p5y1_832_s {X : Int → Int} {LX : Nat} : ck_Ok p1_O X LX 127 p5y1_832 := ck_ok_s (ck_E1 (ck_S1 p5y1_831_s ck_S0) ck_E0) ck_X0 ck_l0 p5y1_832_e
set_option maxRecDepth 100000 in
def p5y1_836 : ck_Sum := ((0, 0, 0), 245, [.inr (.inr (.inl 1)), .inl (ck_one 99)], ([], [], []), ([], []), [(.inr none, 245, ([], [], []))])
set_option maxRecDepth 100000 in
theorem p5y1_836_e : ck_ok p1_O none [] [] 129 [] 82 p5y1_836 = true := by decide +kernel
theorem p5y1_836_s {X : Int → Int} {LX : Nat} : ck_Ok p1_O X LX 129 p5y1_836 := ck_ok_s (ck_E0) ck_X0 ck_l0 p5y1_836_e
set_option maxRecDepth 100000 in
def p5y1_837 : ck_Sum := ((0, 0, 0), 245, [.inr (.inr (.inl 200)), .inl (ck_one 99)], ([], [], [(201, 99, 99, ck_one 1)]), ([], []), [(.inr (some (.inl (ck_one 1))), 245, ([], [], []))])
set_option maxRecDepth 100000 in
theorem p5y1_837_e : ck_ok p1_O none [] [] 34 [] 92 p5y1_837 = true := by decide +kernel
theorem p5y1_837_s {X : Int → Int} {LX : Nat} : ck_Ok p1_O X LX 34 p5y1_837 := ck_ok_s (ck_E0) ck_X0 ck_l0 p5y1_837_e
set_option maxRecDepth 100000 in
def p5y1_838 : ck_Sum := ((1, 0, 0), 245, [.inr (.inr (.inl 1)), .inl (ck_one 99)], ([], [], [(201, 99, 99, ck_one 1)]), ([], []), [(.inr (some (.inl (ck_one 1))), 245, ([], [], []))])
set_option maxRecDepth 100000 in
theorem p5y1_838_e : ck_ok p1_O none [] [(129, [p5y1_836]), (34, [p5y1_837])] 128 [] 86 p5y1_838 = true := by decide +kernel
theorem p5y1_838_s {X : Int → Int} {LX : Nat} : ck_Ok p1_O X LX 128 p5y1_838 := ck_ok_s (ck_E1 (ck_S1 p5y1_836_s ck_S0) (ck_E1 (ck_S1 p5y1_837_s ck_S0) ck_E0)) ck_X0 ck_l0 p5y1_838_e
set_option maxRecDepth 100000 in
def p5y1_839 : ck_Sum := ((2, 0, 0), 245, [.inr (.inr (.inl 1)), .inl (ck_one 99), .inr (.inr (.inl 245))], ([], [], [(201, 99, 99, ck_one 1)]), ([(245, 0, 0)], []), [(.inr (some (.inl (ck_one 0))), 245, ([], [], [(245, 0, 0, ck_one 1)]))])
set_option maxRecDepth 100000 in
theorem p5y1_839_e : ck_ok p1_O none [] [(128, [p5y1_838])] 127 [] 90 p5y1_839 = true := by decide +kernel
theorem p5y1_839_s {X : Int → Int} {LX : Nat} : ck_Ok p1_O X LX 127 p5y1_839 := ck_ok_s (ck_E1 (ck_S1 p5y1_838_s ck_S0) ck_E0) ck_X0 ck_l0 p5y1_839_e
set_option maxRecDepth 100000 in
def p5y1_843 : ck_Sum := ((0, 0, 0), 245, [.inr (.inr (.inl 1)), .inl (ck_one 100)], ([], [], []), ([], []), [(.inr none, 245, ([], [], []))])
set_option maxRecDepth 100000 in
theorem p5y1_843_e : ck_ok p1_O none [] [] 129 [] 82 p5y1_843 = true := by decide +kernel
theorem p5y1_843_s {X : Int → Int} {LX : Nat} : ck_Ok p1_O X LX 129 p5y1_843 := ck_ok_s (ck_E0) ck_X0 ck_l0 p5y1_843_e
set_option maxRecDepth 100000 in
def p5y1_844 : ck_Sum := ((0, 0, 0), 245, [.inr (.inr (.inl 200)), .inl (ck_one 100)], ([], [], [(201, 100, 100, ck_one 2)]), ([], []), [(.inr (some (.inl (ck_one 2))), 245, ([], [], []))])
set_option maxRecDepth 100000 in
theorem p5y1_844_e : ck_ok p1_O none [] [] 34 [] 92 p5y1_844 = true := by decide +kernel
theorem p5y1_844_s {X : Int → Int} {LX : Nat} : ck_Ok p1_O X LX 34 p5y1_844 := ck_ok_s (ck_E0) ck_X0 ck_l0 p5y1_844_e
set_option maxRecDepth 100000 in
def p5y1_845 : ck_Sum := ((1, 0, 0), 245, [.inr (.inr (.inl 1)), .inl (ck_one 100)], ([], [], [(201, 100, 100, ck_one 2)]), ([], []), [(.inr (some (.inl (ck_one 2))), 245, ([], [], []))])
set_option maxRecDepth 100000 in
theorem p5y1_845_e : ck_ok p1_O none [] [(129, [p5y1_843]), (34, [p5y1_844])] 128 [] 86 p5y1_845 = true := by decide +kernel
theorem p5y1_845_s {X : Int → Int} {LX : Nat} : ck_Ok p1_O X LX 128 p5y1_845 := ck_ok_s (ck_E1 (ck_S1 p5y1_843_s ck_S0) (ck_E1 (ck_S1 p5y1_844_s ck_S0) ck_E0)) ck_X0 ck_l0 p5y1_845_e
set_option maxRecDepth 100000 in
def p5y1_846 : ck_Sum := ((2, 0, 0), 245, [.inr (.inr (.inl 1)), .inl (ck_one 100), .inr (.inr (.inl 245))], ([], [], [(201, 100, 100, ck_one 2)]), ([(245, 0, 0)], []), [(.inr (some (.inl (ck_one 0))), 245, ([], [], [(245, 0, 0, ck_one 2)]))])
set_option maxRecDepth 100000 in
theorem p5y1_846_e : ck_ok p1_O none [] [(128, [p5y1_845])] 127 [] 90 p5y1_846 = true := by decide +kernel
theorem p5y1_846_s {X : Int → Int} {LX : Nat} : ck_Ok p1_O X LX 127 p5y1_846 := ck_ok_s (ck_E1 (ck_S1 p5y1_845_s ck_S0) ck_E0) ck_X0 ck_l0 p5y1_846_e
set_option maxRecDepth 100000 in
def p5y1_497 : ck_Sum := ((0, 0, 0), 245, [.inl (ck_one 50), .inl (ck_one 0), .inl (ck_one 299)], ([], [], []), ([], []), [(.inr (some (.inl (ck_one 1))), 245, ([], [], []))])
set_option maxRecDepth 100000 in
theorem p5y1_497_e : ck_ok p1_O none [] [] 287 [] 88 p5y1_497 = true := by decide +kernel
theorem p5y1_497_s {X : Int → Int} {LX : Nat} : ck_Ok p1_O X LX 287 p5y1_497 := ck_ok_s (ck_E0) ck_X0 ck_l0 p5y1_497_e
set_option maxRecDepth 100000 in
def p5y1_498 : ck_Sum := ((1, 0, 0), 245, [.inl (ck_one 50)], ([], [], []), ([], []), [(.inr (some (.inl (ck_one 0))), 245, ([], [], []))])
set_option maxRecDepth 100000 in
theorem p5y1_498_e : ck_ok p1_O none [] [(287, [p5y1_497])] 286 [] 84 p5y1_498 = true := by decide +kernel
theorem p5y1_498_s {X : Int → Int} {LX : Nat} : ck_Ok p1_O X LX 286 p5y1_498 := ck_ok_s (ck_E1 (ck_S1 p5y1_497_s ck_S0) ck_E0) ck_X0 ck_l0 p5y1_498_e
set_option maxRecDepth 100000 in
def p5y1_147 : ck_Sum := ((0, 0, 0), 245, [.inr (.inr (.inl 226)), .inl (ck_one 0), .inl (ck_one 1)], ([], [], []), ([], []), [(.inr (some (.inl (ck_one 0))), 245, ([], [], []))])
set_option maxRecDepth 100000 in
theorem p5y1_147_e : ck_ok p1_O none [] [] 283 [] 78 p5y1_147 = true := by decide +kernel
theorem p5y1_147_s {X : Int → Int} {LX : Nat} : ck_Ok p1_O X LX 283 p5y1_147 := ck_ok_s (ck_E0) ck_X0 ck_l0 p5y1_147_e
set_option maxRecDepth 100000 in
def p5y1_499 : ck_Sum := ((2, 0, 0), 245, [.inr (.inr (.inl 226)), .inl (ck_one 50)], ([], [], [(234, 50, 50, ck_one 3)]), ([(226, 0, 0)], []), [(.inr (some (.inl (ck_one 3))), 245, ([], [], [(226, 0, 0, ck_one 0)]))])
set_option maxRecDepth 100000 in
theorem p5y1_499_e : ck_ok p1_O none [] [(286, [p5y1_498]), (283, [p5y1_147])] 285 [] 98 p5y1_499 = true := by decide +kernel
theorem p5y1_499_s {X : Int → Int} {LX : Nat} : ck_Ok p1_O X LX 285 p5y1_499 := ck_ok_s (ck_E1 (ck_S1 p5y1_498_s ck_S0) (ck_E1 (ck_S1 p5y1_147_s ck_S0) ck_E0)) ck_X0 ck_l0 p5y1_499_e
set_option maxRecDepth 100000 in
def p5y1_504 : ck_Sum := ((0, 0, 0), 245, [.inl (ck_one 51), .inl (ck_one 0), .inl (ck_one 299)], ([], [], []), ([], []), [(.inr (some (.inl (ck_one 1))), 245, ([], [], []))])
set_option maxRecDepth 100000 in
theorem p5y1_504_e : ck_ok p1_O none [] [] 287 [] 88 p5y1_504 = true := by decide +kernel
theorem p5y1_504_s {X : Int → Int} {LX : Nat} : ck_Ok p1_O X LX 287 p5y1_504 := ck_ok_s (ck_E0) ck_X0 ck_l0 p5y1_504_e
set_option maxRecDepth 100000 in
def p5y1_505 : ck_Sum := ((1, 0, 0), 245, [.inl (ck_one 51)], ([], [], []), ([], []), [(.inr (some (.inl (ck_one 0))), 245, ([], [], []))])
set_option maxRecDepth 100000 in
theorem p5y1_505_e : ck_ok p1_O none [] [(287, [p5y1_504])] 286 [] 84 p5y1_505 = true := by decide +kernel
theorem p5y1_505_s {X : Int → Int} {LX : Nat} : ck_Ok p1_O X LX 286 p5y1_505 := ck_ok_s (ck_E1 (ck_S1 p5y1_504_s ck_S0) ck_E0) ck_X0 ck_l0 p5y1_505_e
set_option maxRecDepth 100000 in
def p5y1_506 : ck_Sum := ((2, 0, 0), 245, [.inr (.inr (.inl 226)), .inl (ck_one 51)], ([], [], [(234, 51, 51, ck_one 0)]), ([(226, 0, 0)], []), [(.inr (some (.inl (ck_one 0))), 245, ([], [], [(226, 0, 0, ck_one 0)]))])
set_option maxRecDepth 100000 in
theorem p5y1_506_e : ck_ok p1_O none [] [(286, [p5y1_505]), (283, [p5y1_147])] 285 [] 98 p5y1_506 = true := by decide +kernel
theorem p5y1_506_s {X : Int → Int} {LX : Nat} : ck_Ok p1_O X LX 285 p5y1_506 := ck_ok_s (ck_E1 (ck_S1 p5y1_505_s ck_S0) (ck_E1 (ck_S1 p5y1_147_s ck_S0) ck_E0)) ck_X0 ck_l0 p5y1_506_e
set_option maxRecDepth 100000 in
def p5y1_511 : ck_Sum := ((0, 0, 0), 245, [.inl (ck_one 52), .inl (ck_one 0), .inl (ck_one 299)], ([], [], []), ([], []), [(.inr (some (.inl (ck_one 1))), 245, ([], [], []))])
set_option maxRecDepth 100000 in
theorem p5y1_511_e : ck_ok p1_O none [] [] 287 [] 88 p5y1_511 = true := by decide +kernel
theorem p5y1_511_s {X : Int → Int} {LX : Nat} : ck_Ok p1_O X LX 287 p5y1_511 := ck_ok_s (ck_E0) ck_X0 ck_l0 p5y1_511_e
set_option maxRecDepth 100000 in
def p5y1_512 : ck_Sum := ((1, 0, 0), 245, [.inl (ck_one 52)], ([], [], []), ([], []), [(.inr (some (.inl (ck_one 0))), 245, ([], [], []))])
set_option maxRecDepth 100000 in
theorem p5y1_512_e : ck_ok p1_O none [] [(287, [p5y1_511])] 286 [] 84 p5y1_512 = true := by decide +kernel
theorem p5y1_512_s {X : Int → Int} {LX : Nat} : ck_Ok p1_O X LX 286 p5y1_512 := ck_ok_s (ck_E1 (ck_S1 p5y1_511_s ck_S0) ck_E0) ck_X0 ck_l0 p5y1_512_e
set_option maxRecDepth 100000 in
def p5y1_513 : ck_Sum := ((2, 0, 0), 245, [.inr (.inr (.inl 226)), .inl (ck_one 52)], ([], [], [(234, 52, 52, ck_one 4)]), ([(226, 0, 0)], []), [(.inr (some (.inl (ck_one 4))), 245, ([], [], [(226, 0, 0, ck_one 0)]))])
set_option maxRecDepth 100000 in
theorem p5y1_513_e : ck_ok p1_O none [] [(286, [p5y1_512]), (283, [p5y1_147])] 285 [] 98 p5y1_513 = true := by decide +kernel
theorem p5y1_513_s {X : Int → Int} {LX : Nat} : ck_Ok p1_O X LX 285 p5y1_513 := ck_ok_s (ck_E1 (ck_S1 p5y1_512_s ck_S0) (ck_E1 (ck_S1 p5y1_147_s ck_S0) ck_E0)) ck_X0 ck_l0 p5y1_513_e
set_option maxRecDepth 100000 in
def p5y1_518 : ck_Sum := ((0, 0, 0), 245, [.inl (ck_one 53), .inl (ck_one 0), .inl (ck_one 299)], ([], [], []), ([], []), [(.inr (some (.inl (ck_one 1))), 245, ([], [], []))])
set_option maxRecDepth 100000 in
theorem p5y1_518_e : ck_ok p1_O none [] [] 287 [] 88 p5y1_518 = true := by decide +kernel
theorem p5y1_518_s {X : Int → Int} {LX : Nat} : ck_Ok p1_O X LX 287 p5y1_518 := ck_ok_s (ck_E0) ck_X0 ck_l0 p5y1_518_e
set_option maxRecDepth 100000 in
def p5y1_519 : ck_Sum := ((1, 0, 0), 245, [.inl (ck_one 53)], ([], [], []), ([], []), [(.inr (some (.inl (ck_one 0))), 245, ([], [], []))])
set_option maxRecDepth 100000 in
theorem p5y1_519_e : ck_ok p1_O none [] [(287, [p5y1_518])] 286 [] 84 p5y1_519 = true := by decide +kernel
theorem p5y1_519_s {X : Int → Int} {LX : Nat} : ck_Ok p1_O X LX 286 p5y1_519 := ck_ok_s (ck_E1 (ck_S1 p5y1_518_s ck_S0) ck_E0) ck_X0 ck_l0 p5y1_519_e
set_option maxRecDepth 100000 in
def p5y1_520 : ck_Sum := ((2, 0, 0), 245, [.inr (.inr (.inl 226)), .inl (ck_one 53)], ([], [], [(234, 53, 53, ck_one 3)]), ([(226, 0, 0)], []), [(.inr (some (.inl (ck_one 3))), 245, ([], [], [(226, 0, 0, ck_one 0)]))])
set_option maxRecDepth 100000 in
theorem p5y1_520_e : ck_ok p1_O none [] [(286, [p5y1_519]), (283, [p5y1_147])] 285 [] 98 p5y1_520 = true := by decide +kernel
theorem p5y1_520_s {X : Int → Int} {LX : Nat} : ck_Ok p1_O X LX 285 p5y1_520 := ck_ok_s (ck_E1 (ck_S1 p5y1_519_s ck_S0) (ck_E1 (ck_S1 p5y1_147_s ck_S0) ck_E0)) ck_X0 ck_l0 p5y1_520_e
set_option maxRecDepth 100000 in
def p5y1_525 : ck_Sum := ((0, 0, 0), 245, [.inl (ck_one 54), .inl (ck_one 0), .inl (ck_one 299)], ([], [], []), ([], []), [(.inr (some (.inl (ck_one 1))), 245, ([], [], []))])
set_option maxRecDepth 100000 in
theorem p5y1_525_e : ck_ok p1_O none [] [] 287 [] 88 p5y1_525 = true := by decide +kernel
theorem p5y1_525_s {X : Int → Int} {LX : Nat} : ck_Ok p1_O X LX 287 p5y1_525 := ck_ok_s (ck_E0) ck_X0 ck_l0 p5y1_525_e
set_option maxRecDepth 100000 in
def p5y1_526 : ck_Sum := ((1, 0, 0), 245, [.inl (ck_one 54)], ([], [], []), ([], []), [(.inr (some (.inl (ck_one 0))), 245, ([], [], []))])
set_option maxRecDepth 100000 in
theorem p5y1_526_e : ck_ok p1_O none [] [(287, [p5y1_525])] 286 [] 84 p5y1_526 = true := by decide +kernel
theorem p5y1_526_s {X : Int → Int} {LX : Nat} : ck_Ok p1_O X LX 286 p5y1_526 := ck_ok_s (ck_E1 (ck_S1 p5y1_525_s ck_S0) ck_E0) ck_X0 ck_l0 p5y1_526_e
set_option maxRecDepth 100000 in
def p5y1_527 : ck_Sum := ((2, 0, 0), 245, [.inr (.inr (.inl 226)), .inl (ck_one 54)], ([], [], [(234, 54, 54, ck_one 2)]), ([(226, 0, 0)], []), [(.inr (some (.inl (ck_one 2))), 245, ([], [], [(226, 0, 0, ck_one 0)]))])
set_option maxRecDepth 100000 in
theorem p5y1_527_e : ck_ok p1_O none [] [(286, [p5y1_526]), (283, [p5y1_147])] 285 [] 98 p5y1_527 = true := by decide +kernel
theorem p5y1_527_s {X : Int → Int} {LX : Nat} : ck_Ok p1_O X LX 285 p5y1_527 := ck_ok_s (ck_E1 (ck_S1 p5y1_526_s ck_S0) (ck_E1 (ck_S1 p5y1_147_s ck_S0) ck_E0)) ck_X0 ck_l0 p5y1_527_e
set_option maxRecDepth 100000 in
def p5y1_532 : ck_Sum := ((0, 0, 0), 245, [.inl (ck_one 55), .inl (ck_one 0), .inl (ck_one 299)], ([], [], []), ([], []), [(.inr (some (.inl (ck_one 1))), 245, ([], [], []))])
set_option maxRecDepth 100000 in
theorem p5y1_532_e : ck_ok p1_O none [] [] 287 [] 88 p5y1_532 = true := by decide +kernel
theorem p5y1_532_s {X : Int → Int} {LX : Nat} : ck_Ok p1_O X LX 287 p5y1_532 := ck_ok_s (ck_E0) ck_X0 ck_l0 p5y1_532_e
set_option maxRecDepth 100000 in
def p5y1_533 : ck_Sum := ((1, 0, 0), 245, [.inl (ck_one 55)], ([], [], []), ([], []), [(.inr (some (.inl (ck_one 0))), 245, ([], [], []))])
set_option maxRecDepth 100000 in
theorem p5y1_533_e : ck_ok p1_O none [] [(287, [p5y1_532])] 286 [] 84 p5y1_533 = true := by decide +kernel
theorem p5y1_533_s {X : Int → Int} {LX : Nat} : ck_Ok p1_O X LX 286 p5y1_533 := ck_ok_s (ck_E1 (ck_S1 p5y1_532_s ck_S0) ck_E0) ck_X0 ck_l0 p5y1_533_e
set_option maxRecDepth 100000 in
def p5y1_534 : ck_Sum := ((2, 0, 0), 245, [.inr (.inr (.inl 226)), .inl (ck_one 55)], ([], [], [(234, 55, 55, ck_one 8)]), ([(226, 0, 0)], []), [(.inr (some (.inl (ck_one 8))), 245, ([], [], [(226, 0, 0, ck_one 0)]))])
set_option maxRecDepth 100000 in
theorem p5y1_534_e : ck_ok p1_O none [] [(286, [p5y1_533]), (283, [p5y1_147])] 285 [] 98 p5y1_534 = true := by decide +kernel
theorem p5y1_534_s {X : Int → Int} {LX : Nat} : ck_Ok p1_O X LX 285 p5y1_534 := ck_ok_s (ck_E1 (ck_S1 p5y1_533_s ck_S0) (ck_E1 (ck_S1 p5y1_147_s ck_S0) ck_E0)) ck_X0 ck_l0 p5y1_534_e
set_option maxRecDepth 100000 in
def p5y1_539 : ck_Sum := ((0, 0, 0), 245, [.inl (ck_one 56), .inl (ck_one 0), .inl (ck_one 299)], ([], [], []), ([], []), [(.inr (some (.inl (ck_one 1))), 245, ([], [], []))])
set_option maxRecDepth 100000 in
theorem p5y1_539_e : ck_ok p1_O none [] [] 287 [] 88 p5y1_539 = true := by decide +kernel
theorem p5y1_539_s {X : Int → Int} {LX : Nat} : ck_Ok p1_O X LX 287 p5y1_539 := ck_ok_s (ck_E0) ck_X0 ck_l0 p5y1_539_e
set_option maxRecDepth 100000 in
def p5y1_540 : ck_Sum := ((1, 0, 0), 245, [.inl (ck_one 56)], ([], [], []), ([], []), [(.inr (some (.inl (ck_one 0))), 245, ([], [], []))])
set_option maxRecDepth 100000 in
theorem p5y1_540_e : ck_ok p1_O none [] [(287, [p5y1_539])] 286 [] 84 p5y1_540 = true := by decide +kernel
theorem p5y1_540_s {X : Int → Int} {LX : Nat} : ck_Ok p1_O X LX 286 p5y1_540 := ck_ok_s (ck_E1 (ck_S1 p5y1_539_s ck_S0) ck_E0) ck_X0 ck_l0 p5y1_540_e
set_option maxRecDepth 100000 in
def p5y1_541 : ck_Sum := ((2, 0, 0), 245, [.inr (.inr (.inl 226)), .inl (ck_one 56)], ([], [], [(234, 56, 56, ck_one 2)]), ([(226, 0, 0)], []), [(.inr (some (.inl (ck_one 2))), 245, ([], [], [(226, 0, 0, ck_one 0)]))])
set_option maxRecDepth 100000 in
theorem p5y1_541_e : ck_ok p1_O none [] [(286, [p5y1_540]), (283, [p5y1_147])] 285 [] 98 p5y1_541 = true := by decide +kernel
theorem p5y1_541_s {X : Int → Int} {LX : Nat} : ck_Ok p1_O X LX 285 p5y1_541 := ck_ok_s (ck_E1 (ck_S1 p5y1_540_s ck_S0) (ck_E1 (ck_S1 p5y1_147_s ck_S0) ck_E0)) ck_X0 ck_l0 p5y1_541_e
set_option maxRecDepth 100000 in
def p5y1_546 : ck_Sum := ((0, 0, 0), 245, [.inl (ck_one 57), .inl (ck_one 0), .inl (ck_one 299)], ([], [], []), ([], []), [(.inr (some (.inl (ck_one 1))), 245, ([], [], []))])
set_option maxRecDepth 100000 in
theorem p5y1_546_e : ck_ok p1_O none [] [] 287 [] 88 p5y1_546 = true := by decide +kernel
theorem p5y1_546_s {X : Int → Int} {LX : Nat} : ck_Ok p1_O X LX 287 p5y1_546 := ck_ok_s (ck_E0) ck_X0 ck_l0 p5y1_546_e
set_option maxRecDepth 100000 in
def p5y1_547 : ck_Sum := ((1, 0, 0), 245, [.inl (ck_one 57)], ([], [], []), ([], []), [(.inr (some (.inl (ck_one 0))), 245, ([], [], []))])
set_option maxRecDepth 100000 in
theorem p5y1_547_e : ck_ok p1_O none [] [(287, [p5y1_546])] 286 [] 84 p5y1_547 = true := by decide +kernel
theorem p5y1_547_s {X : Int → Int} {LX : Nat} : ck_Ok p1_O X LX 286 p5y1_547 := ck_ok_s (ck_E1 (ck_S1 p5y1_546_s ck_S0) ck_E0) ck_X0 ck_l0 p5y1_547_e
set_option maxRecDepth 100000 in
def p5y1_548 : ck_Sum := ((2, 0, 0), 245, [.inr (.inr (.inl 226)), .inl (ck_one 57)], ([], [], [(234, 57, 57, ck_one 7)]), ([(226, 0, 0)], []), [(.inr (some (.inl (ck_one 7))), 245, ([], [], [(226, 0, 0, ck_one 0)]))])
set_option maxRecDepth 100000 in
theorem p5y1_548_e : ck_ok p1_O none [] [(286, [p5y1_547]), (283, [p5y1_147])] 285 [] 98 p5y1_548 = true := by decide +kernel
theorem p5y1_548_s {X : Int → Int} {LX : Nat} : ck_Ok p1_O X LX 285 p5y1_548 := ck_ok_s (ck_E1 (ck_S1 p5y1_547_s ck_S0) (ck_E1 (ck_S1 p5y1_147_s ck_S0) ck_E0)) ck_X0 ck_l0 p5y1_548_e
set_option maxRecDepth 100000 in
def p5y1_553 : ck_Sum := ((0, 0, 0), 245, [.inl (ck_one 58), .inl (ck_one 0), .inl (ck_one 299)], ([], [], []), ([], []), [(.inr (some (.inl (ck_one 1))), 245, ([], [], []))])
set_option maxRecDepth 100000 in
theorem p5y1_553_e : ck_ok p1_O none [] [] 287 [] 88 p5y1_553 = true := by decide +kernel
theorem p5y1_553_s {X : Int → Int} {LX : Nat} : ck_Ok p1_O X LX 287 p5y1_553 := ck_ok_s (ck_E0) ck_X0 ck_l0 p5y1_553_e
set_option maxRecDepth 100000 in
def p5y1_554 : ck_Sum := ((1, 0, 0), 245, [.inl (ck_one 58)], ([], [], []), ([], []), [(.inr (some (.inl (ck_one 0))), 245, ([], [], []))])
set_option maxRecDepth 100000 in
theorem p5y1_554_e : ck_ok p1_O none [] [(287, [p5y1_553])] 286 [] 84 p5y1_554 = true := by decide +kernel
theorem p5y1_554_s {X : Int → Int} {LX : Nat} : ck_Ok p1_O X LX 286 p5y1_554 := ck_ok_s (ck_E1 (ck_S1 p5y1_553_s ck_S0) ck_E0) ck_X0 ck_l0 p5y1_554_e
set_option maxRecDepth 100000 in
def p5y1_555 : ck_Sum := ((2, 0, 0), 245, [.inr (.inr (.inl 226)), .inl (ck_one 58)], ([], [], [(234, 58, 58, ck_one 7)]), ([(226, 0, 0)], []), [(.inr (some (.inl (ck_one 7))), 245, ([], [], [(226, 0, 0, ck_one 0)]))])
set_option maxRecDepth 100000 in
theorem p5y1_555_e : ck_ok p1_O none [] [(286, [p5y1_554]), (283, [p5y1_147])] 285 [] 98 p5y1_555 = true := by decide +kernel
theorem p5y1_555_s {X : Int → Int} {LX : Nat} : ck_Ok p1_O X LX 285 p5y1_555 := ck_ok_s (ck_E1 (ck_S1 p5y1_554_s ck_S0) (ck_E1 (ck_S1 p5y1_147_s ck_S0) ck_E0)) ck_X0 ck_l0 p5y1_555_e
set_option maxRecDepth 100000 in
def p5y1_560 : ck_Sum := ((0, 0, 0), 245, [.inl (ck_one 59), .inl (ck_one 0), .inl (ck_one 299)], ([], [], []), ([], []), [(.inr (some (.inl (ck_one 1))), 245, ([], [], []))])
set_option maxRecDepth 100000 in
theorem p5y1_560_e : ck_ok p1_O none [] [] 287 [] 88 p5y1_560 = true := by decide +kernel
theorem p5y1_560_s {X : Int → Int} {LX : Nat} : ck_Ok p1_O X LX 287 p5y1_560 := ck_ok_s (ck_E0) ck_X0 ck_l0 p5y1_560_e
set_option maxRecDepth 100000 in
def p5y1_561 : ck_Sum := ((1, 0, 0), 245, [.inl (ck_one 59)], ([], [], []), ([], []), [(.inr (some (.inl (ck_one 0))), 245, ([], [], []))])
set_option maxRecDepth 100000 in
theorem p5y1_561_e : ck_ok p1_O none [] [(287, [p5y1_560])] 286 [] 84 p5y1_561 = true := by decide +kernel
theorem p5y1_561_s {X : Int → Int} {LX : Nat} : ck_Ok p1_O X LX 286 p5y1_561 := ck_ok_s (ck_E1 (ck_S1 p5y1_560_s ck_S0) ck_E0) ck_X0 ck_l0 p5y1_561_e
set_option maxRecDepth 100000 in
def p5y1_562 : ck_Sum := ((2, 0, 0), 245, [.inr (.inr (.inl 226)), .inl (ck_one 59)], ([], [], [(234, 59, 59, ck_one 5)]), ([(226, 0, 0)], []), [(.inr (some (.inl (ck_one 5))), 245, ([], [], [(226, 0, 0, ck_one 0)]))])
set_option maxRecDepth 100000 in
theorem p5y1_562_e : ck_ok p1_O none [] [(286, [p5y1_561]), (283, [p5y1_147])] 285 [] 98 p5y1_562 = true := by decide +kernel
theorem p5y1_562_s {X : Int → Int} {LX : Nat} : ck_Ok p1_O X LX 285 p5y1_562 := ck_ok_s (ck_E1 (ck_S1 p5y1_561_s ck_S0) (ck_E1 (ck_S1 p5y1_147_s ck_S0) ck_E0)) ck_X0 ck_l0 p5y1_562_e
set_option maxRecDepth 100000 in
def p5y1_567 : ck_Sum := ((0, 0, 0), 245, [.inl (ck_one 60), .inl (ck_one 0), .inl (ck_one 299)], ([], [], []), ([], []), [(.inr (some (.inl (ck_one 1))), 245, ([], [], []))])
set_option maxRecDepth 100000 in
theorem p5y1_567_e : ck_ok p1_O none [] [] 287 [] 88 p5y1_567 = true := by decide +kernel
theorem p5y1_567_s {X : Int → Int} {LX : Nat} : ck_Ok p1_O X LX 287 p5y1_567 := ck_ok_s (ck_E0) ck_X0 ck_l0 p5y1_567_e
set_option maxRecDepth 100000 in
def p5y1_568 : ck_Sum := ((1, 0, 0), 245, [.inl (ck_one 60)], ([], [], []), ([], []), [(.inr (some (.inl (ck_one 0))), 245, ([], [], []))])
set_option maxRecDepth 100000 in
theorem p5y1_568_e : ck_ok p1_O none [] [(287, [p5y1_567])] 286 [] 84 p5y1_568 = true := by decide +kernel
theorem p5y1_568_s {X : Int → Int} {LX : Nat} : ck_Ok p1_O X LX 286 p5y1_568 := ck_ok_s (ck_E1 (ck_S1 p5y1_567_s ck_S0) ck_E0) ck_X0 ck_l0 p5y1_568_e
set_option maxRecDepth 100000 in
def p5y1_569 : ck_Sum := ((2, 0, 0), 245, [.inr (.inr (.inl 226)), .inl (ck_one 60)], ([], [], [(234, 60, 60, ck_one 9)]), ([(226, 0, 0)], []), [(.inr (some (.inl (ck_one 9))), 245, ([], [], [(226, 0, 0, ck_one 0)]))])
set_option maxRecDepth 100000 in
theorem p5y1_569_e : ck_ok p1_O none [] [(286, [p5y1_568]), (283, [p5y1_147])] 285 [] 98 p5y1_569 = true := by decide +kernel
theorem p5y1_569_s {X : Int → Int} {LX : Nat} : ck_Ok p1_O X LX 285 p5y1_569 := ck_ok_s (ck_E1 (ck_S1 p5y1_568_s ck_S0) (ck_E1 (ck_S1 p5y1_147_s ck_S0) ck_E0)) ck_X0 ck_l0 p5y1_569_e
set_option maxRecDepth 100000 in
def p5y1_574 : ck_Sum := ((0, 0, 0), 245, [.inl (ck_one 61), .inl (ck_one 0), .inl (ck_one 299)], ([], [], []), ([], []), [(.inr (some (.inl (ck_one 1))), 245, ([], [], []))])
set_option maxRecDepth 100000 in
theorem p5y1_574_e : ck_ok p1_O none [] [] 287 [] 88 p5y1_574 = true := by decide +kernel
theorem p5y1_574_s {X : Int → Int} {LX : Nat} : ck_Ok p1_O X LX 287 p5y1_574 := ck_ok_s (ck_E0) ck_X0 ck_l0 p5y1_574_e
set_option maxRecDepth 100000 in
def p5y1_575 : ck_Sum := ((1, 0, 0), 245, [.inl (ck_one 61)], ([], [], []), ([], []), [(.inr (some (.inl (ck_one 0))), 245, ([], [], []))])
set_option maxRecDepth 100000 in
theorem p5y1_575_e : ck_ok p1_O none [] [(287, [p5y1_574])] 286 [] 84 p5y1_575 = true := by decide +kernel
theorem p5y1_575_s {X : Int → Int} {LX : Nat} : ck_Ok p1_O X LX 286 p5y1_575 := ck_ok_s (ck_E1 (ck_S1 p5y1_574_s ck_S0) ck_E0) ck_X0 ck_l0 p5y1_575_e
set_option maxRecDepth 100000 in
def p5y1_576 : ck_Sum := ((2, 0, 0), 245, [.inr (.inr (.inl 226)), .inl (ck_one 61)], ([], [], [(234, 61, 61, ck_one 3)]), ([(226, 0, 0)], []), [(.inr (some (.inl (ck_one 3))), 245, ([], [], [(226, 0, 0, ck_one 0)]))])
set_option maxRecDepth 100000 in
theorem p5y1_576_e : ck_ok p1_O none [] [(286, [p5y1_575]), (283, [p5y1_147])] 285 [] 98 p5y1_576 = true := by decide +kernel
theorem p5y1_576_s {X : Int → Int} {LX : Nat} : ck_Ok p1_O X LX 285 p5y1_576 := ck_ok_s (ck_E1 (ck_S1 p5y1_575_s ck_S0) (ck_E1 (ck_S1 p5y1_147_s ck_S0) ck_E0)) ck_X0 ck_l0 p5y1_576_e
set_option maxRecDepth 100000 in
def p5y1_581 : ck_Sum := ((0, 0, 0), 245, [.inl (ck_one 62), .inl (ck_one 0), .inl (ck_one 299)], ([], [], []), ([], []), [(.inr (some (.inl (ck_one 1))), 245, ([], [], []))])
set_option maxRecDepth 100000 in
theorem p5y1_581_e : ck_ok p1_O none [] [] 287 [] 88 p5y1_581 = true := by decide +kernel
theorem p5y1_581_s {X : Int → Int} {LX : Nat} : ck_Ok p1_O X LX 287 p5y1_581 := ck_ok_s (ck_E0) ck_X0 ck_l0 p5y1_581_e
set_option maxRecDepth 100000 in
def p5y1_582 : ck_Sum := ((1, 0, 0), 245, [.inl (ck_one 62)], ([], [], []), ([], []), [(.inr (some (.inl (ck_one 0))), 245, ([], [], []))])
set_option maxRecDepth 100000 in
theorem p5y1_582_e : ck_ok p1_O none [] [(287, [p5y1_581])] 286 [] 84 p5y1_582 = true := by decide +kernel
theorem p5y1_582_s {X : Int → Int} {LX : Nat} : ck_Ok p1_O X LX 286 p5y1_582 := ck_ok_s (ck_E1 (ck_S1 p5y1_581_s ck_S0) ck_E0) ck_X0 ck_l0 p5y1_582_e
set_option maxRecDepth 100000 in
def p5y1_583 : ck_Sum := ((2, 0, 0), 245, [.inr (.inr (.inl 226)), .inl (ck_one 62)], ([], [], [(234, 62, 62, ck_one 1)]), ([(226, 0, 0)], []), [(.inr (some (.inl (ck_one 1))), 245, ([], [], [(226, 0, 0, ck_one 0)]))])
set_option maxRecDepth 100000 in
theorem p5y1_583_e : ck_ok p1_O none [] [(286, [p5y1_582]), (283, [p5y1_147])] 285 [] 98 p5y1_583 = true := by decide +kernel
theorem p5y1_583_s {X : Int → Int} {LX : Nat} : ck_Ok p1_O X LX 285 p5y1_583 := ck_ok_s (ck_E1 (ck_S1 p5y1_582_s ck_S0) (ck_E1 (ck_S1 p5y1_147_s ck_S0) ck_E0)) ck_X0 ck_l0 p5y1_583_e
set_option maxRecDepth 100000 in
def p5y1_588 : ck_Sum := ((0, 0, 0), 245, [.inl (ck_one 63), .inl (ck_one 0), .inl (ck_one 299)], ([], [], []), ([], []), [(.inr (some (.inl (ck_one 1))), 245, ([], [], []))])
set_option maxRecDepth 100000 in
theorem p5y1_588_e : ck_ok p1_O none [] [] 287 [] 88 p5y1_588 = true := by decide +kernel
theorem p5y1_588_s {X : Int → Int} {LX : Nat} : ck_Ok p1_O X LX 287 p5y1_588 := ck_ok_s (ck_E0) ck_X0 ck_l0 p5y1_588_e
set_option maxRecDepth 100000 in
def p5y1_589 : ck_Sum := ((1, 0, 0), 245, [.inl (ck_one 63)], ([], [], []), ([], []), [(.inr (some (.inl (ck_one 0))), 245, ([], [], []))])
set_option maxRecDepth 100000 in
theorem p5y1_589_e : ck_ok p1_O none [] [(287, [p5y1_588])] 286 [] 84 p5y1_589 = true := by decide +kernel
theorem p5y1_589_s {X : Int → Int} {LX : Nat} : ck_Ok p1_O X LX 286 p5y1_589 := ck_ok_s (ck_E1 (ck_S1 p5y1_588_s ck_S0) ck_E0) ck_X0 ck_l0 p5y1_589_e
set_option maxRecDepth 100000 in
def p5y1_590 : ck_Sum := ((2, 0, 0), 245, [.inr (.inr (.inl 226)), .inl (ck_one 63)], ([], [], [(234, 63, 63, ck_one 4)]), ([(226, 0, 0)], []), [(.inr (some (.inl (ck_one 4))), 245, ([], [], [(226, 0, 0, ck_one 0)]))])
set_option maxRecDepth 100000 in
theorem p5y1_590_e : ck_ok p1_O none [] [(286, [p5y1_589]), (283, [p5y1_147])] 285 [] 98 p5y1_590 = true := by decide +kernel
theorem p5y1_590_s {X : Int → Int} {LX : Nat} : ck_Ok p1_O X LX 285 p5y1_590 := ck_ok_s (ck_E1 (ck_S1 p5y1_589_s ck_S0) (ck_E1 (ck_S1 p5y1_147_s ck_S0) ck_E0)) ck_X0 ck_l0 p5y1_590_e
set_option maxRecDepth 100000 in
def p5y1_595 : ck_Sum := ((0, 0, 0), 245, [.inl (ck_one 64), .inl (ck_one 0), .inl (ck_one 299)], ([], [], []), ([], []), [(.inr (some (.inl (ck_one 1))), 245, ([], [], []))])
set_option maxRecDepth 100000 in
theorem p5y1_595_e : ck_ok p1_O none [] [] 287 [] 88 p5y1_595 = true := by decide +kernel
theorem p5y1_595_s {X : Int → Int} {LX : Nat} : ck_Ok p1_O X LX 287 p5y1_595 := ck_ok_s (ck_E0) ck_X0 ck_l0 p5y1_595_e
set_option maxRecDepth 100000 in
def p5y1_596 : ck_Sum := ((1, 0, 0), 245, [.inl (ck_one 64)], ([], [], []), ([], []), [(.inr (some (.inl (ck_one 0))), 245, ([], [], []))])
set_option maxRecDepth 100000 in
theorem p5y1_596_e : ck_ok p1_O none [] [(287, [p5y1_595])] 286 [] 84 p5y1_596 = true := by decide +kernel
theorem p5y1_596_s {X : Int → Int} {LX : Nat} : ck_Ok p1_O X LX 286 p5y1_596 := ck_ok_s (ck_E1 (ck_S1 p5y1_595_s ck_S0) ck_E0) ck_X0 ck_l0 p5y1_596_e
set_option maxRecDepth 100000 in
def p5y1_597 : ck_Sum := ((2, 0, 0), 245, [.inr (.inr (.inl 226)), .inl (ck_one 64)], ([], [], [(234, 64, 64, ck_one 0)]), ([(226, 0, 0)], []), [(.inr (some (.inl (ck_one 0))), 245, ([], [], [(226, 0, 0, ck_one 0)]))])
set_option maxRecDepth 100000 in
theorem p5y1_597_e : ck_ok p1_O none [] [(286, [p5y1_596]), (283, [p5y1_147])] 285 [] 98 p5y1_597 = true := by decide +kernel
theorem p5y1_597_s {X : Int → Int} {LX : Nat} : ck_Ok p1_O X LX 285 p5y1_597 := ck_ok_s (ck_E1 (ck_S1 p5y1_596_s ck_S0) (ck_E1 (ck_S1 p5y1_147_s ck_S0) ck_E0)) ck_X0 ck_l0 p5y1_597_e
set_option maxRecDepth 100000 in
def p5y1_602 : ck_Sum := ((0, 0, 0), 245, [.inl (ck_one 65), .inl (ck_one 0), .inl (ck_one 299)], ([], [], []), ([], []), [(.inr (some (.inl (ck_one 1))), 245, ([], [], []))])
set_option maxRecDepth 100000 in
theorem p5y1_602_e : ck_ok p1_O none [] [] 287 [] 88 p5y1_602 = true := by decide +kernel
theorem p5y1_602_s {X : Int → Int} {LX : Nat} : ck_Ok p1_O X LX 287 p5y1_602 := ck_ok_s (ck_E0) ck_X0 ck_l0 p5y1_602_e
set_option maxRecDepth 100000 in
def p5y1_603 : ck_Sum := ((1, 0, 0), 245, [.inl (ck_one 65)], ([], [], []), ([], []), [(.inr (some (.inl (ck_one 0))), 245, ([], [], []))])
set_option maxRecDepth 100000 in
theorem p5y1_603_e : ck_ok p1_O none [] [(287, [p5y1_602])] 286 [] 84 p5y1_603 = true := by decide +kernel
theorem p5y1_603_s {X : Int → Int} {LX : Nat} : ck_Ok p1_O X LX 286 p5y1_603 := ck_ok_s (ck_E1 (ck_S1 p5y1_602_s ck_S0) ck_E0) ck_X0 ck_l0 p5y1_603_e
set_option maxRecDepth 100000 in
def p5y1_604 : ck_Sum := ((2, 0, 0), 245, [.inr (.inr (.inl 226)), .inl (ck_one 65)], ([], [], [(234, 65, 65, ck_one 9)]), ([(226, 0, 0)], []), [(.inr (some (.inl (ck_one 9))), 245, ([], [], [(226, 0, 0, ck_one 0)]))])
set_option maxRecDepth 100000 in
theorem p5y1_604_e : ck_ok p1_O none [] [(286, [p5y1_603]), (283, [p5y1_147])] 285 [] 98 p5y1_604 = true := by decide +kernel
theorem p5y1_604_s {X : Int → Int} {LX : Nat} : ck_Ok p1_O X LX 285 p5y1_604 := ck_ok_s (ck_E1 (ck_S1 p5y1_603_s ck_S0) (ck_E1 (ck_S1 p5y1_147_s ck_S0) ck_E0)) ck_X0 ck_l0 p5y1_604_e
set_option maxRecDepth 100000 in
def p5y1_609 : ck_Sum := ((0, 0, 0), 245, [.inl (ck_one 66), .inl (ck_one 0), .inl (ck_one 299)], ([], [], []), ([], []), [(.inr (some (.inl (ck_one 1))), 245, ([], [], []))])
set_option maxRecDepth 100000 in
theorem p5y1_609_e : ck_ok p1_O none [] [] 287 [] 88 p5y1_609 = true := by decide +kernel
theorem p5y1_609_s {X : Int → Int} {LX : Nat} : ck_Ok p1_O X LX 287 p5y1_609 := ck_ok_s (ck_E0) ck_X0 ck_l0 p5y1_609_e
set_option maxRecDepth 100000 in
def p5y1_610 : ck_Sum := ((1, 0, 0), 245, [.inl (ck_one 66)], ([], [], []), ([], []), [(.inr (some (.inl (ck_one 0))), 245, ([], [], []))])
set_option maxRecDepth 100000 in
theorem p5y1_610_e : ck_ok p1_O none [] [(287, [p5y1_609])] 286 [] 84 p5y1_610 = true := by decide +kernel
theorem p5y1_610_s {X : Int → Int} {LX : Nat} : ck_Ok p1_O X LX 286 p5y1_610 := ck_ok_s (ck_E1 (ck_S1 p5y1_609_s ck_S0) ck_E0) ck_X0 ck_l0 p5y1_610_e
set_option maxRecDepth 100000 in
def p5y1_611 : ck_Sum := ((2, 0, 0), 245, [.inr (.inr (.inl 226)), .inl (ck_one 66)], ([], [], [(234, 66, 66, ck_one 8)]), ([(226, 0, 0)], []), [(.inr (some (.inl (ck_one 8))), 245, ([], [], [(226, 0, 0, ck_one 0)]))])
set_option maxRecDepth 100000 in
theorem p5y1_611_e : ck_ok p1_O none [] [(286, [p5y1_610]), (283, [p5y1_147])] 285 [] 98 p5y1_611 = true := by decide +kernel
theorem p5y1_611_s {X : Int → Int} {LX : Nat} : ck_Ok p1_O X LX 285 p5y1_611 := ck_ok_s (ck_E1 (ck_S1 p5y1_610_s ck_S0) (ck_E1 (ck_S1 p5y1_147_s ck_S0) ck_E0)) ck_X0 ck_l0 p5y1_611_e
set_option maxRecDepth 100000 in
def p5y1_616 : ck_Sum := ((0, 0, 0), 245, [.inl (ck_one 67), .inl (ck_one 0), .inl (ck_one 299)], ([], [], []), ([], []), [(.inr (some (.inl (ck_one 1))), 245, ([], [], []))])
set_option maxRecDepth 100000 in
theorem p5y1_616_e : ck_ok p1_O none [] [] 287 [] 88 p5y1_616 = true := by decide +kernel
theorem p5y1_616_s {X : Int → Int} {LX : Nat} : ck_Ok p1_O X LX 287 p5y1_616 := ck_ok_s (ck_E0) ck_X0 ck_l0 p5y1_616_e
set_option maxRecDepth 100000 in
def p5y1_617 : ck_Sum := ((1, 0, 0), 245, [.inl (ck_one 67)], ([], [], []), ([], []), [(.inr (some (.inl (ck_one 0))), 245, ([], [], []))])
set_option maxRecDepth 100000 in
theorem p5y1_617_e : ck_ok p1_O none [] [(287, [p5y1_616])] 286 [] 84 p5y1_617 = true := by decide +kernel
theorem p5y1_617_s {X : Int → Int} {LX : Nat} : ck_Ok p1_O X LX 286 p5y1_617 := ck_ok_s (ck_E1 (ck_S1 p5y1_616_s ck_S0) ck_E0) ck_X0 ck_l0 p5y1_617_e
set_option maxRecDepth 100000 in
def p5y1_618 : ck_Sum := ((2, 0, 0), 245, [.inr (.inr (.inl 226)), .inl (ck_one 67)], ([], [], [(234, 67, 67, ck_one 7)]), ([(226, 0, 0)], []), [(.inr (some (.inl (ck_one 7))), 245, ([], [], [(226, 0, 0, ck_one 0)]))])
set_option maxRecDepth 100000 in
theorem p5y1_618_e : ck_ok p1_O none [] [(286, [p5y1_617]), (283, [p5y1_147])] 285 [] 98 p5y1_618 = true := by decide +kernel
theorem p5y1_618_s {X : Int → Int} {LX : Nat} : ck_Ok p1_O X LX 285 p5y1_618 := ck_ok_s (ck_E1 (ck_S1 p5y1_617_s ck_S0) (ck_E1 (ck_S1 p5y1_147_s ck_S0) ck_E0)) ck_X0 ck_l0 p5y1_618_e
set_option maxRecDepth 100000 in
def p5y1_623 : ck_Sum := ((0, 0, 0), 245, [.inl (ck_one 68), .inl (ck_one 0), .inl (ck_one 299)], ([], [], []), ([], []), [(.inr (some (.inl (ck_one 1))), 245, ([], [], []))])
set_option maxRecDepth 100000 in
theorem p5y1_623_e : ck_ok p1_O none [] [] 287 [] 88 p5y1_623 = true := by decide +kernel
theorem p5y1_623_s {X : Int → Int} {LX : Nat} : ck_Ok p1_O X LX 287 p5y1_623 := ck_ok_s (ck_E0) ck_X0 ck_l0 p5y1_623_e
set_option maxRecDepth 100000 in
def p5y1_624 : ck_Sum := ((1, 0, 0), 245, [.inl (ck_one 68)], ([], [], []), ([], []), [(.inr (some (.inl (ck_one 0))), 245, ([], [], []))])
set_option maxRecDepth 100000 in
theorem p5y1_624_e : ck_ok p1_O none [] [(287, [p5y1_623])] 286 [] 84 p5y1_624 = true := by decide +kernel
theorem p5y1_624_s {X : Int → Int} {LX : Nat} : ck_Ok p1_O X LX 286 p5y1_624 := ck_ok_s (ck_E1 (ck_S1 p5y1_623_s ck_S0) ck_E0) ck_X0 ck_l0 p5y1_624_e
set_option maxRecDepth 100000 in
def p5y1_625 : ck_Sum := ((2, 0, 0), 245, [.inr (.inr (.inl 226)), .inl (ck_one 68)], ([], [], [(234, 68, 68, ck_one 9)]), ([(226, 0, 0)], []), [(.inr (some (.inl (ck_one 9))), 245, ([], [], [(226, 0, 0, ck_one 0)]))])
set_option maxRecDepth 100000 in
theorem p5y1_625_e : ck_ok p1_O none [] [(286, [p5y1_624]), (283, [p5y1_147])] 285 [] 98 p5y1_625 = true := by decide +kernel
theorem p5y1_625_s {X : Int → Int} {LX : Nat} : ck_Ok p1_O X LX 285 p5y1_625 := ck_ok_s (ck_E1 (ck_S1 p5y1_624_s ck_S0) (ck_E1 (ck_S1 p5y1_147_s ck_S0) ck_E0)) ck_X0 ck_l0 p5y1_625_e
set_option maxRecDepth 100000 in
def p5y1_630 : ck_Sum := ((0, 0, 0), 245, [.inl (ck_one 69), .inl (ck_one 0), .inl (ck_one 299)], ([], [], []), ([], []), [(.inr (some (.inl (ck_one 1))), 245, ([], [], []))])
set_option maxRecDepth 100000 in
theorem p5y1_630_e : ck_ok p1_O none [] [] 287 [] 88 p5y1_630 = true := by decide +kernel
theorem p5y1_630_s {X : Int → Int} {LX : Nat} : ck_Ok p1_O X LX 287 p5y1_630 := ck_ok_s (ck_E0) ck_X0 ck_l0 p5y1_630_e
set_option maxRecDepth 100000 in
def p5y1_631 : ck_Sum := ((1, 0, 0), 245, [.inl (ck_one 69)], ([], [], []), ([], []), [(.inr (some (.inl (ck_one 0))), 245, ([], [], []))])
set_option maxRecDepth 100000 in
theorem p5y1_631_e : ck_ok p1_O none [] [(287, [p5y1_630])] 286 [] 84 p5y1_631 = true := by decide +kernel
theorem p5y1_631_s {X : Int → Int} {LX : Nat} : ck_Ok p1_O X LX 286 p5y1_631 := ck_ok_s (ck_E1 (ck_S1 p5y1_630_s ck_S0) ck_E0) ck_X0 ck_l0 p5y1_631_e
set_option maxRecDepth 100000 in
def p5y1_632 : ck_Sum := ((2, 0, 0), 245, [.inr (.inr (.inl 226)), .inl (ck_one 69)], ([], [], [(234, 69, 69, ck_one 6)]), ([(226, 0, 0)], []), [(.inr (some (.inl (ck_one 6))), 245, ([], [], [(226, 0, 0, ck_one 0)]))])
set_option maxRecDepth 100000 in
theorem p5y1_632_e : ck_ok p1_O none [] [(286, [p5y1_631]), (283, [p5y1_147])] 285 [] 98 p5y1_632 = true := by decide +kernel
theorem p5y1_632_s {X : Int → Int} {LX : Nat} : ck_Ok p1_O X LX 285 p5y1_632 := ck_ok_s (ck_E1 (ck_S1 p5y1_631_s ck_S0) (ck_E1 (ck_S1 p5y1_147_s ck_S0) ck_E0)) ck_X0 ck_l0 p5y1_632_e
set_option maxRecDepth 100000 in
def p5y1_637 : ck_Sum := ((0, 0, 0), 245, [.inl (ck_one 70), .inl (ck_one 0), .inl (ck_one 299)], ([], [], []), ([], []), [(.inr (some (.inl (ck_one 1))), 245, ([], [], []))])
set_option maxRecDepth 100000 in
theorem p5y1_637_e : ck_ok p1_O none [] [] 287 [] 88 p5y1_637 = true := by decide +kernel
theorem p5y1_637_s {X : Int → Int} {LX : Nat} : ck_Ok p1_O X LX 287 p5y1_637 := ck_ok_s (ck_E0) ck_X0 ck_l0 p5y1_637_e
set_option maxRecDepth 100000 in
def p5y1_638 : ck_Sum := ((1, 0, 0), 245, [.inl (ck_one 70)], ([], [], []), ([], []), [(.inr (some (.inl (ck_one 0))), 245, ([], [], []))])
set_option maxRecDepth 100000 in
theorem p5y1_638_e : ck_ok p1_O none [] [(287, [p5y1_637])] 286 [] 84 p5y1_638 = true := by decide +kernel
theorem p5y1_638_s {X : Int → Int} {LX : Nat} : ck_Ok p1_O X LX 286 p5y1_638 := ck_ok_s (ck_E1 (ck_S1 p5y1_637_s ck_S0) ck_E0) ck_X0 ck_l0 p5y1_638_e
set_option maxRecDepth 100000 in
def p5y1_639 : ck_Sum := ((2, 0, 0), 245, [.inr (.inr (.inl 226)), .inl (ck_one 70)], ([], [], [(234, 70, 70, ck_one 6)]), ([(226, 0, 0)], []), [(.inr (some (.inl (ck_one 6))), 245, ([], [], [(226, 0, 0, ck_one 0)]))])
set_option maxRecDepth 100000 in
theorem p5y1_639_e : ck_ok p1_O none [] [(286, [p5y1_638]), (283, [p5y1_147])] 285 [] 98 p5y1_639 = true := by decide +kernel
theorem p5y1_639_s {X : Int → Int} {LX : Nat} : ck_Ok p1_O X LX 285 p5y1_639 := ck_ok_s (ck_E1 (ck_S1 p5y1_638_s ck_S0) (ck_E1 (ck_S1 p5y1_147_s ck_S0) ck_E0)) ck_X0 ck_l0 p5y1_639_e
set_option maxRecDepth 100000 in
def p5y1_644 : ck_Sum := ((0, 0, 0), 245, [.inl (ck_one 71), .inl (ck_one 0), .inl (ck_one 299)], ([], [], []), ([], []), [(.inr (some (.inl (ck_one 1))), 245, ([], [], []))])
set_option maxRecDepth 100000 in
theorem p5y1_644_e : ck_ok p1_O none [] [] 287 [] 88 p5y1_644 = true := by decide +kernel
theorem p5y1_644_s {X : Int → Int} {LX : Nat} : ck_Ok p1_O X LX 287 p5y1_644 := ck_ok_s (ck_E0) ck_X0 ck_l0 p5y1_644_e
set_option maxRecDepth 100000 in
def p5y1_645 : ck_Sum := ((1, 0, 0), 245, [.inl (ck_one 71)], ([], [], []), ([], []), [(.inr (some (.inl (ck_one 0))), 245, ([], [], []))])
set_option maxRecDepth 100000 in
theorem p5y1_645_e : ck_ok p1_O none [] [(287, [p5y1_644])] 286 [] 84 p5y1_645 = true := by decide +kernel
theorem p5y1_645_s {X : Int → Int} {LX : Nat} : ck_Ok p1_O X LX 286 p5y1_645 := ck_ok_s (ck_E1 (ck_S1 p5y1_644_s ck_S0) ck_E0) ck_X0 ck_l0 p5y1_645_e
set_option maxRecDepth 100000 in
def p5y1_646 : ck_Sum := ((2, 0, 0), 245, [.inr (.inr (.inl 226)), .inl (ck_one 71)], ([], [], [(234, 71, 71, ck_one 0)]), ([(226, 0, 0)], []), [(.inr (some (.inl (ck_one 0))), 245, ([], [], [(226, 0, 0, ck_one 0)]))])
set_option maxRecDepth 100000 in
theorem p5y1_646_e : ck_ok p1_O none [] [(286, [p5y1_645]), (283, [p5y1_147])] 285 [] 98 p5y1_646 = true := by decide +kernel
theorem p5y1_646_s {X : Int → Int} {LX : Nat} : ck_Ok p1_O X LX 285 p5y1_646 := ck_ok_s (ck_E1 (ck_S1 p5y1_645_s ck_S0) (ck_E1 (ck_S1 p5y1_147_s ck_S0) ck_E0)) ck_X0 ck_l0 p5y1_646_e
set_option maxRecDepth 100000 in
def p5y1_651 : ck_Sum := ((0, 0, 0), 245, [.inl (ck_one 72), .inl (ck_one 0), .inl (ck_one 299)], ([], [], []), ([], []), [(.inr (some (.inl (ck_one 1))), 245, ([], [], []))])
set_option maxRecDepth 100000 in
theorem p5y1_651_e : ck_ok p1_O none [] [] 287 [] 88 p5y1_651 = true := by decide +kernel
theorem p5y1_651_s {X : Int → Int} {LX : Nat} : ck_Ok p1_O X LX 287 p5y1_651 := ck_ok_s (ck_E0) ck_X0 ck_l0 p5y1_651_e
set_option maxRecDepth 100000 in
def p5y1_652 : ck_Sum := ((1, 0, 0), 245, [.inl (ck_one 72)], ([], [], []), ([], []), [(.inr (some (.inl (ck_one 0))), 245, ([], [], []))])
set_option maxRecDepth 100000 in
theorem p5y1_652_e : ck_ok p1_O none [] [(287, [p5y1_651])] 286 [] 84 p5y1_652 = true := by decide +kernel
theorem p5y1_652_s {X : Int → Int} {LX : Nat} : ck_Ok p1_O X LX 286 p5y1_652 := ck_ok_s (ck_E1 (ck_S1 p5y1_651_s ck_S0) ck_E0) ck_X0 ck_l0 p5y1_652_e
set_option maxRecDepth 100000 in
def p5y1_653 : ck_Sum := ((2, 0, 0), 245, [.inr (.inr (.inl 226)), .inl (ck_one 72)], ([], [], [(234, 72, 72, ck_one 8)]), ([(226, 0, 0)], []), [(.inr (some (.inl (ck_one 8))), 245, ([], [], [(226, 0, 0, ck_one 0)]))])
set_option maxRecDepth 100000 in
theorem p5y1_653_e : ck_ok p1_O none [] [(286, [p5y1_652]), (283, [p5y1_147])] 285 [] 98 p5y1_653 = true := by decide +kernel
theorem p5y1_653_s {X : Int → Int} {LX : Nat} : ck_Ok p1_O X LX 285 p5y1_653 := ck_ok_s (ck_E1 (ck_S1 p5y1_652_s ck_S0) (ck_E1 (ck_S1 p5y1_147_s ck_S0) ck_E0)) ck_X0 ck_l0 p5y1_653_e
set_option maxRecDepth 100000 in
def p5y1_658 : ck_Sum := ((0, 0, 0), 245, [.inl (ck_one 73), .inl (ck_one 0), .inl (ck_one 299)], ([], [], []), ([], []), [(.inr (some (.inl (ck_one 1))), 245, ([], [], []))])
set_option maxRecDepth 100000 in
theorem p5y1_658_e : ck_ok p1_O none [] [] 287 [] 88 p5y1_658 = true := by decide +kernel
theorem p5y1_658_s {X : Int → Int} {LX : Nat} : ck_Ok p1_O X LX 287 p5y1_658 := ck_ok_s (ck_E0) ck_X0 ck_l0 p5y1_658_e
set_option maxRecDepth 100000 in
def p5y1_659 : ck_Sum := ((1, 0, 0), 245, [.inl (ck_one 73)], ([], [], []), ([], []), [(.inr (some (.inl (ck_one 0))), 245, ([], [], []))])
set_option maxRecDepth 100000 in
theorem p5y1_659_e : ck_ok p1_O none [] [(287, [p5y1_658])] 286 [] 84 p5y1_659 = true := by decide +kernel
theorem p5y1_659_s {X : Int → Int} {LX : Nat} : ck_Ok p1_O X LX 286 p5y1_659 := ck_ok_s (ck_E1 (ck_S1 p5y1_658_s ck_S0) ck_E0) ck_X0 ck_l0 p5y1_659_e
set_option maxRecDepth 100000 in
def p5y1_660 : ck_Sum := ((2, 0, 0), 245, [.inr (.inr (.inl 226)), .inl (ck_one 73)], ([], [], [(234, 73, 73, ck_one 6)]), ([(226, 0, 0)], []), [(.inr (some (.inl (ck_one 6))), 245, ([], [], [(226, 0, 0, ck_one 0)]))])
set_option maxRecDepth 100000 in
theorem p5y1_660_e : ck_ok p1_O none [] [(286, [p5y1_659]), (283, [p5y1_147])] 285 [] 98 p5y1_660 = true := by decide +kernel
theorem p5y1_660_s {X : Int → Int} {LX : Nat} : ck_Ok p1_O X LX 285 p5y1_660 := ck_ok_s (ck_E1 (ck_S1 p5y1_659_s ck_S0) (ck_E1 (ck_S1 p5y1_147_s ck_S0) ck_E0)) ck_X0 ck_l0 p5y1_660_e
set_option maxRecDepth 100000 in
def p5y1_665 : ck_Sum := ((0, 0, 0), 245, [.inl (ck_one 74), .inl (ck_one 0), .inl (ck_one 299)], ([], [], []), ([], []), [(.inr (some (.inl (ck_one 1))), 245, ([], [], []))])
set_option maxRecDepth 100000 in
theorem p5y1_665_e : ck_ok p1_O none [] [] 287 [] 88 p5y1_665 = true := by decide +kernel
theorem p5y1_665_s {X : Int → Int} {LX : Nat} : ck_Ok p1_O X LX 287 p5y1_665 := ck_ok_s (ck_E0) ck_X0 ck_l0 p5y1_665_e
set_option maxRecDepth 100000 in
def p5y1_666 : ck_Sum := ((1, 0, 0), 245, [.inl (ck_one 74)], ([], [], []), ([], []), [(.inr (some (.inl (ck_one 0))), 245, ([], [], []))])
set_option maxRecDepth 100000 in
theorem p5y1_666_e : ck_ok p1_O none [] [(287, [p5y1_665])] 286 [] 84 p5y1_666 = true := by decide +kernel
theorem p5y1_666_s {X : Int → Int} {LX : Nat} : ck_Ok p1_O X LX 286 p5y1_666 := ck_ok_s (ck_E1 (ck_S1 p5y1_665_s ck_S0) ck_E0) ck_X0 ck_l0 p5y1_666_e
set_option maxRecDepth 100000 in
def p5y1_667 : ck_Sum := ((2, 0, 0), 245, [.inr (.inr (.inl 226)), .inl (ck_one 74)], ([], [], [(234, 74, 74, ck_one 4)]), ([(226, 0, 0)], []), [(.inr (some (.inl (ck_one 4))), 245, ([], [], [(226, 0, 0, ck_one 0)]))])
set_option maxRecDepth 100000 in
theorem p5y1_667_e : ck_ok p1_O none [] [(286, [p5y1_666]), (283, [p5y1_147])] 285 [] 98 p5y1_667 = true := by decide +kernel
theorem p5y1_667_s {X : Int → Int} {LX : Nat} : ck_Ok p1_O X LX 285 p5y1_667 := ck_ok_s (ck_E1 (ck_S1 p5y1_666_s ck_S0) (ck_E1 (ck_S1 p5y1_147_s ck_S0) ck_E0)) ck_X0 ck_l0 p5y1_667_e
set_option maxRecDepth 100000 in
def p5y1_672 : ck_Sum := ((0, 0, 0), 245, [.inl (ck_one 75), .inl (ck_one 0), .inl (ck_one 299)], ([], [], []), ([], []), [(.inr (some (.inl (ck_one 1))), 245, ([], [], []))])
set_option maxRecDepth 100000 in
theorem p5y1_672_e : ck_ok p1_O none [] [] 287 [] 88 p5y1_672 = true := by decide +kernel
theorem p5y1_672_s {X : Int → Int} {LX : Nat} : ck_Ok p1_O X LX 287 p5y1_672 := ck_ok_s (ck_E0) ck_X0 ck_l0 p5y1_672_e
set_option maxRecDepth 100000 in
def p5y1_673 : ck_Sum := ((1, 0, 0), 245, [.inl (ck_one 75)], ([], [], []), ([], []), [(.inr (some (.inl (ck_one 0))), 245, ([], [], []))])
set_option maxRecDepth 100000 in
theorem p5y1_673_e : ck_ok p1_O none [] [(287, [p5y1_672])] 286 [] 84 p5y1_673 = true := by decide +kernel
theorem p5y1_673_s {X : Int → Int} {LX : Nat} : ck_Ok p1_O X LX 286 p5y1_673 := ck_ok_s (ck_E1 (ck_S1 p5y1_672_s ck_S0) ck_E0) ck_X0 ck_l0 p5y1_673_e
set_option maxRecDepth 100000 in
def p5y1_674 : ck_Sum := ((2, 0, 0), 245, [.inr (.inr (.inl 226)), .inl (ck_one 75)], ([], [], [(234, 75, 75, ck_one 2)]), ([(226, 0, 0)], []), [(.inr (some (.inl (ck_one 2))), 245, ([], [], [(226, 0, 0, ck_one 0)]))])
set_option maxRecDepth 100000 in
theorem p5y1_674_e : ck_ok p1_O none [] [(286, [p5y1_673]), (283, [p5y1_147])] 285 [] 98 p5y1_674 = true := by decide +kernel
theorem p5y1_674_s {X : Int → Int} {LX : Nat} : ck_Ok p1_O X LX 285 p5y1_674 := ck_ok_s (ck_E1 (ck_S1 p5y1_673_s ck_S0) (ck_E1 (ck_S1 p5y1_147_s ck_S0) ck_E0)) ck_X0 ck_l0 p5y1_674_e
set_option maxRecDepth 100000 in
def p5y1_679 : ck_Sum := ((0, 0, 0), 245, [.inl (ck_one 76), .inl (ck_one 0), .inl (ck_one 299)], ([], [], []), ([], []), [(.inr (some (.inl (ck_one 1))), 245, ([], [], []))])
set_option maxRecDepth 100000 in
theorem p5y1_679_e : ck_ok p1_O none [] [] 287 [] 88 p5y1_679 = true := by decide +kernel
theorem p5y1_679_s {X : Int → Int} {LX : Nat} : ck_Ok p1_O X LX 287 p5y1_679 := ck_ok_s (ck_E0) ck_X0 ck_l0 p5y1_679_e
set_option maxRecDepth 100000 in
def p5y1_680 : ck_Sum := ((1, 0, 0), 245, [.inl (ck_one 76)], ([], [], []), ([], []), [(.inr (some (.inl (ck_one 0))), 245, ([], [], []))])
set_option maxRecDepth 100000 in
theorem p5y1_680_e : ck_ok p1_O none [] [(287, [p5y1_679])] 286 [] 84 p5y1_680 = true := by decide +kernel
theorem p5y1_680_s {X : Int → Int} {LX : Nat} : ck_Ok p1_O X LX 286 p5y1_680 := ck_ok_s (ck_E1 (ck_S1 p5y1_679_s ck_S0) ck_E0) ck_X0 ck_l0 p5y1_680_e
set_option maxRecDepth 100000 in
def p5y1_681 : ck_Sum := ((2, 0, 0), 245, [.inr (.inr (.inl 226)), .inl (ck_one 76)], ([], [], [(234, 76, 76, ck_one 6)]), ([(226, 0, 0)], []), [(.inr (some (.inl (ck_one 6))), 245, ([], [], [(226, 0, 0, ck_one 0)]))])
set_option maxRecDepth 100000 in
theorem p5y1_681_e : ck_ok p1_O none [] [(286, [p5y1_680]), (283, [p5y1_147])] 285 [] 98 p5y1_681 = true := by decide +kernel
theorem p5y1_681_s {X : Int → Int} {LX : Nat} : ck_Ok p1_O X LX 285 p5y1_681 := ck_ok_s (ck_E1 (ck_S1 p5y1_680_s ck_S0) (ck_E1 (ck_S1 p5y1_147_s ck_S0) ck_E0)) ck_X0 ck_l0 p5y1_681_e
set_option maxRecDepth 100000 in
def p5y1_686 : ck_Sum := ((0, 0, 0), 245, [.inl (ck_one 77), .inl (ck_one 0), .inl (ck_one 299)], ([], [], []), ([], []), [(.inr (some (.inl (ck_one 1))), 245, ([], [], []))])
set_option maxRecDepth 100000 in
theorem p5y1_686_e : ck_ok p1_O none [] [] 287 [] 88 p5y1_686 = true := by decide +kernel
theorem p5y1_686_s {X : Int → Int} {LX : Nat} : ck_Ok p1_O X LX 287 p5y1_686 := ck_ok_s (ck_E0) ck_X0 ck_l0 p5y1_686_e
set_option maxRecDepth 100000 in
def p5y1_687 : ck_Sum := ((1, 0, 0), 245, [.inl (ck_one 77)], ([], [], []), ([], []), [(.inr (some (.inl (ck_one 0))), 245, ([], [], []))])
set_option maxRecDepth 100000 in
theorem p5y1_687_e : ck_ok p1_O none [] [(287, [p5y1_686])] 286 [] 84 p5y1_687 = true := by decide +kernel
theorem p5y1_687_s {X : Int → Int} {LX : Nat} : ck_Ok p1_O X LX 286 p5y1_687 := ck_ok_s (ck_E1 (ck_S1 p5y1_686_s ck_S0) ck_E0) ck_X0 ck_l0 p5y1_687_e
set_option maxRecDepth 100000 in
def p5y1_688 : ck_Sum := ((2, 0, 0), 245, [.inr (.inr (.inl 226)), .inl (ck_one 77)], ([], [], [(234, 77, 77, ck_one 5)]), ([(226, 0, 0)], []), [(.inr (some (.inl (ck_one 5))), 245, ([], [], [(226, 0, 0, ck_one 0)]))])
set_option maxRecDepth 100000 in
theorem p5y1_688_e : ck_ok p1_O none [] [(286, [p5y1_687]), (283, [p5y1_147])] 285 [] 98 p5y1_688 = true := by decide +kernel
theorem p5y1_688_s {X : Int → Int} {LX : Nat} : ck_Ok p1_O X LX 285 p5y1_688 := ck_ok_s (ck_E1 (ck_S1 p5y1_687_s ck_S0) (ck_E1 (ck_S1 p5y1_147_s ck_S0) ck_E0)) ck_X0 ck_l0 p5y1_688_e
set_option maxRecDepth 100000 in
def p5y1_693 : ck_Sum := ((0, 0, 0), 245, [.inl (ck_one 78), .inl (ck_one 0), .inl (ck_one 299)], ([], [], []), ([], []), [(.inr (some (.inl (ck_one 1))), 245, ([], [], []))])
set_option maxRecDepth 100000 in
theorem p5y1_693_e : ck_ok p1_O none [] [] 287 [] 88 p5y1_693 = true := by decide +kernel
theorem p5y1_693_s {X : Int → Int} {LX : Nat} : ck_Ok p1_O X LX 287 p5y1_693 := ck_ok_s (ck_E0) ck_X0 ck_l0 p5y1_693_e
set_option maxRecDepth 100000 in
def p5y1_694 : ck_Sum := ((1, 0, 0), 245, [.inl (ck_one 78)], ([], [], []), ([], []), [(.inr (some (.inl (ck_one 0))), 245, ([], [], []))])
set_option maxRecDepth 100000 in
theorem p5y1_694_e : ck_ok p1_O none [] [(287, [p5y1_693])] 286 [] 84 p5y1_694 = true := by decide +kernel
theorem p5y1_694_s {X : Int → Int} {LX : Nat} : ck_Ok p1_O X LX 286 p5y1_694 := ck_ok_s (ck_E1 (ck_S1 p5y1_693_s ck_S0) ck_E0) ck_X0 ck_l0 p5y1_694_e
set_option maxRecDepth 100000 in
def p5y1_695 : ck_Sum := ((2, 0, 0), 245, [.inr (.inr (.inl 226)), .inl (ck_one 78)], ([], [], [(234, 78, 78, ck_one 1)]), ([(226, 0, 0)], []), [(.inr (some (.inl (ck_one 1))), 245, ([], [], [(226, 0, 0, ck_one 0)]))])
set_option maxRecDepth 100000 in
theorem p5y1_695_e : ck_ok p1_O none [] [(286, [p5y1_694]), (283, [p5y1_147])] 285 [] 98 p5y1_695 = true := by decide +kernel
theorem p5y1_695_s {X : Int → Int} {LX : Nat} : ck_Ok p1_O X LX 285 p5y1_695 := ck_ok_s (ck_E1 (ck_S1 p5y1_694_s ck_S0) (ck_E1 (ck_S1 p5y1_147_s ck_S0) ck_E0)) ck_X0 ck_l0 p5y1_695_e
set_option maxRecDepth 100000 in
def p5y1_700 : ck_Sum := ((0, 0, 0), 245, [.inl (ck_one 79), .inl (ck_one 0), .inl (ck_one 299)], ([], [], []), ([], []), [(.inr (some (.inl (ck_one 1))), 245, ([], [], []))])
set_option maxRecDepth 100000 in
theorem p5y1_700_e : ck_ok p1_O none [] [] 287 [] 88 p5y1_700 = true := by decide +kernel
theorem p5y1_700_s {X : Int → Int} {LX : Nat} : ck_Ok p1_O X LX 287 p5y1_700 := ck_ok_s (ck_E0) ck_X0 ck_l0 p5y1_700_e
set_option maxRecDepth 100000 in
def p5y1_701 : ck_Sum := ((1, 0, 0), 245, [.inl (ck_one 79)], ([], [], []), ([], []), [(.inr (some (.inl (ck_one 0))), 245, ([], [], []))])
set_option maxRecDepth 100000 in
theorem p5y1_701_e : ck_ok p1_O none [] [(287, [p5y1_700])] 286 [] 84 p5y1_701 = true := by decide +kernel
theorem p5y1_701_s {X : Int → Int} {LX : Nat} : ck_Ok p1_O X LX 286 p5y1_701 := ck_ok_s (ck_E1 (ck_S1 p5y1_700_s ck_S0) ck_E0) ck_X0 ck_l0 p5y1_701_e
set_option maxRecDepth 100000 in
def p5y1_702 : ck_Sum := ((2, 0, 0), 245, [.inr (.inr (.inl 226)), .inl (ck_one 79)], ([], [], [(234, 79, 79, ck_one 4)]), ([(226, 0, 0)], []), [(.inr (some (.inl (ck_one 4))), 245, ([], [], [(226, 0, 0, ck_one 0)]))])
set_option maxRecDepth 100000 in
theorem p5y1_702_e : ck_ok p1_O none [] [(286, [p5y1_701]), (283, [p5y1_147])] 285 [] 98 p5y1_702 = true := by decide +kernel
theorem p5y1_702_s {X : Int → Int} {LX : Nat} : ck_Ok p1_O X LX 285 p5y1_702 := ck_ok_s (ck_E1 (ck_S1 p5y1_701_s ck_S0) (ck_E1 (ck_S1 p5y1_147_s ck_S0) ck_E0)) ck_X0 ck_l0 p5y1_702_e
set_option maxRecDepth 100000 in
def p5y1_707 : ck_Sum := ((0, 0, 0), 245, [.inl (ck_one 80), .inl (ck_one 0), .inl (ck_one 299)], ([], [], []), ([], []), [(.inr (some (.inl (ck_one 1))), 245, ([], [], []))])
set_option maxRecDepth 100000 in
theorem p5y1_707_e : ck_ok p1_O none [] [] 287 [] 88 p5y1_707 = true := by decide +kernel
theorem p5y1_707_s {X : Int → Int} {LX : Nat} : ck_Ok p1_O X LX 287 p5y1_707 := ck_ok_s (ck_E0) ck_X0 ck_l0 p5y1_707_e
set_option maxRecDepth 100000 in
def p5y1_708 : ck_Sum := ((1, 0, 0), 245, [.inl (ck_one 80)], ([], [], []), ([], []), [(.inr (some (.inl (ck_one 0))), 245, ([], [], []))])
set_option maxRecDepth 100000 in
theorem p5y1_708_e : ck_ok p1_O none [] [(287, [p5y1_707])] 286 [] 84 p5y1_708 = true := by decide +kernel
theorem p5y1_708_s {X : Int → Int} {LX : Nat} : ck_Ok p1_O X LX 286 p5y1_708 := ck_ok_s (ck_E1 (ck_S1 p5y1_707_s ck_S0) ck_E0) ck_X0 ck_l0 p5y1_708_e
set_option maxRecDepth 100000 in
def p5y1_709 : ck_Sum := ((2, 0, 0), 245, [.inr (.inr (.inl 226)), .inl (ck_one 80)], ([], [], [(234, 80, 80, ck_one 3)]), ([(226, 0, 0)], []), [(.inr (some (.inl (ck_one 3))), 245, ([], [], [(226, 0, 0, ck_one 0)]))])
set_option maxRecDepth 100000 in
theorem p5y1_709_e : ck_ok p1_O none [] [(286, [p5y1_708]), (283, [p5y1_147])] 285 [] 98 p5y1_709 = true := by decide +kernel
theorem p5y1_709_s {X : Int → Int} {LX : Nat} : ck_Ok p1_O X LX 285 p5y1_709 := ck_ok_s (ck_E1 (ck_S1 p5y1_708_s ck_S0) (ck_E1 (ck_S1 p5y1_147_s ck_S0) ck_E0)) ck_X0 ck_l0 p5y1_709_e
set_option maxRecDepth 100000 in
def p5y1_714 : ck_Sum := ((0, 0, 0), 245, [.inl (ck_one 81), .inl (ck_one 0), .inl (ck_one 299)], ([], [], []), ([], []), [(.inr (some (.inl (ck_one 1))), 245, ([], [], []))])
set_option maxRecDepth 100000 in
theorem p5y1_714_e : ck_ok p1_O none [] [] 287 [] 88 p5y1_714 = true := by decide +kernel
theorem p5y1_714_s {X : Int → Int} {LX : Nat} : ck_Ok p1_O X LX 287 p5y1_714 := ck_ok_s (ck_E0) ck_X0 ck_l0 p5y1_714_e
set_option maxRecDepth 100000 in
def p5y1_715 : ck_Sum := ((1, 0, 0), 245, [.inl (ck_one 81)], ([], [], []), ([], []), [(.inr (some (.inl (ck_one 0))), 245, ([], [], []))])
set_option maxRecDepth 100000 in
theorem p5y1_715_e : ck_ok p1_O none [] [(287, [p5y1_714])] 286 [] 84 p5y1_715 = true := by decide +kernel
theorem p5y1_715_s {X : Int → Int} {LX : Nat} : ck_Ok p1_O X LX 286 p5y1_715 := ck_ok_s (ck_E1 (ck_S1 p5y1_714_s ck_S0) ck_E0) ck_X0 ck_l0 p5y1_715_e
set_option maxRecDepth 100000 in
def p5y1_716 : ck_Sum := ((2, 0, 0), 245, [.inr (.inr (.inl 226)), .inl (ck_one 81)], ([], [], [(234, 81, 81, ck_one 2)]), ([(226, 0, 0)], []), [(.inr (some (.inl (ck_one 2))), 245, ([], [], [(226, 0, 0, ck_one 0)]))])
set_option maxRecDepth 100000 in
theorem p5y1_716_e : ck_ok p1_O none [] [(286, [p5y1_715]), (283, [p5y1_147])] 285 [] 98 p5y1_716 = true := by decide +kernel
theorem p5y1_716_s {X : Int → Int} {LX : Nat} : ck_Ok p1_O X LX 285 p5y1_716 := ck_ok_s (ck_E1 (ck_S1 p5y1_715_s ck_S0) (ck_E1 (ck_S1 p5y1_147_s ck_S0) ck_E0)) ck_X0 ck_l0 p5y1_716_e
set_option maxRecDepth 100000 in
def p5y1_721 : ck_Sum := ((0, 0, 0), 245, [.inl (ck_one 82), .inl (ck_one 0), .inl (ck_one 299)], ([], [], []), ([], []), [(.inr (some (.inl (ck_one 1))), 245, ([], [], []))])
set_option maxRecDepth 100000 in
theorem p5y1_721_e : ck_ok p1_O none [] [] 287 [] 88 p5y1_721 = true := by decide +kernel
theorem p5y1_721_s {X : Int → Int} {LX : Nat} : ck_Ok p1_O X LX 287 p5y1_721 := ck_ok_s (ck_E0) ck_X0 ck_l0 p5y1_721_e
set_option maxRecDepth 100000 in
def p5y1_722 : ck_Sum := ((1, 0, 0), 245, [.inl (ck_one 82)], ([], [], []), ([], []), [(.inr (some (.inl (ck_one 0))), 245, ([], [], []))])
set_option maxRecDepth 100000 in
theorem p5y1_722_e : ck_ok p1_O none [] [(287, [p5y1_721])] 286 [] 84 p5y1_722 = true := by decide +kernel
theorem p5y1_722_s {X : Int → Int} {LX : Nat} : ck_Ok p1_O X LX 286 p5y1_722 := ck_ok_s (ck_E1 (ck_S1 p5y1_721_s ck_S0) ck_E0) ck_X0 ck_l0 p5y1_722_e
set_option maxRecDepth 100000 in
def p5y1_723 : ck_Sum := ((2, 0, 0), 245, [.inr (.inr (.inl 226)), .inl (ck_one 82)], ([], [], [(234, 82, 82, ck_one 3)]), ([(226, 0, 0)], []), [(.inr (some (.inl (ck_one 3))), 245, ([], [], [(226, 0, 0, ck_one 0)]))])
set_option maxRecDepth 100000 in
theorem p5y1_723_e : ck_ok p1_O none [] [(286, [p5y1_722]), (283, [p5y1_147])] 285 [] 98 p5y1_723 = true := by decide +kernel
theorem p5y1_723_s {X : Int → Int} {LX : Nat} : ck_Ok p1_O X LX 285 p5y1_723 := ck_ok_s (ck_E1 (ck_S1 p5y1_722_s ck_S0) (ck_E1 (ck_S1 p5y1_147_s ck_S0) ck_E0)) ck_X0 ck_l0 p5y1_723_e
set_option maxRecDepth 100000 in
def p5y1_728 : ck_Sum := ((0, 0, 0), 245, [.inl (ck_one 83), .inl (ck_one 0), .inl (ck_one 299)], ([], [], []), ([], []), [(.inr (some (.inl (ck_one 1))), 245, ([], [], []))])
set_option maxRecDepth 100000 in
theorem p5y1_728_e : ck_ok p1_O none [] [] 287 [] 88 p5y1_728 = true := by decide +kernel
theorem p5y1_728_s {X : Int → Int} {LX : Nat} : ck_Ok p1_O X LX 287 p5y1_728 := ck_ok_s (ck_E0) ck_X0 ck_l0 p5y1_728_e
set_option maxRecDepth 100000 in
def p5y1_729 : ck_Sum := ((1, 0, 0), 245, [.inl (ck_one 83)], ([], [], []), ([], []), [(.inr (some (.inl (ck_one 0))), 245, ([], [], []))])
set_option maxRecDepth 100000 in
theorem p5y1_729_e : ck_ok p1_O none [] [(287, [p5y1_728])] 286 [] 84 p5y1_729 = true := by decide +kernel
theorem p5y1_729_s {X : Int → Int} {LX : Nat} : ck_Ok p1_O X LX 286 p5y1_729 := ck_ok_s (ck_E1 (ck_S1 p5y1_728_s ck_S0) ck_E0) ck_X0 ck_l0 p5y1_729_e
set_option maxRecDepth 100000 in
def p5y1_730 : ck_Sum := ((2, 0, 0), 245, [.inr (.inr (.inl 226)), .inl (ck_one 83)], ([], [], [(234, 83, 83, ck_one 6)]), ([(226, 0, 0)], []), [(.inr (some (.inl (ck_one 6))), 245, ([], [], [(226, 0, 0, ck_one 0)]))])
set_option maxRecDepth 100000 in
theorem p5y1_730_e : ck_ok p1_O none [] [(286, [p5y1_729]), (283, [p5y1_147])] 285 [] 98 p5y1_730 = true := by decide +kernel
theorem p5y1_730_s {X : Int → Int} {LX : Nat} : ck_Ok p1_O X LX 285 p5y1_730 := ck_ok_s (ck_E1 (ck_S1 p5y1_729_s ck_S0) (ck_E1 (ck_S1 p5y1_147_s ck_S0) ck_E0)) ck_X0 ck_l0 p5y1_730_e
set_option maxRecDepth 100000 in
def p5y1_735 : ck_Sum := ((0, 0, 0), 245, [.inl (ck_one 84), .inl (ck_one 0), .inl (ck_one 299)], ([], [], []), ([], []), [(.inr (some (.inl (ck_one 1))), 245, ([], [], []))])
set_option maxRecDepth 100000 in
theorem p5y1_735_e : ck_ok p1_O none [] [] 287 [] 88 p5y1_735 = true := by decide +kernel
theorem p5y1_735_s {X : Int → Int} {LX : Nat} : ck_Ok p1_O X LX 287 p5y1_735 := ck_ok_s (ck_E0) ck_X0 ck_l0 p5y1_735_e
set_option maxRecDepth 100000 in
def p5y1_736 : ck_Sum := ((1, 0, 0), 245, [.inl (ck_one 84)], ([], [], []), ([], []), [(.inr (some (.inl (ck_one 0))), 245, ([], [], []))])
set_option maxRecDepth 100000 in
theorem p5y1_736_e : ck_ok p1_O none [] [(287, [p5y1_735])] 286 [] 84 p5y1_736 = true := by decide +kernel
theorem p5y1_736_s {X : Int → Int} {LX : Nat} : ck_Ok p1_O X LX 286 p5y1_736 := ck_ok_s (ck_E1 (ck_S1 p5y1_735_s ck_S0) ck_E0) ck_X0 ck_l0 p5y1_736_e
set_option maxRecDepth 100000 in
def p5y1_737 : ck_Sum := ((2, 0, 0), 245, [.inr (.inr (.inl 226)), .inl (ck_one 84)], ([], [], [(234, 84, 84, ck_one 0)]), ([(226, 0, 0)], []), [(.inr (some (.inl (ck_one 0))), 245, ([], [], [(226, 0, 0, ck_one 0)]))])
set_option maxRecDepth 100000 in
theorem p5y1_737_e : ck_ok p1_O none [] [(286, [p5y1_736]), (283, [p5y1_147])] 285 [] 98 p5y1_737 = true := by decide +kernel
theorem p5y1_737_s {X : Int → Int} {LX : Nat} : ck_Ok p1_O X LX 285 p5y1_737 := ck_ok_s (ck_E1 (ck_S1 p5y1_736_s ck_S0) (ck_E1 (ck_S1 p5y1_147_s ck_S0) ck_E0)) ck_X0 ck_l0 p5y1_737_e
set_option maxRecDepth 100000 in
def p5y1_742 : ck_Sum := ((0, 0, 0), 245, [.inl (ck_one 85), .inl (ck_one 0), .inl (ck_one 299)], ([], [], []), ([], []), [(.inr (some (.inl (ck_one 1))), 245, ([], [], []))])
set_option maxRecDepth 100000 in
theorem p5y1_742_e : ck_ok p1_O none [] [] 287 [] 88 p5y1_742 = true := by decide +kernel
theorem p5y1_742_s {X : Int → Int} {LX : Nat} : ck_Ok p1_O X LX 287 p5y1_742 := ck_ok_s (ck_E0) ck_X0 ck_l0 p5y1_742_e
set_option maxRecDepth 100000 in
def p5y1_743 : ck_Sum := ((1, 0, 0), 245, [.inl (ck_one 85)], ([], [], []), ([], []), [(.inr (some (.inl (ck_one 0))), 245, ([], [], []))])
set_option maxRecDepth 100000 in
theorem p5y1_743_e : ck_ok p1_O none [] [(287, [p5y1_742])] 286 [] 84 p5y1_743 = true := by decide +kernel
theorem p5y1_743_s {X : Int → Int} {LX : Nat} : ck_Ok p1_O X LX 286 p5y1_743 := ck_ok_s (ck_E1 (ck_S1 p5y1_742_s ck_S0) ck_E0) ck_X0 ck_l0 p5y1_743_e
set_option maxRecDepth 100000 in
def p5y1_744 : ck_Sum := ((2, 0, 0), 245, [.inr (.inr (.inl 226)), .inl (ck_one 85)], ([], [], [(234, 85, 85, ck_one 9)]), ([(226, 0, 0)], []), [(.inr (some (.inl (ck_one 9))), 245, ([], [], [(226, 0, 0, ck_one 0)]))])
set_option maxRecDepth 100000 in
theorem p5y1_744_e : ck_ok p1_O none [] [(286, [p5y1_743]), (283, [p5y1_147])] 285 [] 98 p5y1_744 = true := by decide +kernel
theorem p5y1_744_s {X : Int → Int} {LX : Nat} : ck_Ok p1_O X LX 285 p5y1_744 := ck_ok_s (ck_E1 (ck_S1 p5y1_743_s ck_S0) (ck_E1 (ck_S1 p5y1_147_s ck_S0) ck_E0)) ck_X0 ck_l0 p5y1_744_e
set_option maxRecDepth 100000 in
def p5y1_749 : ck_Sum := ((0, 0, 0), 245, [.inl (ck_one 86), .inl (ck_one 0), .inl (ck_one 299)], ([], [], []), ([], []), [(.inr (some (.inl (ck_one 1))), 245, ([], [], []))])
set_option maxRecDepth 100000 in
theorem p5y1_749_e : ck_ok p1_O none [] [] 287 [] 88 p5y1_749 = true := by decide +kernel
theorem p5y1_749_s {X : Int → Int} {LX : Nat} : ck_Ok p1_O X LX 287 p5y1_749 := ck_ok_s (ck_E0) ck_X0 ck_l0 p5y1_749_e
set_option maxRecDepth 100000 in
def p5y1_750 : ck_Sum := ((1, 0, 0), 245, [.inl (ck_one 86)], ([], [], []), ([], []), [(.inr (some (.inl (ck_one 0))), 245, ([], [], []))])
set_option maxRecDepth 100000 in
theorem p5y1_750_e : ck_ok p1_O none [] [(287, [p5y1_749])] 286 [] 84 p5y1_750 = true := by decide +kernel
theorem p5y1_750_s {X : Int → Int} {LX : Nat} : ck_Ok p1_O X LX 286 p5y1_750 := ck_ok_s (ck_E1 (ck_S1 p5y1_749_s ck_S0) ck_E0) ck_X0 ck_l0 p5y1_750_e
set_option maxRecDepth 100000 in
def p5y1_751 : ck_Sum := ((2, 0, 0), 245, [.inr (.inr (.inl 226)), .inl (ck_one 86)], ([], [], [(234, 86, 86, ck_one 1)]), ([(226, 0, 0)], []), [(.inr (some (.inl (ck_one 1))), 245, ([], [], [(226, 0, 0, ck_one 0)]))])
set_option maxRecDepth 100000 in
theorem p5y1_751_e : ck_ok p1_O none [] [(286, [p5y1_750]), (283, [p5y1_147])] 285 [] 98 p5y1_751 = true := by decide +kernel
theorem p5y1_751_s {X : Int → Int} {LX : Nat} : ck_Ok p1_O X LX 285 p5y1_751 := ck_ok_s (ck_E1 (ck_S1 p5y1_750_s ck_S0) (ck_E1 (ck_S1 p5y1_147_s ck_S0) ck_E0)) ck_X0 ck_l0 p5y1_751_e
set_option maxRecDepth 100000 in
def p5y1_756 : ck_Sum := ((0, 0, 0), 245, [.inl (ck_one 87), .inl (ck_one 0), .inl (ck_one 299)], ([], [], []), ([], []), [(.inr (some (.inl (ck_one 1))), 245, ([], [], []))])
set_option maxRecDepth 100000 in
theorem p5y1_756_e : ck_ok p1_O none [] [] 287 [] 88 p5y1_756 = true := by decide +kernel
theorem p5y1_756_s {X : Int → Int} {LX : Nat} : ck_Ok p1_O X LX 287 p5y1_756 := ck_ok_s (ck_E0) ck_X0 ck_l0 p5y1_756_e
set_option maxRecDepth 100000 in
def p5y1_757 : ck_Sum := ((1, 0, 0), 245, [.inl (ck_one 87)], ([], [], []), ([], []), [(.inr (some (.inl (ck_one 0))), 245, ([], [], []))])
set_option maxRecDepth 100000 in
theorem p5y1_757_e : ck_ok p1_O none [] [(287, [p5y1_756])] 286 [] 84 p5y1_757 = true := by decide +kernel
theorem p5y1_757_s {X : Int → Int} {LX : Nat} : ck_Ok p1_O X LX 286 p5y1_757 := ck_ok_s (ck_E1 (ck_S1 p5y1_756_s ck_S0) ck_E0) ck_X0 ck_l0 p5y1_757_e
set_option maxRecDepth 100000 in
def p5y1_758 : ck_Sum := ((2, 0, 0), 245, [.inr (.inr (.inl 226)), .inl (ck_one 87)], ([], [], [(234, 87, 87, ck_one 1)]), ([(226, 0, 0)], []), [(.inr (some (.inl (ck_one 1))), 245, ([], [], [(226, 0, 0, ck_one 0)]))])
set_option maxRecDepth 100000 in
theorem p5y1_758_e : ck_ok p1_O none [] [(286, [p5y1_757]), (283, [p5y1_147])] 285 [] 98 p5y1_758 = true := by decide +kernel
theorem p5y1_758_s {X : Int → Int} {LX : Nat} : ck_Ok p1_O X LX 285 p5y1_758 := ck_ok_s (ck_E1 (ck_S1 p5y1_757_s ck_S0) (ck_E1 (ck_S1 p5y1_147_s ck_S0) ck_E0)) ck_X0 ck_l0 p5y1_758_e
set_option maxRecDepth 100000 in
def p5y1_763 : ck_Sum := ((0, 0, 0), 245, [.inl (ck_one 88), .inl (ck_one 0), .inl (ck_one 299)], ([], [], []), ([], []), [(.inr (some (.inl (ck_one 1))), 245, ([], [], []))])
set_option maxRecDepth 100000 in
theorem p5y1_763_e : ck_ok p1_O none [] [] 287 [] 88 p5y1_763 = true := by decide +kernel
theorem p5y1_763_s {X : Int → Int} {LX : Nat} : ck_Ok p1_O X LX 287 p5y1_763 := ck_ok_s (ck_E0) ck_X0 ck_l0 p5y1_763_e
set_option maxRecDepth 100000 in
def p5y1_764 : ck_Sum := ((1, 0, 0), 245, [.inl (ck_one 88)], ([], [], []), ([], []), [(.inr (some (.inl (ck_one 0))), 245, ([], [], []))])
set_option maxRecDepth 100000 in
theorem p5y1_764_e : ck_ok p1_O none [] [(287, [p5y1_763])] 286 [] 84 p5y1_764 = true := by decide +kernel
theorem p5y1_764_s {X : Int → Int} {LX : Nat} : ck_Ok p1_O X LX 286 p5y1_764 := ck_ok_s (ck_E1 (ck_S1 p5y1_763_s ck_S0) ck_E0) ck_X0 ck_l0 p5y1_764_e
set_option maxRecDepth 100000 in
def p5y1_765 : ck_Sum := ((2, 0, 0), 245, [.inr (.inr (.inl 226)), .inl (ck_one 88)], ([], [], [(234, 88, 88, ck_one 6)]), ([(226, 0, 0)], []), [(.inr (some (.inl (ck_one 6))), 245, ([], [], [(226, 0, 0, ck_one 0)]))])
set_option maxRecDepth 100000 in
theorem p5y1_765_e : ck_ok p1_O none [] [(286, [p5y1_764]), (283, [p5y1_147])] 285 [] 98 p5y1_765 = true := by decide +kernel
theorem p5y1_765_s {X : Int → Int} {LX : Nat} : ck_Ok p1_O X LX 285 p5y1_765 := ck_ok_s (ck_E1 (ck_S1 p5y1_764_s ck_S0) (ck_E1 (ck_S1 p5y1_147_s ck_S0) ck_E0)) ck_X0 ck_l0 p5y1_765_e
set_option maxRecDepth 100000 in
def p5y1_770 : ck_Sum := ((0, 0, 0), 245, [.inl (ck_one 89), .inl (ck_one 0), .inl (ck_one 299)], ([], [], []), ([], []), [(.inr (some (.inl (ck_one 1))), 245, ([], [], []))])
set_option maxRecDepth 100000 in
theorem p5y1_770_e : ck_ok p1_O none [] [] 287 [] 88 p5y1_770 = true := by decide +kernel
theorem p5y1_770_s {X : Int → Int} {LX : Nat} : ck_Ok p1_O X LX 287 p5y1_770 := ck_ok_s (ck_E0) ck_X0 ck_l0 p5y1_770_e
set_option maxRecDepth 100000 in
def p5y1_771 : ck_Sum := ((1, 0, 0), 245, [.inl (ck_one 89)], ([], [], []), ([], []), [(.inr (some (.inl (ck_one 0))), 245, ([], [], []))])
set_option maxRecDepth 100000 in
theorem p5y1_771_e : ck_ok p1_O none [] [(287, [p5y1_770])] 286 [] 84 p5y1_771 = true := by decide +kernel
theorem p5y1_771_s {X : Int → Int} {LX : Nat} : ck_Ok p1_O X LX 286 p5y1_771 := ck_ok_s (ck_E1 (ck_S1 p5y1_770_s ck_S0) ck_E0) ck_X0 ck_l0 p5y1_771_e
set_option maxRecDepth 100000 in
def p5y1_772 : ck_Sum := ((2, 0, 0), 245, [.inr (.inr (.inl 226)), .inl (ck_one 89)], ([], [], [(234, 89, 89, ck_one 1)]), ([(226, 0, 0)], []), [(.inr (some (.inl (ck_one 1))), 245, ([], [], [(226, 0, 0, ck_one 0)]))])
set_option maxRecDepth 100000 in
theorem p5y1_772_e : ck_ok p1_O none [] [(286, [p5y1_771]), (283, [p5y1_147])] 285 [] 98 p5y1_772 = true := by decide +kernel
theorem p5y1_772_s {X : Int → Int} {LX : Nat} : ck_Ok p1_O X LX 285 p5y1_772 := ck_ok_s (ck_E1 (ck_S1 p5y1_771_s ck_S0) (ck_E1 (ck_S1 p5y1_147_s ck_S0) ck_E0)) ck_X0 ck_l0 p5y1_772_e
set_option maxRecDepth 100000 in
def p5y1_777 : ck_Sum := ((0, 0, 0), 245, [.inl (ck_one 90), .inl (ck_one 0), .inl (ck_one 299)], ([], [], []), ([], []), [(.inr (some (.inl (ck_one 1))), 245, ([], [], []))])
set_option maxRecDepth 100000 in
theorem p5y1_777_e : ck_ok p1_O none [] [] 287 [] 88 p5y1_777 = true := by decide +kernel
theorem p5y1_777_s {X : Int → Int} {LX : Nat} : ck_Ok p1_O X LX 287 p5y1_777 := ck_ok_s (ck_E0) ck_X0 ck_l0 p5y1_777_e
set_option maxRecDepth 100000 in
def p5y1_778 : ck_Sum := ((1, 0, 0), 245, [.inl (ck_one 90)], ([], [], []), ([], []), [(.inr (some (.inl (ck_one 0))), 245, ([], [], []))])
set_option maxRecDepth 100000 in
theorem p5y1_778_e : ck_ok p1_O none [] [(287, [p5y1_777])] 286 [] 84 p5y1_778 = true := by decide +kernel
theorem p5y1_778_s {X : Int → Int} {LX : Nat} : ck_Ok p1_O X LX 286 p5y1_778 := ck_ok_s (ck_E1 (ck_S1 p5y1_777_s ck_S0) ck_E0) ck_X0 ck_l0 p5y1_778_e
set_option maxRecDepth 100000 in
def p5y1_779 : ck_Sum := ((2, 0, 0), 245, [.inr (.inr (.inl 226)), .inl (ck_one 90)], ([], [], [(234, 90, 90, ck_one 0)]), ([(226, 0, 0)], []), [(.inr (some (.inl (ck_one 0))), 245, ([], [], [(226, 0, 0, ck_one 0)]))])
set_option maxRecDepth 100000 in
theorem p5y1_779_e : ck_ok p1_O none [] [(286, [p5y1_778]), (283, [p5y1_147])] 285 [] 98 p5y1_779 = true := by decide +kernel
theorem p5y1_779_s {X : Int → Int} {LX : Nat} : ck_Ok p1_O X LX 285 p5y1_779 := ck_ok_s (ck_E1 (ck_S1 p5y1_778_s ck_S0) (ck_E1 (ck_S1 p5y1_147_s ck_S0) ck_E0)) ck_X0 ck_l0 p5y1_779_e
set_option maxRecDepth 100000 in
def p5y1_784 : ck_Sum := ((0, 0, 0), 245, [.inl (ck_one 91), .inl (ck_one 0), .inl (ck_one 299)], ([], [], []), ([], []), [(.inr (some (.inl (ck_one 1))), 245, ([], [], []))])
set_option maxRecDepth 100000 in
theorem p5y1_784_e : ck_ok p1_O none [] [] 287 [] 88 p5y1_784 = true := by decide +kernel
theorem p5y1_784_s {X : Int → Int} {LX : Nat} : ck_Ok p1_O X LX 287 p5y1_784 := ck_ok_s (ck_E0) ck_X0 ck_l0 p5y1_784_e
set_option maxRecDepth 100000 in
def p5y1_785 : ck_Sum := ((1, 0, 0), 245, [.inl (ck_one 91)], ([], [], []), ([], []), [(.inr (some (.inl (ck_one 0))), 245, ([], [], []))])
set_option maxRecDepth 100000 in
theorem p5y1_785_e : ck_ok p1_O none [] [(287, [p5y1_784])] 286 [] 84 p5y1_785 = true := by decide +kernel
theorem p5y1_785_s {X : Int → Int} {LX : Nat} : ck_Ok p1_O X LX 286 p5y1_785 := ck_ok_s (ck_E1 (ck_S1 p5y1_784_s ck_S0) ck_E0) ck_X0 ck_l0 p5y1_785_e
set_option maxRecDepth 100000 in
def p5y1_786 : ck_Sum := ((2, 0, 0), 245, [.inr (.inr (.inl 226)), .inl (ck_one 91)], ([], [], [(234, 91, 91, ck_one 5)]), ([(226, 0, 0)], []), [(.inr (some (.inl (ck_one 5))), 245, ([], [], [(226, 0, 0, ck_one 0)]))])
set_option maxRecDepth 100000 in
theorem p5y1_786_e : ck_ok p1_O none [] [(286, [p5y1_785]), (283, [p5y1_147])] 285 [] 98 p5y1_786 = true := by decide +kernel
theorem p5y1_786_s {X : Int → Int} {LX : Nat} : ck_Ok p1_O X LX 285 p5y1_786 := ck_ok_s (ck_E1 (ck_S1 p5y1_785_s ck_S0) (ck_E1 (ck_S1 p5y1_147_s ck_S0) ck_E0)) ck_X0 ck_l0 p5y1_786_e
set_option maxRecDepth 100000 in
def p5y1_791 : ck_Sum := ((0, 0, 0), 245, [.inl (ck_one 92), .inl (ck_one 0), .inl (ck_one 299)], ([], [], []), ([], []), [(.inr (some (.inl (ck_one 1))), 245, ([], [], []))])
set_option maxRecDepth 100000 in
theorem p5y1_791_e : ck_ok p1_O none [] [] 287 [] 88 p5y1_791 = true := by decide +kernel
theorem p5y1_791_s {X : Int → Int} {LX : Nat} : ck_Ok p1_O X LX 287 p5y1_791 := ck_ok_s (ck_E0) ck_X0 ck_l0 p5y1_791_e
set_option maxRecDepth 100000 in
def p5y1_792 : ck_Sum := ((1, 0, 0), 245, [.inl (ck_one 92)], ([], [], []), ([], []), [(.inr (some (.inl (ck_one 0))), 245, ([], [], []))])
set_option maxRecDepth 100000 in
theorem p5y1_792_e : ck_ok p1_O none [] [(287, [p5y1_791])] 286 [] 84 p5y1_792 = true := by decide +kernel
theorem p5y1_792_s {X : Int → Int} {LX : Nat} : ck_Ok p1_O X LX 286 p5y1_792 := ck_ok_s (ck_E1 (ck_S1 p5y1_791_s ck_S0) ck_E0) ck_X0 ck_l0 p5y1_792_e
set_option maxRecDepth 100000 in
def p5y1_793 : ck_Sum := ((2, 0, 0), 245, [.inr (.inr (.inl 226)), .inl (ck_one 92)], ([], [], [(234, 92, 92, ck_one 9)]), ([(226, 0, 0)], []), [(.inr (some (.inl (ck_one 9))), 245, ([], [], [(226, 0, 0, ck_one 0)]))])
set_option maxRecDepth 100000 in
theorem p5y1_793_e : ck_ok p1_O none [] [(286, [p5y1_792]), (283, [p5y1_147])] 285 [] 98 p5y1_793 = true := by decide +kernel
theorem p5y1_793_s {X : Int → Int} {LX : Nat} : ck_Ok p1_O X LX 285 p5y1_793 := ck_ok_s (ck_E1 (ck_S1 p5y1_792_s ck_S0) (ck_E1 (ck_S1 p5y1_147_s ck_S0) ck_E0)) ck_X0 ck_l0 p5y1_793_e
set_option maxRecDepth 100000 in
def p5y1_798 : ck_Sum := ((0, 0, 0), 245, [.inl (ck_one 93), .inl (ck_one 0), .inl (ck_one 299)], ([], [], []), ([], []), [(.inr (some (.inl (ck_one 1))), 245, ([], [], []))])
set_option maxRecDepth 100000 in
theorem p5y1_798_e : ck_ok p1_O none [] [] 287 [] 88 p5y1_798 = true := by decide +kernel
theorem p5y1_798_s {X : Int → Int} {LX : Nat} : ck_Ok p1_O X LX 287 p5y1_798 := ck_ok_s (ck_E0) ck_X0 ck_l0 p5y1_798_e
set_option maxRecDepth 100000 in
def p5y1_799 : ck_Sum := ((1, 0, 0), 245, [.inl (ck_one 93)], ([], [], []), ([], []), [(.inr (some (.inl (ck_one 0))), 245, ([], [], []))])
set_option maxRecDepth 100000 in
theorem p5y1_799_e : ck_ok p1_O none [] [(287, [p5y1_798])] 286 [] 84 p5y1_799 = true := by decide +kernel
theorem p5y1_799_s {X : Int → Int} {LX : Nat} : ck_Ok p1_O X LX 286 p5y1_799 := ck_ok_s (ck_E1 (ck_S1 p5y1_798_s ck_S0) ck_E0) ck_X0 ck_l0 p5y1_799_e
set_option maxRecDepth 100000 in
def p5y1_800 : ck_Sum := ((2, 0, 0), 245, [.inr (.inr (.inl 226)), .inl (ck_one 93)], ([], [], [(234, 93, 93, ck_one 4)]), ([(226, 0, 0)], []), [(.inr (some (.inl (ck_one 4))), 245, ([], [], [(226, 0, 0, ck_one 0)]))])
set_option maxRecDepth 100000 in
theorem p5y1_800_e : ck_ok p1_O none [] [(286, [p5y1_799]), (283, [p5y1_147])] 285 [] 98 p5y1_800 = true := by decide +kernel
theorem p5y1_800_s {X : Int → Int} {LX : Nat} : ck_Ok p1_O X LX 285 p5y1_800 := ck_ok_s (ck_E1 (ck_S1 p5y1_799_s ck_S0) (ck_E1 (ck_S1 p5y1_147_s ck_S0) ck_E0)) ck_X0 ck_l0 p5y1_800_e
set_option maxRecDepth 100000 in
def p5y1_805 : ck_Sum := ((0, 0, 0), 245, [.inl (ck_one 94), .inl (ck_one 0), .inl (ck_one 299)], ([], [], []), ([], []), [(.inr (some (.inl (ck_one 1))), 245, ([], [], []))])
set_option maxRecDepth 100000 in
theorem p5y1_805_e : ck_ok p1_O none [] [] 287 [] 88 p5y1_805 = true := by decide +kernel
theorem p5y1_805_s {X : Int → Int} {LX : Nat} : ck_Ok p1_O X LX 287 p5y1_805 := ck_ok_s (ck_E0) ck_X0 ck_l0 p5y1_805_e
set_option maxRecDepth 100000 in
def p5y1_806 : ck_Sum := ((1, 0, 0), 245, [.inl (ck_one 94)], ([], [], []), ([], []), [(.inr (some (.inl (ck_one 0))), 245, ([], [], []))])
set_option maxRecDepth 100000 in
theorem p5y1_806_e : ck_ok p1_O none [] [(287, [p5y1_805])] 286 [] 84 p5y1_806 = true := by decide +kernel
theorem p5y1_806_s {X : Int → Int} {LX : Nat} : ck_Ok p1_O X LX 286 p5y1_806 := ck_ok_s (ck_E1 (ck_S1 p5y1_805_s ck_S0) ck_E0) ck_X0 ck_l0 p5y1_806_e
set_option maxRecDepth 100000 in
def p5y1_807 : ck_Sum := ((2, 0, 0), 245, [.inr (.inr (.inl 226)), .inl (ck_one 94)], ([], [], [(234, 94, 94, ck_one 5)]), ([(226, 0, 0)], []), [(.inr (some (.inl (ck_one 5))), 245, ([], [], [(226, 0, 0, ck_one 0)]))])
set_option maxRecDepth 100000 in
theorem p5y1_807_e : ck_ok p1_O none [] [(286, [p5y1_806]), (283, [p5y1_147])] 285 [] 98 p5y1_807 = true := by decide +kernel
theorem p5y1_807_s {X : Int → Int} {LX : Nat} : ck_Ok p1_O X LX 285 p5y1_807 := ck_ok_s (ck_E1 (ck_S1 p5y1_806_s ck_S0) (ck_E1 (ck_S1 p5y1_147_s ck_S0) ck_E0)) ck_X0 ck_l0 p5y1_807_e
set_option maxRecDepth 100000 in
def p5y1_812 : ck_Sum := ((0, 0, 0), 245, [.inl (ck_one 95), .inl (ck_one 0), .inl (ck_one 299)], ([], [], []), ([], []), [(.inr (some (.inl (ck_one 1))), 245, ([], [], []))])
set_option maxRecDepth 100000 in
theorem p5y1_812_e : ck_ok p1_O none [] [] 287 [] 88 p5y1_812 = true := by decide +kernel
theorem p5y1_812_s {X : Int → Int} {LX : Nat} : ck_Ok p1_O X LX 287 p5y1_812 := ck_ok_s (ck_E0) ck_X0 ck_l0 p5y1_812_e
set_option maxRecDepth 100000 in
def p5y1_813 : ck_Sum := ((1, 0, 0), 245, [.inl (ck_one 95)], ([], [], []), ([], []), [(.inr (some (.inl (ck_one 0))), 245, ([], [], []))])
set_option maxRecDepth 100000 in
theorem p5y1_813_e : ck_ok p1_O none [] [(287, [p5y1_812])] 286 [] 84 p5y1_813 = true := by decide +kernel
theorem p5y1_813_s {X : Int → Int} {LX : Nat} : ck_Ok p1_O X LX 286 p5y1_813 := ck_ok_s (ck_E1 (ck_S1 p5y1_812_s ck_S0) ck_E0) ck_X0 ck_l0 p5y1_813_e
set_option maxRecDepth 100000 in
def p5y1_814 : ck_Sum := ((2, 0, 0), 245, [.inr (.inr (.inl 226)), .inl (ck_one 95)], ([], [], [(234, 95, 95, ck_one 3)]), ([(226, 0, 0)], []), [(.inr (some (.inl (ck_one 3))), 245, ([], [], [(226, 0, 0, ck_one 0)]))])
set_option maxRecDepth 100000 in
theorem p5y1_814_e : ck_ok p1_O none [] [(286, [p5y1_813]), (283, [p5y1_147])] 285 [] 98 p5y1_814 = true := by decide +kernel
theorem p5y1_814_s {X : Int → Int} {LX : Nat} : ck_Ok p1_O X LX 285 p5y1_814 := ck_ok_s (ck_E1 (ck_S1 p5y1_813_s ck_S0) (ck_E1 (ck_S1 p5y1_147_s ck_S0) ck_E0)) ck_X0 ck_l0 p5y1_814_e
set_option maxRecDepth 100000 in
def p5y1_819 : ck_Sum := ((0, 0, 0), 245, [.inl (ck_one 96), .inl (ck_one 0), .inl (ck_one 299)], ([], [], []), ([], []), [(.inr (some (.inl (ck_one 1))), 245, ([], [], []))])
set_option maxRecDepth 100000 in
theorem p5y1_819_e : ck_ok p1_O none [] [] 287 [] 88 p5y1_819 = true := by decide +kernel
theorem p5y1_819_s {X : Int → Int} {LX : Nat} : ck_Ok p1_O X LX 287 p5y1_819 := ck_ok_s (ck_E0) ck_X0 ck_l0 p5y1_819_e
set_option maxRecDepth 100000 in
def p5y1_820 : ck_Sum := ((1, 0, 0), 245, [.inl (ck_one 96)], ([], [], []), ([], []), [(.inr (some (.inl (ck_one 0))), 245, ([], [], []))])
set_option maxRecDepth 100000 in
theorem p5y1_820_e : ck_ok p1_O none [] [(287, [p5y1_819])] 286 [] 84 p5y1_820 = true := by decide +kernel
theorem p5y1_820_s {X : Int → Int} {LX : Nat} : ck_Ok p1_O X LX 286 p5y1_820 := ck_ok_s (ck_E1 (ck_S1 p5y1_819_s ck_S0) ck_E0) ck_X0 ck_l0 p5y1_820_e
set_option maxRecDepth 100000 in
def p5y1_821 : ck_Sum := ((2, 0, 0), 245, [.inr (.inr (.inl 226)), .inl (ck_one 96)], ([], [], [(234, 96, 96, ck_one 4)]), ([(226, 0, 0)], []), [(.inr (some (.inl (ck_one 4))), 245, ([], [], [(226, 0, 0, ck_one 0)]))])
set_option maxRecDepth 100000 in
theorem p5y1_821_e : ck_ok p1_O none [] [(286, [p5y1_820]), (283, [p5y1_147])] 285 [] 98 p5y1_821 = true := by decide +kernel
theorem p5y1_821_s {X : Int → Int} {LX : Nat} : ck_Ok p1_O X LX 285 p5y1_821 := ck_ok_s (ck_E1 (ck_S1 p5y1_820_s ck_S0) (ck_E1 (ck_S1 p5y1_147_s ck_S0) ck_E0)) ck_X0 ck_l0 p5y1_821_e
set_option maxRecDepth 100000 in
def p5y1_826 : ck_Sum := ((0, 0, 0), 245, [.inl (ck_one 97), .inl (ck_one 0), .inl (ck_one 299)], ([], [], []), ([], []), [(.inr (some (.inl (ck_one 1))), 245, ([], [], []))])
set_option maxRecDepth 100000 in
theorem p5y1_826_e : ck_ok p1_O none [] [] 287 [] 88 p5y1_826 = true := by decide +kernel
theorem p5y1_826_s {X : Int → Int} {LX : Nat} : ck_Ok p1_O X LX 287 p5y1_826 := ck_ok_s (ck_E0) ck_X0 ck_l0 p5y1_826_e
set_option maxRecDepth 100000 in
def p5y1_827 : ck_Sum := ((1, 0, 0), 245, [.inl (ck_one 97)], ([], [], []), ([], []), [(.inr (some (.inl (ck_one 0))), 245, ([], [], []))])
set_option maxRecDepth 100000 in
theorem p5y1_827_e : ck_ok p1_O none [] [(287, [p5y1_826])] 286 [] 84 p5y1_827 = true := by decide +kernel
theorem p5y1_827_s {X : Int → Int} {LX : Nat} : ck_Ok p1_O X LX 286 p5y1_827 := ck_ok_s (ck_E1 (ck_S1 p5y1_826_s ck_S0) ck_E0) ck_X0 ck_l0 p5y1_827_e
set_option maxRecDepth 100000 in
def p5y1_828 : ck_Sum := ((2, 0, 0), 245, [.inr (.inr (.inl 226)), .inl (ck_one 97)], ([], [], [(234, 97, 97, ck_one 9)]), ([(226, 0, 0)], []), [(.inr (some (.inl (ck_one 9))), 245, ([], [], [(226, 0, 0, ck_one 0)]))])
set_option maxRecDepth 100000 in
theorem p5y1_828_e : ck_ok p1_O none [] [(286, [p5y1_827]), (283, [p5y1_147])] 285 [] 98 p5y1_828 = true := by decide +kernel
theorem p5y1_828_s {X : Int → Int} {LX : Nat} : ck_Ok p1_O X LX 285 p5y1_828 := ck_ok_s (ck_E1 (ck_S1 p5y1_827_s ck_S0) (ck_E1 (ck_S1 p5y1_147_s ck_S0) ck_E0)) ck_X0 ck_l0 p5y1_828_e
set_option maxRecDepth 100000 in
def p5y1_833 : ck_Sum := ((0, 0, 0), 245, [.inl (ck_one 98), .inl (ck_one 0), .inl (ck_one 299)], ([], [], []), ([], []), [(.inr (some (.inl (ck_one 1))), 245, ([], [], []))])
set_option maxRecDepth 100000 in
theorem p5y1_833_e : ck_ok p1_O none [] [] 287 [] 88 p5y1_833 = true := by decide +kernel
theorem p5y1_833_s {X : Int → Int} {LX : Nat} : ck_Ok p1_O X LX 287 p5y1_833 := ck_ok_s (ck_E0) ck_X0 ck_l0 p5y1_833_e
set_option maxRecDepth 100000 in
def p5y1_834 : ck_Sum := ((1, 0, 0), 245, [.inl (ck_one 98)], ([], [], []), ([], []), [(.inr (some (.inl (ck_one 0))), 245, ([], [], []))])
set_option maxRecDepth 100000 in
theorem p5y1_834_e : ck_ok p1_O none [] [(287, [p5y1_833])] 286 [] 84 p5y1_834 = true := by decide +kernel
theorem p5y1_834_s {X : Int → Int} {LX : Nat} : ck_Ok p1_O X LX 286 p5y1_834 := ck_ok_s (ck_E1 (ck_S1 p5y1_833_s ck_S0) ck_E0) ck_X0 ck_l0 p5y1_834_e
set_option maxRecDepth 100000 in
def p5y1_835 : ck_Sum := ((2, 0, 0), 245, [.inr (.inr (.inl 226)), .inl (ck_one 98)], ([], [], [(234, 98, 98, ck_one 8)]), ([(226, 0, 0)], []), [(.inr (some (.inl (ck_one 8))), 245, ([], [], [(226, 0, 0, ck_one 0)]))])
set_option maxRecDepth 100000 in
theorem p5y1_835_e : ck_ok p1_O none [] [(286, [p5y1_834]), (283, [p5y1_147])] 285 [] 98 p5y1_835 = true := by decide +kernel
theorem p5y1_835_s {X : Int → Int} {LX : Nat} : ck_Ok p1_O X LX 285 p5y1_835 := ck_ok_s (ck_E1 (ck_S1 p5y1_834_s ck_S0) (ck_E1 (ck_S1 p5y1_147_s ck_S0) ck_E0)) ck_X0 ck_l0 p5y1_835_e
set_option maxRecDepth 100000 in
def p5y1_840 : ck_Sum := ((0, 0, 0), 245, [.inl (ck_one 99), .inl (ck_one 0), .inl (ck_one 299)], ([], [], []), ([], []), [(.inr (some (.inl (ck_one 1))), 245, ([], [], []))])
set_option maxRecDepth 100000 in
theorem p5y1_840_e : ck_ok p1_O none [] [] 287 [] 88 p5y1_840 = true := by decide +kernel
theorem p5y1_840_s {X : Int → Int} {LX : Nat} : ck_Ok p1_O X LX 287 p5y1_840 := ck_ok_s (ck_E0) ck_X0 ck_l0 p5y1_840_e
set_option maxRecDepth 100000 in
def p5y1_841 : ck_Sum := ((1, 0, 0), 245, [.inl (ck_one 99)], ([], [], []), ([], []), [(.inr (some (.inl (ck_one 0))), 245, ([], [], []))])
set_option maxRecDepth 100000 in
theorem p5y1_841_e : ck_ok p1_O none [] [(287, [p5y1_840])] 286 [] 84 p5y1_841 = true := by decide +kernel
theorem p5y1_841_s {X : Int → Int} {LX : Nat} : ck_Ok p1_O X LX 286 p5y1_841 := ck_ok_s (ck_E1 (ck_S1 p5y1_840_s ck_S0) ck_E0) ck_X0 ck_l0 p5y1_841_e
set_option maxRecDepth 100000 in
def p5y1_842 : ck_Sum := ((2, 0, 0), 245, [.inr (.inr (.inl 226)), .inl (ck_one 99)], ([], [], [(234, 99, 99, ck_one 1)]), ([(226, 0, 0)], []), [(.inr (some (.inl (ck_one 1))), 245, ([], [], [(226, 0, 0, ck_one 0)]))])
set_option maxRecDepth 100000 in
theorem p5y1_842_e : ck_ok p1_O none [] [(286, [p5y1_841]), (283, [p5y1_147])] 285 [] 98 p5y1_842 = true := by decide +kernel
theorem p5y1_842_s {X : Int → Int} {LX : Nat} : ck_Ok p1_O X LX 285 p5y1_842 := ck_ok_s (ck_E1 (ck_S1 p5y1_841_s ck_S0) (ck_E1 (ck_S1 p5y1_147_s ck_S0) ck_E0)) ck_X0 ck_l0 p5y1_842_e
set_option maxRecDepth 100000 in
def p5y1_847 : ck_Sum := ((0, 0, 0), 245, [.inl (ck_one 100), .inl (ck_one 0), .inl (ck_one 299)], ([], [], []), ([], []), [(.inr (some (.inl (ck_one 1))), 245, ([], [], []))])
set_option maxRecDepth 100000 in
theorem p5y1_847_e : ck_ok p1_O none [] [] 287 [] 88 p5y1_847 = true := by decide +kernel
theorem p5y1_847_s {X : Int → Int} {LX : Nat} : ck_Ok p1_O X LX 287 p5y1_847 := ck_ok_s (ck_E0) ck_X0 ck_l0 p5y1_847_e
set_option maxRecDepth 100000 in
def p5y1_848 : ck_Sum := ((1, 0, 0), 245, [.inl (ck_one 100)], ([], [], []), ([], []), [(.inr (some (.inl (ck_one 0))), 245, ([], [], []))])
set_option maxRecDepth 100000 in
theorem p5y1_848_e : ck_ok p1_O none [] [(287, [p5y1_847])] 286 [] 84 p5y1_848 = true := by decide +kernel
theorem p5y1_848_s {X : Int → Int} {LX : Nat} : ck_Ok p1_O X LX 286 p5y1_848 := ck_ok_s (ck_E1 (ck_S1 p5y1_847_s ck_S0) ck_E0) ck_X0 ck_l0 p5y1_848_e
set_option maxRecDepth 100000 in
def p5y1_849 : ck_Sum := ((2, 0, 0), 245, [.inr (.inr (.inl 226)), .inl (ck_one 100)], ([], [], [(234, 100, 100, ck_one 2)]), ([(226, 0, 0)], []), [(.inr (some (.inl (ck_one 2))), 245, ([], [], [(226, 0, 0, ck_one 0)]))])
set_option maxRecDepth 100000 in
theorem p5y1_849_e : ck_ok p1_O none [] [(286, [p5y1_848]), (283, [p5y1_147])] 285 [] 98 p5y1_849 = true := by decide +kernel
theorem p5y1_849_s {X : Int → Int} {LX : Nat} : ck_Ok p1_O X LX 285 p5y1_849 := ck_ok_s (ck_E1 (ck_S1 p5y1_848_s ck_S0) (ck_E1 (ck_S1 p5y1_147_s ck_S0) ck_E0)) ck_X0 ck_l0 p5y1_849_e
set_option maxRecDepth 100000 in
def p5y1_149 : ck_Sum := ((0, 0, 0), 245, [.inr (.inr (.inl 226))], ([], [], [(226, 0, 0, ck_one 0)]), ([], []), [(.inr (some (.inl (ck_one 0))), 245, ([], [], []))])
set_option maxRecDepth 100000 in
theorem p5y1_149_e : ck_ok p1_O none [] [] 234 [] 76 p5y1_149 = true := by decide +kernel
theorem p5y1_149_s {X : Int → Int} {LX : Nat} : ck_Ok p1_O X LX 234 p5y1_149 := ck_ok_s (ck_E0) ck_X0 ck_l0 p5y1_149_e
set_option maxRecDepth 100000 in
def p5y1_F : ck_F := ([], [(3, 8, 0), (16, 8, 0), (29, 8, 0), (44, 8, 0), (57, 8, 0), (70, 8, 0), (83, 8, 0), (96, 8, 0), (109, 8, 0), (122, 8, 0), (135, 8, 0), (148, 8, 0), (161, 8, 0), (174, 8, 0), (187, 8, 0)], [(245, 0, 0, ck_one 0), (234, 100, 100, ck_one 2), (234, 99, 99, ck_one 1), (234, 98, 98, ck_one 8), (234, 97, 97, ck_one 9), (234, 96, 96, ck_one 4), (234, 95, 95, ck_one 3), (234, 94, 94, ck_one 5), (234, 93, 93, ck_one 4), (234, 92, 92, ck_one 9), (234, 91, 91, ck_one 5), (234, 90, 90, ck_one 0), (234, 89, 89, ck_one 1), (234, 88, 88, ck_one 6), (234, 87, 87, ck_one 1), (234, 86, 86, ck_one 1), (234, 85, 85, ck_one 9), (234, 84, 84, ck_one 0), (234, 83, 83, ck_one 6), (234, 82, 82, ck_one 3), (234, 81, 81, ck_one 2), (234, 80, 80, ck_one 3), (234, 79, 79, ck_one 4), (234, 78, 78, ck_one 1), (234, 77, 77, ck_one 5), (234, 76, 76, ck_one 6), (234, 75, 75, ck_one 2), (234, 74, 74, ck_one 4), (234, 73, 73, ck_one 6), (234, 72, 72, ck_one 8), (234, 71, 71, ck_one 0), (234, 70, 70, ck_one 6), (234, 69, 69, ck_one 6), (234, 68, 68, ck_one 9), (234, 67, 67, ck_one 7), (234, 66, 66, ck_one 8), (234, 65, 65, ck_one 9), (234, 64, 64, ck_one 0), (234, 63, 63, ck_one 4), (234, 62, 62, ck_one 1), (234, 61, 61, ck_one 3), (234, 60, 60, ck_one 9), (234, 59, 59, ck_one 5), (234, 58, 58, ck_one 7), (234, 57, 57, ck_one 7), (234, 56, 56, ck_one 2), (234, 55, 55, ck_one 8), (234, 54, 54, ck_one 2), (234, 53, 53, ck_one 3), (234, 52, 52, ck_one 4), (234, 51, 51, ck_one 0), (234, 50, 50, ck_one 3), (226, 0, 0, ck_one 0), (201, 100, 100, ck_one 2), (201, 99, 99, ck_one 1), (201, 98, 98, ck_one 8), (201, 97, 97, ck_one 9), (201, 96, 96, ck_one 4), (201, 95, 95, ck_one 3), (201, 94, 94, ck_one 5), (201, 93, 93, ck_one 4), (201, 92, 92, ck_one 9), (201, 91, 91, ck_one 5), (201, 90, 90, ck_one 0), (201, 89, 89, ck_one 1), (201, 88, 88, ck_one 6), (201, 87, 87, ck_one 1), (201, 86, 86, ck_one 1), (201, 85, 85, ck_one 9), (201, 84, 84, ck_one 0), (201, 83, 83, ck_one 6), (201, 82, 82, ck_one 3), (201, 81, 81, ck_one 2), (201, 80, 80, ck_one 3), (201, 79, 79, ck_one 4), (201, 78, 78, ck_one 1), (201, 77, 77, ck_one 5), (201, 76, 76, ck_one 6), (201, 75, 75, ck_one 2), (201, 74, 74, ck_one 4), (201, 73, 73, ck_one 6), (201, 72, 72, ck_one 8), (201, 71, 71, ck_one 0), (201, 70, 70, ck_one 6), (201, 69, 69, ck_one 6), (201, 68, 68, ck_one 9), (201, 67, 67, ck_one 7), (201, 66, 66, ck_one 8), (201, 65, 65, ck_one 9), (201, 64, 64, ck_one 0), (201, 63, 63, ck_one 4), (201, 62, 62, ck_one 1), (201, 61, 61, ck_one 3), (201, 60, 60, ck_one 9), (201, 59, 59, ck_one 5), (201, 58, 58, ck_one 7), (201, 57, 57, ck_one 7), (201, 56, 56, ck_one 2), (201, 55, 55, ck_one 8), (201, 54, 54, ck_one 2), (201, 53, 53, ck_one 3), (201, 52, 52, ck_one 4), (201, 51, 51, ck_one 0), (201, 50, 50, ck_one 3)])
def p5y1_E : List (Nat × List ck_Sum) := [(127, [p5y1_496, p5y1_503, p5y1_510, p5y1_517, p5y1_524, p5y1_531, p5y1_538, p5y1_545, p5y1_552, p5y1_559, p5y1_566, p5y1_573, p5y1_580, p5y1_587, p5y1_594, p5y1_601, p5y1_608, p5y1_615, p5y1_622, p5y1_629, p5y1_636, p5y1_643, p5y1_650, p5y1_657, p5y1_664, p5y1_671, p5y1_678, p5y1_685, p5y1_692, p5y1_699, p5y1_706, p5y1_713, p5y1_720, p5y1_727, p5y1_734, p5y1_741, p5y1_748, p5y1_755, p5y1_762, p5y1_769, p5y1_776, p5y1_783, p5y1_790, p5y1_797, p5y1_804, p5y1_811, p5y1_818, p5y1_825, p5y1_832, p5y1_839, p5y1_846]), (285, [p5y1_499, p5y1_506, p5y1_513, p5y1_520, p5y1_527, p5y1_534, p5y1_541, p5y1_548, p5y1_555, p5y1_562, p5y1_569, p5y1_576, p5y1_583, p5y1_590, p5y1_597, p5y1_604, p5y1_611, p5y1_618, p5y1_625, p5y1_632, p5y1_639, p5y1_646, p5y1_653, p5y1_660, p5y1_667, p5y1_674, p5y1_681, p5y1_688, p5y1_695, p5y1_702, p5y1_709, p5y1_716, p5y1_723, p5y1_730, p5y1_737, p5y1_744, p5y1_751, p5y1_758, p5y1_765, p5y1_772, p5y1_779, p5y1_786, p5y1_793, p5y1_800, p5y1_807, p5y1_814, p5y1_821, p5y1_828, p5y1_835, p5y1_842, p5y1_849]), (234, [p5y1_149])]
set_option maxRecDepth 100000 in
theorem p5y1_h {X : Int → Int} {LX : Nat} : ck_OkE p1_O X LX p5y1_E := ck_E1 (ck_S1 p5y1_496_s (ck_S1 p5y1_503_s (ck_S1 p5y1_510_s (ck_S1 p5y1_517_s (ck_S1 p5y1_524_s (ck_S1 p5y1_531_s (ck_S1 p5y1_538_s (ck_S1 p5y1_545_s (ck_S1 p5y1_552_s (ck_S1 p5y1_559_s (ck_S1 p5y1_566_s (ck_S1 p5y1_573_s (ck_S1 p5y1_580_s (ck_S1 p5y1_587_s (ck_S1 p5y1_594_s (ck_S1 p5y1_601_s (ck_S1 p5y1_608_s (ck_S1 p5y1_615_s (ck_S1 p5y1_622_s (ck_S1 p5y1_629_s (ck_S1 p5y1_636_s (ck_S1 p5y1_643_s (ck_S1 p5y1_650_s (ck_S1 p5y1_657_s (ck_S1 p5y1_664_s (ck_S1 p5y1_671_s (ck_S1 p5y1_678_s (ck_S1 p5y1_685_s (ck_S1 p5y1_692_s (ck_S1 p5y1_699_s (ck_S1 p5y1_706_s (ck_S1 p5y1_713_s (ck_S1 p5y1_720_s (ck_S1 p5y1_727_s (ck_S1 p5y1_734_s (ck_S1 p5y1_741_s (ck_S1 p5y1_748_s (ck_S1 p5y1_755_s (ck_S1 p5y1_762_s (ck_S1 p5y1_769_s (ck_S1 p5y1_776_s (ck_S1 p5y1_783_s (ck_S1 p5y1_790_s (ck_S1 p5y1_797_s (ck_S1 p5y1_804_s (ck_S1 p5y1_811_s (ck_S1 p5y1_818_s (ck_S1 p5y1_825_s (ck_S1 p5y1_832_s (ck_S1 p5y1_839_s (ck_S1 p5y1_846_s ck_S0))))))))))))))))))))))))))))))))))))))))))))))))))) (ck_E1 (ck_S1 p5y1_499_s (ck_S1 p5y1_506_s (ck_S1 p5y1_513_s (ck_S1 p5y1_520_s (ck_S1 p5y1_527_s (ck_S1 p5y1_534_s (ck_S1 p5y1_541_s (ck_S1 p5y1_548_s (ck_S1 p5y1_555_s (ck_S1 p5y1_562_s (ck_S1 p5y1_569_s (ck_S1 p5y1_576_s (ck_S1 p5y1_583_s (ck_S1 p5y1_590_s (ck_S1 p5y1_597_s (ck_S1 p5y1_604_s (ck_S1 p5y1_611_s (ck_S1 p5y1_618_s (ck_S1 p5y1_625_s (ck_S1 p5y1_632_s (ck_S1 p5y1_639_s (ck_S1 p5y1_646_s (ck_S1 p5y1_653_s (ck_S1 p5y1_660_s (ck_S1 p5y1_667_s (ck_S1 p5y1_674_s (ck_S1 p5y1_681_s (ck_S1 p5y1_688_s (ck_S1 p5y1_695_s (ck_S1 p5y1_702_s (ck_S1 p5y1_709_s (ck_S1 p5y1_716_s (ck_S1 p5y1_723_s (ck_S1 p5y1_730_s (ck_S1 p5y1_737_s (ck_S1 p5y1_744_s (ck_S1 p5y1_751_s (ck_S1 p5y1_758_s (ck_S1 p5y1_765_s (ck_S1 p5y1_772_s (ck_S1 p5y1_779_s (ck_S1 p5y1_786_s (ck_S1 p5y1_793_s (ck_S1 p5y1_800_s (ck_S1 p5y1_807_s (ck_S1 p5y1_814_s (ck_S1 p5y1_821_s (ck_S1 p5y1_828_s (ck_S1 p5y1_835_s (ck_S1 p5y1_842_s (ck_S1 p5y1_849_s ck_S0))))))))))))))))))))))))))))))))))))))))))))))))))) (ck_E1 (ck_S1 p5y1_149_s ck_S0) ck_E0))
set_option maxRecDepth 100000 in
theorem p5y1_b : (ck_prod ((1, [(50, 50), (51, 51), (52, 52), (53, 53), (54, 54), (55, 55), (56, 56), (57, 57), (58, 58), (59, 59), (60, 60), (61, 61), (62, 62), (63, 63), (64, 64), (65, 65), (66, 66), (67, 67), (68, 68), (69, 69), (70, 70), (71, 71), (72, 72), (73, 73), (74, 74), (75, 75), (76, 76), (77, 77), (78, 78), (79, 79), (80, 80), (81, 81), (82, 82), (83, 83), (84, 84), (85, 85), (86, 86), (87, 87), (88, 88), (89, 89), (90, 90), (91, 91), (92, 92), (93, 93), (94, 94), (95, 95), (96, 96), (97, 97), (98, 98), (99, 99), (100, 100)]) :: [])).all (fun xf => ck_go p1_O (some 6) xf p5y1_E 370 280 245 p1_W p1_outs [] 132 false [] 1000 2000 443 p1_L [] 245 p5y1_F) = true := by decide +kernel
theorem p5y1_s {X : Int → Int} {LX : Nat} (hLX : 6 = LX) (hX : ∀ j, gm_ir (X j)) (h1 : 50 ≤ X 1) (h2 : X 1 ≤ 100) {σ : Nat → Int} {L : gm_L} {K0 K : gm_K} {R0 R : gm_R} {M0 M : gm_M} (hS : ck_St p1_O σ p1_W 245 K0 R0 M0 p1_L [] p5y1_F L [] 245 K R M) : gm_Wp X LX 280 1000 2000 370 443 L [] 245 K R M (ck_Q p1_O σ p1_W 245 K0 R0 M0 p1_outs) := ck_boxesR p5y1_h hLX hX h1 h2 (by decide +kernel) (by decide +kernel) p5y1_b hS
