/-! THE LAW'S OWN METHODS (laid by wip/am/p2n.py). -/
set_option maxRecDepth 100000 in
/-- GlacierMailLaw.meeting -/
def p2_h204 : ck_Sum := ((9, 1, 6), 245, [.inr (.inr (.inl 1)), .inl ((-2147483648), (-1), []), .inl ((-2147483648), 2147483647, []), .inr (.inr (.inl 245))], ([], [], []), ([], []), [(.inr (some (.inl (ck_one 1))), 245, ([], [], []))])
set_option maxRecDepth 100000 in
theorem p2_h204_e : ck_ok p2_O none [] [(221, [p2_s1591])] 220 [] 88 p2_h204 = true := by decide +kernel
theorem p2_h204_s {X : Int → Int} {LX : Nat} : ck_Ok p2_O X LX 220 p2_h204 := ck_ok_s ⟨p2_nmu, ck_E1 (ck_S1 p2_s1591_s ck_S0) ck_E0⟩ ck_X0 ck_l0 p2_h204_e
set_option maxRecDepth 100000 in
/-- GlacierMailLaw.meeting -/
def p2_h205 : ck_Sum := ((9, 1, 6), 245, [.inr (.inr (.inl 1)), .inl (24, 2147483647, []), .inl ((-2147483648), 2147483647, []), .inr (.inr (.inl 245))], ([], [], []), ([], []), [(.inr (some (.inl (ck_one 1))), 245, ([], [], []))])
set_option maxRecDepth 100000 in
theorem p2_h205_e : ck_ok p2_O none [] [(221, [p2_s1592])] 220 [] 88 p2_h205 = true := by decide +kernel
theorem p2_h205_s {X : Int → Int} {LX : Nat} : ck_Ok p2_O X LX 220 p2_h205 := ck_ok_s ⟨p2_nmu, ck_E1 (ck_S1 p2_s1592_s ck_S0) ck_E0⟩ ck_X0 ck_l0 p2_h205_e
set_option maxRecDepth 100000 in
/-- GlacierMailLaw.meeting -/
def p2_h206 : ck_Sum := ((9, 2, 12), 245, [.inr (.inr (.inl 1)), .inl (0, 23, []), .inl ((-2147483648), (-1), []), .inr (.inr (.inl 245))], ([], [], []), ([], []), [(.inr (some (.inl (ck_one 1))), 245, ([], [], []))])
set_option maxRecDepth 100000 in
theorem p2_h206_e : ck_ok p2_O none [] [(221, [p2_s1593])] 220 [] 88 p2_h206 = true := by decide +kernel
theorem p2_h206_s {X : Int → Int} {LX : Nat} : ck_Ok p2_O X LX 220 p2_h206 := ck_ok_s ⟨p2_nmu, ck_E1 (ck_S1 p2_s1593_s ck_S0) ck_E0⟩ ck_X0 ck_l0 p2_h206_e
set_option maxRecDepth 100000 in
/-- GlacierMailLaw.meeting -/
def p2_h207 : ck_Sum := ((9, 2, 12), 245, [.inr (.inr (.inl 1)), .inl (0, 23, []), .inl (24, 2147483647, []), .inr (.inr (.inl 245))], ([], [], []), ([], []), [(.inr (some (.inl (ck_one 1))), 245, ([], [], []))])
set_option maxRecDepth 100000 in
theorem p2_h207_e : ck_ok p2_O none [] [(221, [p2_s1594])] 220 [] 88 p2_h207 = true := by decide +kernel
theorem p2_h207_s {X : Int → Int} {LX : Nat} : ck_Ok p2_O X LX 220 p2_h207 := ck_ok_s ⟨p2_nmu, ck_E1 (ck_S1 p2_s1594_s ck_S0) ck_E0⟩ ck_X0 ck_l0 p2_h207_e
set_option maxRecDepth 100000 in
/-- GlacierMailLaw.meeting -/
def p2_h208 : ck_Sum := ((9, 3, 18), 245, [.inr (.inr (.inl 1)), .inl (0, 23, []), .inl (0, 23, []), .inr (.inr (.inl 245))], ([], [(3, 8, 0)], [(3, 6, 6, (0, 299, [(10, 0)]))]), ([(206, 2, 8), (207, 2, 8), (245, 0, 0)], []), [(.inr (some (.inl (ck_one 1))), 245, ([], [], [])), (.inr (some (.inl (ck_one 0))), 245, ([], [], [(245, 0, 0, ((-1), 299, []))])), (.inr (some (.inl (ck_one 2))), 245, ([], [], []))])
set_option maxRecDepth 100000 in
theorem p2_h208_e : ck_ok p2_O none [] [(221, [p2_s1597])] 220 [] 92 p2_h208 = true := by decide +kernel
theorem p2_h208_s {X : Int → Int} {LX : Nat} : ck_Ok p2_O X LX 220 p2_h208 := ck_ok_s ⟨p2_nmu, ck_E1 (ck_S1 p2_s1597_s ck_S0) ck_E0⟩ ck_X0 ck_l0 p2_h208_e
set_option maxRecDepth 100000 in
/-- GlacierMailLaw.outs -/
def p2_h209 : ck_Sum := ((8, 1, 6), 245, [.inr (.inr (.inl 1)), .inl ((-2147483648), (-1), []), .inr (.inr (.inl 245))], ([], [], []), ([], []), [(.inr (some (.inl (ck_one 1))), 245, ([], [], []))])
set_option maxRecDepth 100000 in
theorem p2_h209_e : ck_ok p2_O none [] [(223, [p2_s1603])] 222 [] 86 p2_h209 = true := by decide +kernel
theorem p2_h209_s {X : Int → Int} {LX : Nat} : ck_Ok p2_O X LX 222 p2_h209 := ck_ok_s ⟨p2_nmu, ck_E1 (ck_S1 p2_s1603_s ck_S0) ck_E0⟩ ck_X0 ck_l0 p2_h209_e
set_option maxRecDepth 100000 in
/-- GlacierMailLaw.outs -/
def p2_h210 : ck_Sum := ((8, 1, 6), 245, [.inr (.inr (.inl 1)), .inl (300, 2147483647, []), .inr (.inr (.inl 245))], ([], [], []), ([], []), [(.inr (some (.inl (ck_one 1))), 245, ([], [], []))])
set_option maxRecDepth 100000 in
theorem p2_h210_e : ck_ok p2_O none [] [(223, [p2_s1604])] 222 [] 86 p2_h210 = true := by decide +kernel
theorem p2_h210_s {X : Int → Int} {LX : Nat} : ck_Ok p2_O X LX 222 p2_h210 := ck_ok_s ⟨p2_nmu, ck_E1 (ck_S1 p2_s1604_s ck_S0) ck_E0⟩ ck_X0 ck_l0 p2_h210_e
set_option maxRecDepth 100000 in
/-- GlacierMailLaw.outs -/
def p2_h211 : ck_Sum := ((6, 0, 0), 245, [.inr (.inr (.inl 1)), .inl (0, 299, []), .inr (.inr (.inl 245))], ([], [(3, 8, 0)], []), ([(1, 15, 15), (206, 2, 8), (220, 3, 3), (221, 0, 47), (245, 0, 0)], []), [(.inr (some (.inl (ck_one 0))), 245, ([], [], [(1, 15, 15, ck_one 1)]))])
set_option maxRecDepth 100000 in
theorem p2_h211_e : ck_ok p2_O none [] [(223, [p2_s1606])] 222 [] 90 p2_h211 = true := by decide +kernel
theorem p2_h211_s {X : Int → Int} {LX : Nat} : ck_Ok p2_O X LX 222 p2_h211 := ck_ok_s ⟨p2_nmu, ck_E1 (ck_S1 p2_s1606_s ck_S0) ck_E0⟩ ck_X0 ck_l0 p2_h211_e
set_option maxRecDepth 100000 in
/-- GlacierMailLaw.streams -/
def p2_h212 : ck_Sum := ((8, 1, 6), 245, [.inr (.inr (.inl 1)), .inl ((-2147483648), (-1), []), .inl (0, 1, []), .inr (.inr (.inl 245))], ([], [], []), ([], []), [(.inr (some (.inl (ck_one 1))), 245, ([], [], []))])
set_option maxRecDepth 100000 in
theorem p2_h212_e : ck_ok p2_O none [] [(225, [p2_s1613])] 224 [] 88 p2_h212 = true := by decide +kernel
theorem p2_h212_s {X : Int → Int} {LX : Nat} : ck_Ok p2_O X LX 224 p2_h212 := ck_ok_s ⟨p2_nmu, ck_E1 (ck_S1 p2_s1613_s ck_S0) ck_E0⟩ ck_X0 ck_l0 p2_h212_e
set_option maxRecDepth 100000 in
/-- GlacierMailLaw.streams -/
def p2_h213 : ck_Sum := ((8, 1, 6), 245, [.inr (.inr (.inl 1)), .inl (300, 2147483647, []), .inl (0, 1, []), .inr (.inr (.inl 245))], ([], [], []), ([], []), [(.inr (some (.inl (ck_one 1))), 245, ([], [], []))])
set_option maxRecDepth 100000 in
theorem p2_h213_e : ck_ok p2_O none [] [(225, [p2_s1614])] 224 [] 88 p2_h213 = true := by decide +kernel
theorem p2_h213_s {X : Int → Int} {LX : Nat} : ck_Ok p2_O X LX 224 p2_h213 := ck_ok_s ⟨p2_nmu, ck_E1 (ck_S1 p2_s1614_s ck_S0) ck_E0⟩ ck_X0 ck_l0 p2_h213_e
set_option maxRecDepth 100000 in
/-- GlacierMailLaw.streams -/
def p2_h214 : ck_Sum := ((6, 0, 0), 245, [.inr (.inr (.inl 1)), .inl (0, 299, []), .inl (0, 1, []), .inr (.inr (.inl 245))], ([], [(3, 8, 0)], []), ([(1, 15, 15), (206, 2, 8), (220, 3, 3), (221, 0, 47), (245, 0, 0)], []), [(.inr (some (.inl (ck_one 0))), 245, ([], [], [(1, 15, 15, ck_one 1)]))])
set_option maxRecDepth 100000 in
theorem p2_h214_e : ck_ok p2_O none [] [(225, [p2_s1615])] 224 [] 92 p2_h214 = true := by decide +kernel
theorem p2_h214_s {X : Int → Int} {LX : Nat} : ck_Ok p2_O X LX 224 p2_h214 := ck_ok_s ⟨p2_nmu, ck_E1 (ck_S1 p2_s1615_s ck_S0) ck_E0⟩ ck_X0 ck_l0 p2_h214_e
set_option maxRecDepth 100000 in
/-- GlacierMailLaw.range -/
def p2_h215 : ck_Sum := ((9, 1, 6), 245, [.inr (.inr (.inl 1)), .inl ((-2147483648), (-1), []), .inl ((-2147483648), 2147483647, []), .inr (.inr (.inl 245))], ([], [], []), ([], []), [(.inr (some (.inl (ck_one 1))), 245, ([], [], []))])
set_option maxRecDepth 100000 in
theorem p2_h215_e : ck_ok p2_O none [] [(227, [p2_s1619])] 226 [] 88 p2_h215 = true := by decide +kernel
theorem p2_h215_s {X : Int → Int} {LX : Nat} : ck_Ok p2_O X LX 226 p2_h215 := ck_ok_s ⟨p2_nmu, ck_E1 (ck_S1 p2_s1619_s ck_S0) ck_E0⟩ ck_X0 ck_l0 p2_h215_e
set_option maxRecDepth 100000 in
/-- GlacierMailLaw.range -/
def p2_h216 : ck_Sum := ((9, 1, 6), 245, [.inr (.inr (.inl 1)), .inl (6, 2147483647, []), .inl ((-2147483648), 2147483647, []), .inr (.inr (.inl 245))], ([], [], []), ([], []), [(.inr (some (.inl (ck_one 1))), 245, ([], [], []))])
set_option maxRecDepth 100000 in
theorem p2_h216_e : ck_ok p2_O none [] [(227, [p2_s1620])] 226 [] 88 p2_h216 = true := by decide +kernel
theorem p2_h216_s {X : Int → Int} {LX : Nat} : ck_Ok p2_O X LX 226 p2_h216 := ck_ok_s ⟨p2_nmu, ck_E1 (ck_S1 p2_s1620_s ck_S0) ck_E0⟩ ck_X0 ck_l0 p2_h216_e
set_option maxRecDepth 100000 in
/-- GlacierMailLaw.range -/
def p2_h217 : ck_Sum := ((9, 2, 12), 245, [.inr (.inr (.inl 1)), .inl (0, 5, []), .inl ((-2147483648), (-1), []), .inr (.inr (.inl 245))], ([], [], []), ([], []), [(.inr (some (.inl (ck_one 1))), 245, ([], [], [])), (.inr (some (.inl (ck_one 2))), 245, ([], [], []))])
set_option maxRecDepth 100000 in
theorem p2_h217_e : ck_ok p2_O none [] [(227, [p2_s1621])] 226 [] 88 p2_h217 = true := by decide +kernel
theorem p2_h217_s {X : Int → Int} {LX : Nat} : ck_Ok p2_O X LX 226 p2_h217 := ck_ok_s ⟨p2_nmu, ck_E1 (ck_S1 p2_s1621_s ck_S0) ck_E0⟩ ck_X0 ck_l0 p2_h217_e
set_option maxRecDepth 100000 in
/-- GlacierMailLaw.range -/
def p2_h218 : ck_Sum := ((9, 2, 12), 245, [.inr (.inr (.inl 1)), .inl (0, 5, []), .inl (300, 2147483647, []), .inr (.inr (.inl 245))], ([], [], []), ([], []), [(.inr (some (.inl (ck_one 1))), 245, ([], [], [])), (.inr (some (.inl (ck_one 2))), 245, ([], [], []))])
set_option maxRecDepth 100000 in
theorem p2_h218_e : ck_ok p2_O none [] [(227, [p2_s1622])] 226 [] 88 p2_h218 = true := by decide +kernel
theorem p2_h218_s {X : Int → Int} {LX : Nat} : ck_Ok p2_O X LX 226 p2_h218 := ck_ok_s ⟨p2_nmu, ck_E1 (ck_S1 p2_s1622_s ck_S0) ck_E0⟩ ck_X0 ck_l0 p2_h218_e
set_option maxRecDepth 100000 in
/-- GlacierMailLaw.range -/
def p2_h219 : ck_Sum := ((9, 1, 6), 245, [.inr (.inr (.inl 1)), .inl (0, 5, []), .inl (0, 299, []), .inr (.inr (.inl 245))], ([], [(3, 8, 0)], []), ([(206, 2, 8), (245, 0, 0)], []), [(.inr (some (.inl (ck_one 1))), 245, ([], [], [])), (.inr (some (.inl (ck_one 0))), 245, ([], [], [(206, 4, 4, ck_one (-1))]))])
set_option maxRecDepth 100000 in
theorem p2_h219_e : ck_ok p2_O none [] [(227, [p2_s1623])] 226 [] 92 p2_h219 = true := by decide +kernel
theorem p2_h219_s {X : Int → Int} {LX : Nat} : ck_Ok p2_O X LX 226 p2_h219 := ck_ok_s ⟨p2_nmu, ck_E1 (ck_S1 p2_s1623_s ck_S0) ck_E0⟩ ck_X0 ck_l0 p2_h219_e
set_option maxRecDepth 100000 in
/-- GlacierMailLaw.swiftest -/
def p2_h220 : ck_Sum := ((9, 1, 6), 245, [.inr (.inr (.inl 1)), .inl ((-2147483648), (-1), []), .inl ((-2147483648), 2147483647, []), .inr (.inr (.inl 245))], ([], [], []), ([], []), [(.inr (some (.inl (ck_one 1))), 245, ([], [], []))])
set_option maxRecDepth 100000 in
theorem p2_h220_e : ck_ok p2_O none [] [(229, [p2_s1629])] 228 [] 88 p2_h220 = true := by decide +kernel
theorem p2_h220_s {X : Int → Int} {LX : Nat} : ck_Ok p2_O X LX 228 p2_h220 := ck_ok_s ⟨p2_nmu, ck_E1 (ck_S1 p2_s1629_s ck_S0) ck_E0⟩ ck_X0 ck_l0 p2_h220_e
set_option maxRecDepth 100000 in
/-- GlacierMailLaw.swiftest -/
def p2_h221 : ck_Sum := ((9, 1, 6), 245, [.inr (.inr (.inl 1)), .inl (99, 2147483647, []), .inl ((-2147483648), 2147483647, []), .inr (.inr (.inl 245))], ([], [], []), ([], []), [(.inr (some (.inl (ck_one 1))), 245, ([], [], []))])
set_option maxRecDepth 100000 in
theorem p2_h221_e : ck_ok p2_O none [] [(229, [p2_s1630])] 228 [] 88 p2_h221 = true := by decide +kernel
theorem p2_h221_s {X : Int → Int} {LX : Nat} : ck_Ok p2_O X LX 228 p2_h221 := ck_ok_s ⟨p2_nmu, ck_E1 (ck_S1 p2_s1630_s ck_S0) ck_E0⟩ ck_X0 ck_l0 p2_h221_e
set_option maxRecDepth 100000 in
/-- GlacierMailLaw.swiftest -/
def p2_h222 : ck_Sum := ((9, 2, 12), 245, [.inr (.inr (.inl 1)), .inl (0, 98, []), .inl ((-2147483648), (-1), []), .inr (.inr (.inl 245))], ([], [], []), ([], []), [(.inr (some (.inl (ck_one 1))), 245, ([], [], [])), (.inr (some (.inl (ck_one 2))), 245, ([], [], []))])
set_option maxRecDepth 100000 in
theorem p2_h222_e : ck_ok p2_O none [] [(229, [p2_s1631])] 228 [] 88 p2_h222 = true := by decide +kernel
theorem p2_h222_s {X : Int → Int} {LX : Nat} : ck_Ok p2_O X LX 228 p2_h222 := ck_ok_s ⟨p2_nmu, ck_E1 (ck_S1 p2_s1631_s ck_S0) ck_E0⟩ ck_X0 ck_l0 p2_h222_e
set_option maxRecDepth 100000 in
/-- GlacierMailLaw.swiftest -/
def p2_h223 : ck_Sum := ((9, 2, 12), 245, [.inr (.inr (.inl 1)), .inl (0, 98, []), .inl (300, 2147483647, []), .inr (.inr (.inl 245))], ([], [], []), ([], []), [(.inr (some (.inl (ck_one 1))), 245, ([], [], [])), (.inr (some (.inl (ck_one 2))), 245, ([], [], []))])
set_option maxRecDepth 100000 in
theorem p2_h223_e : ck_ok p2_O none [] [(229, [p2_s1632])] 228 [] 88 p2_h223 = true := by decide +kernel
theorem p2_h223_s {X : Int → Int} {LX : Nat} : ck_Ok p2_O X LX 228 p2_h223 := ck_ok_s ⟨p2_nmu, ck_E1 (ck_S1 p2_s1632_s ck_S0) ck_E0⟩ ck_X0 ck_l0 p2_h223_e
set_option maxRecDepth 100000 in
/-- GlacierMailLaw.swiftest -/
def p2_h224 : ck_Sum := ((9, 1, 6), 245, [.inr (.inr (.inl 1)), .inl (0, 98, []), .inl (0, 299, []), .inr (.inr (.inl 245))], ([], [(3, 8, 0)], []), ([(206, 2, 8), (245, 0, 0)], []), [(.inr (some (.inl (ck_one 1))), 245, ([], [], [])), (.inr (some (.inl (ck_one 0))), 245, ([], [], [(245, 0, 0, ((-1), 5, []))]))])
set_option maxRecDepth 100000 in
theorem p2_h224_e : ck_ok p2_O none [] [(229, [p2_s1633])] 228 [] 92 p2_h224 = true := by decide +kernel
theorem p2_h224_s {X : Int → Int} {LX : Nat} : ck_Ok p2_O X LX 228 p2_h224 := ck_ok_s ⟨p2_nmu, ck_E1 (ck_S1 p2_s1633_s ck_S0) ck_E0⟩ ck_X0 ck_l0 p2_h224_e
set_option maxRecDepth 100000 in
/-- GlacierMailLaw.bare -/
def p2_h225 : ck_Sum := ((8, 1, 6), 245, [.inr (.inr (.inl 1)), .inl ((-2147483648), (-1), []), .inr (.inr (.inl 245))], ([], [], []), ([], []), [(.inr (some (.inl (ck_one 1))), 245, ([], [], []))])
set_option maxRecDepth 100000 in
theorem p2_h225_e : ck_ok p2_O none [] [(231, [p2_s1639])] 230 [] 86 p2_h225 = true := by decide +kernel
theorem p2_h225_s {X : Int → Int} {LX : Nat} : ck_Ok p2_O X LX 230 p2_h225 := ck_ok_s ⟨p2_nmu, ck_E1 (ck_S1 p2_s1639_s ck_S0) ck_E0⟩ ck_X0 ck_l0 p2_h225_e
set_option maxRecDepth 100000 in
/-- GlacierMailLaw.bare -/
def p2_h226 : ck_Sum := ((8, 1, 6), 245, [.inr (.inr (.inl 1)), .inl (300, 2147483647, []), .inr (.inr (.inl 245))], ([], [], []), ([], []), [(.inr (some (.inl (ck_one 1))), 245, ([], [], []))])
set_option maxRecDepth 100000 in
theorem p2_h226_e : ck_ok p2_O none [] [(231, [p2_s1640])] 230 [] 86 p2_h226 = true := by decide +kernel
theorem p2_h226_s {X : Int → Int} {LX : Nat} : ck_Ok p2_O X LX 230 p2_h226 := ck_ok_s ⟨p2_nmu, ck_E1 (ck_S1 p2_s1640_s ck_S0) ck_E0⟩ ck_X0 ck_l0 p2_h226_e
set_option maxRecDepth 100000 in
/-- GlacierMailLaw.bare -/
def p2_h227 : ck_Sum := ((5, 0, 0), 245, [.inr (.inr (.inl 1)), .inl (0, 299, []), .inr (.inr (.inl 245))], ([], [(3, 8, 0)], []), ([(206, 2, 8), (245, 0, 0)], []), [(.inr (some (.inl (ck_one 0))), 245, ([], [], []))])
set_option maxRecDepth 100000 in
theorem p2_h227_e : ck_ok p2_O none [] [(231, [p2_s1641])] 230 [] 90 p2_h227 = true := by decide +kernel
theorem p2_h227_s {X : Int → Int} {LX : Nat} : ck_Ok p2_O X LX 230 p2_h227 := ck_ok_s ⟨p2_nmu, ck_E1 (ck_S1 p2_s1641_s ck_S0) ck_E0⟩ ck_X0 ck_l0 p2_h227_e
set_option maxRecDepth 100000 in
/-- GlacierMailLaw.log -/
def p2_h228 : ck_Sum := ((7, 1, 6), 245, [.inr (.inr (.inl 1)), .inl ((-2147483648), (-1), []), .inl ((-2147483648), 2147483647, []), .inr (.inr (.inl 245))], ([], [], []), ([(245, 0, 0)], []), [(.inr (some (.inl (ck_one 1))), 245, ([], [], [])), (.inr (some (.inl (ck_one 0))), 245, ([], [], [(245, 0, 0, ((-1), 299, []))]))])
set_option maxRecDepth 100000 in
theorem p2_h228_e : ck_ok p2_O none [] [(233, [p2_s1646])] 232 [] 92 p2_h228 = true := by decide +kernel
theorem p2_h228_s {X : Int → Int} {LX : Nat} : ck_Ok p2_O X LX 232 p2_h228 := ck_ok_s ⟨p2_nmu, ck_E1 (ck_S1 p2_s1646_s ck_S0) ck_E0⟩ ck_X0 ck_l0 p2_h228_e
set_option maxRecDepth 100000 in
/-- GlacierMailLaw.log -/
def p2_h229 : ck_Sum := ((7, 1, 6), 245, [.inr (.inr (.inl 1)), .inl (24, 2147483647, []), .inl ((-2147483648), 2147483647, []), .inr (.inr (.inl 245))], ([], [], []), ([(245, 0, 0)], []), [(.inr (some (.inl (ck_one 1))), 245, ([], [], [])), (.inr (some (.inl (ck_one 0))), 245, ([], [], [(245, 0, 0, ((-1), 299, []))]))])
set_option maxRecDepth 100000 in
theorem p2_h229_e : ck_ok p2_O none [] [(233, [p2_s1647])] 232 [] 92 p2_h229 = true := by decide +kernel
theorem p2_h229_s {X : Int → Int} {LX : Nat} : ck_Ok p2_O X LX 232 p2_h229 := ck_ok_s ⟨p2_nmu, ck_E1 (ck_S1 p2_s1647_s ck_S0) ck_E0⟩ ck_X0 ck_l0 p2_h229_e
set_option maxRecDepth 100000 in
/-- GlacierMailLaw.log -/
def p2_h230 : ck_Sum := ((7, 1, 6), 245, [.inr (.inr (.inl 1)), .inl (0, 23, []), .inl ((-2147483648), (-1), []), .inr (.inr (.inl 245))], ([], [], []), ([], []), [(.inr (some (.inl (ck_one 1))), 245, ([], [], []))])
set_option maxRecDepth 100000 in
theorem p2_h230_e : ck_ok p2_O none [] [(233, [p2_s1648])] 232 [] 88 p2_h230 = true := by decide +kernel
theorem p2_h230_s {X : Int → Int} {LX : Nat} : ck_Ok p2_O X LX 232 p2_h230 := ck_ok_s ⟨p2_nmu, ck_E1 (ck_S1 p2_s1648_s ck_S0) ck_E0⟩ ck_X0 ck_l0 p2_h230_e
set_option maxRecDepth 100000 in
/-- GlacierMailLaw.log -/
def p2_h231 : ck_Sum := ((7, 1, 6), 245, [.inr (.inr (.inl 1)), .inl (0, 23, []), .inl (10, 2147483647, []), .inr (.inr (.inl 245))], ([], [], []), ([], []), [(.inr (some (.inl (ck_one 1))), 245, ([], [], []))])
set_option maxRecDepth 100000 in
theorem p2_h231_e : ck_ok p2_O none [] [(233, [p2_s1649])] 232 [] 88 p2_h231 = true := by decide +kernel
theorem p2_h231_s {X : Int → Int} {LX : Nat} : ck_Ok p2_O X LX 232 p2_h231 := ck_ok_s ⟨p2_nmu, ck_E1 (ck_S1 p2_s1649_s ck_S0) ck_E0⟩ ck_X0 ck_l0 p2_h231_e
set_option maxRecDepth 100000 in
/-- GlacierMailLaw.log -/
def p2_h232 : ck_Sum := ((7, 1, 6), 245, [.inr (.inr (.inl 1)), .inl (0, 23, []), .inl (0, 9, []), .inr (.inr (.inl 245))], ([], [], []), ([(245, 0, 0)], []), [(.inr (some (.inl (ck_one 0))), 245, ([], [], [(245, 0, 0, ((-1), 299, []))])), (.inr (some (.inl (ck_one 1))), 245, ([], [], []))])
set_option maxRecDepth 100000 in
theorem p2_h232_e : ck_ok p2_O none [] [(233, [p2_s1650])] 232 [] 92 p2_h232 = true := by decide +kernel
theorem p2_h232_s {X : Int → Int} {LX : Nat} : ck_Ok p2_O X LX 232 p2_h232 := ck_ok_s ⟨p2_nmu, ck_E1 (ck_S1 p2_s1650_s ck_S0) ck_E0⟩ ck_X0 ck_l0 p2_h232_e
