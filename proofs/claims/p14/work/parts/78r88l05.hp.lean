/-! THE LAW'S OWN METHODS (laid by wip/am/p2n.py). -/
set_option maxRecDepth 100000 in
/-- GlacierMailLaw.watchman -/
def pl_h203 : ck_Sum := ((8, 1, 6), 249, [.inr (.inr (.inl 1)), .inl (0, 30, []), .inl (0, 1, []), .inr (.inr (.inl 245))], ([], [(3, 8, 246)], [(3, 6, 6, (0, 299, [(10, 0)]))]), ([(1, 15, 15), (200, 6, 6), (204, 0, 9), (205, 0, 14849), (206, 2, 8), (220, 3, 3), (221, 0, 47), (222, 3, 3), (223, 0, 179), (245, 0, 0)], []), [(.inr (some (.inl (ck_one 1))), 249, ([], [], [])), (.inr (some (.inl (ck_one 0))), 249, ([], [], [(245, 0, 0, (0, 2147483647, [])), (1, 15, 15, ck_one 1)]))])
set_option maxRecDepth 100000 in
theorem pl_h203_e : ck_ok p2_OL none [] [(218, [pl_s839])] 217 [] 92 pl_h203 = true := by decide +kernel
theorem pl_h203_s {X : Int → Int} {LX : Nat} : ck_Ok p2_OL X LX 217 pl_h203 := ck_ok_s ⟨pl_nmu, ck_E1 (ck_S1 pl_s839_s ck_S0) ck_E0⟩ ck_X0 ck_l0 pl_h203_e
set_option maxRecDepth 100000 in
/-- GlacierMailLaw.meeting -/
def pl_h204 : ck_Sum := ((9, 1, 6), 249, [.inr (.inr (.inl 1)), .inl ((-2147483648), (-1), []), .inl ((-2147483648), 2147483647, []), .inr (.inr (.inl 245))], ([], [], []), ([], []), [(.inr (some (.inl (ck_one 1))), 249, ([], [], []))])
set_option maxRecDepth 100000 in
theorem pl_h204_e : ck_ok p2_OL none [] [(221, [pl_s840])] 220 [] 88 pl_h204 = true := by decide +kernel
theorem pl_h204_s {X : Int → Int} {LX : Nat} : ck_Ok p2_OL X LX 220 pl_h204 := ck_ok_s ⟨pl_nmu, ck_E1 (ck_S1 pl_s840_s ck_S0) ck_E0⟩ ck_X0 ck_l0 pl_h204_e
set_option maxRecDepth 100000 in
/-- GlacierMailLaw.meeting -/
def pl_h205 : ck_Sum := ((9, 1, 6), 249, [.inr (.inr (.inl 1)), .inl (24, 2147483647, []), .inl ((-2147483648), 2147483647, []), .inr (.inr (.inl 245))], ([], [], []), ([], []), [(.inr (some (.inl (ck_one 1))), 249, ([], [], []))])
set_option maxRecDepth 100000 in
theorem pl_h205_e : ck_ok p2_OL none [] [(221, [pl_s841])] 220 [] 88 pl_h205 = true := by decide +kernel
theorem pl_h205_s {X : Int → Int} {LX : Nat} : ck_Ok p2_OL X LX 220 pl_h205 := ck_ok_s ⟨pl_nmu, ck_E1 (ck_S1 pl_s841_s ck_S0) ck_E0⟩ ck_X0 ck_l0 pl_h205_e
set_option maxRecDepth 100000 in
/-- GlacierMailLaw.meeting -/
def pl_h206 : ck_Sum := ((9, 2, 12), 249, [.inr (.inr (.inl 1)), .inl (0, 23, []), .inl ((-2147483648), (-1), []), .inr (.inr (.inl 245))], ([], [], []), ([], []), [(.inr (some (.inl (ck_one 1))), 249, ([], [], []))])
set_option maxRecDepth 100000 in
theorem pl_h206_e : ck_ok p2_OL none [] [(221, [pl_s842])] 220 [] 88 pl_h206 = true := by decide +kernel
theorem pl_h206_s {X : Int → Int} {LX : Nat} : ck_Ok p2_OL X LX 220 pl_h206 := ck_ok_s ⟨pl_nmu, ck_E1 (ck_S1 pl_s842_s ck_S0) ck_E0⟩ ck_X0 ck_l0 pl_h206_e
set_option maxRecDepth 100000 in
/-- GlacierMailLaw.meeting -/
def pl_h207 : ck_Sum := ((9, 2, 12), 249, [.inr (.inr (.inl 1)), .inl (0, 23, []), .inl (24, 2147483647, []), .inr (.inr (.inl 245))], ([], [], []), ([], []), [(.inr (some (.inl (ck_one 1))), 249, ([], [], []))])
set_option maxRecDepth 100000 in
theorem pl_h207_e : ck_ok p2_OL none [] [(221, [pl_s843])] 220 [] 88 pl_h207 = true := by decide +kernel
theorem pl_h207_s {X : Int → Int} {LX : Nat} : ck_Ok p2_OL X LX 220 pl_h207 := ck_ok_s ⟨pl_nmu, ck_E1 (ck_S1 pl_s843_s ck_S0) ck_E0⟩ ck_X0 ck_l0 pl_h207_e
set_option maxRecDepth 100000 in
/-- GlacierMailLaw.meeting -/
def pl_h208 : ck_Sum := ((9, 3, 18), 249, [.inr (.inr (.inl 1)), .inl (0, 23, []), .inl (0, 23, []), .inr (.inr (.inl 245))], ([], [(3, 8, 246)], [(3, 6, 6, (0, 299, [(10, 0)]))]), ([(200, 6, 6), (204, 0, 9), (205, 0, 14849), (206, 2, 8), (207, 2, 8), (245, 0, 0)], []), [(.inr (some (.inl (ck_one 1))), 249, ([], [], [])), (.inr (some (.inl (ck_one 0))), 249, ([], [], [(245, 0, 0, ((-1), 299, []))])), (.inr (some (.inl (ck_one 2))), 249, ([], [], []))])
set_option maxRecDepth 100000 in
theorem pl_h208_e : ck_ok p2_OL none [] [(221, [pl_s846])] 220 [] 92 pl_h208 = true := by decide +kernel
theorem pl_h208_s {X : Int → Int} {LX : Nat} : ck_Ok p2_OL X LX 220 pl_h208 := ck_ok_s ⟨pl_nmu, ck_E1 (ck_S1 pl_s846_s ck_S0) ck_E0⟩ ck_X0 ck_l0 pl_h208_e
set_option maxRecDepth 100000 in
/-- GlacierMailLaw.outs -/
def pl_h209 : ck_Sum := ((8, 1, 6), 249, [.inr (.inr (.inl 1)), .inl ((-2147483648), (-1), []), .inr (.inr (.inl 245))], ([], [], []), ([], []), [(.inr (some (.inl (ck_one 1))), 249, ([], [], []))])
set_option maxRecDepth 100000 in
theorem pl_h209_e : ck_ok p2_OL none [] [(223, [pl_s847])] 222 [] 86 pl_h209 = true := by decide +kernel
theorem pl_h209_s {X : Int → Int} {LX : Nat} : ck_Ok p2_OL X LX 222 pl_h209 := ck_ok_s ⟨pl_nmu, ck_E1 (ck_S1 pl_s847_s ck_S0) ck_E0⟩ ck_X0 ck_l0 pl_h209_e
set_option maxRecDepth 100000 in
/-- GlacierMailLaw.outs -/
def pl_h210 : ck_Sum := ((8, 1, 6), 249, [.inr (.inr (.inl 1)), .inl (300, 2147483647, []), .inr (.inr (.inl 245))], ([], [], []), ([], []), [(.inr (some (.inl (ck_one 1))), 249, ([], [], []))])
set_option maxRecDepth 100000 in
theorem pl_h210_e : ck_ok p2_OL none [] [(223, [pl_s848])] 222 [] 86 pl_h210 = true := by decide +kernel
theorem pl_h210_s {X : Int → Int} {LX : Nat} : ck_Ok p2_OL X LX 222 pl_h210 := ck_ok_s ⟨pl_nmu, ck_E1 (ck_S1 pl_s848_s ck_S0) ck_E0⟩ ck_X0 ck_l0 pl_h210_e
set_option maxRecDepth 100000 in
/-- GlacierMailLaw.outs -/
def pl_h211 : ck_Sum := ((7, 0, 0), 249, [.inr (.inr (.inl 1)), .inl (0, 299, []), .inr (.inr (.inl 245))], ([], [(3, 8, 246)], []), ([(1, 15, 15), (200, 6, 6), (204, 0, 9), (205, 0, 14849), (206, 2, 8), (220, 3, 3), (221, 0, 47), (245, 0, 0)], []), [(.inr (some (.inl (ck_one 0))), 249, ([], [], [(1, 15, 15, ck_one 1)]))])
set_option maxRecDepth 100000 in
theorem pl_h211_e : ck_ok p2_OL none [] [(223, [pl_s850])] 222 [] 90 pl_h211 = true := by decide +kernel
theorem pl_h211_s {X : Int → Int} {LX : Nat} : ck_Ok p2_OL X LX 222 pl_h211 := ck_ok_s ⟨pl_nmu, ck_E1 (ck_S1 pl_s850_s ck_S0) ck_E0⟩ ck_X0 ck_l0 pl_h211_e
set_option maxRecDepth 100000 in
/-- GlacierMailLaw.streams -/
def pl_h212 : ck_Sum := ((8, 1, 6), 249, [.inr (.inr (.inl 1)), .inl ((-2147483648), (-1), []), .inl (0, 1, []), .inr (.inr (.inl 245))], ([], [], []), ([], []), [(.inr (some (.inl (ck_one 1))), 249, ([], [], []))])
set_option maxRecDepth 100000 in
theorem pl_h212_e : ck_ok p2_OL none [] [(225, [pl_s853])] 224 [] 88 pl_h212 = true := by decide +kernel
theorem pl_h212_s {X : Int → Int} {LX : Nat} : ck_Ok p2_OL X LX 224 pl_h212 := ck_ok_s ⟨pl_nmu, ck_E1 (ck_S1 pl_s853_s ck_S0) ck_E0⟩ ck_X0 ck_l0 pl_h212_e
set_option maxRecDepth 100000 in
/-- GlacierMailLaw.streams -/
def pl_h213 : ck_Sum := ((8, 1, 6), 249, [.inr (.inr (.inl 1)), .inl (300, 2147483647, []), .inl (0, 1, []), .inr (.inr (.inl 245))], ([], [], []), ([], []), [(.inr (some (.inl (ck_one 1))), 249, ([], [], []))])
set_option maxRecDepth 100000 in
theorem pl_h213_e : ck_ok p2_OL none [] [(225, [pl_s854])] 224 [] 88 pl_h213 = true := by decide +kernel
theorem pl_h213_s {X : Int → Int} {LX : Nat} : ck_Ok p2_OL X LX 224 pl_h213 := ck_ok_s ⟨pl_nmu, ck_E1 (ck_S1 pl_s854_s ck_S0) ck_E0⟩ ck_X0 ck_l0 pl_h213_e
set_option maxRecDepth 100000 in
/-- GlacierMailLaw.streams -/
def pl_h214 : ck_Sum := ((7, 0, 0), 249, [.inr (.inr (.inl 1)), .inl (0, 299, []), .inl (0, 1, []), .inr (.inr (.inl 245))], ([], [(3, 8, 246)], []), ([(1, 15, 15), (200, 6, 6), (204, 0, 9), (205, 0, 14849), (206, 2, 8), (220, 3, 3), (221, 0, 47), (245, 0, 0)], []), [(.inr (some (.inl (ck_one 0))), 249, ([], [], [(1, 15, 15, ck_one 1)]))])
set_option maxRecDepth 100000 in
theorem pl_h214_e : ck_ok p2_OL none [] [(225, [pl_s855])] 224 [] 92 pl_h214 = true := by decide +kernel
theorem pl_h214_s {X : Int → Int} {LX : Nat} : ck_Ok p2_OL X LX 224 pl_h214 := ck_ok_s ⟨pl_nmu, ck_E1 (ck_S1 pl_s855_s ck_S0) ck_E0⟩ ck_X0 ck_l0 pl_h214_e
set_option maxRecDepth 100000 in
/-- GlacierMailLaw.range -/
def pl_h215 : ck_Sum := ((9, 1, 6), 249, [.inr (.inr (.inl 1)), .inl ((-2147483648), (-1), []), .inl ((-2147483648), 2147483647, []), .inr (.inr (.inl 245))], ([], [], []), ([], []), [(.inr (some (.inl (ck_one 1))), 249, ([], [], []))])
set_option maxRecDepth 100000 in
theorem pl_h215_e : ck_ok p2_OL none [] [(227, [pl_s856])] 226 [] 88 pl_h215 = true := by decide +kernel
theorem pl_h215_s {X : Int → Int} {LX : Nat} : ck_Ok p2_OL X LX 226 pl_h215 := ck_ok_s ⟨pl_nmu, ck_E1 (ck_S1 pl_s856_s ck_S0) ck_E0⟩ ck_X0 ck_l0 pl_h215_e
set_option maxRecDepth 100000 in
/-- GlacierMailLaw.range -/
def pl_h216 : ck_Sum := ((9, 1, 6), 249, [.inr (.inr (.inl 1)), .inl (6, 2147483647, []), .inl ((-2147483648), 2147483647, []), .inr (.inr (.inl 245))], ([], [], []), ([], []), [(.inr (some (.inl (ck_one 1))), 249, ([], [], []))])
set_option maxRecDepth 100000 in
theorem pl_h216_e : ck_ok p2_OL none [] [(227, [pl_s857])] 226 [] 88 pl_h216 = true := by decide +kernel
theorem pl_h216_s {X : Int → Int} {LX : Nat} : ck_Ok p2_OL X LX 226 pl_h216 := ck_ok_s ⟨pl_nmu, ck_E1 (ck_S1 pl_s857_s ck_S0) ck_E0⟩ ck_X0 ck_l0 pl_h216_e
set_option maxRecDepth 100000 in
/-- GlacierMailLaw.range -/
def pl_h217 : ck_Sum := ((9, 2, 12), 249, [.inr (.inr (.inl 1)), .inl (0, 5, []), .inl ((-2147483648), (-1), []), .inr (.inr (.inl 245))], ([], [], []), ([], []), [(.inr (some (.inl (ck_one 1))), 249, ([], [], [])), (.inr (some (.inl (ck_one 2))), 249, ([], [], []))])
set_option maxRecDepth 100000 in
theorem pl_h217_e : ck_ok p2_OL none [] [(227, [pl_s858])] 226 [] 88 pl_h217 = true := by decide +kernel
theorem pl_h217_s {X : Int → Int} {LX : Nat} : ck_Ok p2_OL X LX 226 pl_h217 := ck_ok_s ⟨pl_nmu, ck_E1 (ck_S1 pl_s858_s ck_S0) ck_E0⟩ ck_X0 ck_l0 pl_h217_e
set_option maxRecDepth 100000 in
/-- GlacierMailLaw.range -/
def pl_h218 : ck_Sum := ((9, 2, 12), 249, [.inr (.inr (.inl 1)), .inl (0, 5, []), .inl (300, 2147483647, []), .inr (.inr (.inl 245))], ([], [], []), ([], []), [(.inr (some (.inl (ck_one 1))), 249, ([], [], [])), (.inr (some (.inl (ck_one 2))), 249, ([], [], []))])
set_option maxRecDepth 100000 in
theorem pl_h218_e : ck_ok p2_OL none [] [(227, [pl_s859])] 226 [] 88 pl_h218 = true := by decide +kernel
theorem pl_h218_s {X : Int → Int} {LX : Nat} : ck_Ok p2_OL X LX 226 pl_h218 := ck_ok_s ⟨pl_nmu, ck_E1 (ck_S1 pl_s859_s ck_S0) ck_E0⟩ ck_X0 ck_l0 pl_h218_e
set_option maxRecDepth 100000 in
/-- GlacierMailLaw.range -/
def pl_h219 : ck_Sum := ((9, 1, 6), 249, [.inr (.inr (.inl 1)), .inl (0, 5, []), .inl (0, 299, []), .inr (.inr (.inl 245))], ([], [(3, 8, 246)], []), ([(200, 6, 6), (204, 0, 9), (205, 0, 14849), (206, 2, 8), (245, 0, 0)], []), [(.inr (some (.inl (ck_one 1))), 249, ([], [], [])), (.inr (some (.inl (ck_one 0))), 249, ([], [], [(206, 4, 4, ck_one (-1))]))])
set_option maxRecDepth 100000 in
theorem pl_h219_e : ck_ok p2_OL none [] [(227, [pl_s860])] 226 [] 92 pl_h219 = true := by decide +kernel
theorem pl_h219_s {X : Int → Int} {LX : Nat} : ck_Ok p2_OL X LX 226 pl_h219 := ck_ok_s ⟨pl_nmu, ck_E1 (ck_S1 pl_s860_s ck_S0) ck_E0⟩ ck_X0 ck_l0 pl_h219_e
set_option maxRecDepth 100000 in
/-- GlacierMailLaw.swiftest -/
def pl_h220 : ck_Sum := ((9, 1, 6), 249, [.inr (.inr (.inl 1)), .inl ((-2147483648), (-1), []), .inl ((-2147483648), 2147483647, []), .inr (.inr (.inl 245))], ([], [], []), ([], []), [(.inr (some (.inl (ck_one 1))), 249, ([], [], []))])
set_option maxRecDepth 100000 in
theorem pl_h220_e : ck_ok p2_OL none [] [(229, [pl_s861])] 228 [] 88 pl_h220 = true := by decide +kernel
theorem pl_h220_s {X : Int → Int} {LX : Nat} : ck_Ok p2_OL X LX 228 pl_h220 := ck_ok_s ⟨pl_nmu, ck_E1 (ck_S1 pl_s861_s ck_S0) ck_E0⟩ ck_X0 ck_l0 pl_h220_e
set_option maxRecDepth 100000 in
/-- GlacierMailLaw.swiftest -/
def pl_h221 : ck_Sum := ((9, 1, 6), 249, [.inr (.inr (.inl 1)), .inl (99, 2147483647, []), .inl ((-2147483648), 2147483647, []), .inr (.inr (.inl 245))], ([], [], []), ([], []), [(.inr (some (.inl (ck_one 1))), 249, ([], [], []))])
set_option maxRecDepth 100000 in
theorem pl_h221_e : ck_ok p2_OL none [] [(229, [pl_s862])] 228 [] 88 pl_h221 = true := by decide +kernel
theorem pl_h221_s {X : Int → Int} {LX : Nat} : ck_Ok p2_OL X LX 228 pl_h221 := ck_ok_s ⟨pl_nmu, ck_E1 (ck_S1 pl_s862_s ck_S0) ck_E0⟩ ck_X0 ck_l0 pl_h221_e
set_option maxRecDepth 100000 in
/-- GlacierMailLaw.swiftest -/
def pl_h222 : ck_Sum := ((9, 2, 12), 249, [.inr (.inr (.inl 1)), .inl (0, 98, []), .inl ((-2147483648), (-1), []), .inr (.inr (.inl 245))], ([], [], []), ([], []), [(.inr (some (.inl (ck_one 1))), 249, ([], [], [])), (.inr (some (.inl (ck_one 2))), 249, ([], [], []))])
set_option maxRecDepth 100000 in
theorem pl_h222_e : ck_ok p2_OL none [] [(229, [pl_s863])] 228 [] 88 pl_h222 = true := by decide +kernel
theorem pl_h222_s {X : Int → Int} {LX : Nat} : ck_Ok p2_OL X LX 228 pl_h222 := ck_ok_s ⟨pl_nmu, ck_E1 (ck_S1 pl_s863_s ck_S0) ck_E0⟩ ck_X0 ck_l0 pl_h222_e
set_option maxRecDepth 100000 in
/-- GlacierMailLaw.swiftest -/
def pl_h223 : ck_Sum := ((9, 2, 12), 249, [.inr (.inr (.inl 1)), .inl (0, 98, []), .inl (300, 2147483647, []), .inr (.inr (.inl 245))], ([], [], []), ([], []), [(.inr (some (.inl (ck_one 1))), 249, ([], [], [])), (.inr (some (.inl (ck_one 2))), 249, ([], [], []))])
set_option maxRecDepth 100000 in
theorem pl_h223_e : ck_ok p2_OL none [] [(229, [pl_s864])] 228 [] 88 pl_h223 = true := by decide +kernel
theorem pl_h223_s {X : Int → Int} {LX : Nat} : ck_Ok p2_OL X LX 228 pl_h223 := ck_ok_s ⟨pl_nmu, ck_E1 (ck_S1 pl_s864_s ck_S0) ck_E0⟩ ck_X0 ck_l0 pl_h223_e
set_option maxRecDepth 100000 in
/-- GlacierMailLaw.swiftest -/
def pl_h224 : ck_Sum := ((9, 1, 6), 249, [.inr (.inr (.inl 1)), .inl (0, 98, []), .inl (0, 299, []), .inr (.inr (.inl 245))], ([], [(3, 8, 246)], []), ([(200, 6, 6), (204, 0, 9), (205, 0, 14849), (206, 2, 8), (245, 0, 0)], []), [(.inr (some (.inl (ck_one 1))), 249, ([], [], [])), (.inr (some (.inl (ck_one 0))), 249, ([], [], [(245, 0, 0, ((-1), 5, []))]))])
set_option maxRecDepth 100000 in
theorem pl_h224_e : ck_ok p2_OL none [] [(229, [pl_s865])] 228 [] 92 pl_h224 = true := by decide +kernel
theorem pl_h224_s {X : Int → Int} {LX : Nat} : ck_Ok p2_OL X LX 228 pl_h224 := ck_ok_s ⟨pl_nmu, ck_E1 (ck_S1 pl_s865_s ck_S0) ck_E0⟩ ck_X0 ck_l0 pl_h224_e
set_option maxRecDepth 100000 in
/-- GlacierMailLaw.bare -/
def pl_h225 : ck_Sum := ((8, 1, 6), 249, [.inr (.inr (.inl 1)), .inl ((-2147483648), (-1), []), .inr (.inr (.inl 245))], ([], [], []), ([], []), [(.inr (some (.inl (ck_one 1))), 249, ([], [], []))])
set_option maxRecDepth 100000 in
theorem pl_h225_e : ck_ok p2_OL none [] [(231, [pl_s866])] 230 [] 86 pl_h225 = true := by decide +kernel
theorem pl_h225_s {X : Int → Int} {LX : Nat} : ck_Ok p2_OL X LX 230 pl_h225 := ck_ok_s ⟨pl_nmu, ck_E1 (ck_S1 pl_s866_s ck_S0) ck_E0⟩ ck_X0 ck_l0 pl_h225_e
set_option maxRecDepth 100000 in
/-- GlacierMailLaw.bare -/
def pl_h226 : ck_Sum := ((8, 1, 6), 249, [.inr (.inr (.inl 1)), .inl (300, 2147483647, []), .inr (.inr (.inl 245))], ([], [], []), ([], []), [(.inr (some (.inl (ck_one 1))), 249, ([], [], []))])
set_option maxRecDepth 100000 in
theorem pl_h226_e : ck_ok p2_OL none [] [(231, [pl_s867])] 230 [] 86 pl_h226 = true := by decide +kernel
theorem pl_h226_s {X : Int → Int} {LX : Nat} : ck_Ok p2_OL X LX 230 pl_h226 := ck_ok_s ⟨pl_nmu, ck_E1 (ck_S1 pl_s867_s ck_S0) ck_E0⟩ ck_X0 ck_l0 pl_h226_e
set_option maxRecDepth 100000 in
/-- GlacierMailLaw.bare -/
def pl_h227 : ck_Sum := ((6, 0, 0), 249, [.inr (.inr (.inl 1)), .inl (0, 299, []), .inr (.inr (.inl 245))], ([], [(3, 8, 246)], []), ([(200, 6, 6), (204, 0, 9), (205, 0, 14849), (206, 2, 8), (245, 0, 0)], []), [(.inr (some (.inl (ck_one 0))), 249, ([], [], []))])
set_option maxRecDepth 100000 in
theorem pl_h227_e : ck_ok p2_OL none [] [(231, [pl_s868])] 230 [] 90 pl_h227 = true := by decide +kernel
theorem pl_h227_s {X : Int → Int} {LX : Nat} : ck_Ok p2_OL X LX 230 pl_h227 := ck_ok_s ⟨pl_nmu, ck_E1 (ck_S1 pl_s868_s ck_S0) ck_E0⟩ ck_X0 ck_l0 pl_h227_e
set_option maxRecDepth 100000 in
/-- GlacierMailLaw.log -/
def pl_h228 : ck_Sum := ((7, 1, 6), 249, [.inr (.inr (.inl 1)), .inl ((-2147483648), (-1), []), .inl ((-2147483648), 2147483647, []), .inr (.inr (.inl 245))], ([], [], []), ([(245, 0, 0)], []), [(.inr (some (.inl (ck_one 1))), 249, ([], [], [])), (.inr (some (.inl (ck_one 0))), 249, ([], [], [(245, 0, 0, ((-1), 299, []))]))])
set_option maxRecDepth 100000 in
theorem pl_h228_e : ck_ok p2_OL none [] [(233, [pl_s870])] 232 [] 92 pl_h228 = true := by decide +kernel
theorem pl_h228_s {X : Int → Int} {LX : Nat} : ck_Ok p2_OL X LX 232 pl_h228 := ck_ok_s ⟨pl_nmu, ck_E1 (ck_S1 pl_s870_s ck_S0) ck_E0⟩ ck_X0 ck_l0 pl_h228_e
set_option maxRecDepth 100000 in
/-- GlacierMailLaw.log -/
def pl_h229 : ck_Sum := ((7, 1, 6), 249, [.inr (.inr (.inl 1)), .inl (24, 2147483647, []), .inl ((-2147483648), 2147483647, []), .inr (.inr (.inl 245))], ([], [], []), ([(245, 0, 0)], []), [(.inr (some (.inl (ck_one 1))), 249, ([], [], [])), (.inr (some (.inl (ck_one 0))), 249, ([], [], [(245, 0, 0, ((-1), 299, []))]))])
set_option maxRecDepth 100000 in
theorem pl_h229_e : ck_ok p2_OL none [] [(233, [pl_s871])] 232 [] 92 pl_h229 = true := by decide +kernel
theorem pl_h229_s {X : Int → Int} {LX : Nat} : ck_Ok p2_OL X LX 232 pl_h229 := ck_ok_s ⟨pl_nmu, ck_E1 (ck_S1 pl_s871_s ck_S0) ck_E0⟩ ck_X0 ck_l0 pl_h229_e
set_option maxRecDepth 100000 in
/-- GlacierMailLaw.log -/
def pl_h230 : ck_Sum := ((7, 1, 6), 249, [.inr (.inr (.inl 1)), .inl (0, 23, []), .inl ((-2147483648), (-1), []), .inr (.inr (.inl 245))], ([], [], []), ([], []), [(.inr (some (.inl (ck_one 1))), 249, ([], [], []))])
set_option maxRecDepth 100000 in
theorem pl_h230_e : ck_ok p2_OL none [] [(233, [pl_s872])] 232 [] 88 pl_h230 = true := by decide +kernel
theorem pl_h230_s {X : Int → Int} {LX : Nat} : ck_Ok p2_OL X LX 232 pl_h230 := ck_ok_s ⟨pl_nmu, ck_E1 (ck_S1 pl_s872_s ck_S0) ck_E0⟩ ck_X0 ck_l0 pl_h230_e
set_option maxRecDepth 100000 in
/-- GlacierMailLaw.log -/
def pl_h231 : ck_Sum := ((7, 1, 6), 249, [.inr (.inr (.inl 1)), .inl (0, 23, []), .inl (10, 2147483647, []), .inr (.inr (.inl 245))], ([], [], []), ([], []), [(.inr (some (.inl (ck_one 1))), 249, ([], [], []))])
set_option maxRecDepth 100000 in
theorem pl_h231_e : ck_ok p2_OL none [] [(233, [pl_s873])] 232 [] 88 pl_h231 = true := by decide +kernel
theorem pl_h231_s {X : Int → Int} {LX : Nat} : ck_Ok p2_OL X LX 232 pl_h231 := ck_ok_s ⟨pl_nmu, ck_E1 (ck_S1 pl_s873_s ck_S0) ck_E0⟩ ck_X0 ck_l0 pl_h231_e
set_option maxRecDepth 100000 in
/-- GlacierMailLaw.log -/
def pl_h232 : ck_Sum := ((7, 1, 6), 249, [.inr (.inr (.inl 1)), .inl (0, 23, []), .inl (0, 9, []), .inr (.inr (.inl 245))], ([], [], []), ([(245, 0, 0)], []), [(.inr (some (.inl (ck_one 0))), 249, ([], [], [(245, 0, 0, ((-1), 299, []))])), (.inr (some (.inl (ck_one 1))), 249, ([], [], []))])
set_option maxRecDepth 100000 in
theorem pl_h232_e : ck_ok p2_OL none [] [(233, [pl_s874])] 232 [] 92 pl_h232 = true := by decide +kernel
theorem pl_h232_s {X : Int → Int} {LX : Nat} : ck_Ok p2_OL X LX 232 pl_h232 := ck_ok_s ⟨pl_nmu, ck_E1 (ck_S1 pl_s874_s ck_S0) ck_E0⟩ ck_X0 ck_l0 pl_h232_e
