/-! EVERY CALL ENDS, whatever was done before (laid by wip/am/p2g.py). -/
set_option maxRecDepth 100000 in
/-- GlacierMail.reached -/
def p2_s1917 : ck_Sum := ((8, 1, 6), 245, [.inr (.inr (.inl 1)), .inl (0, 7, []), .inl (0, 299, [])], ([], [(3, 8, 0)], [(3, 6, 6, (0, 299, [(10, 0)]))]), ([(206, 2, 8), (209, 3, 3), (210, 0, 2399), (211, 3, 3), (212, 0, 2399)], []), [(.inl 3, 245, ([], [], [])), (.inr (some (.inl ((-2147483648), 2147483647, []))), 245, ([], [], [(206, 4, 4, ck_one (-1))]))])
set_option maxRecDepth 100000 in
theorem p2_s1917_e : ck_ok p2_O none [] [(139, [p2_s356]), (129, [p2_s280]), (202, [p2_s1910]), (9, [p2_s348]), (204, [p2_s1849])] 211 [(27, [some (.inr (.inr (.inl 1))), some (.inl (0, 7, [])), some (.inl (0, 299, [])), some (.inl ((-2147483648), 2147483647, [])), some (.inl (0, 8, []))], ([], [(3, 8, 0)], [(206, 4, 4, ck_one (-1)), (3, 6, 6, (0, 299, [(10, 0)]))]), 100, .inl 4, true)] 174 p2_s1917 = true := by decide +kernel
theorem p2_s1917_s {X : Int → Int} {LX : Nat} : ck_Ok p2_O X LX 211 p2_s1917 := ck_ok_s ⟨p2_nmu, ck_E1 (ck_S1 p2_s356_s ck_S0) (ck_E1 (ck_S1 p2_s280_s ck_S0) (ck_E1 (ck_S1 p2_s1910_s ck_S0) (ck_E1 (ck_S1 p2_s348_s ck_S0) (ck_E1 (ck_S1 p2_s1849_s ck_S0) ck_E0))))⟩ ck_X0 ck_l0 p2_s1917_e
set_option maxRecDepth 100000 in
/-- GlacierMailModel.reached -/
def p2_s1918 : ck_Sum := ((2, 0, 0), 245, [.inr (.inr (.inl 226)), .inl ((-2147483648), (-1), []), .inl ((-2147483648), 2147483647, [])], ([], [], [(227, 3, 3, (0, 8, [(21, 0)]))]), ([(226, 0, 0)], []), [(.inr (some (.inl (ck_one 0))), 245, ([], [], [(226, 0, 0, ck_one 1)]))])
set_option maxRecDepth 100000 in
theorem p2_s1918_e : ck_ok p2_O none [] [(298, [p2_s441]), (282, [p2_s268])] 356 [] 94 p2_s1918 = true := by decide +kernel
theorem p2_s1918_s {X : Int → Int} {LX : Nat} : ck_Ok p2_O X LX 356 p2_s1918 := ck_ok_s ⟨p2_nmu, ck_E1 (ck_S1 p2_s441_s ck_S0) (ck_E1 (ck_S1 p2_s268_s ck_S0) ck_E0)⟩ ck_X0 ck_l0 p2_s1918_e
set_option maxRecDepth 100000 in
/-- GlacierMailModel.reached -/
def p2_s1919 : ck_Sum := ((2, 0, 0), 245, [.inr (.inr (.inl 226)), .inl (8, 2147483647, []), .inl ((-2147483648), 2147483647, [])], ([], [], [(227, 3, 3, (0, 8, [(21, 0)]))]), ([(226, 0, 0)], []), [(.inr (some (.inl (ck_one 0))), 245, ([], [], [(226, 0, 0, ck_one 1)]))])
set_option maxRecDepth 100000 in
theorem p2_s1919_e : ck_ok p2_O none [] [(298, [p2_s444]), (282, [p2_s268])] 356 [] 94 p2_s1919 = true := by decide +kernel
theorem p2_s1919_s {X : Int → Int} {LX : Nat} : ck_Ok p2_O X LX 356 p2_s1919 := ck_ok_s ⟨p2_nmu, ck_E1 (ck_S1 p2_s444_s ck_S0) (ck_E1 (ck_S1 p2_s268_s ck_S0) ck_E0)⟩ ck_X0 ck_l0 p2_s1919_e
set_option maxRecDepth 100000 in
/-- GlacierMailModel.reached -/
def p2_s1920 : ck_Sum := ((2, 0, 0), 245, [.inr (.inr (.inl 226)), .inl (0, 7, []), .inl ((-2147483648), (-1), [])], ([], [], [(227, 3, 3, (0, 8, [(21, 0)]))]), ([(226, 0, 0)], []), [(.inr (some (.inl (ck_one 0))), 245, ([], [], [(226, 0, 0, (1, 2, []))]))])
set_option maxRecDepth 100000 in
theorem p2_s1920_e : ck_ok p2_O none [] [(298, [p2_s447]), (282, [p2_s268, p2_s269, p2_s272]), (285, [p2_s284])] 356 [] 106 p2_s1920 = true := by decide +kernel
theorem p2_s1920_s {X : Int → Int} {LX : Nat} : ck_Ok p2_O X LX 356 p2_s1920 := ck_ok_s ⟨p2_nmu, ck_E1 (ck_S1 p2_s447_s ck_S0) (ck_E1 (ck_S1 p2_s268_s (ck_S1 p2_s269_s (ck_S1 p2_s272_s ck_S0))) (ck_E1 (ck_S1 p2_s284_s ck_S0) ck_E0))⟩ ck_X0 ck_l0 p2_s1920_e
set_option maxRecDepth 100000 in
/-- GlacierMailModel.reached -/
def p2_s1921 : ck_Sum := ((2, 0, 0), 245, [.inr (.inr (.inl 226)), .inl (0, 7, []), .inl (300, 2147483647, [])], ([], [], [(227, 3, 3, (0, 8, [(21, 0)]))]), ([(226, 0, 0)], []), [(.inr (some (.inl (ck_one 0))), 245, ([], [], [(226, 0, 0, (1, 2, []))]))])
set_option maxRecDepth 100000 in
theorem p2_s1921_e : ck_ok p2_O none [] [(298, [p2_s447]), (282, [p2_s268, p2_s269, p2_s272]), (285, [p2_s287])] 356 [] 106 p2_s1921 = true := by decide +kernel
theorem p2_s1921_s {X : Int → Int} {LX : Nat} : ck_Ok p2_O X LX 356 p2_s1921 := ck_ok_s ⟨p2_nmu, ck_E1 (ck_S1 p2_s447_s ck_S0) (ck_E1 (ck_S1 p2_s268_s (ck_S1 p2_s269_s (ck_S1 p2_s272_s ck_S0))) (ck_E1 (ck_S1 p2_s287_s ck_S0) ck_E0))⟩ ck_X0 ck_l0 p2_s1921_e
set_option maxRecDepth 100000 in
/-- GlacierMail.needThiefYears -/
def p2_s1930 : ck_Sum := ((6, 1, 6), 245, [.inr (.inr (.inl 1)), .inl ((-2147483648), (-1), [])], ([], [], []), ([], []), [(.inl 0, 245, ([], [], []))])
set_option maxRecDepth 100000 in
theorem p2_s1930_e : ck_ok p2_O none [] [] 214 [] 78 p2_s1930 = true := by decide +kernel
theorem p2_s1930_s {X : Int → Int} {LX : Nat} : ck_Ok p2_O X LX 214 p2_s1930 := ck_ok_s ⟨p2_nmu, ck_E0⟩ ck_X0 ck_l0 p2_s1930_e
set_option maxRecDepth 100000 in
/-- GlacierMail.thieves -/
def p2_s1931 : ck_Sum := ((7, 1, 6), 245, [.inr (.inr (.inl 1)), .inl ((-2147483648), (-1), []), .inl (0, 1, [])], ([], [], []), ([], []), [(.inl 0, 245, ([], [], []))])
set_option maxRecDepth 100000 in
theorem p2_s1931_e : ck_ok p2_O none [] [(214, [p2_s1930])] 213 [] 76 p2_s1931 = true := by decide +kernel
theorem p2_s1931_s {X : Int → Int} {LX : Nat} : ck_Ok p2_O X LX 213 p2_s1931 := ck_ok_s ⟨p2_nmu, ck_E1 (ck_S1 p2_s1930_s ck_S0) ck_E0⟩ ck_X0 ck_l0 p2_s1931_e
set_option maxRecDepth 100000 in
/-- GlacierMail.needThiefYears -/
def p2_s1932 : ck_Sum := ((6, 1, 6), 245, [.inr (.inr (.inl 1)), .inl (31, 2147483647, [])], ([], [], []), ([], []), [(.inl 0, 245, ([], [], []))])
set_option maxRecDepth 100000 in
theorem p2_s1932_e : ck_ok p2_O none [] [] 214 [] 84 p2_s1932 = true := by decide +kernel
theorem p2_s1932_s {X : Int → Int} {LX : Nat} : ck_Ok p2_O X LX 214 p2_s1932 := ck_ok_s ⟨p2_nmu, ck_E0⟩ ck_X0 ck_l0 p2_s1932_e
set_option maxRecDepth 100000 in
/-- GlacierMail.thieves -/
def p2_s1933 : ck_Sum := ((7, 1, 6), 245, [.inr (.inr (.inl 1)), .inl (31, 2147483647, []), .inl (0, 1, [])], ([], [], []), ([], []), [(.inl 0, 245, ([], [], []))])
set_option maxRecDepth 100000 in
theorem p2_s1933_e : ck_ok p2_O none [] [(214, [p2_s1932])] 213 [] 76 p2_s1933 = true := by decide +kernel
theorem p2_s1933_s {X : Int → Int} {LX : Nat} : ck_Ok p2_O X LX 213 p2_s1933 := ck_ok_s ⟨p2_nmu, ck_E1 (ck_S1 p2_s1932_s ck_S0) ck_E0⟩ ck_X0 ck_l0 p2_s1933_e
set_option maxRecDepth 100000 in
/-- GlacierMail.needThiefYears -/
def p2_s1934 : ck_Sum := ((6, 1, 6), 245, [.inr (.inr (.inl 1)), .inl (0, 30, [])], ([], [], []), ([], []), [(.inl 0, 245, ([], [], [])), (.inr none, 245, ([], [], []))])
set_option maxRecDepth 100000 in
theorem p2_s1934_e : ck_ok p2_O none [] [] 214 [] 84 p2_s1934 = true := by decide +kernel
theorem p2_s1934_s {X : Int → Int} {LX : Nat} : ck_Ok p2_O X LX 214 p2_s1934 := ck_ok_s ⟨p2_nmu, ck_E0⟩ ck_X0 ck_l0 p2_s1934_e
set_option maxRecDepth 100000 in
/-- java/util/Arrays.fill -/
def p2_s1935 : ck_Sum := ((0, 0, 0), 245, [.inr (.inr (.inl 223)), .inl (ck_one 0)], ([], [], []), ([(223, 0, 179)], []), [(.inr none, 245, ([], [], []))])
set_option maxRecDepth 100000 in
theorem p2_s1935_e : ck_ok p2_O none [] [] 8 [(5, [some (.inr (.inr (.inl 223))), some (.inl (ck_one 0)), some (.inl (0, 180, [])), some (.inl (ck_one 180))], ([], [], []), 100, .inl 2, true)] 130 p2_s1935 = true := by decide +kernel
theorem p2_s1935_s {X : Int → Int} {LX : Nat} : ck_Ok p2_O X LX 8 p2_s1935 := ck_ok_s ⟨p2_nmu, ck_E0⟩ ck_X0 ck_l0 p2_s1935_e
set_option maxRecDepth 100000 in
/-- GlacierMail$Rows.reset -/
def p2_s1936 : ck_Sum := ((1, 0, 0), 245, [.inr (.inr (.inl 222)), .inl (0, 30, [])], ([], [], []), ([(222, 3, 3), (223, 0, 179)], []), [(.inr none, 245, ([], [], []))])
set_option maxRecDepth 100000 in
theorem p2_s1936_e : ck_ok p2_O none [] [(8, [p2_s1935])] 25 [] 96 p2_s1936 = true := by decide +kernel
theorem p2_s1936_s {X : Int → Int} {LX : Nat} : ck_Ok p2_O X LX 25 p2_s1936 := ck_ok_s ⟨p2_nmu, ck_E1 (ck_S1 p2_s1935_s ck_S0) ck_E0⟩ ck_X0 ck_l0 p2_s1936_e
set_option maxRecDepth 100000 in
/-- GlacierMail$Rows.get -/
def p2_s1937 : ck_Sum := ((0, 0, 0), 245, [.inr (.inr (.inl 222)), .inl ((-2147483648), 2147483647, []), .inl ((-2147483648), 2147483647, [])], ([], [], []), ([], []), [(.inr (some (.inl ((-2147483648), 2147483647, []))), 245, ([], [], []))])
set_option maxRecDepth 100000 in
theorem p2_s1937_e : ck_ok p2_O none [] [] 10 [] 114 p2_s1937 = true := by decide +kernel
theorem p2_s1937_s {X : Int → Int} {LX : Nat} : ck_Ok p2_O X LX 10 p2_s1937 := ck_ok_s ⟨p2_nmu, ck_E0⟩ ck_X0 ck_l0 p2_s1937_e
set_option maxRecDepth 100000 in
/-- GlacierMail$Rows.put -/
def p2_s1938 : ck_Sum := ((0, 0, 0), 245, [.inr (.inr (.inl 222)), .inl ((-2147483648), 2147483647, []), .inl ((-1), 299, []), .inl ((-2147483648), 2147483647, [])], ([], [], []), ([(223, 0, 179)], []), [(.inr none, 245, ([], [], []))])
set_option maxRecDepth 100000 in
theorem p2_s1938_e : ck_ok p2_O none [] [] 45 [] 116 p2_s1938 = true := by decide +kernel
theorem p2_s1938_s {X : Int → Int} {LX : Nat} : ck_Ok p2_O X LX 45 p2_s1938 := ck_ok_s ⟨p2_nmu, ck_E0⟩ ck_X0 ck_l0 p2_s1938_e
set_option maxRecDepth 100000 in
/-- GlacierMail.reckonCame -/
def p2_s1940 : ck_Sum := ((2, 0, 0), 245, [.inr (.inr (.inl 1)), .inl (0, 30, [])], ([], [], [(3, 6, 6, (0, 299, [(10, 0)]))]), ([(222, 3, 3), (223, 0, 179)], []), [(.inr none, 245, ([], [], []))])
set_option maxRecDepth 100000 in
theorem p2_s1940_e : ck_ok p2_O none [] [(25, [p2_s1936]), (9, [p2_s362]), (10, [p2_s407, p2_s363, p2_s1937]), (28, [p2_s364]), (45, [p2_s1938])] 215 [(10, [some (.inr (.inr (.inl 1))), some (.inl (0, 30, [])), some (.inl (0, 24, [])), none, none], ([], [], [(3, 6, 6, (0, 299, [(10, 0)]))]), 100, .inl 2, true)] 286 p2_s1940 = true := by decide +kernel
theorem p2_s1940_s {X : Int → Int} {LX : Nat} : ck_Ok p2_O X LX 215 p2_s1940 := ck_ok_s ⟨p2_nmu, ck_E1 (ck_S1 p2_s1936_s ck_S0) (ck_E1 (ck_S1 p2_s362_s ck_S0) (ck_E1 (ck_S1 p2_s407_s (ck_S1 p2_s363_s (ck_S1 p2_s1937_s ck_S0))) (ck_E1 (ck_S1 p2_s364_s ck_S0) (ck_E1 (ck_S1 p2_s1938_s ck_S0) ck_E0))))⟩ ck_X0 ck_l0 p2_s1940_e
set_option maxRecDepth 100000 in
/-- java/util/Arrays.fill -/
def p2_s1941 : ck_Sum := ((0, 0, 0), 245, [.inr (.inr (.inl 225)), .inl (ck_one 0)], ([], [], []), ([(225, 0, 185)], []), [(.inr none, 245, ([], [], []))])
set_option maxRecDepth 100000 in
theorem p2_s1941_e : ck_ok p2_O none [] [] 8 [(5, [some (.inr (.inr (.inl 225))), some (.inl (ck_one 0)), some (.inl (0, 186, [])), some (.inl (ck_one 186))], ([], [], []), 100, .inl 2, true)] 130 p2_s1941 = true := by decide +kernel
theorem p2_s1941_s {X : Int → Int} {LX : Nat} : ck_Ok p2_O X LX 8 p2_s1941 := ck_ok_s ⟨p2_nmu, ck_E0⟩ ck_X0 ck_l0 p2_s1941_e
set_option maxRecDepth 100000 in
/-- GlacierMail$Rows.reset -/
def p2_s1942 : ck_Sum := ((1, 0, 0), 245, [.inr (.inr (.inl 224)), .inl (1, 31, [])], ([], [], []), ([(224, 3, 3), (225, 0, 185)], []), [(.inr none, 245, ([], [], [(224, 3, 3, (1, 31, []))]))])
set_option maxRecDepth 100000 in
theorem p2_s1942_e : ck_ok p2_O none [] [(8, [p2_s1941])] 25 [] 96 p2_s1942 = true := by decide +kernel
theorem p2_s1942_s {X : Int → Int} {LX : Nat} : ck_Ok p2_O X LX 25 p2_s1942 := ck_ok_s ⟨p2_nmu, ck_E1 (ck_S1 p2_s1941_s ck_S0) ck_E0⟩ ck_X0 ck_l0 p2_s1942_e
set_option maxRecDepth 100000 in
/-- GlacierMail$Rows.get -/
def p2_s1943 : ck_Sum := ((0, 0, 0), 245, [.inr (.inr (.inl 224)), .inl ((-2147483648), 2147483647, []), .inl ((-2147483648), 2147483647, [])], ([], [], []), ([], []), [(.inr (some (.inl ((-2147483648), 2147483647, []))), 245, ([], [], []))])
set_option maxRecDepth 100000 in
theorem p2_s1943_e : ck_ok p2_O none [] [] 10 [] 114 p2_s1943 = true := by decide +kernel
theorem p2_s1943_s {X : Int → Int} {LX : Nat} : ck_Ok p2_O X LX 10 p2_s1943 := ck_ok_s ⟨p2_nmu, ck_E0⟩ ck_X0 ck_l0 p2_s1943_e
set_option maxRecDepth 100000 in
/-- GlacierMail.bestNext -/
def p2_s1954 : ck_Sum := ((1, 0, 0), 245, [.inr (.inr (.inl 1)), .inl (1, 30, []), .inl (0, 5, [])], ([], [], []), ([], []), [(.inr (some (.inl ((-2147483648), 2147483647, []))), 245, ([], [], []))])
set_option maxRecDepth 100000 in
theorem p2_s1954_e : ck_ok p2_O none [] [(10, [p2_s1943])] 216 [] 118 p2_s1954 = true := by decide +kernel
theorem p2_s1954_s {X : Int → Int} {LX : Nat} : ck_Ok p2_O X LX 216 p2_s1954 := ck_ok_s ⟨p2_nmu, ck_E1 (ck_S1 p2_s1943_s ck_S0) ck_E0⟩ ck_X0 ck_l0 p2_s1954_e
set_option maxRecDepth 100000 in
/-- GlacierMail$Rows.put -/
def p2_s1955 : ck_Sum := ((0, 0, 0), 245, [.inr (.inr (.inl 224)), .inl (0, 29, []), .inl (0, 5, []), .inl ((-2147483648), 2147483647, [])], ([], [], []), ([(225, 0, 179)], []), [(.inr none, 245, ([], [], []))])
set_option maxRecDepth 100000 in
theorem p2_s1955_e : ck_ok p2_O none [] [] 45 [] 116 p2_s1955 = true := by decide +kernel
theorem p2_s1955_s {X : Int → Int} {LX : Nat} : ck_Ok p2_O X LX 45 p2_s1955 := ck_ok_s ⟨p2_nmu, ck_E0⟩ ck_X0 ck_l0 p2_s1955_e
set_option maxRecDepth 100000 in
/-- GlacierMail.thieves -/
def p2_s1956 : ck_Sum := ((7, 1, 6), 245, [.inr (.inr (.inl 1)), .inl (0, 30, []), .inl (0, 1, [])], ([], [(3, 8, 0)], [(3, 6, 6, (0, 299, [(10, 0)]))]), ([(1, 15, 15), (206, 2, 8), (220, 3, 3), (221, 0, 47), (222, 3, 3), (223, 0, 179), (224, 3, 3), (225, 0, 185)], []), [(.inl 0, 245, ([], [], [])), (.inr (some (.inl ((-2147483648), 2147483647, []))), 245, ([], [], [(224, 3, 3, (1, 31, [])), (1, 15, 15, ck_one 1)])), (.inr (some (.inl (0, 5, []))), 245, ([], [], [(224, 3, 3, (1, 31, [])), (1, 15, 15, ck_one 1)]))])
set_option maxRecDepth 100000 in
theorem p2_s1956_e : ck_ok p2_O none [] [(214, [p2_s1934]), (24, [p2_s405]), (215, [p2_s1940]), (25, [p2_s1942]), (10, [p2_s1943, p2_s1937]), (216, [p2_s1954]), (45, [p2_s1955])] 213 [(28, [some (.inr (.inr (.inl 1))), some (.inl (0, 30, [])), some (.inl (0, 1, [])), some (.inl ((-1), 29, [])), none], ([], [(3, 8, 0)], [(224, 3, 3, (1, 31, [])), (1, 15, 15, ck_one 1), (3, 6, 6, (0, 299, [(10, 0)]))]), 100, .inl 3, false), (94, [some (.inr (.inr (.inl 1))), some (.inl (0, 30, [])), some (.inl (0, 1, [])), some (.inl (0, 5, [])), some (.inl (1, 6, []))], ([], [(3, 8, 0)], [(224, 3, 3, (1, 31, [])), (1, 15, 15, ck_one 1), (3, 6, 6, (0, 299, [(10, 0)]))]), 300, .inl 4, true), (35, [some (.inr (.inr (.inl 1))), some (.inl (0, 30, [])), some (.inl (0, 1, [])), some (.inl (0, 29, [(100, 0)])), some (.inl (0, 6, []))], ([], [(3, 8, 0)], [(224, 3, 3, (1, 31, [])), (1, 15, 15, ck_one 1), (3, 6, 6, (0, 299, [(10, 0)]))]), 500, .inl 4, true)] 330 p2_s1956 = true := by decide +kernel
theorem p2_s1956_s {X : Int → Int} {LX : Nat} : ck_Ok p2_O X LX 213 p2_s1956 := ck_ok_s ⟨p2_nmu, ck_E1 (ck_S1 p2_s1934_s ck_S0) (ck_E1 (ck_S1 p2_s405_s ck_S0) (ck_E1 (ck_S1 p2_s1940_s ck_S0) (ck_E1 (ck_S1 p2_s1942_s ck_S0) (ck_E1 (ck_S1 p2_s1943_s (ck_S1 p2_s1937_s ck_S0)) (ck_E1 (ck_S1 p2_s1954_s ck_S0) (ck_E1 (ck_S1 p2_s1955_s ck_S0) ck_E0))))))⟩ ck_X0 ck_l0 p2_s1956_e
set_option maxRecDepth 100000 in
/-- GlacierMailModel.in -/
def p2_s1957 : ck_Sum := ((0, 0, 0), 245, [.inl ((-2147483648), (-1), []), .inl (ck_one 1), .inl (ck_one 30)], ([], [], []), ([], []), [(.inr (some (.inl (ck_one 0))), 245, ([], [], []))])
set_option maxRecDepth 100000 in
theorem p2_s1957_e : ck_ok p2_O none [] [] 286 [] 80 p2_s1957 = true := by decide +kernel
theorem p2_s1957_s {X : Int → Int} {LX : Nat} : ck_Ok p2_O X LX 286 p2_s1957 := ck_ok_s ⟨p2_nmu, ck_E0⟩ ck_X0 ck_l0 p2_s1957_e
set_option maxRecDepth 100000 in
/-- GlacierMailModel.thieves -/
def p2_s1958 : ck_Sum := ((1, 0, 0), 245, [.inr (.inr (.inl 226)), .inl ((-2147483648), (-1), []), .inl (0, 1, [])], ([], [], []), ([(226, 0, 0)], []), [(.inr (some (.inl (ck_one 0))), 245, ([], [], [(226, 0, 0, ck_one 1)]))])
set_option maxRecDepth 100000 in
theorem p2_s1958_e : ck_ok p2_O none [] [(286, [p2_s1957]), (282, [p2_s268])] 357 [] 102 p2_s1958 = true := by decide +kernel
theorem p2_s1958_s {X : Int → Int} {LX : Nat} : ck_Ok p2_O X LX 357 p2_s1958 := ck_ok_s ⟨p2_nmu, ck_E1 (ck_S1 p2_s1957_s ck_S0) (ck_E1 (ck_S1 p2_s268_s ck_S0) ck_E0)⟩ ck_X0 ck_l0 p2_s1958_e
set_option maxRecDepth 100000 in
/-- GlacierMailModel.in -/
def p2_s1959 : ck_Sum := ((0, 0, 0), 245, [.inl (31, 2147483647, []), .inl (ck_one 1), .inl (ck_one 30)], ([], [], []), ([], []), [(.inr (some (.inl (ck_one 0))), 245, ([], [], []))])
set_option maxRecDepth 100000 in
theorem p2_s1959_e : ck_ok p2_O none [] [] 286 [] 86 p2_s1959 = true := by decide +kernel
theorem p2_s1959_s {X : Int → Int} {LX : Nat} : ck_Ok p2_O X LX 286 p2_s1959 := ck_ok_s ⟨p2_nmu, ck_E0⟩ ck_X0 ck_l0 p2_s1959_e
set_option maxRecDepth 100000 in
/-- GlacierMailModel.thieves -/
def p2_s1960 : ck_Sum := ((1, 0, 0), 245, [.inr (.inr (.inl 226)), .inl (31, 2147483647, []), .inl (0, 1, [])], ([], [], []), ([(226, 0, 0)], []), [(.inr (some (.inl (ck_one 0))), 245, ([], [], [(226, 0, 0, ck_one 1)]))])
set_option maxRecDepth 100000 in
theorem p2_s1960_e : ck_ok p2_O none [] [(286, [p2_s1959]), (282, [p2_s268])] 357 [] 102 p2_s1960 = true := by decide +kernel
theorem p2_s1960_s {X : Int → Int} {LX : Nat} : ck_Ok p2_O X LX 357 p2_s1960 := ck_ok_s ⟨p2_nmu, ck_E1 (ck_S1 p2_s1959_s ck_S0) (ck_E1 (ck_S1 p2_s268_s ck_S0) ck_E0)⟩ ck_X0 ck_l0 p2_s1960_e
set_option maxRecDepth 100000 in
/-- GlacierMailModel.in -/
def p2_s1961 : ck_Sum := ((0, 0, 0), 245, [.inl (0, 30, []), .inl (ck_one 1), .inl (ck_one 30)], ([], [], []), ([], []), [(.inr (some (.inl (ck_one 0))), 245, ([], [], [])), (.inr (some (.inl (ck_one 1))), 245, ([], [], []))])
set_option maxRecDepth 100000 in
theorem p2_s1961_e : ck_ok p2_O none [] [] 286 [] 88 p2_s1961 = true := by decide +kernel
theorem p2_s1961_s {X : Int → Int} {LX : Nat} : ck_Ok p2_O X LX 286 p2_s1961 := ck_ok_s ⟨p2_nmu, ck_E0⟩ ck_X0 ck_l0 p2_s1961_e
set_option maxRecDepth 100000 in
/-- GlacierMailModel.outsIn -/
def p2_s1973 : ck_Sum := ((2, 0, 0), 245, [.inr (.inr (.inl 226)), .inl (0, 328, []), .inl (0, 5, []), .inl (ck_one 0)], ([], [], [(227, 4, 4, (0, 24, [(22, 0)]))]), ([], []), [(.inr (some (.inl ((-2147483648), 2147483647, []))), 245, ([], [], []))])
set_option maxRecDepth 100000 in
theorem p2_s1973_e : ck_ok p2_O none [] [(254, [p2_s196]), (301, [p2_s457]), (303, [p2_s461])] 333 [(6, [some (.inr (.inr (.inl 226))), some (.inl (0, 328, [])), some (.inl (0, 5, [])), some (.inl (ck_one 0)), some (.inl ((-2147483648), 2147483647, [])), some (.inl (0, 24, []))], ([], [], [(227, 4, 4, (0, 24, [(22, 0)]))]), 100, .inl 5, true)] 218 p2_s1973 = true := by decide +kernel
theorem p2_s1973_s {X : Int → Int} {LX : Nat} : ck_Ok p2_O X LX 333 p2_s1973 := ck_ok_s ⟨p2_nmu, ck_E1 (ck_S1 p2_s196_s ck_S0) (ck_E1 (ck_S1 p2_s457_s ck_S0) (ck_E1 (ck_S1 p2_s461_s ck_S0) ck_E0))⟩ ck_X0 ck_l0 p2_s1973_e
set_option maxRecDepth 100000 in
/-- GlacierMailModel.outsIn -/
def p2_s1974 : ck_Sum := ((2, 0, 0), 245, [.inr (.inr (.inl 226)), .inl (0, 327, []), .inl (0, 5, []), .inl (ck_one 0)], ([], [], [(227, 4, 4, (0, 24, [(22, 0)]))]), ([], []), [(.inr (some (.inl ((-2147483648), 2147483647, []))), 245, ([], [], []))])
set_option maxRecDepth 100000 in
theorem p2_s1974_e : ck_ok p2_O none [] [(254, [p2_s196]), (301, [p2_s457]), (303, [p2_s461])] 333 [(6, [some (.inr (.inr (.inl 226))), some (.inl (0, 327, [])), some (.inl (0, 5, [])), some (.inl (ck_one 0)), some (.inl ((-2147483648), 2147483647, [])), some (.inl (0, 24, []))], ([], [], [(227, 4, 4, (0, 24, [(22, 0)]))]), 100, .inl 5, true)] 218 p2_s1974 = true := by decide +kernel
theorem p2_s1974_s {X : Int → Int} {LX : Nat} : ck_Ok p2_O X LX 333 p2_s1974 := ck_ok_s ⟨p2_nmu, ck_E1 (ck_S1 p2_s196_s ck_S0) (ck_E1 (ck_S1 p2_s457_s ck_S0) (ck_E1 (ck_S1 p2_s461_s ck_S0) ck_E0))⟩ ck_X0 ck_l0 p2_s1974_e
set_option maxRecDepth 100000 in
/-- GlacierMailModel.outsIn -/
def p2_s1971 : ck_Sum := ((2, 0, 0), 245, [.inr (.inr (.inl 226)), .inl (0, 327, []), .inl (0, 4, []), .inl (ck_one 0)], ([], [], [(227, 4, 4, (0, 24, [(22, 0)]))]), ([], []), [(.inr (some (.inl ((-2147483648), 2147483647, []))), 245, ([], [], []))])
set_option maxRecDepth 100000 in
theorem p2_s1971_e : ck_ok p2_O none [] [(254, [p2_s196]), (301, [p2_s457]), (303, [p2_s461])] 333 [(6, [some (.inr (.inr (.inl 226))), some (.inl (0, 327, [])), some (.inl (0, 4, [])), some (.inl (ck_one 0)), some (.inl ((-2147483648), 2147483647, [])), some (.inl (0, 24, []))], ([], [], [(227, 4, 4, (0, 24, [(22, 0)]))]), 100, .inl 5, true)] 218 p2_s1971 = true := by decide +kernel
theorem p2_s1971_s {X : Int → Int} {LX : Nat} : ck_Ok p2_O X LX 333 p2_s1971 := ck_ok_s ⟨p2_nmu, ck_E1 (ck_S1 p2_s196_s ck_S0) (ck_E1 (ck_S1 p2_s457_s ck_S0) (ck_E1 (ck_S1 p2_s461_s ck_S0) ck_E0))⟩ ck_X0 ck_l0 p2_s1971_e
set_option maxRecDepth 100000 in
/-- GlacierMailModel.outsIn -/
def p2_s1963 : ck_Sum := ((2, 0, 0), 245, [.inr (.inr (.inl 226)), .inl (0, 327, []), .inl (ck_one 0), .inl (ck_one 0)], ([], [], [(227, 4, 4, (0, 24, [(22, 0)]))]), ([], []), [(.inr (some (.inl ((-2147483648), 2147483647, []))), 245, ([], [], []))])
set_option maxRecDepth 100000 in
theorem p2_s1963_e : ck_ok p2_O none [] [(254, [p2_s196]), (301, [p2_s457]), (303, [p2_s461])] 333 [(6, [some (.inr (.inr (.inl 226))), some (.inl (0, 327, [])), some (.inl (ck_one 0)), some (.inl (ck_one 0)), some (.inl ((-2147483648), 2147483647, [])), some (.inl (0, 24, []))], ([], [], [(227, 4, 4, (0, 24, [(22, 0)]))]), 100, .inl 5, true)] 218 p2_s1963 = true := by decide +kernel
theorem p2_s1963_s {X : Int → Int} {LX : Nat} : ck_Ok p2_O X LX 333 p2_s1963 := ck_ok_s ⟨p2_nmu, ck_E1 (ck_S1 p2_s196_s ck_S0) (ck_E1 (ck_S1 p2_s457_s ck_S0) (ck_E1 (ck_S1 p2_s461_s ck_S0) ck_E0))⟩ ck_X0 ck_l0 p2_s1963_e
set_option maxRecDepth 100000 in
/-- GlacierMailModel.outsIn -/
def p2_s1975 : ck_Sum := ((2, 0, 0), 245, [.inr (.inr (.inl 226)), .inl (0, 327, []), .inl (1, 5, []), .inl (ck_one 0)], ([], [], [(227, 4, 4, (0, 24, [(22, 0)]))]), ([], []), [(.inr (some (.inl ((-2147483648), 2147483647, []))), 245, ([], [], []))])
set_option maxRecDepth 100000 in
theorem p2_s1975_e : ck_ok p2_O none [] [(254, [p2_s196]), (301, [p2_s457]), (303, [p2_s461])] 333 [(6, [some (.inr (.inr (.inl 226))), some (.inl (0, 327, [])), some (.inl (1, 5, [])), some (.inl (ck_one 0)), some (.inl ((-2147483648), 2147483647, [])), some (.inl (0, 24, []))], ([], [], [(227, 4, 4, (0, 24, [(22, 0)]))]), 100, .inl 5, true)] 218 p2_s1975 = true := by decide +kernel
theorem p2_s1975_s {X : Int → Int} {LX : Nat} : ck_Ok p2_O X LX 333 p2_s1975 := ck_ok_s ⟨p2_nmu, ck_E1 (ck_S1 p2_s196_s ck_S0) (ck_E1 (ck_S1 p2_s457_s ck_S0) (ck_E1 (ck_S1 p2_s461_s ck_S0) ck_E0))⟩ ck_X0 ck_l0 p2_s1975_e
set_option maxRecDepth 100000 in
/-- GlacierMailModel.outsIn -/
def p2_s1972 : ck_Sum := ((2, 0, 0), 245, [.inr (.inr (.inl 226)), .inl (0, 327, []), .inl (1, 4, []), .inl (ck_one 0)], ([], [], [(227, 4, 4, (0, 24, [(22, 0)]))]), ([], []), [(.inr (some (.inl ((-2147483648), 2147483647, []))), 245, ([], [], []))])
set_option maxRecDepth 100000 in
theorem p2_s1972_e : ck_ok p2_O none [] [(254, [p2_s196]), (301, [p2_s457]), (303, [p2_s461])] 333 [(6, [some (.inr (.inr (.inl 226))), some (.inl (0, 327, [])), some (.inl (1, 4, [])), some (.inl (ck_one 0)), some (.inl ((-2147483648), 2147483647, [])), some (.inl (0, 24, []))], ([], [], [(227, 4, 4, (0, 24, [(22, 0)]))]), 100, .inl 5, true)] 218 p2_s1972 = true := by decide +kernel
theorem p2_s1972_s {X : Int → Int} {LX : Nat} : ck_Ok p2_O X LX 333 p2_s1972 := ck_ok_s ⟨p2_nmu, ck_E1 (ck_S1 p2_s196_s ck_S0) (ck_E1 (ck_S1 p2_s457_s ck_S0) (ck_E1 (ck_S1 p2_s461_s ck_S0) ck_E0))⟩ ck_X0 ck_l0 p2_s1972_e
set_option maxRecDepth 100000 in
/-- GlacierMail.watchman -/
def p2_s1978 : ck_Sum := ((7, 1, 6), 245, [.inr (.inr (.inl 1)), .inl ((-2147483648), (-1), []), .inl (0, 1, [])], ([], [], []), ([], []), [(.inl 0, 245, ([], [], []))])
set_option maxRecDepth 100000 in
theorem p2_s1978_e : ck_ok p2_O none [] [(214, [p2_s1930])] 218 [] 76 p2_s1978 = true := by decide +kernel
theorem p2_s1978_s {X : Int → Int} {LX : Nat} : ck_Ok p2_O X LX 218 p2_s1978 := ck_ok_s ⟨p2_nmu, ck_E1 (ck_S1 p2_s1930_s ck_S0) ck_E0⟩ ck_X0 ck_l0 p2_s1978_e
set_option maxRecDepth 100000 in
/-- GlacierMail.watchman -/
def p2_s1979 : ck_Sum := ((7, 1, 6), 245, [.inr (.inr (.inl 1)), .inl (31, 2147483647, []), .inl (0, 1, [])], ([], [], []), ([], []), [(.inl 0, 245, ([], [], []))])
set_option maxRecDepth 100000 in
theorem p2_s1979_e : ck_ok p2_O none [] [(214, [p2_s1932])] 218 [] 76 p2_s1979 = true := by decide +kernel
theorem p2_s1979_s {X : Int → Int} {LX : Nat} : ck_Ok p2_O X LX 218 p2_s1979 := ck_ok_s ⟨p2_nmu, ck_E1 (ck_S1 p2_s1932_s ck_S0) ck_E0⟩ ck_X0 ck_l0 p2_s1979_e
set_option maxRecDepth 100000 in
/-- GlacierMail.mostBeside -/
def p2_s1989 : ck_Sum := ((1, 0, 0), 245, [.inr (.inr (.inl 1)), .inl (0, 5, []), .inl (0, 30, [])], ([], [], []), ([], []), [(.inr (some (.inl (0, 2147483647, []))), 245, ([], [], []))])
set_option maxRecDepth 100000 in
theorem p2_s1989_e : ck_ok p2_O none [] [(10, [p2_s1937])] 219 [(5, [some (.inr (.inr (.inl 1))), some (.inl (0, 5, [])), some (.inl (0, 30, [])), some (.inl (0, 2147483647, [])), some (.inl (0, 6, [])), none, none], ([], [], []), 100, .inl 4, true), (23, [some (.inr (.inr (.inl 1))), some (.inl (0, 5, [])), some (.inl (0, 30, [])), some (.inl (0, 2147483647, [])), some (.inl (0, 5, [(100, 0)])), some (.inl ((-2147483648), 2147483647, [])), some (.inl (0, 30, []))], ([], [], []), 300, .inl 6, true)] 194 p2_s1989 = true := by decide +kernel
theorem p2_s1989_s {X : Int → Int} {LX : Nat} : ck_Ok p2_O X LX 219 p2_s1989 := ck_ok_s ⟨p2_nmu, ck_E1 (ck_S1 p2_s1937_s ck_S0) ck_E0⟩ ck_X0 ck_l0 p2_s1989_e
set_option maxRecDepth 100000 in
/-- GlacierMail.mostBeside -/
def p2_s1988 : ck_Sum := ((1, 0, 0), 245, [.inr (.inr (.inl 1)), .inl (1, 5, []), .inl (0, 30, [])], ([], [], []), ([], []), [(.inr (some (.inl (0, 2147483647, []))), 245, ([], [], []))])
set_option maxRecDepth 100000 in
theorem p2_s1988_e : ck_ok p2_O none [] [(10, [p2_s1937])] 219 [(5, [some (.inr (.inr (.inl 1))), some (.inl (1, 5, [])), some (.inl (0, 30, [])), some (.inl (0, 2147483647, [])), some (.inl (0, 6, [])), none, none], ([], [], []), 100, .inl 4, true), (23, [some (.inr (.inr (.inl 1))), some (.inl (1, 5, [])), some (.inl (0, 30, [])), some (.inl (0, 2147483647, [])), some (.inl (0, 5, [(100, 0)])), some (.inl ((-2147483648), 2147483647, [])), some (.inl (0, 30, []))], ([], [], []), 300, .inl 6, true)] 194 p2_s1988 = true := by decide +kernel
theorem p2_s1988_s {X : Int → Int} {LX : Nat} : ck_Ok p2_O X LX 219 p2_s1988 := ck_ok_s ⟨p2_nmu, ck_E1 (ck_S1 p2_s1937_s ck_S0) ck_E0⟩ ck_X0 ck_l0 p2_s1988_e
set_option maxRecDepth 100000 in
/-- GlacierMail.watchman -/
def p2_s1990 : ck_Sum := ((7, 1, 6), 245, [.inr (.inr (.inl 1)), .inl (0, 30, []), .inl (0, 1, [])], ([], [(3, 8, 0)], [(3, 6, 6, (0, 299, [(10, 0)]))]), ([(1, 15, 15), (206, 2, 8), (220, 3, 3), (221, 0, 47), (222, 3, 3), (223, 0, 179)], []), [(.inl 0, 245, ([], [], [])), (.inr (some (.inl (0, 2147483647, []))), 245, ([], [], [(1, 15, 15, ck_one 1)]))])
set_option maxRecDepth 100000 in
theorem p2_s1990_e : ck_ok p2_O none [] [(214, [p2_s1934]), (24, [p2_s405]), (215, [p2_s1940]), (219, [p2_s1989, p2_s1988])] 218 [(19, [some (.inr (.inr (.inl 1))), some (.inl (0, 30, [])), some (.inl (0, 1, [])), some (.inl (0, 5, [])), some (.inl (1, 6, []))], ([], [(3, 8, 0)], [(1, 15, 15, ck_one 1), (3, 6, 6, (0, 299, [(10, 0)]))]), 100, .inl 4, true)] 166 p2_s1990 = true := by decide +kernel
theorem p2_s1990_s {X : Int → Int} {LX : Nat} : ck_Ok p2_O X LX 218 p2_s1990 := ck_ok_s ⟨p2_nmu, ck_E1 (ck_S1 p2_s1934_s ck_S0) (ck_E1 (ck_S1 p2_s405_s ck_S0) (ck_E1 (ck_S1 p2_s1940_s ck_S0) (ck_E1 (ck_S1 p2_s1989_s (ck_S1 p2_s1988_s ck_S0)) ck_E0)))⟩ ck_X0 ck_l0 p2_s1990_e
set_option maxRecDepth 100000 in
/-- GlacierMailModel.watchman -/
def p2_s1991 : ck_Sum := ((1, 0, 0), 245, [.inr (.inr (.inl 226)), .inl ((-2147483648), (-1), []), .inl (0, 1, [])], ([], [], []), ([(226, 0, 0)], []), [(.inr (some (.inl (ck_one 0))), 245, ([], [], [(226, 0, 0, ck_one 1)]))])
set_option maxRecDepth 100000 in
theorem p2_s1991_e : ck_ok p2_O none [] [(286, [p2_s1957]), (282, [p2_s268])] 359 [] 102 p2_s1991 = true := by decide +kernel
theorem p2_s1991_s {X : Int → Int} {LX : Nat} : ck_Ok p2_O X LX 359 p2_s1991 := ck_ok_s ⟨p2_nmu, ck_E1 (ck_S1 p2_s1957_s ck_S0) (ck_E1 (ck_S1 p2_s268_s ck_S0) ck_E0)⟩ ck_X0 ck_l0 p2_s1991_e
set_option maxRecDepth 100000 in
/-- GlacierMailModel.watchman -/
def p2_s1992 : ck_Sum := ((1, 0, 0), 245, [.inr (.inr (.inl 226)), .inl (31, 2147483647, []), .inl (0, 1, [])], ([], [], []), ([(226, 0, 0)], []), [(.inr (some (.inl (ck_one 0))), 245, ([], [], [(226, 0, 0, ck_one 1)]))])
set_option maxRecDepth 100000 in
theorem p2_s1992_e : ck_ok p2_O none [] [(286, [p2_s1959]), (282, [p2_s268])] 359 [] 102 p2_s1992 = true := by decide +kernel
theorem p2_s1992_s {X : Int → Int} {LX : Nat} : ck_Ok p2_O X LX 359 p2_s1992 := ck_ok_s ⟨p2_nmu, ck_E1 (ck_S1 p2_s1959_s ck_S0) (ck_E1 (ck_S1 p2_s268_s ck_S0) ck_E0)⟩ ck_X0 ck_l0 p2_s1992_e
set_option maxRecDepth 100000 in
/-- GlacierMail.meeting -/
def p2_s1996 : ck_Sum := ((8, 1, 6), 245, [.inr (.inr (.inl 1)), .inl ((-2147483648), (-1), []), .inl ((-2147483648), 2147483647, [])], ([], [], []), ([], []), [(.inl 3, 245, ([], [], []))])
set_option maxRecDepth 100000 in
theorem p2_s1996_e : ck_ok p2_O none [] [(143, [p2_s513])] 221 [] 76 p2_s1996 = true := by decide +kernel
theorem p2_s1996_s {X : Int → Int} {LX : Nat} : ck_Ok p2_O X LX 221 p2_s1996 := ck_ok_s ⟨p2_nmu, ck_E1 (ck_S1 p2_s513_s ck_S0) ck_E0⟩ ck_X0 ck_l0 p2_s1996_e
set_option maxRecDepth 100000 in
/-- GlacierMail.meeting -/
def p2_s1997 : ck_Sum := ((8, 1, 6), 245, [.inr (.inr (.inl 1)), .inl (24, 2147483647, []), .inl ((-2147483648), 2147483647, [])], ([], [], []), ([], []), [(.inl 3, 245, ([], [], []))])
set_option maxRecDepth 100000 in
theorem p2_s1997_e : ck_ok p2_O none [] [(143, [p2_s516])] 221 [] 76 p2_s1997 = true := by decide +kernel
theorem p2_s1997_s {X : Int → Int} {LX : Nat} : ck_Ok p2_O X LX 221 p2_s1997 := ck_ok_s ⟨p2_nmu, ck_E1 (ck_S1 p2_s516_s ck_S0) ck_E0⟩ ck_X0 ck_l0 p2_s1997_e
set_option maxRecDepth 100000 in
/-- GlacierMail.meeting -/
def p2_s1998 : ck_Sum := ((8, 2, 12), 245, [.inr (.inr (.inl 1)), .inl (0, 23, []), .inl ((-2147483648), (-1), [])], ([], [], []), ([], []), [(.inl 3, 245, ([], [], []))])
set_option maxRecDepth 100000 in
theorem p2_s1998_e : ck_ok p2_O none [] [(143, [p2_s519, p2_s513])] 221 [] 82 p2_s1998 = true := by decide +kernel
theorem p2_s1998_s {X : Int → Int} {LX : Nat} : ck_Ok p2_O X LX 221 p2_s1998 := ck_ok_s ⟨p2_nmu, ck_E1 (ck_S1 p2_s519_s (ck_S1 p2_s513_s ck_S0)) ck_E0⟩ ck_X0 ck_l0 p2_s1998_e
set_option maxRecDepth 100000 in
/-- GlacierMail.meeting -/
def p2_s1999 : ck_Sum := ((8, 2, 12), 245, [.inr (.inr (.inl 1)), .inl (0, 23, []), .inl (24, 2147483647, [])], ([], [], []), ([], []), [(.inl 3, 245, ([], [], []))])
set_option maxRecDepth 100000 in
theorem p2_s1999_e : ck_ok p2_O none [] [(143, [p2_s519, p2_s516])] 221 [] 82 p2_s1999 = true := by decide +kernel
theorem p2_s1999_s {X : Int → Int} {LX : Nat} : ck_Ok p2_O X LX 221 p2_s1999 := ck_ok_s ⟨p2_nmu, ck_E1 (ck_S1 p2_s519_s (ck_S1 p2_s516_s ck_S0)) ck_E0⟩ ck_X0 ck_l0 p2_s1999_e
set_option maxRecDepth 100000 in
/-- GlacierMail.needUnlike -/
def p2_s2000 : ck_Sum := ((6, 1, 6), 245, [.inr (.inr (.inl 1)), .inl (0, 23, []), .inl (0, 23, [])], ([], [], []), ([], []), [(.inr none, 245, ([], [], [])), (.inl 0, 245, ([], [], []))])
set_option maxRecDepth 100000 in
theorem p2_s2000_e : ck_ok p2_O none [] [] 153 [] 78 p2_s2000 = true := by decide +kernel
theorem p2_s2000_s {X : Int → Int} {LX : Nat} : ck_Ok p2_O X LX 153 p2_s2000 := ck_ok_s ⟨p2_nmu, ck_E0⟩ ck_X0 ck_l0 p2_s2000_e
set_option maxRecDepth 100000 in
/-- GlacierMail.startBoth -/
def p2_s2001 : ck_Sum := ((4, 0, 0), 245, [.inr (.inr (.inl 1)), .inl (0, 23, []), .inl (0, 23, []), .inl (0, 299, [])], ([], [(3, 8, 0)], []), ([(206, 2, 8), (207, 2, 8)], []), [(.inr (some (.inl (0, 299, []))), 245, ([], [], [(206, 4, 4, ck_one (-1)), (206, 2, 2, ((-1), 299, []))]))])
set_option maxRecDepth 100000 in
theorem p2_s2001_e : ck_ok p2_O none [] [(27, [p2_s367, p2_s1612]), (148, [p2_s547, p2_s1617])] 182 [] 126 p2_s2001 = true := by decide +kernel
theorem p2_s2001_s {X : Int → Int} {LX : Nat} : ck_Ok p2_O X LX 182 p2_s2001 := ck_ok_s ⟨p2_nmu, ck_E1 (ck_S1 p2_s367_s (ck_S1 p2_s1612_s ck_S0)) (ck_E1 (ck_S1 p2_s547_s (ck_S1 p2_s1617_s ck_S0)) ck_E0)⟩ ck_X0 ck_l0 p2_s2001_e
set_option maxRecDepth 100000 in
/-- GlacierMail.meeting -/
def p2_s2002 : ck_Sum := ((8, 3, 18), 245, [.inr (.inr (.inl 1)), .inl (0, 23, []), .inl (0, 23, [])], ([], [(3, 8, 0)], [(3, 6, 6, (0, 299, [(10, 0)]))]), ([(206, 2, 8), (207, 2, 8)], []), [(.inl 3, 245, ([], [], [])), (.inl 0, 245, ([], [], [])), (.inr (some (.inl (ck_one (-1)))), 245, ([], [], [])), (.inr (some (.inl (0, 299, []))), 245, ([], [], [(207, 5, 5, ((-2147483648), 98, [])), (206, 5, 5, ((-2147483648), 98, [])), (206, 4, 4, ck_one (-1)), (206, 2, 2, ((-1), 299, []))]))])
set_option maxRecDepth 100000 in
theorem p2_s2002_e : ck_ok p2_O none [] [(143, [p2_s519]), (153, [p2_s2000]), (180, [p2_s1661]), (182, [p2_s2001]), (183, [p2_s1619]), (184, [p2_s1620])] 221 [(44, [some (.inr (.inr (.inl 1))), some (.inl (0, 23, [])), some (.inl (0, 23, [])), some (.inl (0, 299, [])), some (.inl (0, 300, []))], ([], [(3, 8, 0)], [(206, 4, 4, ck_one (-1)), (206, 2, 2, ((-1), 299, [])), (3, 6, 6, (0, 299, [(10, 0)]))]), 100, .inl 4, true)] 194 p2_s2002 = true := by decide +kernel
theorem p2_s2002_s {X : Int → Int} {LX : Nat} : ck_Ok p2_O X LX 221 p2_s2002 := ck_ok_s ⟨p2_nmu, ck_E1 (ck_S1 p2_s519_s ck_S0) (ck_E1 (ck_S1 p2_s2000_s ck_S0) (ck_E1 (ck_S1 p2_s1661_s ck_S0) (ck_E1 (ck_S1 p2_s2001_s ck_S0) (ck_E1 (ck_S1 p2_s1619_s ck_S0) (ck_E1 (ck_S1 p2_s1620_s ck_S0) ck_E0)))))⟩ ck_X0 ck_l0 p2_s2002_e
set_option maxRecDepth 100000 in
/-- GlacierMailModel.meeting -/
def p2_s2003 : ck_Sum := ((2, 0, 0), 245, [.inr (.inr (.inl 226)), .inl ((-2147483648), (-1), []), .inl ((-2147483648), 2147483647, [])], ([], [], [(227, 4, 4, (0, 24, [(22, 0)]))]), ([(226, 0, 0)], []), [(.inr (some (.inl (ck_one 0))), 245, ([], [], [(226, 0, 0, ck_one 1)]))])
set_option maxRecDepth 100000 in
theorem p2_s2003_e : ck_ok p2_O none [] [(309, [p2_s526]), (282, [p2_s268])] 360 [] 100 p2_s2003 = true := by decide +kernel
theorem p2_s2003_s {X : Int → Int} {LX : Nat} : ck_Ok p2_O X LX 360 p2_s2003 := ck_ok_s ⟨p2_nmu, ck_E1 (ck_S1 p2_s526_s ck_S0) (ck_E1 (ck_S1 p2_s268_s ck_S0) ck_E0)⟩ ck_X0 ck_l0 p2_s2003_e
set_option maxRecDepth 100000 in
/-- GlacierMailModel.meeting -/
def p2_s2004 : ck_Sum := ((2, 0, 0), 245, [.inr (.inr (.inl 226)), .inl (24, 2147483647, []), .inl ((-2147483648), 2147483647, [])], ([], [], [(227, 4, 4, (0, 24, [(22, 0)]))]), ([(226, 0, 0)], []), [(.inr (some (.inl (ck_one 0))), 245, ([], [], [(226, 0, 0, ck_one 1)]))])
set_option maxRecDepth 100000 in
theorem p2_s2004_e : ck_ok p2_O none [] [(309, [p2_s529]), (282, [p2_s268])] 360 [] 100 p2_s2004 = true := by decide +kernel
theorem p2_s2004_s {X : Int → Int} {LX : Nat} : ck_Ok p2_O X LX 360 p2_s2004 := ck_ok_s ⟨p2_nmu, ck_E1 (ck_S1 p2_s529_s ck_S0) (ck_E1 (ck_S1 p2_s268_s ck_S0) ck_E0)⟩ ck_X0 ck_l0 p2_s2004_e
set_option maxRecDepth 100000 in
/-- GlacierMailModel.meeting -/
def p2_s2005 : ck_Sum := ((2, 0, 0), 245, [.inr (.inr (.inl 226)), .inl (0, 23, []), .inl ((-2147483648), (-1), [])], ([], [], [(227, 4, 4, (0, 24, [(22, 0)]))]), ([(226, 0, 0)], []), [(.inr (some (.inl (ck_one 0))), 245, ([], [], [(226, 0, 0, ck_one 1)]))])
set_option maxRecDepth 100000 in
theorem p2_s2005_e : ck_ok p2_O none [] [(309, [p2_s532, p2_s526]), (282, [p2_s268])] 360 [] 108 p2_s2005 = true := by decide +kernel
theorem p2_s2005_s {X : Int → Int} {LX : Nat} : ck_Ok p2_O X LX 360 p2_s2005 := ck_ok_s ⟨p2_nmu, ck_E1 (ck_S1 p2_s532_s (ck_S1 p2_s526_s ck_S0)) (ck_E1 (ck_S1 p2_s268_s ck_S0) ck_E0)⟩ ck_X0 ck_l0 p2_s2005_e
set_option maxRecDepth 100000 in
/-- GlacierMailModel.meeting -/
def p2_s2006 : ck_Sum := ((2, 0, 0), 245, [.inr (.inr (.inl 226)), .inl (0, 23, []), .inl (24, 2147483647, [])], ([], [], [(227, 4, 4, (0, 24, [(22, 0)]))]), ([(226, 0, 0)], []), [(.inr (some (.inl (ck_one 0))), 245, ([], [], [(226, 0, 0, ck_one 1)]))])
set_option maxRecDepth 100000 in
theorem p2_s2006_e : ck_ok p2_O none [] [(309, [p2_s532, p2_s529]), (282, [p2_s268])] 360 [] 108 p2_s2006 = true := by decide +kernel
theorem p2_s2006_s {X : Int → Int} {LX : Nat} : ck_Ok p2_O X LX 360 p2_s2006 := ck_ok_s ⟨p2_nmu, ck_E1 (ck_S1 p2_s532_s (ck_S1 p2_s529_s ck_S0)) (ck_E1 (ck_S1 p2_s268_s ck_S0) ck_E0)⟩ ck_X0 ck_l0 p2_s2006_e
set_option maxRecDepth 100000 in
/-- GlacierMail.outs -/
def p2_s2008 : ck_Sum := ((7, 1, 6), 245, [.inr (.inr (.inl 1)), .inl ((-2147483648), (-1), [])], ([], [], []), ([], []), [(.inl 0, 245, ([], [], []))])
set_option maxRecDepth 100000 in
theorem p2_s2008_e : ck_ok p2_O none [] [(129, [p2_s276])] 223 [] 76 p2_s2008 = true := by decide +kernel
theorem p2_s2008_s {X : Int → Int} {LX : Nat} : ck_Ok p2_O X LX 223 p2_s2008 := ck_ok_s ⟨p2_nmu, ck_E1 (ck_S1 p2_s276_s ck_S0) ck_E0⟩ ck_X0 ck_l0 p2_s2008_e
set_option maxRecDepth 100000 in
/-- GlacierMail.outs -/
def p2_s2009 : ck_Sum := ((7, 1, 6), 245, [.inr (.inr (.inl 1)), .inl (300, 2147483647, [])], ([], [], []), ([], []), [(.inl 0, 245, ([], [], []))])
set_option maxRecDepth 100000 in
theorem p2_s2009_e : ck_ok p2_O none [] [(129, [p2_s278])] 223 [] 76 p2_s2009 = true := by decide +kernel
theorem p2_s2009_s {X : Int → Int} {LX : Nat} : ck_Ok p2_O X LX 223 p2_s2009 := ck_ok_s ⟨p2_nmu, ck_E1 (ck_S1 p2_s278_s ck_S0) ck_E0⟩ ck_X0 ck_l0 p2_s2009_e
set_option maxRecDepth 100000 in
/-- GlacierMail.outIn -/
def p2_s2010 : ck_Sum := ((1, 0, 0), 245, [.inr (.inr (.inl 1)), .inl (0, 299, []), .inl (ck_one 1)], ([], [], []), ([], []), [(.inr (some (.inl ((-2147483648), 2147483647, []))), 245, ([], [], []))])
set_option maxRecDepth 100000 in
theorem p2_s2010_e : ck_ok p2_O none [] [(9, [p2_s362]), (10, [p2_s407])] 47 [(5, [some (.inr (.inr (.inl 1))), some (.inl (0, 299, [])), some (.inl (ck_one 1)), some (.inl ((-2147483648), 2147483647, [])), some (.inl (0, 24, []))], ([], [], []), 100, .inl 4, true)] 162 p2_s2010 = true := by decide +kernel
theorem p2_s2010_s {X : Int → Int} {LX : Nat} : ck_Ok p2_O X LX 47 p2_s2010 := ck_ok_s ⟨p2_nmu, ck_E1 (ck_S1 p2_s362_s ck_S0) (ck_E1 (ck_S1 p2_s407_s ck_S0) ck_E0)⟩ ck_X0 ck_l0 p2_s2010_e
set_option maxRecDepth 100000 in
/-- GlacierMail.outs -/
def p2_s2011 : ck_Sum := ((5, 0, 0), 245, [.inr (.inr (.inl 1)), .inl (0, 299, [])], ([], [(3, 8, 0)], []), ([(1, 15, 15), (206, 2, 8), (220, 3, 3), (221, 0, 47)], []), [(.inr (some (.inl ((-2147483648), 2147483647, []))), 245, ([], [], [(1, 15, 15, ck_one 1)]))])
set_option maxRecDepth 100000 in
theorem p2_s2011_e : ck_ok p2_O none [] [(129, [p2_s280]), (24, [p2_s405]), (47, [p2_s2010])] 223 [] 90 p2_s2011 = true := by decide +kernel
theorem p2_s2011_s {X : Int → Int} {LX : Nat} : ck_Ok p2_O X LX 223 p2_s2011 := ck_ok_s ⟨p2_nmu, ck_E1 (ck_S1 p2_s280_s ck_S0) (ck_E1 (ck_S1 p2_s405_s ck_S0) (ck_E1 (ck_S1 p2_s2010_s ck_S0) ck_E0))⟩ ck_X0 ck_l0 p2_s2011_e
set_option maxRecDepth 100000 in
/-- GlacierMailModel.outs -/
def p2_s2012 : ck_Sum := ((2, 0, 0), 245, [.inr (.inr (.inl 226)), .inl ((-2147483648), (-1), [])], ([], [], []), ([(226, 0, 0)], []), [(.inr (some (.inl (ck_one 0))), 245, ([], [], [(226, 0, 0, ck_one 1)]))])
set_option maxRecDepth 100000 in
theorem p2_s2012_e : ck_ok p2_O none [] [(285, [p2_s284]), (282, [p2_s268])] 361 [] 92 p2_s2012 = true := by decide +kernel
theorem p2_s2012_s {X : Int → Int} {LX : Nat} : ck_Ok p2_O X LX 361 p2_s2012 := ck_ok_s ⟨p2_nmu, ck_E1 (ck_S1 p2_s284_s ck_S0) (ck_E1 (ck_S1 p2_s268_s ck_S0) ck_E0)⟩ ck_X0 ck_l0 p2_s2012_e
set_option maxRecDepth 100000 in
/-- GlacierMailModel.outs -/
def p2_s2013 : ck_Sum := ((2, 0, 0), 245, [.inr (.inr (.inl 226)), .inl (300, 2147483647, [])], ([], [], []), ([(226, 0, 0)], []), [(.inr (some (.inl (ck_one 0))), 245, ([], [], [(226, 0, 0, ck_one 1)]))])
set_option maxRecDepth 100000 in
theorem p2_s2013_e : ck_ok p2_O none [] [(285, [p2_s287]), (282, [p2_s268])] 361 [] 92 p2_s2013 = true := by decide +kernel
theorem p2_s2013_s {X : Int → Int} {LX : Nat} : ck_Ok p2_O X LX 361 p2_s2013 := ck_ok_s ⟨p2_nmu, ck_E1 (ck_S1 p2_s287_s ck_S0) (ck_E1 (ck_S1 p2_s268_s ck_S0) ck_E0)⟩ ck_X0 ck_l0 p2_s2013_e
set_option maxRecDepth 100000 in
/-- GlacierMail.outAheadOf -/
def p2_s2028 : ck_Sum := ((1, 0, 0), 245, [.inr (.inr (.inl 1)), .inl (0, 23, [])], ([], [], []), ([], []), [(.inr (some (.inl ((-2147483648), 2147483647, []))), 245, ([], [], []))])
set_option maxRecDepth 100000 in
theorem p2_s2028_e : ck_ok p2_O none [] [(10, [p2_s407]), (9, [p2_s362])] 53 [(15, [some (.inr (.inr (.inl 1))), some (.inl (0, 23, [])), some (.inl ((-2147483648), 299, [])), some (.inl ((-2147483648), 2147483647, [])), some (.inl (0, 24, [])), none, none], ([], [], []), 100, .inl 4, true)] 214 p2_s2028 = true := by decide +kernel
theorem p2_s2028_s {X : Int → Int} {LX : Nat} : ck_Ok p2_O X LX 53 p2_s2028 := ck_ok_s ⟨p2_nmu, ck_E1 (ck_S1 p2_s407_s ck_S0) (ck_E1 (ck_S1 p2_s362_s ck_S0) ck_E0)⟩ ck_X0 ck_l0 p2_s2028_e
set_option maxRecDepth 100000 in
/-- GlacierMail.order -/
def p2_s2029 : ck_Sum := ((5, 0, 0), 245, [.inr (.inr (.inl 1)), .inl ((-2147483648), 2147483647, [])], ([], [(3, 8, 0)], []), ([(1, 15, 15), (206, 2, 8), (220, 3, 3), (221, 0, 47)], []), [(.inr (some (.inl (ck_one (-1)))), 245, ([], [], [(1, 15, 15, ck_one 1)])), (.inr (some (.inl (0, 23, []))), 245, ([], [], [(1, 15, 15, ck_one 1)]))])
set_option maxRecDepth 100000 in
theorem p2_s2029_e : ck_ok p2_O none [] [(24, [p2_s405]), (9, [p2_s362]), (10, [p2_s407]), (53, [p2_s2028])] 52 [(6, [some (.inr (.inr (.inl 1))), some (.inl ((-2147483648), 2147483647, [])), some (.inl (0, 24, []))], ([], [(3, 8, 0)], [(1, 15, 15, ck_one 1)]), 100, .inl 2, true)] 170 p2_s2029 = true := by decide +kernel
theorem p2_s2029_s {X : Int → Int} {LX : Nat} : ck_Ok p2_O X LX 52 p2_s2029 := ck_ok_s ⟨p2_nmu, ck_E1 (ck_S1 p2_s405_s ck_S0) (ck_E1 (ck_S1 p2_s362_s ck_S0) (ck_E1 (ck_S1 p2_s407_s ck_S0) (ck_E1 (ck_S1 p2_s2028_s ck_S0) ck_E0)))⟩ ck_X0 ck_l0 p2_s2029_e
set_option maxRecDepth 100000 in
/-- GlacierMail.streams -/
def p2_s2031 : ck_Sum := ((7, 1, 6), 245, [.inr (.inr (.inl 1)), .inl ((-2147483648), (-1), []), .inl (0, 1, [])], ([], [], []), ([], []), [(.inl 0, 245, ([], [], []))])
set_option maxRecDepth 100000 in
theorem p2_s2031_e : ck_ok p2_O none [] [(129, [p2_s276])] 225 [] 76 p2_s2031 = true := by decide +kernel
theorem p2_s2031_s {X : Int → Int} {LX : Nat} : ck_Ok p2_O X LX 225 p2_s2031 := ck_ok_s ⟨p2_nmu, ck_E1 (ck_S1 p2_s276_s ck_S0) ck_E0⟩ ck_X0 ck_l0 p2_s2031_e
set_option maxRecDepth 100000 in
/-- GlacierMail.streams -/
def p2_s2032 : ck_Sum := ((7, 1, 6), 245, [.inr (.inr (.inl 1)), .inl (300, 2147483647, []), .inl (0, 1, [])], ([], [], []), ([], []), [(.inl 0, 245, ([], [], []))])
set_option maxRecDepth 100000 in
theorem p2_s2032_e : ck_ok p2_O none [] [(129, [p2_s278])] 225 [] 76 p2_s2032 = true := by decide +kernel
theorem p2_s2032_s {X : Int → Int} {LX : Nat} : ck_Ok p2_O X LX 225 p2_s2032 := ck_ok_s ⟨p2_nmu, ck_E1 (ck_S1 p2_s278_s ck_S0) ck_E0⟩ ck_X0 ck_l0 p2_s2032_e
set_option maxRecDepth 100000 in
/-- GlacierMail.streams -/
def p2_s2033 : ck_Sum := ((5, 0, 0), 245, [.inr (.inr (.inl 1)), .inl (0, 299, []), .inl (0, 1, [])], ([], [(3, 8, 0)], []), ([(1, 15, 15), (206, 2, 8), (220, 3, 3), (221, 0, 47)], []), [(.inr (some (.inl ((-2147483648), 2147483647, []))), 245, ([], [], [(1, 15, 15, ck_one 1)]))])
set_option maxRecDepth 100000 in
theorem p2_s2033_e : ck_ok p2_O none [] [(129, [p2_s280]), (24, [p2_s405]), (9, [p2_s362]), (10, [p2_s363, p2_s407]), (67, [p2_s408])] 225 [(14, [some (.inr (.inr (.inl 1))), some (.inl (0, 299, [])), some (.inl (0, 1, [])), some (.inl ((-2147483648), 2147483647, [])), some (.inl (0, 24, [])), none], ([], [(3, 8, 0)], [(1, 15, 15, ck_one 1)]), 100, .inl 4, true)] 226 p2_s2033 = true := by decide +kernel
theorem p2_s2033_s {X : Int → Int} {LX : Nat} : ck_Ok p2_O X LX 225 p2_s2033 := ck_ok_s ⟨p2_nmu, ck_E1 (ck_S1 p2_s280_s ck_S0) (ck_E1 (ck_S1 p2_s405_s ck_S0) (ck_E1 (ck_S1 p2_s362_s ck_S0) (ck_E1 (ck_S1 p2_s363_s (ck_S1 p2_s407_s ck_S0)) (ck_E1 (ck_S1 p2_s408_s ck_S0) ck_E0))))⟩ ck_X0 ck_l0 p2_s2033_e
set_option maxRecDepth 100000 in
/-- GlacierMailModel.streams -/
def p2_s2034 : ck_Sum := ((2, 0, 0), 245, [.inr (.inr (.inl 226)), .inl ((-2147483648), (-1), []), .inl (0, 1, [])], ([], [], []), ([(226, 0, 0)], []), [(.inr (some (.inl (ck_one 0))), 245, ([], [], [(226, 0, 0, ck_one 1)]))])
set_option maxRecDepth 100000 in
theorem p2_s2034_e : ck_ok p2_O none [] [(285, [p2_s284]), (282, [p2_s268])] 363 [] 92 p2_s2034 = true := by decide +kernel
theorem p2_s2034_s {X : Int → Int} {LX : Nat} : ck_Ok p2_O X LX 363 p2_s2034 := ck_ok_s ⟨p2_nmu, ck_E1 (ck_S1 p2_s284_s ck_S0) (ck_E1 (ck_S1 p2_s268_s ck_S0) ck_E0)⟩ ck_X0 ck_l0 p2_s2034_e
set_option maxRecDepth 100000 in
/-- GlacierMailModel.streams -/
def p2_s2035 : ck_Sum := ((2, 0, 0), 245, [.inr (.inr (.inl 226)), .inl (300, 2147483647, []), .inl (0, 1, [])], ([], [], []), ([(226, 0, 0)], []), [(.inr (some (.inl (ck_one 0))), 245, ([], [], [(226, 0, 0, ck_one 1)]))])
set_option maxRecDepth 100000 in
theorem p2_s2035_e : ck_ok p2_O none [] [(285, [p2_s287]), (282, [p2_s268])] 363 [] 92 p2_s2035 = true := by decide +kernel
theorem p2_s2035_s {X : Int → Int} {LX : Nat} : ck_Ok p2_O X LX 363 p2_s2035 := ck_ok_s ⟨p2_nmu, ck_E1 (ck_S1 p2_s287_s ck_S0) (ck_E1 (ck_S1 p2_s268_s ck_S0) ck_E0)⟩ ck_X0 ck_l0 p2_s2035_e
set_option maxRecDepth 100000 in
/-- GlacierMail.range -/
def p2_s2037 : ck_Sum := ((8, 1, 6), 245, [.inr (.inr (.inl 1)), .inl ((-2147483648), (-1), []), .inl ((-2147483648), 2147483647, [])], ([], [], []), ([], []), [(.inl 3, 245, ([], [], []))])
set_option maxRecDepth 100000 in
theorem p2_s2037_e : ck_ok p2_O none [] [(132, [p2_s293])] 227 [] 76 p2_s2037 = true := by decide +kernel
theorem p2_s2037_s {X : Int → Int} {LX : Nat} : ck_Ok p2_O X LX 227 p2_s2037 := ck_ok_s ⟨p2_nmu, ck_E1 (ck_S1 p2_s293_s ck_S0) ck_E0⟩ ck_X0 ck_l0 p2_s2037_e
set_option maxRecDepth 100000 in
/-- GlacierMail.range -/
def p2_s2038 : ck_Sum := ((8, 1, 6), 245, [.inr (.inr (.inl 1)), .inl (6, 2147483647, []), .inl ((-2147483648), 2147483647, [])], ([], [], []), ([], []), [(.inl 3, 245, ([], [], []))])
set_option maxRecDepth 100000 in
theorem p2_s2038_e : ck_ok p2_O none [] [(132, [p2_s296])] 227 [] 76 p2_s2038 = true := by decide +kernel
theorem p2_s2038_s {X : Int → Int} {LX : Nat} : ck_Ok p2_O X LX 227 p2_s2038 := ck_ok_s ⟨p2_nmu, ck_E1 (ck_S1 p2_s296_s ck_S0) ck_E0⟩ ck_X0 ck_l0 p2_s2038_e
set_option maxRecDepth 100000 in
/-- GlacierMail.range -/
def p2_s2039 : ck_Sum := ((8, 2, 12), 245, [.inr (.inr (.inl 1)), .inl (0, 5, []), .inl ((-2147483648), (-1), [])], ([], [], []), ([], []), [(.inl 3, 245, ([], [], [])), (.inl 0, 245, ([], [], []))])
set_option maxRecDepth 100000 in
theorem p2_s2039_e : ck_ok p2_O none [] [(132, [p2_s299]), (129, [p2_s276])] 227 [] 82 p2_s2039 = true := by decide +kernel
theorem p2_s2039_s {X : Int → Int} {LX : Nat} : ck_Ok p2_O X LX 227 p2_s2039 := ck_ok_s ⟨p2_nmu, ck_E1 (ck_S1 p2_s299_s ck_S0) (ck_E1 (ck_S1 p2_s276_s ck_S0) ck_E0)⟩ ck_X0 ck_l0 p2_s2039_e
set_option maxRecDepth 100000 in
/-- GlacierMail.range -/
def p2_s2040 : ck_Sum := ((8, 2, 12), 245, [.inr (.inr (.inl 1)), .inl (0, 5, []), .inl (300, 2147483647, [])], ([], [], []), ([], []), [(.inl 3, 245, ([], [], [])), (.inl 0, 245, ([], [], []))])
set_option maxRecDepth 100000 in
theorem p2_s2040_e : ck_ok p2_O none [] [(132, [p2_s299]), (129, [p2_s278])] 227 [] 82 p2_s2040 = true := by decide +kernel
theorem p2_s2040_s {X : Int → Int} {LX : Nat} : ck_Ok p2_O X LX 227 p2_s2040 := ck_ok_s ⟨p2_nmu, ck_E1 (ck_S1 p2_s299_s ck_S0) (ck_E1 (ck_S1 p2_s278_s ck_S0) ck_E0)⟩ ck_X0 ck_l0 p2_s2040_e
set_option maxRecDepth 100000 in
/-- GlacierMail.range -/
def p2_s2041 : ck_Sum := ((8, 1, 6), 245, [.inr (.inr (.inl 1)), .inl (0, 5, []), .inl (0, 299, [])], ([], [(3, 8, 0)], []), ([(206, 2, 8)], []), [(.inl 3, 245, ([], [], [])), (.inr (some (.inl ((-2147483648), 2147483647, []))), 245, ([], [], [(206, 4, 4, ck_one (-1))]))])
set_option maxRecDepth 100000 in
theorem p2_s2041_e : ck_ok p2_O none [] [(132, [p2_s299]), (129, [p2_s280]), (29, [p2_s1518]), (30, [p2_s374])] 227 [] 120 p2_s2041 = true := by decide +kernel
theorem p2_s2041_s {X : Int → Int} {LX : Nat} : ck_Ok p2_O X LX 227 p2_s2041 := ck_ok_s ⟨p2_nmu, ck_E1 (ck_S1 p2_s299_s ck_S0) (ck_E1 (ck_S1 p2_s280_s ck_S0) (ck_E1 (ck_S1 p2_s1518_s ck_S0) (ck_E1 (ck_S1 p2_s374_s ck_S0) ck_E0)))⟩ ck_X0 ck_l0 p2_s2041_e
set_option maxRecDepth 100000 in
/-- GlacierMailModel.range -/
def p2_s2042 : ck_Sum := ((2, 0, 0), 245, [.inr (.inr (.inl 226)), .inl ((-2147483648), (-1), []), .inl ((-2147483648), 2147483647, [])], ([], [], []), ([(226, 0, 0)], []), [(.inr (some (.inl (ck_one 0))), 245, ([], [], [(226, 0, 0, ck_one 1)]))])
set_option maxRecDepth 100000 in
theorem p2_s2042_e : ck_ok p2_O none [] [(288, [p2_s311]), (282, [p2_s268])] 364 [] 94 p2_s2042 = true := by decide +kernel
theorem p2_s2042_s {X : Int → Int} {LX : Nat} : ck_Ok p2_O X LX 364 p2_s2042 := ck_ok_s ⟨p2_nmu, ck_E1 (ck_S1 p2_s311_s ck_S0) (ck_E1 (ck_S1 p2_s268_s ck_S0) ck_E0)⟩ ck_X0 ck_l0 p2_s2042_e
set_option maxRecDepth 100000 in
/-- GlacierMailModel.range -/
def p2_s2043 : ck_Sum := ((2, 0, 0), 245, [.inr (.inr (.inl 226)), .inl (6, 2147483647, []), .inl ((-2147483648), 2147483647, [])], ([], [], []), ([(226, 0, 0)], []), [(.inr (some (.inl (ck_one 0))), 245, ([], [], [(226, 0, 0, ck_one 1)]))])
set_option maxRecDepth 100000 in
theorem p2_s2043_e : ck_ok p2_O none [] [(288, [p2_s314]), (282, [p2_s268])] 364 [] 94 p2_s2043 = true := by decide +kernel
theorem p2_s2043_s {X : Int → Int} {LX : Nat} : ck_Ok p2_O X LX 364 p2_s2043 := ck_ok_s ⟨p2_nmu, ck_E1 (ck_S1 p2_s314_s ck_S0) (ck_E1 (ck_S1 p2_s268_s ck_S0) ck_E0)⟩ ck_X0 ck_l0 p2_s2043_e
set_option maxRecDepth 100000 in
/-- GlacierMailModel.range -/
def p2_s2044 : ck_Sum := ((2, 0, 0), 245, [.inr (.inr (.inl 226)), .inl (0, 5, []), .inl ((-2147483648), (-1), [])], ([], [], []), ([(226, 0, 0)], []), [(.inr (some (.inl (ck_one 0))), 245, ([], [], [(226, 0, 0, (1, 2, []))]))])
set_option maxRecDepth 100000 in
theorem p2_s2044_e : ck_ok p2_O none [] [(288, [p2_s317]), (282, [p2_s268, p2_s269, p2_s272]), (285, [p2_s284])] 364 [] 106 p2_s2044 = true := by decide +kernel
theorem p2_s2044_s {X : Int → Int} {LX : Nat} : ck_Ok p2_O X LX 364 p2_s2044 := ck_ok_s ⟨p2_nmu, ck_E1 (ck_S1 p2_s317_s ck_S0) (ck_E1 (ck_S1 p2_s268_s (ck_S1 p2_s269_s (ck_S1 p2_s272_s ck_S0))) (ck_E1 (ck_S1 p2_s284_s ck_S0) ck_E0))⟩ ck_X0 ck_l0 p2_s2044_e
set_option maxRecDepth 100000 in
/-- GlacierMailModel.range -/
def p2_s2045 : ck_Sum := ((2, 0, 0), 245, [.inr (.inr (.inl 226)), .inl (0, 5, []), .inl (300, 2147483647, [])], ([], [], []), ([(226, 0, 0)], []), [(.inr (some (.inl (ck_one 0))), 245, ([], [], [(226, 0, 0, (1, 2, []))]))])
set_option maxRecDepth 100000 in
theorem p2_s2045_e : ck_ok p2_O none [] [(288, [p2_s317]), (282, [p2_s268, p2_s269, p2_s272]), (285, [p2_s287])] 364 [] 106 p2_s2045 = true := by decide +kernel
theorem p2_s2045_s {X : Int → Int} {LX : Nat} : ck_Ok p2_O X LX 364 p2_s2045 := ck_ok_s ⟨p2_nmu, ck_E1 (ck_S1 p2_s317_s ck_S0) (ck_E1 (ck_S1 p2_s268_s (ck_S1 p2_s269_s (ck_S1 p2_s272_s ck_S0))) (ck_E1 (ck_S1 p2_s287_s ck_S0) ck_E0))⟩ ck_X0 ck_l0 p2_s2045_e
set_option maxRecDepth 100000 in
/-- GlacierMail.swiftest -/
def p2_s2047 : ck_Sum := ((8, 1, 6), 245, [.inr (.inr (.inl 1)), .inl ((-2147483648), (-1), []), .inl ((-2147483648), 2147483647, [])], ([], [], []), ([], []), [(.inl 3, 245, ([], [], []))])
set_option maxRecDepth 100000 in
theorem p2_s2047_e : ck_ok p2_O none [] [(134, [p2_s301])] 229 [] 76 p2_s2047 = true := by decide +kernel
theorem p2_s2047_s {X : Int → Int} {LX : Nat} : ck_Ok p2_O X LX 229 p2_s2047 := ck_ok_s ⟨p2_nmu, ck_E1 (ck_S1 p2_s301_s ck_S0) ck_E0⟩ ck_X0 ck_l0 p2_s2047_e
set_option maxRecDepth 100000 in
/-- GlacierMail.swiftest -/
def p2_s2048 : ck_Sum := ((8, 1, 6), 245, [.inr (.inr (.inl 1)), .inl (99, 2147483647, []), .inl ((-2147483648), 2147483647, [])], ([], [], []), ([], []), [(.inl 3, 245, ([], [], []))])
set_option maxRecDepth 100000 in
theorem p2_s2048_e : ck_ok p2_O none [] [(134, [p2_s304])] 229 [] 76 p2_s2048 = true := by decide +kernel
theorem p2_s2048_s {X : Int → Int} {LX : Nat} : ck_Ok p2_O X LX 229 p2_s2048 := ck_ok_s ⟨p2_nmu, ck_E1 (ck_S1 p2_s304_s ck_S0) ck_E0⟩ ck_X0 ck_l0 p2_s2048_e
set_option maxRecDepth 100000 in
/-- GlacierMail.swiftest -/
def p2_s2049 : ck_Sum := ((8, 2, 12), 245, [.inr (.inr (.inl 1)), .inl (0, 98, []), .inl ((-2147483648), (-1), [])], ([], [], []), ([], []), [(.inl 3, 245, ([], [], [])), (.inl 0, 245, ([], [], []))])
set_option maxRecDepth 100000 in
theorem p2_s2049_e : ck_ok p2_O none [] [(134, [p2_s307]), (129, [p2_s276])] 229 [] 82 p2_s2049 = true := by decide +kernel
theorem p2_s2049_s {X : Int → Int} {LX : Nat} : ck_Ok p2_O X LX 229 p2_s2049 := ck_ok_s ⟨p2_nmu, ck_E1 (ck_S1 p2_s307_s ck_S0) (ck_E1 (ck_S1 p2_s276_s ck_S0) ck_E0)⟩ ck_X0 ck_l0 p2_s2049_e
set_option maxRecDepth 100000 in
/-- GlacierMail.swiftest -/
def p2_s2050 : ck_Sum := ((8, 2, 12), 245, [.inr (.inr (.inl 1)), .inl (0, 98, []), .inl (300, 2147483647, [])], ([], [], []), ([], []), [(.inl 3, 245, ([], [], [])), (.inl 0, 245, ([], [], []))])
set_option maxRecDepth 100000 in
theorem p2_s2050_e : ck_ok p2_O none [] [(134, [p2_s307]), (129, [p2_s278])] 229 [] 82 p2_s2050 = true := by decide +kernel
theorem p2_s2050_s {X : Int → Int} {LX : Nat} : ck_Ok p2_O X LX 229 p2_s2050 := ck_ok_s ⟨p2_nmu, ck_E1 (ck_S1 p2_s307_s ck_S0) (ck_E1 (ck_S1 p2_s278_s ck_S0) ck_E0)⟩ ck_X0 ck_l0 p2_s2050_e
set_option maxRecDepth 100000 in
/-- GlacierMail.swiftest -/
def p2_s2051 : ck_Sum := ((8, 1, 6), 245, [.inr (.inr (.inl 1)), .inl (0, 98, []), .inl (0, 299, [])], ([], [(3, 8, 0)], []), ([(206, 2, 8)], []), [(.inl 3, 245, ([], [], [])), (.inr (some (.inl ((-1), 5, []))), 245, ([], [], []))])
set_option maxRecDepth 100000 in
theorem p2_s2051_e : ck_ok p2_O none [] [(134, [p2_s307]), (129, [p2_s280]), (29, [p2_s1518]), (30, [p2_s374])] 229 [(20, [some (.inr (.inr (.inl 1))), some (.inl (0, 98, [])), some (.inl (0, 299, [])), some (.inl ((-1), 5, [])), some (.inl ((-2147483648), 300, [])), some (.inl (0, 6, [])), none], ([], [(3, 8, 0)], []), 100, .inl 5, true)] 210 p2_s2051 = true := by decide +kernel
theorem p2_s2051_s {X : Int → Int} {LX : Nat} : ck_Ok p2_O X LX 229 p2_s2051 := ck_ok_s ⟨p2_nmu, ck_E1 (ck_S1 p2_s307_s ck_S0) (ck_E1 (ck_S1 p2_s280_s ck_S0) (ck_E1 (ck_S1 p2_s1518_s ck_S0) (ck_E1 (ck_S1 p2_s374_s ck_S0) ck_E0)))⟩ ck_X0 ck_l0 p2_s2051_e
set_option maxRecDepth 100000 in
/-- GlacierMailModel.swiftest -/
def p2_s2052 : ck_Sum := ((2, 0, 0), 245, [.inr (.inr (.inl 226)), .inl ((-2147483648), (-1), []), .inl ((-2147483648), 2147483647, [])], ([], [], []), ([(226, 0, 0)], []), [(.inr (some (.inl (ck_one 0))), 245, ([], [], [(226, 0, 0, ck_one 1)]))])
set_option maxRecDepth 100000 in
theorem p2_s2052_e : ck_ok p2_O none [] [(289, [p2_s319]), (282, [p2_s268])] 365 [] 94 p2_s2052 = true := by decide +kernel
theorem p2_s2052_s {X : Int → Int} {LX : Nat} : ck_Ok p2_O X LX 365 p2_s2052 := ck_ok_s ⟨p2_nmu, ck_E1 (ck_S1 p2_s319_s ck_S0) (ck_E1 (ck_S1 p2_s268_s ck_S0) ck_E0)⟩ ck_X0 ck_l0 p2_s2052_e
set_option maxRecDepth 100000 in
/-- GlacierMailModel.swiftest -/
def p2_s2053 : ck_Sum := ((2, 0, 0), 245, [.inr (.inr (.inl 226)), .inl (99, 2147483647, []), .inl ((-2147483648), 2147483647, [])], ([], [], []), ([(226, 0, 0)], []), [(.inr (some (.inl (ck_one 0))), 245, ([], [], [(226, 0, 0, ck_one 1)]))])
set_option maxRecDepth 100000 in
theorem p2_s2053_e : ck_ok p2_O none [] [(289, [p2_s322]), (282, [p2_s268])] 365 [] 94 p2_s2053 = true := by decide +kernel
theorem p2_s2053_s {X : Int → Int} {LX : Nat} : ck_Ok p2_O X LX 365 p2_s2053 := ck_ok_s ⟨p2_nmu, ck_E1 (ck_S1 p2_s322_s ck_S0) (ck_E1 (ck_S1 p2_s268_s ck_S0) ck_E0)⟩ ck_X0 ck_l0 p2_s2053_e
set_option maxRecDepth 100000 in
/-- GlacierMailModel.swiftest -/
def p2_s2054 : ck_Sum := ((2, 0, 0), 245, [.inr (.inr (.inl 226)), .inl (0, 98, []), .inl ((-2147483648), (-1), [])], ([], [], []), ([(226, 0, 0)], []), [(.inr (some (.inl (ck_one 0))), 245, ([], [], [(226, 0, 0, (1, 2, []))]))])
set_option maxRecDepth 100000 in
theorem p2_s2054_e : ck_ok p2_O none [] [(289, [p2_s325]), (282, [p2_s268, p2_s269, p2_s272]), (285, [p2_s284])] 365 [] 106 p2_s2054 = true := by decide +kernel
theorem p2_s2054_s {X : Int → Int} {LX : Nat} : ck_Ok p2_O X LX 365 p2_s2054 := ck_ok_s ⟨p2_nmu, ck_E1 (ck_S1 p2_s325_s ck_S0) (ck_E1 (ck_S1 p2_s268_s (ck_S1 p2_s269_s (ck_S1 p2_s272_s ck_S0))) (ck_E1 (ck_S1 p2_s284_s ck_S0) ck_E0))⟩ ck_X0 ck_l0 p2_s2054_e
set_option maxRecDepth 100000 in
/-- GlacierMailModel.swiftest -/
def p2_s2055 : ck_Sum := ((2, 0, 0), 245, [.inr (.inr (.inl 226)), .inl (0, 98, []), .inl (300, 2147483647, [])], ([], [], []), ([(226, 0, 0)], []), [(.inr (some (.inl (ck_one 0))), 245, ([], [], [(226, 0, 0, (1, 2, []))]))])
set_option maxRecDepth 100000 in
theorem p2_s2055_e : ck_ok p2_O none [] [(289, [p2_s325]), (282, [p2_s268, p2_s269, p2_s272]), (285, [p2_s287])] 365 [] 106 p2_s2055 = true := by decide +kernel
theorem p2_s2055_s {X : Int → Int} {LX : Nat} : ck_Ok p2_O X LX 365 p2_s2055 := ck_ok_s ⟨p2_nmu, ck_E1 (ck_S1 p2_s325_s ck_S0) (ck_E1 (ck_S1 p2_s268_s (ck_S1 p2_s269_s (ck_S1 p2_s272_s ck_S0))) (ck_E1 (ck_S1 p2_s287_s ck_S0) ck_E0))⟩ ck_X0 ck_l0 p2_s2055_e
set_option maxRecDepth 100000 in
/-- GlacierMail.bare -/
def p2_s2057 : ck_Sum := ((7, 1, 6), 245, [.inr (.inr (.inl 1)), .inl ((-2147483648), (-1), [])], ([], [], []), ([], []), [(.inl 0, 245, ([], [], []))])
set_option maxRecDepth 100000 in
theorem p2_s2057_e : ck_ok p2_O none [] [(129, [p2_s276])] 231 [] 76 p2_s2057 = true := by decide +kernel
theorem p2_s2057_s {X : Int → Int} {LX : Nat} : ck_Ok p2_O X LX 231 p2_s2057 := ck_ok_s ⟨p2_nmu, ck_E1 (ck_S1 p2_s276_s ck_S0) ck_E0⟩ ck_X0 ck_l0 p2_s2057_e
set_option maxRecDepth 100000 in
/-- GlacierMail.bare -/
def p2_s2058 : ck_Sum := ((7, 1, 6), 245, [.inr (.inr (.inl 1)), .inl (300, 2147483647, [])], ([], [], []), ([], []), [(.inl 0, 245, ([], [], []))])
set_option maxRecDepth 100000 in
theorem p2_s2058_e : ck_ok p2_O none [] [(129, [p2_s278])] 231 [] 76 p2_s2058 = true := by decide +kernel
theorem p2_s2058_s {X : Int → Int} {LX : Nat} : ck_Ok p2_O X LX 231 p2_s2058 := ck_ok_s ⟨p2_nmu, ck_E1 (ck_S1 p2_s278_s ck_S0) ck_E0⟩ ck_X0 ck_l0 p2_s2058_e
set_option maxRecDepth 100000 in
/-- GlacierMail.bare -/
def p2_s2059 : ck_Sum := ((4, 0, 0), 245, [.inr (.inr (.inl 1)), .inl (0, 299, [])], ([], [(3, 8, 0)], []), ([(206, 2, 8)], []), [(.inr (some (.inl ((-2147483648), 2147483647, []))), 245, ([], [], []))])
set_option maxRecDepth 100000 in
theorem p2_s2059_e : ck_ok p2_O none [] [(129, [p2_s280]), (9, [p2_s359]), (10, [p2_s363]), (27, [p2_s367]), (148, [p2_s547]), (31, [p2_s368])] 231 [(9, [some (.inr (.inr (.inl 1))), some (.inl (0, 299, [])), some (.inl ((-2147483648), 2147483647, [])), some (.inl (0, 24, []))], ([], [(3, 8, 0)], []), 100, .inl 3, true)] 246 p2_s2059 = true := by decide +kernel
theorem p2_s2059_s {X : Int → Int} {LX : Nat} : ck_Ok p2_O X LX 231 p2_s2059 := ck_ok_s ⟨p2_nmu, ck_E1 (ck_S1 p2_s280_s ck_S0) (ck_E1 (ck_S1 p2_s359_s ck_S0) (ck_E1 (ck_S1 p2_s363_s ck_S0) (ck_E1 (ck_S1 p2_s367_s ck_S0) (ck_E1 (ck_S1 p2_s547_s ck_S0) (ck_E1 (ck_S1 p2_s368_s ck_S0) ck_E0)))))⟩ ck_X0 ck_l0 p2_s2059_e
set_option maxRecDepth 100000 in
/-- GlacierMailModel.bare -/
def p2_s2060 : ck_Sum := ((2, 0, 0), 245, [.inr (.inr (.inl 226)), .inl ((-2147483648), (-1), [])], ([], [], []), ([(226, 0, 0)], []), [(.inr (some (.inl (ck_one 0))), 245, ([], [], [(226, 0, 0, ck_one 1)]))])
set_option maxRecDepth 100000 in
theorem p2_s2060_e : ck_ok p2_O none [] [(285, [p2_s284]), (282, [p2_s268])] 366 [] 92 p2_s2060 = true := by decide +kernel
theorem p2_s2060_s {X : Int → Int} {LX : Nat} : ck_Ok p2_O X LX 366 p2_s2060 := ck_ok_s ⟨p2_nmu, ck_E1 (ck_S1 p2_s284_s ck_S0) (ck_E1 (ck_S1 p2_s268_s ck_S0) ck_E0)⟩ ck_X0 ck_l0 p2_s2060_e
set_option maxRecDepth 100000 in
/-- GlacierMailModel.bare -/
def p2_s2061 : ck_Sum := ((2, 0, 0), 245, [.inr (.inr (.inl 226)), .inl (300, 2147483647, [])], ([], [], []), ([(226, 0, 0)], []), [(.inr (some (.inl (ck_one 0))), 245, ([], [], [(226, 0, 0, ck_one 1)]))])
set_option maxRecDepth 100000 in
theorem p2_s2061_e : ck_ok p2_O none [] [(285, [p2_s287]), (282, [p2_s268])] 366 [] 92 p2_s2061 = true := by decide +kernel
theorem p2_s2061_s {X : Int → Int} {LX : Nat} : ck_Ok p2_O X LX 366 p2_s2061 := ck_ok_s ⟨p2_nmu, ck_E1 (ck_S1 p2_s287_s ck_S0) (ck_E1 (ck_S1 p2_s268_s ck_S0) ck_E0)⟩ ck_X0 ck_l0 p2_s2061_e
set_option maxRecDepth 100000 in
/-- GlacierMail$Rows.get -/
def p2_s2063 : ck_Sum := ((0, 0, 0), 245, [.inr (.inr (.inl 14)), .inl ((-2147483648), 2147483647, []), .inl ((-2147483648), 2147483647, [])], ([], [], []), ([], []), [(.inr (some (.inl ((-1), 299, []))), 245, ([], [], []))])
set_option maxRecDepth 100000 in
theorem p2_s2063_e : ck_ok p2_O none [] [] 10 [] 114 p2_s2063 = true := by decide +kernel
theorem p2_s2063_s {X : Int → Int} {LX : Nat} : ck_Ok p2_O X LX 10 p2_s2063 := ck_ok_s ⟨p2_nmu, ck_E0⟩ ck_X0 ck_l0 p2_s2063_e
set_option maxRecDepth 100000 in
/-- GlacierMail.log -/
def p2_s2064 : ck_Sum := ((6, 1, 6), 245, [.inr (.inr (.inl 1)), .inl ((-2147483648), (-1), []), .inl ((-2147483648), 2147483647, [])], ([], [], []), ([], []), [(.inl 4, 245, ([], [], [])), (.inr (some (.inl ((-1), 299, []))), 245, ([], [], []))])
set_option maxRecDepth 100000 in
theorem p2_s2064_e : ck_ok p2_O none [] [(10, [p2_s2063])] 233 [] 94 p2_s2064 = true := by decide +kernel
theorem p2_s2064_s {X : Int → Int} {LX : Nat} : ck_Ok p2_O X LX 233 p2_s2064 := ck_ok_s ⟨p2_nmu, ck_E1 (ck_S1 p2_s2063_s ck_S0) ck_E0⟩ ck_X0 ck_l0 p2_s2064_e
set_option maxRecDepth 100000 in
/-- GlacierMail.log -/
def p2_s2065 : ck_Sum := ((6, 1, 6), 245, [.inr (.inr (.inl 1)), .inl (24, 2147483647, []), .inl ((-2147483648), 2147483647, [])], ([], [], []), ([], []), [(.inl 4, 245, ([], [], [])), (.inr (some (.inl ((-1), 299, []))), 245, ([], [], []))])
set_option maxRecDepth 100000 in
theorem p2_s2065_e : ck_ok p2_O none [] [(10, [p2_s2063])] 233 [] 94 p2_s2065 = true := by decide +kernel
theorem p2_s2065_s {X : Int → Int} {LX : Nat} : ck_Ok p2_O X LX 233 p2_s2065 := ck_ok_s ⟨p2_nmu, ck_E1 (ck_S1 p2_s2063_s ck_S0) ck_E0⟩ ck_X0 ck_l0 p2_s2065_e
set_option maxRecDepth 100000 in
/-- GlacierMail.log -/
def p2_s2066 : ck_Sum := ((6, 1, 6), 245, [.inr (.inr (.inl 1)), .inl (0, 23, []), .inl ((-2147483648), (-1), [])], ([], [], []), ([], []), [(.inl 4, 245, ([], [], []))])
set_option maxRecDepth 100000 in
theorem p2_s2066_e : ck_ok p2_O none [] [] 233 [] 76 p2_s2066 = true := by decide +kernel
theorem p2_s2066_s {X : Int → Int} {LX : Nat} : ck_Ok p2_O X LX 233 p2_s2066 := ck_ok_s ⟨p2_nmu, ck_E0⟩ ck_X0 ck_l0 p2_s2066_e
set_option maxRecDepth 100000 in
/-- GlacierMail.log -/
def p2_s2067 : ck_Sum := ((6, 1, 6), 245, [.inr (.inr (.inl 1)), .inl (0, 23, []), .inl (10, 2147483647, [])], ([], [], []), ([], []), [(.inl 4, 245, ([], [], []))])
set_option maxRecDepth 100000 in
theorem p2_s2067_e : ck_ok p2_O none [] [] 233 [] 82 p2_s2067 = true := by decide +kernel
theorem p2_s2067_s {X : Int → Int} {LX : Nat} : ck_Ok p2_O X LX 233 p2_s2067 := ck_ok_s ⟨p2_nmu, ck_E0⟩ ck_X0 ck_l0 p2_s2067_e
set_option maxRecDepth 100000 in
/-- GlacierMail.log -/
def p2_s2068 : ck_Sum := ((6, 1, 6), 245, [.inr (.inr (.inl 1)), .inl (0, 23, []), .inl (0, 9, [])], ([], [], []), ([], []), [(.inr (some (.inl ((-1), 299, []))), 245, ([], [], [])), (.inl 4, 245, ([], [], []))])
set_option maxRecDepth 100000 in
theorem p2_s2068_e : ck_ok p2_O none [] [(10, [p2_s2063])] 233 [] 94 p2_s2068 = true := by decide +kernel
theorem p2_s2068_s {X : Int → Int} {LX : Nat} : ck_Ok p2_O X LX 233 p2_s2068 := ck_ok_s ⟨p2_nmu, ck_E1 (ck_S1 p2_s2063_s ck_S0) ck_E0⟩ ck_X0 ck_l0 p2_s2068_e
set_option maxRecDepth 100000 in
/-- GlacierMailModel.in -/
def p2_s2069 : ck_Sum := ((0, 0, 0), 245, [.inl ((-2147483648), 2147483647, []), .inl (ck_one 0), .inl (ck_one 2)], ([], [], []), ([], []), [(.inr (some (.inl (ck_one 0))), 245, ([], [], [])), (.inr (some (.inl (ck_one 1))), 245, ([], [], []))])
set_option maxRecDepth 100000 in
theorem p2_s2069_e : ck_ok p2_O none [] [] 286 [] 88 p2_s2069 = true := by decide +kernel
theorem p2_s2069_s {X : Int → Int} {LX : Nat} : ck_Ok p2_O X LX 286 p2_s2069 := ck_ok_s ⟨p2_nmu, ck_E0⟩ ck_X0 ck_l0 p2_s2069_e
set_option maxRecDepth 100000 in
/-- GlacierMailModel.log -/
def p2_s2070 : ck_Sum := ((1, 0, 0), 245, [.inr (.inr (.inl 226)), .inl ((-2147483648), (-1), []), .inl ((-2147483648), 2147483647, [])], ([], [], [(227, 14, 14, (0, 24, [(26, 0)]))]), ([(226, 0, 0)], []), [(.inr (some (.inl (ck_one 0))), 245, ([], [], [(226, 0, 0, ck_one 1)])), (.inr (some (.inl (ck_one (-1)))), 245, ([], [], [(226, 0, 0, ck_one 0)]))])
set_option maxRecDepth 100000 in
theorem p2_s2070_e : ck_ok p2_O none [] [(286, [p2_s2069, p2_s525]), (282, [p2_s268, p2_s269])] 367 [] 120 p2_s2070 = true := by decide +kernel
theorem p2_s2070_s {X : Int → Int} {LX : Nat} : ck_Ok p2_O X LX 367 p2_s2070 := ck_ok_s ⟨p2_nmu, ck_E1 (ck_S1 p2_s2069_s (ck_S1 p2_s525_s ck_S0)) (ck_E1 (ck_S1 p2_s268_s (ck_S1 p2_s269_s ck_S0)) ck_E0)⟩ ck_X0 ck_l0 p2_s2070_e
set_option maxRecDepth 100000 in
/-- GlacierMailModel.log -/
def p2_s2071 : ck_Sum := ((1, 0, 0), 245, [.inr (.inr (.inl 226)), .inl (24, 2147483647, []), .inl ((-2147483648), 2147483647, [])], ([], [], [(227, 14, 14, (0, 24, [(26, 0)]))]), ([(226, 0, 0)], []), [(.inr (some (.inl (ck_one 0))), 245, ([], [], [(226, 0, 0, ck_one 1)])), (.inr (some (.inl (ck_one (-1)))), 245, ([], [], [(226, 0, 0, ck_one 0)]))])
set_option maxRecDepth 100000 in
theorem p2_s2071_e : ck_ok p2_O none [] [(286, [p2_s2069, p2_s528]), (282, [p2_s268, p2_s269])] 367 [] 120 p2_s2071 = true := by decide +kernel
theorem p2_s2071_s {X : Int → Int} {LX : Nat} : ck_Ok p2_O X LX 367 p2_s2071 := ck_ok_s ⟨p2_nmu, ck_E1 (ck_S1 p2_s2069_s (ck_S1 p2_s528_s ck_S0)) (ck_E1 (ck_S1 p2_s268_s (ck_S1 p2_s269_s ck_S0)) ck_E0)⟩ ck_X0 ck_l0 p2_s2071_e
set_option maxRecDepth 100000 in
/-- GlacierMailModel.log -/
def p2_s2072 : ck_Sum := ((1, 0, 0), 245, [.inr (.inr (.inl 226)), .inl (0, 23, []), .inl ((-2147483648), (-1), [])], ([], [], []), ([(226, 0, 0)], []), [(.inr (some (.inl (ck_one 0))), 245, ([], [], [(226, 0, 0, ck_one 1)]))])
set_option maxRecDepth 100000 in
theorem p2_s2072_e : ck_ok p2_O none [] [(286, [p2_s1526]), (282, [p2_s268])] 367 [] 102 p2_s2072 = true := by decide +kernel
theorem p2_s2072_s {X : Int → Int} {LX : Nat} : ck_Ok p2_O X LX 367 p2_s2072 := ck_ok_s ⟨p2_nmu, ck_E1 (ck_S1 p2_s1526_s ck_S0) (ck_E1 (ck_S1 p2_s268_s ck_S0) ck_E0)⟩ ck_X0 ck_l0 p2_s2072_e
set_option maxRecDepth 100000 in
/-- GlacierMailModel.log -/
def p2_s2073 : ck_Sum := ((1, 0, 0), 245, [.inr (.inr (.inl 226)), .inl (0, 23, []), .inl (10, 2147483647, [])], ([], [], []), ([(226, 0, 0)], []), [(.inr (some (.inl (ck_one 0))), 245, ([], [], [(226, 0, 0, ck_one 1)]))])
set_option maxRecDepth 100000 in
theorem p2_s2073_e : ck_ok p2_O none [] [(286, [p2_s1528]), (282, [p2_s268])] 367 [] 102 p2_s2073 = true := by decide +kernel
theorem p2_s2073_s {X : Int → Int} {LX : Nat} : ck_Ok p2_O X LX 367 p2_s2073 := ck_ok_s ⟨p2_nmu, ck_E1 (ck_S1 p2_s1528_s ck_S0) (ck_E1 (ck_S1 p2_s268_s ck_S0) ck_E0)⟩ ck_X0 ck_l0 p2_s2073_e
set_option maxRecDepth 100000 in
/-- GlacierMailModel.log -/
def p2_s2074 : ck_Sum := ((1, 0, 0), 245, [.inr (.inr (.inl 226)), .inl (0, 23, []), .inl (0, 9, [])], ([], [], [(227, 14, 14, (0, 24, [(26, 0)]))]), ([(226, 0, 0)], []), [(.inr (some (.inl (ck_one 0))), 245, ([], [], [(226, 0, 0, ck_one 1)])), (.inr (some (.inl ((-1), 299, []))), 245, ([], [], [(226, 0, 0, ck_one 0)]))])
set_option maxRecDepth 100000 in
theorem p2_s2074_e : ck_ok p2_O none [] [(286, [p2_s1530, p2_s531]), (282, [p2_s268, p2_s269])] 367 [] 140 p2_s2074 = true := by decide +kernel
theorem p2_s2074_s {X : Int → Int} {LX : Nat} : ck_Ok p2_O X LX 367 p2_s2074 := ck_ok_s ⟨p2_nmu, ck_E1 (ck_S1 p2_s1530_s (ck_S1 p2_s531_s ck_S0)) (ck_E1 (ck_S1 p2_s268_s (ck_S1 p2_s269_s ck_S0)) ck_E0)⟩ ck_X0 ck_l0 p2_s2074_e
set_option maxRecDepth 100000 in
/-- GlacierMail$History.at -/
def p2_s2075 : ck_Sum := ((0, 0, 0), 245, [.inr (.inr (.inl 42)), .inl (0, 11, [])], ([], [], []), ([], []), [(.inr (some (.inr (.inr (.inl 44)))), 245, ([], [], [])), (.inr (some (.inr (.inr (.inl 187)))), 245, ([], [], [])), (.inr (some (.inr (.inr (.inl 174)))), 245, ([], [], [])), (.inr (some (.inr (.inr (.inl 161)))), 245, ([], [], [])), (.inr (some (.inr (.inr (.inl 148)))), 245, ([], [], [])), (.inr (some (.inr (.inr (.inl 135)))), 245, ([], [], [])), (.inr (some (.inr (.inr (.inl 122)))), 245, ([], [], [])), (.inr (some (.inr (.inr (.inl 109)))), 245, ([], [], [])), (.inr (some (.inr (.inr (.inl 96)))), 245, ([], [], [])), (.inr (some (.inr (.inr (.inl 83)))), 245, ([], [], [])), (.inr (some (.inr (.inr (.inl 70)))), 245, ([], [], [])), (.inr (some (.inr (.inr (.inl 57)))), 245, ([], [], []))])
set_option maxRecDepth 100000 in
theorem p2_s2075_e : ck_ok p2_O none [] [] 56 [] 96 p2_s2075 = true := by decide +kernel
theorem p2_s2075_s {X : Int → Int} {LX : Nat} : ck_Ok p2_O X LX 56 p2_s2075 := ck_ok_s ⟨p2_nmu, ck_E0⟩ ck_X0 ck_l0 p2_s2075_e
set_option maxRecDepth 100000 in
/-- GlacierMail$Rows.copyFrom -/
def p2_s2076 : ck_Sum := ((1, 0, 0), 245, [.inr (.inr (.inl 4)), .inr (.inr (.inl 45))], ([], [], []), ([(4, 3, 3), (5, 0, 55)], []), [(.inr none, 245, ([], [], []))])
set_option maxRecDepth 100000 in
theorem p2_s2076_e : ck_ok p2_O none [] [] 58 [] 114 p2_s2076 = true := by decide +kernel
theorem p2_s2076_s {X : Int → Int} {LX : Nat} : ck_Ok p2_O X LX 58 p2_s2076 := ck_ok_s ⟨p2_nmu, ck_E0⟩ ck_X0 ck_l0 p2_s2076_e
